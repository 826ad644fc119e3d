/-! ===== texts: what reading an order finds ===== -/
def rX (X : Int → Int) : Prop := ∀ j, 0 ≤ X j ∧ X j ≤ 126
theorem rX.up {X : Int → Int} {k v : Int} (h : rX X) (hv : 0 ≤ v ∧ v ≤ 126) : rX (uZ X k v) := fun j => by
  by_cases hj : j = k
  · rw [hj, uZ_s]
    exact hv
  · rw [uZ_n hj]
    exact h j
theorem chA_in {X : Int → Int} {n i : Int} (h : 0 ≤ i ∧ i < n) : chA X n i = X i := if_pos h
theorem chA_out {X : Int → Int} {n i : Int} (h : ¬ (0 ≤ i ∧ i < n)) : chA X n i = 0 := if_neg h
theorem chA_rg {X : Int → Int} {n i : Int} (h : rX X) : 0 ≤ chA X n i ∧ chA X n i ≤ 126 := by
  by_cases hc : 0 ≤ i ∧ i < n
  · rw [chA_in hc]
    exact h i
  · rw [chA_out hc]
    omega
theorem chA_lt {X : Int → Int} {n i : Int} (h : chA X n i ≠ 0) : 0 ≤ i ∧ i < n := by
  by_cases hc : 0 ≤ i ∧ i < n
  · exact hc
  · exact absurd (chA_out hc) h
theorem nE_stop {X : Int → Int} {n i p : Int} (hp : 0 ≤ p - i ∧ p - i ≤ 3) (h : adv (dgP X n) i (p - i).toNat = p) (hx : p - i = 3 ∨ ¬ (48 ≤ chA X n p ∧ chA X n p ≤ 57)) : p = nE X n i := by
  rcases hx with hx | hx
  · have e3 : (p - i).toNat = 3 := by omega
    rw [e3] at h
    exact h.symm
  · have e : i + ((p - i).toNat : Int) = p := by omega
    have hs := adv_stop (P := dgP X n) (p := i) (k := (p - i).toNat) (by rw [h, e]) (by
      rw [dgP, e, show p + 1 - 1 = p by omega]
      exact decide_eq_false hx) (3 - (p - i).toNat)
    rw [show (p - i).toNat + (3 - (p - i).toNat) = 3 by omega, e] at hs
    exact hs.symm
theorem nE_step {X : Int → Int} {n i p : Int} (hp : 0 ≤ p - i ∧ p - i ≤ 3) (h : adv (dgP X n) i (p - i).toNat = p) (hx : 48 ≤ chA X n p ∧ chA X n p ≤ 57) : adv (dgP X n) i (p + 1 - i).toNat = p + 1 := by
  have e : i + ((p - i).toNat : Int) = p := by omega
  have hs := adv_go (P := dgP X n) (p := i) (k := (p - i).toNat) (by rw [h, e]) (by
    rw [dgP, e, show p + 1 - 1 = p by omega]
    exact decide_eq_true hx)
  rw [show (p + 1 - i).toNat = (p - i).toNat + 1 by omega, hs]
  omega
theorem nv_step {X : Int → Int} {n i p : Int} (hp : 0 ≤ p - i) (hc : 0 ≤ p ∧ p < n) : nv X i (p + 1 - i).toNat = 10 * nv X i (p - i).toNat + chA X n p - 48 := by
  rw [show (p + 1 - i).toNat = (p - i).toNat + 1 by omega, nv, show i + ((p - i).toNat : Int) = p by omega, chA_in hc]
theorem nv_rg {X : Int → Int} {n i p : Int} (hp : 0 ≤ p - i ∧ p - i ≤ 3) (h : adv (dgP X n) i (p - i).toNat = p) : 0 ≤ nv X i (p - i).toNat ∧ nv X i (p - i).toNat ≤ 999 := by
  have h2 := nv_in (X := X) (i := i) (p - i).toNat (fun j q1 q2 => by
    have h3 := adv_ok (P := dgP X n) (p := i) (k := (p - i).toNat) (r := i + j + 1) (by omega) (by rw [h]; omega)
    rw [dgP, decide_eq_true_eq, show i + j + 1 - 1 = i + j by omega] at h3
    have h4 := chA_lt (X := X) (n := n) (i := i + j) (by omega)
    rw [chA_in h4] at h3
    exact h3) (by omega)
  exact ⟨h2.1, h2.2.1⟩
theorem tO_t {X : Int → Int} {n i c q : Int} (hq : q = nE X n i) (h1 : i < q) (h2 : chA X n q = c) : tO X n i c = true ∧ tA X n i c = q + 1 := by
  have e : tO X n i c = true := by
    rw [tO, ← hq]
    exact decide_eq_true ⟨h1, h2⟩
  exact ⟨e, by rw [tA, if_pos e, ← hq]⟩
theorem tO_f {X : Int → Int} {n i c q : Int} (hq : q = nE X n i) (h : ¬ (i < q ∧ chA X n q = c)) : tO X n i c = false ∧ tA X n i c = q := by
  have e : tO X n i c = false := by
    rw [tO, ← hq]
    exact decide_eq_false h
  exact ⟨e, by rw [tA, if_neg (by rw [e]; decide), ← hq]⟩
/-- what reading the order at i leaves: whether it is of its form, where it breaks off, its numbers -/
def RO (X : Int → Int) (n i z q nr : Int) (W : Int → Int) : Prop := z = bI (rdO X n i = true) ∧ q = rdA X n i ∧ (0 ≤ nr ∧ nr ≤ 3) ∧ rF W ∧ (rdO X n i = true → (1 ≤ nr ∧ W 0 = nV X n (i + 1)) ∧ (fmN (chA X n i) ≠ 1 → 2 ≤ nr ∧ W 1 = nV X n (p2 X n i)) ∧ (fmN (chA X n i) = 3 → nr = 3 ∧ W 2 = nV X n (p3 X n i)))
theorem RO_f {X : Int → Int} {n i q nr : Int} {W : Int → Int} (hnr : 0 ≤ nr ∧ nr ≤ 3) (hW : rF W) (h : rdO X n i = false) (hq : q = rdA X n i) : RO X n i 0 q nr W := ⟨bI_0 (by rw [h]; decide), hq, hnr, hW, fun e => by rw [h] at e; cases e⟩
theorem fmN_1 {kd : Int} (h : kd = 111 ∨ kd = 99 ∨ kd = 97 ∨ kd = 116) : fmN kd = 1 := if_pos h
theorem fmN_2 {kd : Int} (h : kd = 115) : fmN kd = 2 := by rw [fmN, if_neg (by omega), if_pos h]
theorem fmN_3 {kd : Int} (h : kd = 112) : fmN kd = 3 := by rw [fmN, if_neg (by omega), if_neg (by omega), if_pos h]
theorem fmN_0 {kd : Int} (h : ¬ (kd = 111 ∨ kd = 99 ∨ kd = 97 ∨ kd = 116) ∧ kd ≠ 115 ∧ kd ≠ 112) : fmN kd = 0 := by rw [fmN, if_neg h.1, if_neg h.2.1, if_neg h.2.2]
theorem rd0 {X : Int → Int} {n i nr : Int} {W : Int → Int} (hk : fmN (chA X n i) = 0) (hnr : 0 ≤ nr ∧ nr ≤ 3) (hW : rF W) : RO X n i 0 i nr W := RO_f hnr hW (by rw [rdO, hk]; rfl) (by rw [rdA, hk]; rfl)
theorem rd1_f {X : Int → Int} {n i q nr : Int} {W : Int → Int} (hk : fmN (chA X n i) = 1) (hnr : 0 ≤ nr ∧ nr ≤ 3) (hW : rF W) (hq : q = nE X n (i + 1)) (h : ¬ (i + 1 < q ∧ chA X n q = 59)) : RO X n i 0 q nr W := by
  have e := tO_f hq h
  exact RO_f hnr hW (by rw [rdO, if_pos hk]; exact e.1) (by rw [rdA, if_pos hk]; exact e.2.symm)
theorem rd1_t {X : Int → Int} {n i q nr : Int} {W : Int → Int} (hk : fmN (chA X n i) = 1) (hnr : 1 ≤ nr ∧ nr ≤ 3) (hW : rF W) (hq : q = nE X n (i + 1)) (h1 : i + 1 < q) (h2 : chA X n q = 59) (h0 : W 0 = nV X n (i + 1)) : RO X n i 1 (q + 1) nr W := by
  have e := tO_t hq h1 h2
  have ho : rdO X n i = true := by rw [rdO, if_pos hk]; exact e.1
  exact ⟨bI_1 ho, by rw [rdA, if_pos hk]; exact e.2.symm, by omega, hW, fun _ => ⟨⟨hnr.1, h0⟩, fun q => absurd hk q, fun q => by rw [hk] at q; cases q⟩⟩
theorem rd23_a {X : Int → Int} {n i q nr : Int} {W : Int → Int} (hk : fmN (chA X n i) = 2 ∨ fmN (chA X n i) = 3) (hnr : 0 ≤ nr ∧ nr ≤ 3) (hW : rF W) (hq : q = nE X n (i + 1)) (h : ¬ (i + 1 < q ∧ chA X n q = 44)) : RO X n i 0 q nr W := by
  have e := tO_f hq h
  have e2 : p2 X n i = q := e.2
  rcases hk with hk | hk
  · exact RO_f hnr hW (by rw [rdO, hk]; simp [e.1]) (by rw [rdA, hk]; simp [e.1, e2])
  · exact RO_f hnr hW (by rw [rdO, hk]; simp [e.1]) (by rw [rdA, hk]; simp [e.1, e2])
theorem rd2_f {X : Int → Int} {n i q0 a q nr : Int} {W : Int → Int} (hk : fmN (chA X n i) = 2) (hnr : 0 ≤ nr ∧ nr ≤ 3) (hW : rF W) (hq0 : q0 = nE X n (i + 1)) (h1 : i + 1 < q0) (h2 : chA X n q0 = 44) (ha : a = q0 + 1) (hq : q = nE X n a) (h : ¬ (a < q ∧ chA X n q = 59)) : RO X n i 0 q nr W := by
  have e := tO_t hq0 h1 h2
  have e2 : p2 X n i = a := e.2.trans ha.symm
  have e3 := tO_f hq h
  exact RO_f hnr hW (by rw [rdO, hk]; simp [e.1, e2, e3.1]) (by rw [rdA, hk]; simp [e.1, e2, e3.2])
theorem rd2_t {X : Int → Int} {n i q0 a q nr : Int} {W : Int → Int} (hk : fmN (chA X n i) = 2) (hnr : 2 ≤ nr ∧ nr ≤ 3) (hW : rF W) (hq0 : q0 = nE X n (i + 1)) (h1 : i + 1 < q0) (h2 : chA X n q0 = 44) (ha : a = q0 + 1) (hq : q = nE X n a) (h3 : a < q) (h4 : chA X n q = 59) (hw0 : W 0 = nV X n (i + 1)) (hw1 : W 1 = nV X n a) : RO X n i 1 (q + 1) nr W := by
  have e := tO_t hq0 h1 h2
  have e2 : p2 X n i = a := e.2.trans ha.symm
  have e3 := tO_t hq h3 h4
  have ho : rdO X n i = true := by rw [rdO, hk]; simp [e.1, e2, e3.1]
  exact ⟨bI_1 ho, by rw [rdA, hk]; simp [e.1, e2, e3.2], by omega, hW, fun _ => ⟨⟨by omega, hw0⟩, fun _ => ⟨hnr.1, by rw [e2]; exact hw1⟩, fun q => by rw [hk] at q; cases q⟩⟩
theorem rd3_b {X : Int → Int} {n i q0 a q nr : Int} {W : Int → Int} (hk : fmN (chA X n i) = 3) (hnr : 0 ≤ nr ∧ nr ≤ 3) (hW : rF W) (hq0 : q0 = nE X n (i + 1)) (h1 : i + 1 < q0) (h2 : chA X n q0 = 44) (ha : a = q0 + 1) (hq : q = nE X n a) (h : ¬ (a < q ∧ chA X n q = 61)) : RO X n i 0 q nr W := by
  have e := tO_t hq0 h1 h2
  have e2 : p2 X n i = a := e.2.trans ha.symm
  have e3 := tO_f hq h
  have e4 : p3 X n i = q := by rw [p3, e2]; exact e3.2
  exact RO_f hnr hW (by rw [rdO, hk]; simp [e.1, e2, e3.1]) (by rw [rdA, hk]; simp [e.1, e2, e3.1, e4])
theorem rd3_f {X : Int → Int} {n i q0 a q1 b q nr : Int} {W : Int → Int} (hk : fmN (chA X n i) = 3) (hnr : 0 ≤ nr ∧ nr ≤ 3) (hW : rF W) (hq0 : q0 = nE X n (i + 1)) (h1 : i + 1 < q0) (h2 : chA X n q0 = 44) (ha : a = q0 + 1) (hq1 : q1 = nE X n a) (h3 : a < q1) (h4 : chA X n q1 = 61) (hb : b = q1 + 1) (hq : q = nE X n b) (h : ¬ (b < q ∧ chA X n q = 59)) : RO X n i 0 q nr W := by
  have e := tO_t hq0 h1 h2
  have e2 : p2 X n i = a := e.2.trans ha.symm
  have e3 := tO_t hq1 h3 h4
  have e4 : p3 X n i = b := by rw [p3, e2]; exact e3.2.trans hb.symm
  have e5 := tO_f hq h
  exact RO_f hnr hW (by rw [rdO, hk]; simp [e.1, e2, e3.1, e4, e5.1]) (by rw [rdA, hk]; simp [e.1, e2, e3.1, e4, e5.2])
theorem rd3_t {X : Int → Int} {n i q0 a q1 b q nr : Int} {W : Int → Int} (hk : fmN (chA X n i) = 3) (hnr : nr = 3) (hW : rF W) (hq0 : q0 = nE X n (i + 1)) (h1 : i + 1 < q0) (h2 : chA X n q0 = 44) (ha : a = q0 + 1) (hq1 : q1 = nE X n a) (h3 : a < q1) (h4 : chA X n q1 = 61) (hb : b = q1 + 1) (hq : q = nE X n b) (h5 : b < q) (h6 : chA X n q = 59) (hw0 : W 0 = nV X n (i + 1)) (hw1 : W 1 = nV X n a) (hw2 : W 2 = nV X n b) : RO X n i 1 (q + 1) nr W := by
  have e := tO_t hq0 h1 h2
  have e2 : p2 X n i = a := e.2.trans ha.symm
  have e3 := tO_t hq1 h3 h4
  have e4 : p3 X n i = b := by rw [p3, e2]; exact e3.2.trans hb.symm
  have e5 := tO_t hq h5 h6
  have ho : rdO X n i = true := by rw [rdO, hk]; simp [e.1, e2, e3.1, e4, e5.1]
  exact ⟨bI_1 ho, by rw [rdA, hk]; simp [e.1, e2, e3.1, e4, e5.2], by omega, hW, fun _ => ⟨⟨by omega, hw0⟩, fun _ => ⟨by omega, by rw [e2]; exact hw1⟩, fun _ => ⟨hnr, by rw [e4]; exact hw2⟩⟩⟩
def nU (W : Int → Int) (nr w : Int) : Int := if 0 ≤ w ∧ w < nr ∧ w < 3 then W w else 0
theorem nU_in {W : Int → Int} {nr w : Int} (h : 0 ≤ w ∧ w < nr ∧ w < 3) : nU W nr w = W w := if_pos h
theorem RO_1 {X : Int → Int} {n i q nr : Int} {W : Int → Int} (h : RO X n i 1 q nr W) : rdO X n i = true := bI_t (p := rdO X n i = true) (by rw [← h.1]; decide)
theorem p2_in {X : Int → Int} {n i : Int} (hi : 0 ≤ i ∧ i < n) : 0 ≤ p2 X n i ∧ p2 X n i ≤ n := by
  have h := tA_in (X := X) (n := n) (i := i + 1) (c := 44) (by omega) (by omega)
  rw [p2]
  omega
theorem p3_in {X : Int → Int} {n i : Int} (hi : 0 ≤ i ∧ i < n) : 0 ≤ p3 X n i ∧ p3 X n i ≤ n := by
  have h0 := p2_in (X := X) hi
  have h := tA_in (X := X) (n := n) (i := p2 X n i) (c := 61) h0 (by omega)
  rw [p3]
  omega
theorem RO_0 {X : Int → Int} {n i q nr : Int} {W : Int → Int} (h : RO X n i 0 q nr W) : rdO X n i = false := by
  have h0 : ¬ rdO X n i = true := bI_f (p := rdO X n i = true) h.1.symm
  exact eq_false_of_ne_true h0
theorem chP_1 {P f : Int → Int} {ps z : Int} : (if z < 0 then P else chP 1 P ps f) = P := by
  have e : chP 1 P ps f = P := if_neg (by decide)
  rw [e]
  split <;> rfl
theorem chN_1 {ps z : Int} : (if z < 0 then ps else chN 1 ps) = ps := by
  have e : chN 1 ps = ps := if_neg (by decide)
  rw [e]
  split <;> rfl
def flt (r : Bool × (Int → Int) × Int × Int × Int × Int) (wh : Int) : Int := if 0 ≤ wh ∧ wh ≤ 2 then (if r.1 = true then -1000004 else if wh = 0 then r.2.2.1 else if wh = 1 then r.2.2.2.1 else r.2.2.2.2.1) else -1000001
theorem flt_t {r : Bool × (Int → Int) × Int × Int × Int × Int} {wh i o : Int} {f : Int → Int} (h : r = (true, f, i, 0, 0, o)) (hw : 0 ≤ wh ∧ wh ≤ 2) : flt r wh = -1000004 := by
  rw [h, flt, if_pos hw]
  rfl
theorem flt_f {r : Bool × (Int → Int) × Int × Int × Int × Int} {wh p rs ca o : Int} {f : Int → Int} (h : r = (false, f, p, rs, ca, o)) (hw : 0 ≤ wh ∧ wh ≤ 2) : flt r wh = if wh = 0 then p else if wh = 1 then rs else ca := by
  rw [h, flt, if_pos hw]
  rfl
theorem flt_o {r : Bool × (Int → Int) × Int × Int × Int × Int} {wh : Int} (hw : ¬ (0 ≤ wh ∧ wh ≤ 2)) : flt r wh = -1000001 := if_neg hw
theorem fltA {r : Bool × (Int → Int) × Int × Int × Int × Int} {wh p rs ca o : Int} {f : Int → Int} (h : r = (decide (rs = 0), f, p, rs, ca, o)) (hw : 0 ≤ wh ∧ wh ≤ 2) (h0 : rs = 0) : flt r wh = -1000004 := by
  rw [h, flt, if_pos hw, if_pos (decide_eq_true h0)]
theorem fltB {r : Bool × (Int → Int) × Int × Int × Int × Int} {wh p rs ca o : Int} {f : Int → Int} (h : r = (decide (rs = 0), f, p, rs, ca, o)) (hw : 0 ≤ wh ∧ wh ≤ 2) (h0 : ¬ rs = 0) : flt r wh = if wh = 0 then p else if wh = 1 then rs else ca := by
  have h1 : ¬ decide (rs = 0) = true := fun q => h0 (of_decide_eq_true q)
  rw [h, flt, if_pos hw, if_neg h1]
theorem plR_rs {X : Int → Int} {n : Int} : ∀ (k : Nat) (f : Int → Int) (i o : Int), (0 ≤ (plR X n k f i o).2.2.2.1 ∧ (plR X n k f i o).2.2.2.1 ≤ 2) ∧ o ≤ (plR X n k f i o).2.2.2.2.2 ∧ (plR X n k f i o).2.2.2.2.2 ≤ o + k
  | 0, f, i, o => by
    rw [plR]
    dsimp only
    omega
  | k + 1, f, i, o => by
    have ih := plR_rs (X := X) (n := n) k (caF X n f i).2 (rdA X n i) (o + 1)
    rw [plR]
    split
    · split
      · split
        · dsimp only
          omega
        · omega
      · dsimp only
        omega
    · dsimp only
      omega
theorem HRel.mono {B B2 : Int} {P : Int → Int} {ps : Int} {S : Nat → Nat → Nat} {Q : Nat → Option Nat} {p : Nat → Nat} {cs : Nat → Nat → Int} {Fs : Nat → Nat → Int → Int} (h : HRel B P ps S Q p cs Fs) (hB : B ≤ B2) : HRel B2 P ps S Q p cs Fs := by
  obtain ⟨h1, h2, h3, h4, h5, h6, h7⟩ := h
  exact ⟨h1, h2, h3, h4, h5, fun i a b => ⟨(h6 i a b).1, (h6 i a b).2.mono hB⟩, h7⟩
theorem HRel.undo {B : Int} {P : Int → Int} {ps : Int} {S : Nat → Nat → Nat} {Q : Nat → Option Nat} {p : Nat → Nat} {cs : Nat → Nat → Int} {Fs : Nat → Nat → Int → Int} (h : HRel B P ps S Q p cs Fs) (h0 : 0 < ps) : HRel B P (ps - 1) S Q p cs Fs := by
  obtain ⟨h1, h2, h3, h4, h5, h6, h7⟩ := h
  exact ⟨by omega, h2, h3, h4, h5, fun i a b => h6 i a (by omega), h7⟩

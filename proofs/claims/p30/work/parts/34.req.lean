theorem lst_ext {P Q : Int → Bool} {p : Nat} (h : ∀ r : Int, 1 ≤ r → r ≤ p → P r = Q r) : ∀ m : Nat, (∀ r : Int, p < r → r ≤ p + m → Q r = false) → lst P p = lst Q (p + m)
  | 0, _ => lst_cong h
  | m + 1, hq => by
    rw [← Nat.add_assoc, lst, if_neg (by rw [hq _ (by omega) (by omega)]; decide)]
    exact lst_ext h m (fun r h1 h2 => hq r h1 (by omega))
theorem q_gK {f : Int → Int} {n tk ln tr lc lo ap rt dl r0 p0 q0 r1 p1 q1 : Int} {sl g0 g1 K T Y V A : Int → Int} (h : RS f n tk ln tr lc lo ap rt dl r0 p0 q0 r1 p1 q1 sl g0 g1 K T Y V A) {r : Int} (hr : 1 ≤ r ∧ r ≤ f 0) : gR n K r = oR f r 0 := by
  rw [gR_in (by have e := h.e_n; omega)]
  exact (h.hrec r hr.1 hr.2).1
theorem q_gT {f : Int → Int} {n tk ln tr lc lo ap rt dl r0 p0 q0 r1 p1 q1 : Int} {sl g0 g1 K T Y V A : Int → Int} (h : RS f n tk ln tr lc lo ap rt dl r0 p0 q0 r1 p1 q1 sl g0 g1 K T Y V A) {r : Int} (hr : 1 ≤ r ∧ r ≤ f 0) : gR n T r = oR f r 1 := by
  rw [gR_in (by have e := h.e_n; omega)]
  exact (h.hrec r hr.1 hr.2).2.1
theorem q_gA {f : Int → Int} {n tk ln tr lc lo ap rt dl r0 p0 q0 r1 p1 q1 : Int} {sl g0 g1 K T Y V A : Int → Int} (h : RS f n tk ln tr lc lo ap rt dl r0 p0 q0 r1 p1 q1 sl g0 g1 K T Y V A) {r : Int} (hr : 1 ≤ r ∧ r ≤ f 0) : gR n A r = oR f r 4 := by
  rw [gR_in (by have e := h.e_n; omega)]
  exact (h.hrec r hr.1 hr.2).2.2.1
theorem q_gY {f : Int → Int} {n tk ln tr lc lo ap rt dl r0 p0 q0 r1 p1 q1 : Int} {sl g0 g1 K T Y V A : Int → Int} (h : RS f n tk ln tr lc lo ap rt dl r0 p0 q0 r1 p1 q1 sl g0 g1 K T Y V A) {r : Int} (hr : 1 ≤ r ∧ r ≤ f 0) (hk : oR f r 0 = 0) : gR n Y r = oR f r 2 := by
  rw [gR_in (by have e := h.e_n; omega)]
  exact ((h.hrec r hr.1 hr.2).2.2.2 hk).1
theorem q_gV {f : Int → Int} {n tk ln tr lc lo ap rt dl r0 p0 q0 r1 p1 q1 : Int} {sl g0 g1 K T Y V A : Int → Int} (h : RS f n tk ln tr lc lo ap rt dl r0 p0 q0 r1 p1 q1 sl g0 g1 K T Y V A) {r : Int} (hr : 1 ≤ r ∧ r ≤ f 0) (hk : oR f r 0 = 0) : gR n V r = oR f r 3 := by
  rw [gR_in (by have e := h.e_n; omega)]
  exact ((h.hrec r hr.1 hr.2).2.2.2 hk).2
theorem q_pP {f : Int → Int} {n tk ln tr lc lo ap rt dl r0 p0 q0 r1 p1 q1 : Int} {sl g0 g1 K T Y V A : Int → Int} (h : RS f n tk ln tr lc lo ap rt dl r0 p0 q0 r1 p1 q1 sl g0 g1 K T Y V A) {t y r : Int} (hr : 1 ≤ r ∧ r ≤ f 0) : pP n K T Y t y r = mP f t y r := by
  simp only [pP, mP, q_gK h hr, q_gT h hr]
  by_cases hk : oR f r 0 = 0
  · rw [q_gY h hr hk, Bool.and_comm (decide (oR f r 1 = t))]
  · rw [decide_eq_false hk, Bool.and_false, Bool.false_and, Bool.false_and, Bool.false_and]
theorem q_lP {f : Int → Int} {n tk ln tr lc lo ap rt dl r0 p0 q0 r1 p1 q1 : Int} {sl g0 g1 K T Y V A : Int → Int} {B : Int} (h : RS f n tk ln tr lc lo ap rt dl r0 p0 q0 r1 p1 q1 sl g0 g1 K T Y V A) (hI : Inv B f) {t y p : Int} (hp : 0 ≤ p ∧ p ≤ f 0) (hno : ∀ r, p < r → r ≤ f 0 → ¬ (oR f r 0 = 0 ∧ oR f r 1 = t)) : lP n K T Y t y p = mL f t y := by
  have hn := hI.n
  rw [lP, mL]
  have e := lst_ext (P := pP n K T Y t y) (Q := mP f t y) (p := p.toNat) (fun r h1 h2 => q_pP h (by omega)) ((f 0).toNat - p.toNat) (fun r h1 h2 => by
    have h3 := hno r (by omega) (by omega)
    simp only [mP, Bool.and_eq_false_iff, decide_eq_false_iff_not]
    omega)
  rw [e, show p.toNat + ((f 0).toNat - p.toNat) = (f 0).toNat by omega]
theorem q_lP2 {f : Int → Int} {n tk ln tr lc lo ap rt dl r0 p0 q0 r1 p1 q1 : Int} {sl g0 g1 K T Y V A : Int → Int} {B : Int} (h : RS f n tk ln tr lc lo ap rt dl r0 p0 q0 r1 p1 q1 sl g0 g1 K T Y V A) (hI : Inv B f) {y r : Int} (hr : 1 ≤ r ∧ r ≤ f 0) (hk : oR f r 0 ≠ 0) : lP n K T Y (gR n T r) y r = mL f (oR f r 1) y := by
  rw [q_gT h hr]
  exact q_lP h hI (by omega) (fun r2 h1 h2 h3 => hI.Rt r r2 hr.1 h1 h2 hk h3.2)
theorem q_lC {f : Int → Int} {n tk ln tr lc lo ap rt dl r0 p0 q0 r1 p1 q1 : Int} {sl g0 g1 K T Y V A : Int → Int} {B : Int} (h : RS f n tk ln tr lc lo ap rt dl r0 p0 q0 r1 p1 q1 sl g0 g1 K T Y V A) (hI : Inv B f) {y p : Int} (hp : 0 ≤ p ∧ p ≤ f 0) : lC n K T Y y p = mLC f p y := by
  rw [lC, mLC]
  refine lst_cong (fun r h1 h2 => ?_)
  have hr : 1 ≤ r ∧ r ≤ f 0 := by omega
  have hm := mL_in (f := f) (t := oR f r 1) (y := y) hI.n
  simp only [pC, mC, q_gK h hr]
  by_cases hk : oR f r 0 = 1
  · rw [q_lP2 h hI hr (by omega)]
    congr 1
    exact decide_eq_decide.mpr (by omega)
  · rw [decide_eq_false hk, Bool.false_and, Bool.false_and]
theorem q_vA {f : Int → Int} {n tk ln tr lc lo ap rt dl r0 p0 q0 r1 p1 q1 : Int} {sl g0 g1 K T Y V A : Int → Int} {B : Int} (h : RS f n tk ln tr lc lo ap rt dl r0 p0 q0 r1 p1 q1 sl g0 g1 K T Y V A) (hI : Inv B f) {y p : Int} (hp : 0 ≤ p ∧ p ≤ f 0) : vA n K T Y V y p = mV f p y := by
  have hn := hI.n
  rw [vA, mV, q_lC h hI hp]
  by_cases hc : mLC f p y = 0
  · rw [if_pos hc, if_pos hc]
  · have hci := mLC_in (f := f) (p := p) (y := y) (by omega)
    have hcr : 1 ≤ mLC f p y ∧ mLC f p y ≤ f 0 := by omega
    have hck : mC f y (mLC f p y) = true := lst_at hc
    simp only [mC, Bool.and_eq_true, decide_eq_true_eq] at hck
    rw [if_neg hc, if_neg hc, q_lP2 h hI hcr (by omega)]
    have hl := mL_in (f := f) (t := oR f (mLC f p y) 1) (y := y) hn
    have hlk : mP f (oR f (mLC f p y) 1) y (mL f (oR f (mLC f p y) 1) y) = true := lst_at (k := (f 0).toNat) (by
      have h9 := hck.2
      rw [mL] at h9
      omega)
    simp only [mP, Bool.and_eq_true, decide_eq_true_eq] at hlk
    exact q_gV h (by omega) hlk.1.1
theorem q_cB {f : Int → Int} {n tk ln tr lc lo ap rt dl r0 p0 q0 r1 p1 q1 : Int} {sl g0 g1 K T Y V A : Int → Int} (h : RS f n tk ln tr lc lo ap rt dl r0 p0 q0 r1 p1 q1 sl g0 g1 K T Y V A) {p : Int} (hp : 0 ≤ p ∧ p ≤ f 0) : cB n K p = mB f (p + 1) (f 0) := by
  have e := h.e_n
  rw [cB, mB, show (n - p).toNat = (f 0 + 1 - (p + 1)).toNat by omega]
  exact cnt_cong (fun r h1 h2 => by rw [q_gK h (by omega)])
theorem q_pO {f : Int → Int} {n tk ln tr lc lo ap rt dl r0 p0 q0 r1 p1 q1 : Int} {sl g0 g1 K T Y V A : Int → Int} (h : RS f n tk ln tr lc lo ap rt dl r0 p0 q0 r1 p1 q1 sl g0 g1 K T Y V A) {t : Int} : pO n K T t = mO f t := by
  have e := h.e_n
  rw [pO, mO, e]
  refine cnt_cong (fun r h1 h2 => ?_)
  rw [← e, q_gK h (by omega), q_gT h (by omega), Bool.and_comm]
theorem q_sC0 {f : Int → Int} {n tk ln tr lc lo ap rt dl r0 p0 q0 r1 p1 q1 : Int} {sl g0 g1 K T Y V A : Int → Int} {B : Int} (h : RS f n tk ln tr lc lo ap rt dl r0 p0 q0 r1 p1 q1 sl g0 g1 K T Y V A) (hI : Inv B f) : sC g0 = mG f 0 := cnt_cong (fun r h1 h2 => by
  have e := h.hg0 r h1 (by omega)
  have h3 := hI.G 0 r (by omega) (by omega) h1 (by omega)
  rw [e]
  exact decide_eq_decide.mpr (by omega))
theorem q_sC1 {f : Int → Int} {n tk ln tr lc lo ap rt dl r0 p0 q0 r1 p1 q1 : Int} {sl g0 g1 K T Y V A : Int → Int} {B : Int} (h : RS f n tk ln tr lc lo ap rt dl r0 p0 q0 r1 p1 q1 sl g0 g1 K T Y V A) (hI : Inv B f) : sC g1 = mG f 1 := cnt_cong (fun r h1 h2 => by
  have e := h.hg1 r h1 (by omega)
  have h3 := hI.G 1 r (by omega) (by omega) h1 (by omega)
  rw [e]
  exact decide_eq_decide.mpr (by omega))
theorem q_sWx {g : Int → Int} {f : Int → Int} {b : Int} (h : ∀ r, 1 ≤ r → r ≤ 100 → (g r ≠ 0 ↔ oG f b r = 1)) : fstI (fun r => decide (g r ≠ 0)) 1 100 = fstI (fun r => decide (oG f b r = 1)) 1 100 := fstI_cong (fun r h1 h2 => decide_eq_decide.mpr (h r h1 (by omega)))
theorem q_sW {g : Int → Int} {f : Int → Int} {b : Int} (h : ∀ r, 1 ≤ r → r ≤ 100 → (g r ≠ 0 ↔ oG f b r = 1)) : (if sW g = 0 then -1000004 else sW g) = mW f b := by
  have hr := fstI_rng (P := fun r => decide (oG f b r = 1)) (a := 1) (k := 100)
  rw [sW, mW, q_sWx h]
  by_cases hc : fstI (fun r => decide (oG f b r = 1)) 1 100 ≤ 100
  · rw [if_pos hc, if_neg (by omega), if_pos hc]
  · rw [if_neg hc, if_pos rfl, if_neg hc]
theorem q_goal {g : Int → Int} {f : Int → Int} {b rc : Int} (h : ∀ r, 1 ≤ r → r ≤ 100 → (g r ≠ 0 ↔ oG f b r = 1)) (hrc : rc = oS f b 0) : (if sW g = 0 then rc else sW g - 1) = goalOf f b := by
  have e := q_sW h
  have hr := mW_rg (f := f) (b := b)
  have hs := sW_in (g := g)
  rw [goalOf, ← e, hrc]
  by_cases hc : sW g = 0
  · rw [if_pos hc, if_pos hc, if_pos (by omega)]
  · rw [if_neg hc, if_neg hc, if_neg (by omega)]
theorem q_h0 {f : Int → Int} {n tk ln tr lc lo ap rt dl r0 p0 q0 r1 p1 q1 : Int} {sl g0 g1 K T Y V A : Int → Int} {B : Int} (h : RS f n tk ln tr lc lo ap rt dl r0 p0 q0 r1 p1 q1 sl g0 g1 K T Y V A) (hI : Inv B f) : ∀ r, 1 ≤ r → r ≤ 100 → (g0 r ≠ 0 ↔ oG f 0 r = 1) := fun r h1 h2 => by
  have e := h.hg0 r h1 h2
  have h3 := hI.G 0 r (by omega) (by omega) h1 h2
  omega
theorem q_h1 {f : Int → Int} {n tk ln tr lc lo ap rt dl r0 p0 q0 r1 p1 q1 : Int} {sl g0 g1 K T Y V A : Int → Int} {B : Int} (h : RS f n tk ln tr lc lo ap rt dl r0 p0 q0 r1 p1 q1 sl g0 g1 K T Y V A) (hI : Inv B f) : ∀ r, 1 ≤ r → r ≤ 100 → (g1 r ≠ 0 ↔ oG f 1 r = 1) := fun r h1 h2 => by
  have e := h.hg1 r h1 h2
  have h3 := hI.G 1 r (by omega) (by omega) h1 h2
  omega
theorem q_cg {n : Int} {A : Int → Int} {rc st : Int} {g : Int → Int} {dl : Int} {f : Int → Int} {b p t rt : Int} (hg : ∀ r, 1 ≤ r → r ≤ 100 → (g r ≠ 0 ↔ oG f b r = 1)) (hA : ∀ r, 1 ≤ r → r ≤ rc → gR n A r = oR f r 4) (hrc : rc = oS f b 0) (hst : st = oS f b 2) (hdl : dl = f 8) (h100 : rc ≤ 100) (hp : 0 ≤ p) : cg n A rc st g dl p t rt = p + go f b p t rt := by
  have e : adv (okC n A rc g dl t) p rt.toNat = adv (ok f b t) p rt.toNat := adv_cong (fun r hr => by
    simp only [okC, ok, ← hrc]
    by_cases h1 : r ≤ rc
    · have h2 := hg r (by omega) (by omega)
      rw [hA r (by omega) h1, ← hdl]
      congr 1
      · congr 1
        exact decide_eq_decide.mpr (by omega)
      · exact decide_eq_decide.mpr (by omega)
    · rw [decide_eq_false h1, Bool.false_and, Bool.false_and, Bool.false_and, Bool.false_and])
  rw [cg, go, ← hst, e]
  split <;> omega
theorem q_cu {n : Int} {A : Int → Int} {rc st : Int} {g : Int → Int} {dl ap tk : Int} {f : Int → Int} {T0 b rt : Int} (hT : TI f T0) (hb : 0 ≤ b ∧ b ≤ 1) (hg : ∀ r, 1 ≤ r → r ≤ 100 → (g r ≠ 0 ↔ oG f b r = 1)) (hA : ∀ r, 1 ≤ r → r ≤ rc → gR n A r = oR f r 4) (hrc : rc = oS f b 0) (hst : st = oS f b 2) (hdl : dl = f 8) (h100 : rc ≤ 100) (hap : ap = oS f b 1) (htk : tk = f 1) (hrt : 0 ≤ rt ∧ rt ≤ 20) : ∀ k : Nat, cu n A rc st g dl ap tk rt k = un f b rt k
  | 0 => hap
  | k + 1 => by
    have h1 := un_in hT hb hrt k
    rw [cu, un, q_cu hT hb hg hA hrc hst hdl h100 hap htk hrt k, q_cg hg hA hrc hst hdl h100 h1.1, htk]
theorem q_cF {n : Int} {A : Int → Int} {rc st : Int} {g : Int → Int} {dl ap tk : Int} {f : Int → Int} {T0 b rt : Int} (hT : TI f T0) (hb : 0 ≤ b ∧ b ≤ 1) (hg : ∀ r, 1 ≤ r → r ≤ 100 → (g r ≠ 0 ↔ oG f b r = 1)) (hA : ∀ r, 1 ≤ r → r ≤ rc → gR n A r = oR f r 4) (hrc : rc = oS f b 0) (hst : st = oS f b 2) (hdl : dl = f 8) (h100 : rc ≤ 100) (hap : ap = oS f b 1) (htk : tk = f 1) (hrt : 0 ≤ rt ∧ rt ≤ 20) {pos m : Int} : cF n A rc st g dl ap tk rt pos m = uF f b pos rt m := by
  rw [cF, uF]
  exact fstI_cong (fun r h1 h2 => by rw [q_cu hT hb hg hA hrc hst hdl h100 hap htk hrt])
theorem q_cRt {n : Int} {A : Int → Int} {rc st : Int} {g : Int → Int} {dl ap tk : Int} {f : Int → Int} {T0 b : Int} (hT : TI f T0) (hb : 0 ≤ b ∧ b ≤ 1) (hg : ∀ r, 1 ≤ r → r ≤ 100 → (g r ≠ 0 ↔ oG f b r = 1)) (hA : ∀ r, 1 ≤ r → r ≤ rc → gR n A r = oR f r 4) (hrc : rc = oS f b 0) (hst : st = oS f b 2) (hdl : dl = f 8) (h100 : rc ≤ 100) (hap : ap = oS f b 1) (htk : tk = f 1) {m : Int} (hm : 0 ≤ m) : cRt n A rc st g dl ap tk (if sW g = 0 then rc else sW g - 1) m = if rtF f b (goalOf f b) m ≤ 20 then rtF f b (goalOf f b) m else -1000004 := by
  have e : fstI (fun i => decide (cF n A rc st g dl ap tk i (goalOf f b) m ≤ m)) 1 20 = rtF f b (goalOf f b) m := fstI_cong (fun r h1 h2 => by
    have hu := fstI_rng (P := fun i => decide (goalOf f b ≤ un f b r i.toNat)) (a := 0) (k := (m + 1).toNat)
    have hu2 : uF f b (goalOf f b) r m = fstI (fun i => decide (goalOf f b ≤ un f b r i.toNat)) 0 (m + 1).toNat := rfl
    rw [q_cF hT hb hg hA hrc hst hdl h100 hap htk (by omega), uT]
    refine decide_eq_decide.mpr ?_
    split <;> omega)
  rw [cRt, q_goal hg hrc, e]

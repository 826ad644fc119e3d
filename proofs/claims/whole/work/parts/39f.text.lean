/-! ===== texts: an order's form, where it breaks off, and a run of orders ===== -/
def chA (X : Int → Int) (n i : Int) : Int := if 0 ≤ i ∧ i < n then X i else 0
def dgP (X : Int → Int) (n r : Int) : Bool := decide (48 ≤ chA X n (r - 1) ∧ chA X n (r - 1) ≤ 57)
/-- where a number that starts at i ends -/
def nE (X : Int → Int) (n i : Int) : Int := adv (dgP X n) i 3
def nv (X : Int → Int) (i : Int) : Nat → Int
  | 0 => 0
  | k + 1 => 10 * nv X i k + X (i + k) - 48
def nV (X : Int → Int) (n i : Int) : Int := nv X i (nE X n i - i).toNat
/-- a number at i, and a sign c behind it -/
def tO (X : Int → Int) (n i c : Int) : Bool := decide (i < nE X n i ∧ chA X n (nE X n i) = c)
def tA (X : Int → Int) (n i c : Int) : Int := if tO X n i c then nE X n i + 1 else nE X n i
def fmN (kd : Int) : Int := if kd = 111 ∨ kd = 99 ∨ kd = 97 ∨ kd = 116 then 1 else if kd = 115 then 2 else if kd = 112 then 3 else 0
def p2 (X : Int → Int) (n i : Int) : Int := tA X n (i + 1) 44
def p3 (X : Int → Int) (n i : Int) : Int := tA X n (p2 X n i) 61
def rdO (X : Int → Int) (n i : Int) : Bool := if fmN (chA X n i) = 1 then tO X n (i + 1) 59 else if fmN (chA X n i) = 2 then tO X n (i + 1) 44 && tO X n (p2 X n i) 59 else if fmN (chA X n i) = 3 then tO X n (i + 1) 44 && tO X n (p2 X n i) 61 && tO X n (p3 X n i) 59 else false
def rdA (X : Int → Int) (n i : Int) : Int := if fmN (chA X n i) = 1 then tA X n (i + 1) 59 else if fmN (chA X n i) = 2 then (if tO X n (i + 1) 44 then tA X n (p2 X n i) 59 else p2 X n i) else if fmN (chA X n i) = 3 then (if tO X n (i + 1) 44 then (if tO X n (p2 X n i) 61 then tA X n (p3 X n i) 59 else p3 X n i) else p2 X n i) else i
/-- what the order at i, read whole, does -/
def caF (X : Int → Int) (n : Int) (f : Int → Int) (i : Int) : Int × (Int → Int) :=
  if chA X n i = 111 then sp_open f (nV X n (i + 1)) else if chA X n i = 99 then sp_end f 1 (nV X n (i + 1)) else if chA X n i = 97 then sp_end f 2 (nV X n (i + 1)) else if chA X n i = 112 then sp_put f (nV X n (i + 1)) (nV X n (p2 X n i)) (nV X n (p3 X n i)) else if chA X n i = 115 then sp_ship f (nV X n (i + 1)) (nV X n (p2 X n i)) else sp_tick f (nV X n (i + 1))
/-- a run of orders from i on: whether all are done; the row; where the last one begins, why it is refused, by what; how many are done -/
def plR (X : Int → Int) (n : Int) : Nat → (Int → Int) → Int → Int → Bool × (Int → Int) × Int × Int × Int × Int
  | 0, f, i, o => (true, f, i, 0, 0, o)
  | k + 1, f, i, o => if i < n then (if rdO X n i then (if (caF X n f i).1 < 0 then (false, (caF X n f i).2, i, 2, (caF X n f i).1, o) else plR X n k (caF X n f i).2 (rdA X n i) (o + 1)) else (false, f, i, 1, rdA X n i - i, o)) else (true, f, i, 0, 0, o)
theorem nE_in {X : Int → Int} {n i : Int} (hi : 0 ≤ i ∧ i ≤ n) : i ≤ nE X n i ∧ nE X n i ≤ i + 3 ∧ nE X n i ≤ n := by
  have h := adv_rng (P := dgP X n) (p := i) (k := 3)
  refine ⟨h.1, h.2, ?_⟩
  by_cases hz : nE X n i = i
  · omega
  · have h2 := adv_ok (P := dgP X n) (p := i) (k := 3) (r := nE X n i) (by rw [nE] at hz ⊢; omega) (Int.le_refl _)
    rw [dgP, decide_eq_true_eq, chA] at h2
    by_cases hq : 0 ≤ nE X n i - 1 ∧ nE X n i - 1 < n
    · omega
    · rw [if_neg hq] at h2
      omega
theorem nE_dg {X : Int → Int} {n i r : Int} (h1 : i < r) (h2 : r ≤ nE X n i) : (0 ≤ r - 1 ∧ r - 1 < n) ∧ 48 ≤ X (r - 1) ∧ X (r - 1) ≤ 57 := by
  have h3 := adv_ok (P := dgP X n) (p := i) (k := 3) (r := r) h1 h2
  rw [dgP, decide_eq_true_eq, chA] at h3
  by_cases hc : 0 ≤ r - 1 ∧ r - 1 < n
  · rw [if_pos hc] at h3
    exact ⟨hc, h3⟩
  · rw [if_neg hc] at h3
    omega
theorem nv_in {X : Int → Int} {i : Int} : ∀ (k : Nat), (∀ j : Int, 0 ≤ j → j < k → 48 ≤ X (i + j) ∧ X (i + j) ≤ 57) → k ≤ 3 → 0 ≤ nv X i k ∧ nv X i k ≤ 999 ∧ (k ≤ 2 → nv X i k ≤ 99) ∧ (k ≤ 1 → nv X i k ≤ 9) ∧ (k = 0 → nv X i k = 0)
  | 0, _, _ => by
    rw [nv]
    omega
  | k + 1, h, hk => by
    have h1 := nv_in (X := X) (i := i) k (fun j q1 q2 => h j q1 (by omega)) (by omega)
    have h2 := h k (by omega) (by omega)
    rw [nv]
    omega
theorem nV_in {X : Int → Int} {n i : Int} (hi : 0 ≤ i ∧ i ≤ n) : 0 ≤ nV X n i ∧ nV X n i ≤ 999 := by
  have h := nE_in (X := X) hi
  have h2 := nv_in (X := X) (i := i) (nE X n i - i).toNat (fun j q1 q2 => by
    have h3 := nE_dg (X := X) (n := n) (i := i) (r := i + j + 1) (by omega) (by omega)
    rw [show i + j + 1 - 1 = i + j by omega] at h3
    exact h3.2) (by omega)
  rw [nV]
  exact ⟨h2.1, h2.2.1⟩
theorem tA_in {X : Int → Int} {n i c : Int} (hi : 0 ≤ i ∧ i ≤ n) (hc : c ≠ 0) : i ≤ tA X n i c ∧ tA X n i c ≤ n ∧ (tO X n i c = true → tA X n i c = nE X n i + 1) ∧ (tO X n i c = false → tA X n i c = nE X n i) := by
  have h := nE_in (X := X) hi
  by_cases ht : tO X n i c = true
  · have e : tA X n i c = nE X n i + 1 := by rw [tA, if_pos ht]
    have h2 := ht
    rw [tO, decide_eq_true_eq, chA] at h2
    rw [e]
    refine ⟨by omega, ?_, fun _ => rfl, fun q => by rw [ht] at q; cases q⟩
    by_cases hq : 0 ≤ nE X n i ∧ nE X n i < n
    · omega
    · rw [if_neg hq] at h2
      omega
  · have e : tA X n i c = nE X n i := by rw [tA, if_neg ht]
    rw [e]
    exact ⟨h.1, h.2.2, fun q => absurd q ht, fun _ => rfl⟩
theorem rdA_in {X : Int → Int} {n i : Int} (hi : 0 ≤ i ∧ i < n) : i ≤ rdA X n i ∧ rdA X n i ≤ n ∧ (rdO X n i = true → i < rdA X n i) := by
  have h1 := tA_in (X := X) (n := n) (i := i + 1) (c := 59) (by omega) (by omega)
  have h2 := tA_in (X := X) (n := n) (i := i + 1) (c := 44) (by omega) (by omega)
  have h3 := tA_in (X := X) (n := n) (i := p2 X n i) (c := 59) (by rw [p2]; omega) (by omega)
  have h4 := tA_in (X := X) (n := n) (i := p2 X n i) (c := 61) (by rw [p2]; omega) (by omega)
  have h5 := tA_in (X := X) (n := n) (i := p3 X n i) (c := 59) (by rw [p3]; rw [p2] at h4 ⊢; omega) (by omega)
  have e2 : p2 X n i = tA X n (i + 1) 44 := rfl
  have e3 : p3 X n i = tA X n (p2 X n i) 61 := rfl
  rw [rdA, rdO]
  split
  · exact ⟨by omega, by omega, fun _ => by omega⟩
  · split
    · split
      · exact ⟨by omega, by omega, fun _ => by omega⟩
      · exact ⟨by omega, by omega, fun _ => by omega⟩
    · split
      · split
        · split
          · exact ⟨by omega, by omega, fun _ => by omega⟩
          · exact ⟨by omega, by omega, fun _ => by omega⟩
        · exact ⟨by omega, by omega, fun _ => by omega⟩
      · exact ⟨by omega, by omega, fun q => by cases q⟩
theorem plR_end {X : Int → Int} {n i o : Int} {f : Int → Int} (h : ¬ i < n) : ∀ k : Nat, plR X n k f i o = (true, f, i, 0, 0, o)
  | 0 => rfl
  | k + 1 => by rw [plR, if_neg h]
theorem plR_form {X : Int → Int} {n i o : Int} {f : Int → Int} {k : Nat} (h : i < n) (hr : rdO X n i = false) : plR X n (k + 1) f i o = (false, f, i, 1, rdA X n i - i, o) := by
  rw [plR, if_pos h, if_neg (by rw [hr]; decide)]
theorem plR_ref {X : Int → Int} {n i o : Int} {f : Int → Int} {k : Nat} (h : i < n) (hr : rdO X n i = true) (hc : (caF X n f i).1 < 0) : plR X n (k + 1) f i o = (false, (caF X n f i).2, i, 2, (caF X n f i).1, o) := by
  rw [plR, if_pos h, if_pos hr, if_pos hc]
theorem plR_go {X : Int → Int} {n i o : Int} {f : Int → Int} {k : Nat} (h : i < n) (hr : rdO X n i = true) (hc : ¬ (caF X n f i).1 < 0) : plR X n (k + 1) f i o = plR X n k (caF X n f i).2 (rdA X n i) (o + 1) := by
  rw [plR, if_pos h, if_pos hr, if_neg hc]
theorem caF_inv {X : Int → Int} {n i B : Int} {f : Int → Int} (h : Inv B f) (hB : B ≤ 1072000000) : Inv (B + 300) (caF X n f i).2 := by
  rw [caF]
  split
  · exact (h.k_open (by omega)).mono (by omega)
  · split
    · exact (h.k_end (by omega) (Or.inl rfl)).mono (by omega)
    · split
      · exact (h.k_end (by omega) (Or.inr rfl)).mono (by omega)
      · split
        · exact (h.k_put (by omega)).mono (by omega)
        · split
          · exact (h.k_ship (by omega)).mono (by omega)
          · exact h.k_tick hB
theorem caF_rg {X : Int → Int} {n i B : Int} {f : Int → Int} (h : Inv B f) (hB : B ≤ 1073000000) : -2147483648 ≤ (caF X n f i).1 ∧ (caF X n f i).1 < 2147483648 := by
  rw [caF]
  split
  · exact rg_sp_open h hB
  · split
    · exact rg_sp_end h hB
    · split
      · exact rg_sp_end h hB
      · split
        · exact rg_sp_put h hB
        · split
          · exact rg_sp_ship h hB
          · exact rg_sp_tick h hB

/-! ===== what is counted and sought among numbers ===== -/
def cnt (P : Int → Bool) (a : Int) : Nat → Int
  | 0 => 0
  | k + 1 => cnt P a k + (if P (a + k) then 1 else 0)
def lst (P : Int → Bool) : Nat → Int
  | 0 => 0
  | k + 1 => if P (k + 1) then (k : Int) + 1 else lst P k
/-- the first of a, a + 1 .. (k of them) with P; a + k if there is none -/
def fstI (P : Int → Bool) (a : Int) : Nat → Int
  | 0 => a
  | k + 1 => if fstI P a k < a + k then fstI P a k else if P (a + k) then a + k else a + k + 1
theorem cnt_s {P : Int → Bool} {a : Int} {k : Nat} : cnt P a (k + 1) = cnt P a k + (if P (a + k) then 1 else 0) := rfl
theorem cnt_cong {P Q : Int → Bool} {a : Int} : ∀ {k : Nat}, (∀ r, a ≤ r → r < a + k → P r = Q r) → cnt P a k = cnt Q a k
  | 0, _ => rfl
  | k + 1, h => by rw [cnt, cnt, cnt_cong (fun r h1 h2 => h r h1 (by omega)), h (a + k) (by omega) (by omega)]
theorem cnt_rng {P : Int → Bool} {a : Int} : ∀ {k : Nat}, 0 ≤ cnt P a k ∧ cnt P a k ≤ k
  | 0 => ⟨Int.le_refl 0, Int.le_refl 0⟩
  | k + 1 => by
    have h := cnt_rng (P := P) (a := a) (k := k)
    rw [cnt]
    split <;> omega
theorem cnt_n {P : Int → Bool} {a n acc r : Int} {k : Nat} (hk : r = a + k) (ha : acc = cnt P a k) (hn : n = if P r then acc + 1 else acc) : n = cnt P a (k + 1) := by
  rw [cnt, hn, ha, hk]
  split <;> omega
theorem lst_cong {P Q : Int → Bool} : ∀ {k : Nat}, (∀ r : Int, 1 ≤ r → r ≤ k → P r = Q r) → lst P k = lst Q k
  | 0, _ => rfl
  | k + 1, h => by rw [lst, lst, lst_cong (fun r h1 h2 => h r h1 (by omega)), h (k + 1) (by omega) (by omega)]
theorem lst_rng {P : Int → Bool} : ∀ {k : Nat}, 0 ≤ lst P k ∧ lst P k ≤ k
  | 0 => ⟨Int.le_refl 0, Int.le_refl 0⟩
  | k + 1 => by
    have h := lst_rng (P := P) (k := k)
    rw [lst]
    split <;> omega
theorem lst_yes {P : Int → Bool} {r : Int} (h0 : 1 ≤ r) (h : P r = true) : lst P r.toNat = r := by
  obtain ⟨k, rfl⟩ : ∃ k : Nat, r = k + 1 := ⟨(r - 1).toNat, by omega⟩
  rw [show ((k : Int) + 1).toNat = k + 1 by omega, lst, if_pos h]
theorem lst_no {P : Int → Bool} {r : Int} (h0 : 1 ≤ r) (h : P r = false) : lst P r.toNat = lst P (r - 1).toNat := by
  obtain ⟨k, rfl⟩ : ∃ k : Nat, r = k + 1 := ⟨(r - 1).toNat, by omega⟩
  rw [show ((k : Int) + 1).toNat = k + 1 by omega, lst, if_neg (by rw [h]; decide), show (k : Int) + 1 - 1 = k by omega, Int.toNat_natCast]
theorem lst_at {P : Int → Bool} : ∀ {k : Nat}, lst P k ≠ 0 → P (lst P k) = true
  | 0, h => absurd rfl h
  | k + 1, h => by
    rw [lst] at h ⊢
    by_cases hp : P (k + 1) = true
    · rw [if_pos hp]
      exact hp
    · rw [if_neg hp] at h ⊢
      exact lst_at h
theorem lst_top {P : Int → Bool} : ∀ {k : Nat} {r : Int}, lst P k < r → r ≤ k → 1 ≤ r → P r = false
  | 0, r, h, h1, h2 => by omega
  | k + 1, r, h, h1, h2 => by
    rw [lst] at h
    by_cases hp : P (k + 1) = true
    · rw [if_pos hp] at h
      omega
    · rw [if_neg hp] at h
      by_cases hr : r = k + 1
      · rw [hr]
        simpa using hp
      · exact lst_top h (by omega) h2
/-! ===== a log: n records in five arrays, asked with care ===== -/
def gR (n : Int) (f : Int → Int) (r : Int) : Int := if 1 ≤ r ∧ r ≤ n then f (r - 1) else -1000004
theorem gR_in {n : Int} {f : Int → Int} {r : Int} (h : 1 ≤ r ∧ r ≤ n) : gR n f r = f (r - 1) := if_pos h
theorem gR_out {n : Int} {f : Int → Int} {r : Int} (h : ¬ (1 ≤ r ∧ r ≤ n)) : gR n f r = -1000004 := if_neg h
theorem gR_r {n : Int} {f : Int → Int} (h : rF f) (r : Int) : -2147483648 ≤ gR n f r ∧ gR n f r < 2147483648 := by
  by_cases hr : 1 ≤ r ∧ r ≤ n
  · rw [gR_in hr]
    exact h _
  · rw [gR_out hr]
    omega
def pP (n : Int) (K T Y : Int → Int) (t key r : Int) : Bool := decide (gR n T r = t) && decide (gR n K r = 0) && decide (gR n Y r = key)
def lP (n : Int) (K T Y : Int → Int) (t key p : Int) : Int := lst (pP n K T Y t key) p.toNat
def pC (n : Int) (K T Y : Int → Int) (key r : Int) : Bool := decide (gR n K r = 1) && decide (lP n K T Y (gR n T r) key r ≠ 0)
def lC (n : Int) (K T Y : Int → Int) (key p : Int) : Int := lst (pC n K T Y key) p.toNat
def vA (n : Int) (K T Y V : Int → Int) (key p : Int) : Int := if lC n K T Y key p = 0 then 0 else gR n V (lP n K T Y (gR n T (lC n K T Y key p)) key (lC n K T Y key p))
def cB (n : Int) (K : Int → Int) (p : Int) : Int := cnt (fun r => decide (gR n K r = 1)) (p + 1) (n - p).toNat
def pO (n : Int) (K T : Int → Int) (t : Int) : Int := cnt (fun r => decide (gR n T r = t) && decide (gR n K r = 0)) 1 n.toNat
theorem cnt_nx {P : Int → Bool} {a c c' r : Int} (hr : a ≤ r) (hc : c = cnt P a (r - a).toNat) (h : (P r = true ∧ c' = c + 1) ∨ (¬ P r = true ∧ c' = c)) : c' = cnt P a (r + 1 - a).toNat := by
  rw [show (r + 1 - a).toNat = (r - a).toNat + 1 by omega, cnt, ← hc, show a + ((r - a).toNat : Int) = r by omega]
  rcases h with ⟨h1, h2⟩ | ⟨h1, h2⟩
  · rw [if_pos h1, h2]
  · rw [if_neg h1, h2, Int.add_zero]
theorem lP_in {n : Int} {K T Y : Int → Int} {t y p : Int} (hp : 0 ≤ p ∧ p ≤ 100) : 0 ≤ lP n K T Y t y p ∧ lP n K T Y t y p ≤ p := by
  have h := lst_rng (P := pP n K T Y t y) (k := p.toNat)
  rw [lP]
  omega
theorem lC_in {n : Int} {K T Y : Int → Int} {y p : Int} (hp : 0 ≤ p ∧ p ≤ 100) : 0 ≤ lC n K T Y y p ∧ lC n K T Y y p ≤ p := by
  have h := lst_rng (P := pC n K T Y y) (k := p.toNat)
  rw [lC]
  omega
theorem lP_rg {n : Int} {K T Y : Int → Int} {t y p : Int} (hp : 0 ≤ p ∧ p ≤ 100) : -2147483648 ≤ lP n K T Y t y p ∧ lP n K T Y t y p < 2147483648 := by
  have h := lP_in (n := n) (K := K) (T := T) (Y := Y) (t := t) (y := y) hp
  omega
theorem lC_rg {n : Int} {K T Y : Int → Int} {y p : Int} (hp : 0 ≤ p ∧ p ≤ 100) : -2147483648 ≤ lC n K T Y y p ∧ lC n K T Y y p < 2147483648 := by
  have h := lC_in (n := n) (K := K) (T := T) (Y := Y) (y := y) hp
  omega
/-! what a row of values becomes by the puts of a transaction ahead of a place; and by all commits up to a place -/
def apV (n : Int) (K T Y V : Int → Int) (t : Int) (W : Int → Int) (p y : Int) : Int := if lP n K T Y t y p = 0 then W y else gR n V (lP n K T Y t y p)
theorem lP_hit {n : Int} {K T Y : Int → Int} {t y r : Int} (hr : 1 ≤ r) (h : gR n T r = t ∧ gR n K r = 0 ∧ gR n Y r = y) : lP n K T Y t y r = r := lst_yes hr (by simp only [pP, Bool.and_eq_true, decide_eq_true_eq]; omega)
theorem lP_miss {n : Int} {K T Y : Int → Int} {t y r : Int} (hr : 1 ≤ r) (h : ¬ (gR n T r = t ∧ gR n K r = 0 ∧ gR n Y r = y)) : lP n K T Y t y r = lP n K T Y t y (r - 1) := lst_no hr (by simp only [pP, Bool.and_eq_false_iff, decide_eq_false_iff_not]; omega)
theorem lC_hit {n : Int} {K T Y : Int → Int} {y r : Int} (hr : 1 ≤ r) (h : gR n K r = 1 ∧ lP n K T Y (gR n T r) y r ≠ 0) : lC n K T Y y r = r := lst_yes hr (by simp only [pC, Bool.and_eq_true, decide_eq_true_eq]; exact h)
theorem lC_miss {n : Int} {K T Y : Int → Int} {y r : Int} (hr : 1 ≤ r) (h : ¬ (gR n K r = 1 ∧ lP n K T Y (gR n T r) y r ≠ 0)) : lC n K T Y y r = lC n K T Y y (r - 1) := lst_no hr (by simp only [pC, Bool.and_eq_false_iff, decide_eq_false_iff_not]; omega)
theorem ap_hit {n : Int} {K T Y V : Int → Int} {t r : Int} {W U U2 : Int → Int} (hr : 1 ≤ r) (hp : gR n T r = t ∧ gR n K r = 0) (hU : ∀ y, 0 ≤ y → y < 24 → U y = apV n K T Y V t W (r - 1) y) (h2 : U2 = if 0 ≤ gR n Y r ∧ gR n Y r < 24 then uZ U (gR n Y r) (gR n V r) else U) : ∀ y, 0 ≤ y → y < 24 → U2 y = apV n K T Y V t W r y := by
  intro y h0 h1
  by_cases hy : gR n Y r = y
  · rw [h2, if_pos (by omega), hy, uZ_s, apV, lP_hit hr ⟨hp.1, hp.2, hy⟩, if_neg (by omega)]
  · have e : U2 y = U y := by
      rw [h2]
      split
      · exact uZ_n (fun q => hy q.symm)
      · rfl
    rw [e, hU y h0 h1, apV, apV, lP_miss hr (fun q => hy q.2.2)]
theorem ap_miss {n : Int} {K T Y V : Int → Int} {t r : Int} {W U : Int → Int} (hr : 1 ≤ r) (hp : ¬ (gR n T r = t ∧ gR n K r = 0)) (hU : ∀ y, 0 ≤ y → y < 24 → U y = apV n K T Y V t W (r - 1) y) : ∀ y, 0 ≤ y → y < 24 → U y = apV n K T Y V t W r y := by
  intro y h0 h1
  rw [hU y h0 h1, apV, apV, lP_miss hr (fun q => hp ⟨q.1, q.2.1⟩)]
theorem fv_hit {n : Int} {K T Y V : Int → Int} {r : Int} {U U2 : Int → Int} (hr : 1 ≤ r) (hk : gR n K r = 1) (hU : ∀ y, 0 ≤ y → y < 24 → U y = vA n K T Y V y (r - 1)) (h2 : ∀ y, 0 ≤ y → y < 24 → U2 y = apV n K T Y V (gR n T r) U (r - 1) y) : ∀ y, 0 ≤ y → y < 24 → U2 y = vA n K T Y V y r := by
  intro y h0 h1
  have e : lP n K T Y (gR n T r) y r = lP n K T Y (gR n T r) y (r - 1) := lP_miss hr (by omega)
  rw [h2 y h0 h1, apV, hU y h0 h1]
  by_cases h : lP n K T Y (gR n T r) y (r - 1) = 0
  · rw [if_pos h, vA, vA, lC_miss hr (fun q => q.2 (by rw [e]; exact h))]
  · rw [if_neg h, vA, lC_hit hr ⟨hk, by rw [e]; exact h⟩, if_neg (by omega), e]
theorem fv_miss {n : Int} {K T Y V : Int → Int} {r : Int} {U : Int → Int} (hr : 1 ≤ r) (hk : ¬ gR n K r = 1) (hU : ∀ y, 0 ≤ y → y < 24 → U y = vA n K T Y V y (r - 1)) : ∀ y, 0 ≤ y → y < 24 → U y = vA n K T Y V y r := by
  intro y h0 h1
  rw [hU y h0 h1, vA, vA, lC_miss hr (fun q => hk q.1)]

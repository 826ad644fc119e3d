theorem fstI_hit {P : Int → Bool} {a : Int} : ∀ {k : Nat} {r : Int}, (∀ i, a ≤ i → i < r → P i = false) → P r = true → a ≤ r → r < a + k → fstI P a k = r
  | 0, r, _, _, h1, h2 => by omega
  | k + 1, r, h, hr, h1, h2 => by
    by_cases hk : r < a + k
    · have e := fstI_hit h hr h1 hk
      rw [fstI, e, if_pos hk]
    · have hk2 : r = a + k := by omega
      have e : fstI P a k = a + k := by
        clear hr h2 hk
        subst hk2
        clear h1
        induction k with
        | zero => simp [fstI]
        | succ k ih =>
          rw [fstI, ih (fun i h1 h2 => h i h1 (by omega)), if_neg (by omega), if_neg (by rw [h (a + k) (by omega) (by omega)]; decide)]
          omega
      rw [fstI, e, if_neg (by omega), ← hk2, if_pos hr]
theorem fstI_none {P : Int → Bool} {a : Int} : ∀ {k : Nat}, (∀ i, a ≤ i → i < a + k → P i = false) → fstI P a k = a + k
  | 0, _ => by simp [fstI]
  | k + 1, h => by
    rw [fstI, fstI_none (fun i h1 h2 => h i h1 (by omega)), if_neg (by omega), if_neg (by rw [h (a + k) (by omega) (by omega)]; decide)]
    omega
theorem fstI_rng {P : Int → Bool} {a : Int} : ∀ {k : Nat}, a ≤ fstI P a k ∧ fstI P a k ≤ a + k
  | 0 => by simp [fstI]
  | k + 1 => by
    have h := fstI_rng (P := P) (a := a) (k := k)
    rw [fstI]
    split
    · omega
    · split <;> omega
theorem fstI_cong {P Q : Int → Bool} {a : Int} : ∀ {k : Nat}, (∀ r, a ≤ r → r < a + k → P r = Q r) → fstI P a k = fstI Q a k
  | 0, _ => rfl
  | k + 1, h => by rw [fstI, fstI, fstI_cong (fun r h1 h2 => h r h1 (by omega)), h (a + k) (by omega) (by omega)]
theorem fstI_at {P : Int → Bool} {a : Int} : ∀ {k : Nat}, fstI P a k < a + k → P (fstI P a k) = true
  | 0, h => by simp [fstI] at h
  | k + 1, h => by
    rw [fstI] at h ⊢
    by_cases h1 : fstI P a k < a + k
    · rw [if_pos h1]
      exact fstI_at h1
    · rw [if_neg h1] at h ⊢
      by_cases h2 : P (a + k) = true
      · rw [if_pos h2]
        exact h2
      · rw [if_neg h2] at h
        omega
theorem fstI_below {P : Int → Bool} {a : Int} : ∀ {k : Nat} {i : Int}, a ≤ i → i < fstI P a k → P i = false
  | 0, i, h1, h2 => by simp [fstI] at h2; omega
  | k + 1, i, h1, h2 => by
    rw [fstI] at h2
    by_cases h3 : fstI P a k < a + k
    · rw [if_pos h3] at h2
      exact fstI_below h1 h2
    · rw [if_neg h3] at h2
      by_cases h4 : P (a + k) = true
      · rw [if_pos h4] at h2
        exact fstI_below (k := k) h1 (by omega)
      · rw [if_neg h4] at h2
        by_cases hi : i = a + k
        · rw [hi]
          simpa using h4
        · exact fstI_below (k := k) h1 (by omega)
/-! ===== a standby's row of gaps ===== -/
def gF (g : Int → Int) : Prop := ∀ j, g j = 0 ∨ g j = 1
theorem gF.rf {g : Int → Int} (h : gF g) : rF g := fun j => by
  rcases h j with e | e <;> rw [e] <;> omega
theorem gF.up {g : Int → Int} {k v : Int} (h : gF g) (hv : v = 0 ∨ v = 1) : gF (uZ g k v) := fun j => by
  by_cases hj : j = k
  · rw [hj, uZ_s]
    exact hv
  · rw [uZ_n hj]
    exact h j
def dG (g : Int → Int) (p : Int) : Int → Int := fun j => if p + 1 ≤ j ∧ j ≤ 100 then 0 else g j
theorem gF.dr {g : Int → Int} {p : Int} (h : gF g) : gF (dG g p) := fun j => by
  unfold dG
  split
  · exact Or.inl rfl
  · exact h j
def sC (g : Int → Int) : Int := cnt (fun r => decide (g r ≠ 0)) 1 100
def sW (g : Int → Int) : Int := if fstI (fun r => decide (g r ≠ 0)) 1 100 ≤ 100 then fstI (fun r => decide (g r ≠ 0)) 1 100 else 0
theorem sW_in {g : Int → Int} : 0 ≤ sW g ∧ sW g ≤ 100 := by
  have h := fstI_rng (P := fun r => decide (g r ≠ 0)) (a := 1) (k := 100)
  rw [sW]
  split <;> omega
theorem sW_rg {g : Int → Int} : -2147483648 ≤ sW g ∧ sW g < 2147483648 := by
  have h := sW_in (g := g)
  omega

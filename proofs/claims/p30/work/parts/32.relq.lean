/-! ===== what a Store's own questions answer is what the reference's do ===== -/
/-- how far the class lets a standby go -/
def okC (n : Int) (A : Int → Int) (rc : Int) (g : Int → Int) (dl t r : Int) : Bool := decide (r ≤ rc) && decide (¬ (1 ≤ r ∧ r ≤ 100 ∧ g r ≠ 0)) && decide (gR n A r ≤ t - dl)
def cg (n : Int) (A : Int → Int) (rc st : Int) (g : Int → Int) (dl p t rt : Int) : Int := if st = 0 then adv (okC n A rc g dl t) p rt.toNat else p
theorem cg_in {n : Int} {A : Int → Int} {rc st : Int} {g : Int → Int} {dl p t rt : Int} (hp : p ≤ rc) (hrt : 0 ≤ rt ∧ rt ≤ 20) : p ≤ cg n A rc st g dl p t rt ∧ cg n A rc st g dl p t rt ≤ rc ∧ cg n A rc st g dl p t rt ≤ p + 20 := by
  have h := adv_rng (P := okC n A rc g dl t) (p := p) (k := rt.toNat)
  rw [cg]
  split
  · by_cases hz : adv (okC n A rc g dl t) p rt.toNat = p
    · omega
    · have := adv_ok (P := okC n A rc g dl t) (p := p) (k := rt.toNat) (r := adv (okC n A rc g dl t) p rt.toNat) (by omega) (by omega)
      simp only [okC, Bool.and_eq_true, decide_eq_true_eq] at this
      omega
  · omega
def cu (n : Int) (A : Int → Int) (rc st : Int) (g : Int → Int) (dl p tk rt : Int) : Nat → Int
  | 0 => p
  | k + 1 => cg n A rc st g dl (cu n A rc st g dl p tk rt k) (tk + k + 1) rt
theorem cu_in {n : Int} {A : Int → Int} {rc st : Int} {g : Int → Int} {dl p tk rt : Int} (hp : 0 ≤ p ∧ p ≤ rc) (hrt : 0 ≤ rt ∧ rt ≤ 20) : ∀ k : Nat, 0 ≤ cu n A rc st g dl p tk rt k ∧ cu n A rc st g dl p tk rt k ≤ rc
  | 0 => hp
  | k + 1 => by
    have h1 := cu_in (n := n) (A := A) (st := st) (g := g) (dl := dl) (tk := tk) hp hrt k
    have h2 := cg_in (n := n) (A := A) (rc := rc) (st := st) (g := g) (dl := dl) (p := cu n A rc st g dl p tk rt k) (t := tk + k + 1) h1.2 hrt
    rw [cu]
    omega
def cF (n : Int) (A : Int → Int) (rc st : Int) (g : Int → Int) (dl p tk rt pos m : Int) : Int := fstI (fun i => decide (pos ≤ cu n A rc st g dl p tk rt i.toNat)) 0 (m + 1).toNat
def cT (n : Int) (A : Int → Int) (rc st : Int) (g : Int → Int) (dl p tk rt pos m : Int) : Int := if cF n A rc st g dl p tk rt pos m ≤ m then cF n A rc st g dl p tk rt pos m else -1000004
def cRt (n : Int) (A : Int → Int) (rc st : Int) (g : Int → Int) (dl p tk pos m : Int) : Int := if fstI (fun i => decide (cF n A rc st g dl p tk i pos m ≤ m)) 1 20 ≤ 20 then fstI (fun i => decide (cF n A rc st g dl p tk i pos m ≤ m)) 1 20 else -1000004

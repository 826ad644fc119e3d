/-! ===== the reference's state is one row of 718 numbers; what it reads there ===== -/
def oR (f : Int → Int) (r w : Int) : Int := f (5 * r + w + 213)
def oS (f : Int → Int) (b w : Int) : Int := f (3 * b + w + 12)
def oG (f : Int → Int) (b r : Int) : Int := f (100 * b + r + 17)
def mP (f : Int → Int) (t y r : Int) : Bool := decide (oR f r 0 = 0) && decide (oR f r 1 = t) && decide (oR f r 2 = y)
def mL (f : Int → Int) (t y : Int) : Int := lst (mP f t y) (f 0).toNat
def mC (f : Int → Int) (y r : Int) : Bool := decide (oR f r 0 = 1) && decide (0 < mL f (oR f r 1) y)
def mLC (f : Int → Int) (p y : Int) : Int := lst (mC f y) p.toNat
def mV (f : Int → Int) (p y : Int) : Int := if mLC f p y = 0 then 0 else oR f (mL f (oR f (mLC f p y) 1) y) 3
def mB (f : Int → Int) (a z : Int) : Int := cnt (fun r => decide (oR f r 0 = 1)) a (z + 1 - a).toNat
def mG (f : Int → Int) (b : Int) : Int := cnt (fun r => decide (oG f b r = 1)) 1 100
def mW (f : Int → Int) (b : Int) : Int := if fstI (fun r => decide (oG f b r = 1)) 1 100 ≤ 100 then fstI (fun r => decide (oG f b r = 1)) 1 100 else -1000004
def fG0 (f : Int → Int) (b p z : Int) : Int → Int := fun j => if 100 * b + p + 18 ≤ j ∧ j < z then 0 else f j
/-! what the history takes up -/
def pQ (ps : Int) : Int := if ps = 4 then 4 else ps + 1
def pS (P : Int → Int) (ps : Int) (f : Int → Int) : Int → Int := fun j => if 718 * (pQ ps - 1) ≤ j ∧ j < 718 * (pQ ps - 1) + 718 then f (j - 718 * (pQ ps - 1)) else if ps = 4 ∧ j < 2154 then P (j + 718) else P j
def chN (rn ps : Int) : Int := if rn = 0 then pQ ps else ps
def chP (rn : Int) (P : Int → Int) (ps : Int) (f : Int → Int) : Int → Int := if rn = 0 then pS P ps f else P
theorem mL_in {f : Int → Int} {t y : Int} (hn : 0 ≤ f 0 ∧ f 0 ≤ 100) : 0 ≤ mL f t y ∧ mL f t y ≤ f 0 := by
  have h := lst_rng (P := mP f t y) (k := (f 0).toNat)
  rw [mL]
  omega
theorem mLC_in {f : Int → Int} {p y : Int} (hp : 0 ≤ p ∧ p ≤ 100) : 0 ≤ mLC f p y ∧ mLC f p y ≤ p := by
  have h := lst_rng (P := mC f y) (k := p.toNat)
  rw [mLC]
  omega
theorem mL_rg {f : Int → Int} {t y : Int} (hn : 0 ≤ f 0 ∧ f 0 ≤ 100) : -2147483648 ≤ mL f t y ∧ mL f t y < 2147483648 := by
  have h := mL_in (f := f) (t := t) (y := y) hn
  omega
theorem mLC_rg {f : Int → Int} {p y : Int} (hp : 0 ≤ p ∧ p ≤ 100) : -2147483648 ≤ mLC f p y ∧ mLC f p y < 2147483648 := by
  have h := mLC_in (f := f) (p := p) (y := y) hp
  omega
theorem lst_up {P : Int → Bool} {r c c' : Int} (hr : 1 ≤ r) (hc : c = lst P (r - 1).toNat) (h : (P r = true ∧ c' = r) ∨ (¬ P r = true ∧ c' = c)) : c' = lst P (r + 1 - 1).toNat := by
  rw [show r + 1 - 1 = r by omega]
  rcases h with ⟨h1, h2⟩ | ⟨h1, h2⟩
  · rw [lst_yes hr h1, h2]
  · rw [lst_no hr (by simpa using h1), h2, hc]

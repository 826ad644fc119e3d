/-! ===== how far a standby goes ===== -/
def adv (P : Int → Bool) (p : Int) : Nat → Int
  | 0 => p
  | k + 1 => if adv P p k = p + k ∧ P (p + k + 1) = true then p + k + 1 else adv P p k
theorem adv_rng {P : Int → Bool} {p : Int} : ∀ {k : Nat}, p ≤ adv P p k ∧ adv P p k ≤ p + k
  | 0 => by simp [adv]
  | k + 1 => by
    have h := adv_rng (P := P) (p := p) (k := k)
    rw [adv]
    split <;> omega
theorem adv_stop {P : Int → Bool} {p : Int} {k : Nat} (h : adv P p k = p + k) (hn : P (p + k + 1) = false) : ∀ m : Nat, adv P p (k + m) = p + k
  | 0 => h
  | m + 1 => by
    have ih := adv_stop h hn m
    rw [← Nat.add_assoc, adv]
    by_cases hm : m = 0
    · subst hm
      rw [if_neg (fun q => by
        have := q.2
        rw [Nat.add_zero, hn] at this
        exact absurd this (by decide))]
      exact ih
    · rw [if_neg (by omega)]
      exact ih
theorem adv_go {P : Int → Bool} {p : Int} {k : Nat} (h : adv P p k = p + k) (hn : P (p + k + 1) = true) : adv P p (k + 1) = p + (k + 1 : Nat) := by
  rw [adv, if_pos ⟨h, hn⟩]
  omega
theorem adv_ok {P : Int → Bool} {p : Int} : ∀ {k : Nat} {r : Int}, p < r → r ≤ adv P p k → P r = true
  | 0, r, h1, h2 => by simp [adv] at h2; omega
  | k + 1, r, h1, h2 => by
    have h0 := adv_rng (P := P) (p := p) (k := k)
    rw [adv] at h2
    by_cases hc : adv P p k = p + k ∧ P (p + k + 1) = true
    · rw [if_pos hc] at h2
      by_cases hr : r = p + k + 1
      · rw [hr]
        exact hc.2
      · exact adv_ok (k := k) h1 (by omega)
    · rw [if_neg hc] at h2
      exact adv_ok h1 h2
theorem adv_cong {P Q : Int → Bool} {p : Int} (h : ∀ r, p < r → P r = Q r) : ∀ {k : Nat}, adv P p k = adv Q p k
  | 0 => rfl
  | k + 1 => by rw [adv, adv, adv_cong h (k := k), h (p + k + 1) (by omega)]
def ok (f : Int → Int) (b t r : Int) : Bool := decide (r ≤ oS f b 0) && decide (¬ oG f b r = 1) && decide (f 8 ≤ t - oR f r 4)
def go (f : Int → Int) (b p t rt : Int) : Int := if oS f b 2 = 0 then adv (ok f b t) p rt.toNat - p else 0
/-- what a tick wants of a state: at most T ticks so far -/
def TI (f : Int → Int) (T : Int) : Prop := rF f ∧ (0 ≤ f 1 ∧ f 1 ≤ T) ∧ (0 ≤ f 7 ∧ f 7 ≤ 20) ∧ (0 ≤ f 8 ∧ f 8 ≤ 20) ∧ (0 ≤ f 13 ∧ f 13 ≤ f 12 ∧ f 12 ≤ 100) ∧ (0 ≤ f 16 ∧ f 16 ≤ f 15 ∧ f 15 ≤ 100) ∧ (∀ r, 1 ≤ r → (r ≤ f 12 ∨ r ≤ f 15) → 0 ≤ oR f r 4 ∧ oR f r 4 ≤ 1073741823)
theorem TI.S {f : Int → Int} {T b : Int} (h : TI f T) (hb : 0 ≤ b ∧ b ≤ 1) : 0 ≤ oS f b 1 ∧ oS f b 1 ≤ oS f b 0 ∧ oS f b 0 ≤ 100 := by
  obtain ⟨-, -, -, -, h1, h2, -⟩ := h
  rcases (by omega : b = 0 ∨ b = 1) with rfl | rfl
  · exact h1
  · exact h2
theorem TI.A {f : Int → Int} {T b r : Int} (h : TI f T) (hb : 0 ≤ b ∧ b ≤ 1) (hr : 1 ≤ r) (hr2 : r ≤ oS f b 0) : 0 ≤ oR f r 4 ∧ oR f r 4 ≤ 1073741823 := by
  obtain ⟨-, -, -, -, -, -, h3⟩ := h
  rcases (by omega : b = 0 ∨ b = 1) with rfl | rfl
  · exact h3 r hr (Or.inl hr2)
  · exact h3 r hr (Or.inr hr2)
theorem go_in {f : Int → Int} {b p t rt : Int} (hp : p ≤ oS f b 0) (hrt : 0 ≤ rt ∧ rt ≤ 20) : 0 ≤ go f b p t rt ∧ go f b p t rt ≤ 20 ∧ p + go f b p t rt ≤ oS f b 0 := by
  have h := adv_rng (P := ok f b t) (p := p) (k := rt.toNat)
  rw [go]
  split
  · refine ⟨by omega, by omega, ?_⟩
    by_cases hz : adv (ok f b t) p rt.toNat = p
    · omega
    · have := adv_ok (P := ok f b t) (p := p) (k := rt.toNat) (r := adv (ok f b t) p rt.toNat) (by omega) (by omega)
      simp only [ok, Bool.and_eq_true, decide_eq_true_eq] at this
      omega
  · omega
def tkA (f : Int → Int) : Int → Int := uZ f 1 (f 1 + 1)
def tkB (f : Int → Int) : Int → Int := uZ (tkA f) 13 (f 13 + go (tkA f) 0 (oS (tkA f) 0 1) (f 1 + 1) (f 7))
def tk1 (f : Int → Int) : Int → Int := uZ (tkB f) 16 (f 16 + go (tkB f) 1 (oS (tkB f) 1 1) (f 1 + 1) (f 7))
def tkN (f : Int → Int) : Nat → Int → Int
  | 0 => f
  | k + 1 => tk1 (tkN f k)
theorem oR_up {f : Int → Int} {k v r w : Int} (h : 5 * r + w + 213 ≠ k) : oR (uZ f k v) r w = oR f r w := uZ_n h
theorem oS_up {f : Int → Int} {k v b w : Int} (h : 3 * b + w + 12 ≠ k) : oS (uZ f k v) b w = oS f b w := uZ_n h
theorem oG_up {f : Int → Int} {k v b r : Int} (h : 100 * b + r + 17 ≠ k) : oG (uZ f k v) b r = oG f b r := uZ_n h
theorem TI.a {f : Int → Int} {T : Int} (h : TI f T) (hT : T ≤ 1073741822) : TI (tkA f) (T + 1) := by
  obtain ⟨h1, h2, h3, h4, h5, h6, h7⟩ := h
  refine ⟨h1.up (by omega), ?_, ?_, ?_, ?_, ?_, fun r hr hr2 => ?_⟩
  · simp only [tkA, uZ_s]; omega
  · rw [tkA, uZ_n (by omega)]; exact h3
  · rw [tkA, uZ_n (by omega)]; exact h4
  · rw [tkA, uZ_n (by omega), uZ_n (by omega)]; exact h5
  · rw [tkA, uZ_n (by omega), uZ_n (by omega)]; exact h6
  · rw [tkA, uZ_n (by omega), uZ_n (by omega)] at hr2
    rw [tkA, oR_up (by omega)]
    exact h7 r hr hr2
theorem TI.set13 {f : Int → Int} {T v : Int} (h : TI f T) (hv : 0 ≤ v ∧ v ≤ f 12) : TI (uZ f 13 v) T := by
  obtain ⟨h1, h2, h3, h4, h5, h6, h7⟩ := h
  refine ⟨h1.up (by omega), ?_, ?_, ?_, ?_, ?_, fun r hr hr2 => ?_⟩
  · rw [uZ_n (by omega)]; exact h2
  · rw [uZ_n (by omega)]; exact h3
  · rw [uZ_n (by omega)]; exact h4
  · rw [uZ_s, uZ_n (by omega)]; omega
  · rw [uZ_n (by omega), uZ_n (by omega)]; exact h6
  · rw [uZ_n (by omega), uZ_n (by omega)] at hr2
    rw [oR_up (by omega)]
    exact h7 r hr hr2
theorem TI.set16 {f : Int → Int} {T v : Int} (h : TI f T) (hv : 0 ≤ v ∧ v ≤ f 15) : TI (uZ f 16 v) T := by
  obtain ⟨h1, h2, h3, h4, h5, h6, h7⟩ := h
  refine ⟨h1.up (by omega), ?_, ?_, ?_, ?_, ?_, fun r hr hr2 => ?_⟩
  · rw [uZ_n (by omega)]; exact h2
  · rw [uZ_n (by omega)]; exact h3
  · rw [uZ_n (by omega)]; exact h4
  · rw [uZ_n (by omega), uZ_n (by omega)]; exact h5
  · rw [uZ_s, uZ_n (by omega)]; omega
  · rw [uZ_n (by omega), uZ_n (by omega)] at hr2
    rw [oR_up (by omega)]
    exact h7 r hr hr2
theorem tkA_n {f : Int → Int} {j : Int} (h : j ≠ 1) : tkA f j = f j := by rw [tkA, uZ_n h]
theorem tkB_n {f : Int → Int} {j : Int} (h : j ≠ 1) (h2 : j ≠ 13) : tkB f j = f j := by rw [tkB, uZ_n h2, tkA_n h]
theorem TI.b {f : Int → Int} {T : Int} (h : TI f T) (hT : T ≤ 1073741822) : TI (tkB f) (T + 1) := by
  have ha := h.a hT
  have hS := ha.S (b := 0) (by omega)
  have hg := go_in (f := tkA f) (b := 0) (p := oS (tkA f) 0 1) (t := f 1 + 1) (rt := f 7) hS.2.1 h.2.2.1
  have e1 : oS (tkA f) 0 1 = f 13 := tkA_n (j := 13) (by omega)
  have e2 : oS (tkA f) 0 0 = tkA f 12 := rfl
  exact ha.set13 ⟨by omega, by omega⟩
theorem TI.t {f : Int → Int} {T : Int} (h : TI f T) (hT : T ≤ 1073741822) : TI (tk1 f) (T + 1) := by
  have ha := h.b hT
  have hS := ha.S (b := 1) (by omega)
  have hg := go_in (f := tkB f) (b := 1) (p := oS (tkB f) 1 1) (t := f 1 + 1) (rt := f 7) hS.2.1 h.2.2.1
  have e1 : oS (tkB f) 1 1 = f 16 := tkB_n (j := 16) (by omega) (by omega)
  have e2 : oS (tkB f) 1 0 = tkB f 15 := rfl
  exact ha.set16 ⟨by omega, by omega⟩
theorem TI.n {f : Int → Int} {T : Int} (h : TI f T) : ∀ (k : Nat), T + k ≤ 1073741823 → TI (tkN f k) (T + k)
  | 0, _ => by simpa [tkN] using h
  | k + 1, hk => by
    have h1 := (TI.n h k (by omega)).t (by omega)
    rw [show T + ((k + 1 : Nat) : Int) = T + k + 1 by omega]
    exact h1
def un (f : Int → Int) (b rt : Int) : Nat → Int
  | 0 => oS f b 1
  | k + 1 => un f b rt k + go f b (un f b rt k) (f 1 + k + 1) rt
theorem un_in {f : Int → Int} {T b rt : Int} (h : TI f T) (hb : 0 ≤ b ∧ b ≤ 1) (hrt : 0 ≤ rt ∧ rt ≤ 20) : ∀ k : Nat, 0 ≤ un f b rt k ∧ un f b rt k ≤ oS f b 0
  | 0 => by
    have := h.S hb
    rw [un]
    omega
  | k + 1 => by
    have h1 := un_in h hb hrt k
    have h2 := go_in (f := f) (b := b) (p := un f b rt k) (t := f 1 + k + 1) (rt := rt) h1.2 hrt
    rw [un]
    omega
def uF (f : Int → Int) (b pos rt most : Int) : Int := fstI (fun n => decide (pos ≤ un f b rt n.toNat)) 0 (most + 1).toNat
def uT (f : Int → Int) (b pos rt most : Int) : Int := if uF f b pos rt most ≤ most then uF f b pos rt most else -1000004
/-! ===== what each change answers, and what it makes of the row ===== -/
def sp_open (f : Int → Int) (k : Int) : Int × (Int → Int) := if 0 ≤ k ∧ k ≤ 2 then if 0 < f (k + 9) then (-1000002, f) else (f 3 + 1, uZ (uZ f 3 (f 3 + 1)) (k + 9) (f 3 + 1)) else (-1000001, f)
def sp_bar (f : Int → Int) (k : Int) : Int := if 0 ≤ k ∧ k ≤ 2 then if f (k + 9) = 0 then -1000002 else if f 0 = 100 then -1000003 else 0 else -1000001
def sp_write (f : Int → Int) (kd k y x : Int) : Int → Int := uZ (uZ (uZ (uZ (uZ (uZ (uZ f 0 (f 0 + 1)) (5 * f 0 + 218) kd) (5 * f 0 + 219) (f (k + 9))) (5 * f 0 + 220) y) (5 * f 0 + 221) x) (5 * f 0 + 222) (f 1)) (k + 9) (if kd = 0 then f (k + 9) else 0)
def sp_put (f : Int → Int) (k y x : Int) : Int × (Int → Int) := if (0 ≤ y ∧ y ≤ 23) ∧ 0 ≤ x ∧ x ≤ 999 then if sp_bar f k < 0 then (sp_bar f k, f) else (f 0 + 1, sp_write f 0 k y x) else (-1000001, f)
def sp_end (f : Int → Int) (kd k : Int) : Int × (Int → Int) := if sp_bar f k < 0 then (sp_bar f k, f) else (f 0 + 1, sp_write f kd k (-1000004) (-1000004))
def sp_ship (f : Int → Int) (b m : Int) : Int × (Int → Int) := if (0 ≤ b ∧ b ≤ 1) ∧ 1 ≤ m ∧ m ≤ 20 then if oS f b 2 = 1 then (-1000002, f) else (if f 0 - oS f b 0 < m then f 0 - oS f b 0 else m, uZ f (3 * b + 12) (f (3 * b + 12) + (if f 0 - oS f b 0 < m then f 0 - oS f b 0 else m))) else (-1000001, f)
def sp_lose (f : Int → Int) (b r : Int) : Int × (Int → Int) := if (0 ≤ b ∧ b ≤ 1) ∧ 1 ≤ r then if oS f b 2 = 1 ∨ oS f b 0 < r ∨ r ≤ oS f b 1 ∨ oG f b r = 1 then (-1000002, f) else (mG (uZ (uZ f (100 * b + r + 17) 1) 5 (f 5 + 1)) b, uZ (uZ f (100 * b + r + 17) 1) 5 (f 5 + 1)) else (-1000001, f)
def sp_resend (f : Int → Int) (b : Int) : Int × (Int → Int) := if 0 ≤ b ∧ b ≤ 1 then if oS f b 2 = 1 then (-1000002, f) else (mG f b, fG0 f b 0 (100 * b + 118)) else (-1000001, f)
def sp_tick (f : Int → Int) (t : Int) : Int × (Int → Int) := if 1 ≤ t ∧ t ≤ 99 then (tkN f t.toNat 13 + tkN f t.toNat 16 - f 13 - f 16, uZ (tkN f t.toNat) 6 (tkN f t.toNat 6 + (tkN f t.toNat 13 + tkN f t.toNat 16 - f 13 - f 16))) else (-1000001, f)
def sp_lay (f : Int → Int) (b p a : Int) : Int → Int := fG0 (uZ (uZ (uZ f (3 * b + 12) p) (3 * b + 13) p) (3 * b + 14) a) b 0 (100 * b + 118)
def sp_rebuild (f : Int → Int) (b : Int) : Int × (Int → Int) := if 0 ≤ b ∧ b ≤ 1 then (f 0, sp_lay f b (f 0) 0) else (-1000001, f)
def sp_set (f : Int → Int) (w x : Int) : Int × (Int → Int) := if (0 ≤ w ∧ w ≤ 1) ∧ 1 - w ≤ x ∧ x ≤ 20 then (f (w + 7), uZ f (w + 7) x) else (-1000001, f)
/-- of a promotion: counts and slots; the promoted one's place; the other one's -/
def pmA (f : Int → Int) (p lost : Int) : Int → Int := uZ (uZ (uZ (uZ (uZ (uZ f 0 p) 4 (f 4 + lost)) 2 (f 2 + 1)) 9 0) 10 0) 11 0
def pmB (f : Int → Int) (b p : Int) : Int → Int := fG0 (uZ f (15 - 3 * b) (if p < f (15 - 3 * b) then p else f (15 - 3 * b))) (1 - b) p (100 * (1 - b) + 118)
def pmC (f : Int → Int) (b p : Int) : Int → Int := if p < f (16 - 3 * b) then uZ (uZ f (16 - 3 * b) p) (17 - 3 * b) 1 else f
def sp_promote (f : Int → Int) (b : Int) : Int × (Int → Int) := if 0 ≤ b ∧ b ≤ 1 then if oS f b 2 = 1 then (-1000002, f) else (mB f (oS f b 1 + 1) (f 0), pmC (pmB (sp_lay (pmA f (oS f b 1) (mB f (oS f b 1 + 1) (f 0))) b (oS f b 1) (if oS f b 1 < f 0 then 1 else 0)) b (oS f b 1)) b (oS f b 1)) else (-1000001, f)
theorem sp_bar_rg {f : Int → Int} {k : Int} : -2147483648 ≤ sp_bar f k ∧ sp_bar f k < 2147483648 := by
  unfold sp_bar
  split
  · split
    · decide
    · split <;> decide
  · decide
theorem ch_a {P f : Int → Int} {ps k : Int} (h : ps ≠ 4) (hk : k = 718) (j : Int) : (if 718 * ps ≤ j ∧ j < 718 * ps + k then f (j - 718 * ps) else P j) = pS P ps f j := by
  have e : pQ ps - 1 = ps := by rw [pQ, if_neg h]; omega
  rw [pS, e, hk]
  by_cases h2 : 718 * ps ≤ j ∧ j < 718 * ps + 718
  · rw [if_pos h2, if_pos h2]
  · rw [if_neg h2, if_neg h2, if_neg (fun q => h q.1)]
theorem ch_b {P f U : Int → Int} {ps k : Int} (h : ps = 4) (hk : k = 718) {j : Int} (hU : U j = if j < 2154 then P (j + 718) else P j) : (if 718 * (ps - 1) ≤ j ∧ j < 718 * (ps - 1) + k then f (j - 718 * (ps - 1)) else U j) = pS P ps f j := by
  have e : pQ ps - 1 = ps - 1 := by rw [pQ, if_pos h]; omega
  rw [pS, e, hk]
  by_cases h2 : 718 * (ps - 1) ≤ j ∧ j < 718 * (ps - 1) + 718
  · rw [if_pos h2, if_pos h2]
  · rw [if_neg h2, if_neg h2, hU]
    by_cases h3 : j < 2154
    · rw [if_pos h3, if_pos ⟨h, h3⟩]
    · rw [if_neg h3, if_neg (fun q => h3 q.2)]
theorem sp_bar_ok {f : Int → Int} {k : Int} (h : 0 ≤ sp_bar f k) : (0 ≤ k ∧ k ≤ 2) ∧ f (k + 9) ≠ 0 ∧ f 0 ≠ 100 := by
  unfold sp_bar at h
  split at h
  · rename_i h1
    split at h
    · omega
    · rename_i h2
      split at h
      · omega
      · rename_i h3
        exact ⟨h1, h2, h3⟩
  · omega
/-! ===== what holds of the row in every run; B bounds the counts ===== -/
def Inv (B : Int) (f : Int → Int) : Prop :=
  rF f ∧ (0 ≤ f 0 ∧ f 0 ≤ 100) ∧ (0 ≤ f 1 ∧ f 1 ≤ B) ∧ (0 ≤ f 2 ∧ f 2 ≤ B) ∧ (0 ≤ f 3 ∧ f 3 ≤ B) ∧ (0 ≤ f 4 ∧ f 4 ≤ B) ∧ (0 ≤ f 5 ∧ f 5 ≤ B) ∧ (0 ≤ f 6 ∧ f 6 ≤ B) ∧ (1 ≤ f 7 ∧ f 7 ≤ 20) ∧ (0 ≤ f 8 ∧ f 8 ≤ 20) ∧
  (∀ k, 0 ≤ k → k ≤ 2 → 0 ≤ f (k + 9) ∧ f (k + 9) ≤ f 3) ∧ (∀ k k', 0 ≤ k → k < k' → k' ≤ 2 → f (k + 9) ≠ 0 → f (k + 9) ≠ f (k' + 9)) ∧
  (∀ b, 0 ≤ b → b ≤ 1 → 0 ≤ oS f b 1 ∧ oS f b 1 ≤ oS f b 0 ∧ oS f b 0 ≤ f 0 ∧ (oS f b 2 = 0 ∨ oS f b 2 = 1)) ∧
  (∀ b r, 0 ≤ b → b ≤ 1 → 1 ≤ r → r ≤ 100 → oG f b r = 0 ∨ (oG f b r = 1 ∧ oS f b 1 < r ∧ r ≤ oS f b 0)) ∧
  (∀ r, 1 ≤ r → r ≤ f 0 → (oR f r 0 = 0 ∨ oR f r 0 = 1 ∨ oR f r 0 = 2) ∧ 1 ≤ oR f r 1 ∧ oR f r 1 ≤ f 3 ∧ 0 ≤ oR f r 4 ∧ oR f r 4 ≤ f 1) ∧
  (∀ r, 1 ≤ r → r ≤ f 0 → oR f r 0 = 0 → (0 ≤ oR f r 2 ∧ oR f r 2 ≤ 23) ∧ 0 ≤ oR f r 3 ∧ oR f r 3 ≤ 999) ∧
  (∀ r, 1 ≤ r → r ≤ f 0 → oR f r 0 ≠ 0 → oR f r 2 = -1000004 ∧ oR f r 3 = -1000004) ∧
  (∀ r r', 1 ≤ r → r < r' → r' ≤ f 0 → oR f r 0 ≠ 0 → oR f r' 1 ≠ oR f r 1) ∧
  (∀ k r, 0 ≤ k → k ≤ 2 → 1 ≤ r → r ≤ f 0 → oR f r 0 ≠ 0 → f (k + 9) ≠ oR f r 1)
theorem Inv.rf {B : Int} {f : Int → Int} (h : Inv B f) : rF f := h.1
theorem Inv.n {B : Int} {f : Int → Int} (h : Inv B f) : 0 ≤ f 0 ∧ f 0 ≤ 100 := h.2.1
theorem Inv.tk {B : Int} {f : Int → Int} (h : Inv B f) : 0 ≤ f 1 ∧ f 1 ≤ B := h.2.2.1
theorem Inv.ln {B : Int} {f : Int → Int} (h : Inv B f) : 0 ≤ f 2 ∧ f 2 ≤ B := h.2.2.2.1
theorem Inv.tr {B : Int} {f : Int → Int} (h : Inv B f) : 0 ≤ f 3 ∧ f 3 ≤ B := h.2.2.2.2.1
theorem Inv.lc {B : Int} {f : Int → Int} (h : Inv B f) : 0 ≤ f 4 ∧ f 4 ≤ B := h.2.2.2.2.2.1
theorem Inv.lo {B : Int} {f : Int → Int} (h : Inv B f) : 0 ≤ f 5 ∧ f 5 ≤ B := h.2.2.2.2.2.2.1
theorem Inv.ap {B : Int} {f : Int → Int} (h : Inv B f) : 0 ≤ f 6 ∧ f 6 ≤ B := h.2.2.2.2.2.2.2.1
theorem Inv.rt {B : Int} {f : Int → Int} (h : Inv B f) : 1 ≤ f 7 ∧ f 7 ≤ 20 := h.2.2.2.2.2.2.2.2.1
theorem Inv.dl {B : Int} {f : Int → Int} (h : Inv B f) : 0 ≤ f 8 ∧ f 8 ≤ 20 := h.2.2.2.2.2.2.2.2.2.1
theorem Inv.sl {B : Int} {f : Int → Int} (h : Inv B f) : ∀ k, 0 ≤ k → k ≤ 2 → 0 ≤ f (k + 9) ∧ f (k + 9) ≤ f 3 := h.2.2.2.2.2.2.2.2.2.2.1
theorem Inv.sd {B : Int} {f : Int → Int} (h : Inv B f) : ∀ k k', 0 ≤ k → k < k' → k' ≤ 2 → f (k + 9) ≠ 0 → f (k + 9) ≠ f (k' + 9) := h.2.2.2.2.2.2.2.2.2.2.2.1
theorem Inv.S {B : Int} {f : Int → Int} (h : Inv B f) : ∀ b, 0 ≤ b → b ≤ 1 → 0 ≤ oS f b 1 ∧ oS f b 1 ≤ oS f b 0 ∧ oS f b 0 ≤ f 0 ∧ (oS f b 2 = 0 ∨ oS f b 2 = 1) := h.2.2.2.2.2.2.2.2.2.2.2.2.1
theorem Inv.G {B : Int} {f : Int → Int} (h : Inv B f) : ∀ b r, 0 ≤ b → b ≤ 1 → 1 ≤ r → r ≤ 100 → oG f b r = 0 ∨ (oG f b r = 1 ∧ oS f b 1 < r ∧ r ≤ oS f b 0) := h.2.2.2.2.2.2.2.2.2.2.2.2.2.1
theorem Inv.R {B : Int} {f : Int → Int} (h : Inv B f) : ∀ r, 1 ≤ r → r ≤ f 0 → (oR f r 0 = 0 ∨ oR f r 0 = 1 ∨ oR f r 0 = 2) ∧ 1 ≤ oR f r 1 ∧ oR f r 1 ≤ f 3 ∧ 0 ≤ oR f r 4 ∧ oR f r 4 ≤ f 1 := h.2.2.2.2.2.2.2.2.2.2.2.2.2.2.1
theorem Inv.Rp {B : Int} {f : Int → Int} (h : Inv B f) : ∀ r, 1 ≤ r → r ≤ f 0 → oR f r 0 = 0 → (0 ≤ oR f r 2 ∧ oR f r 2 ≤ 23) ∧ 0 ≤ oR f r 3 ∧ oR f r 3 ≤ 999 := h.2.2.2.2.2.2.2.2.2.2.2.2.2.2.2.1
theorem Inv.Re {B : Int} {f : Int → Int} (h : Inv B f) : ∀ r, 1 ≤ r → r ≤ f 0 → oR f r 0 ≠ 0 → oR f r 2 = -1000004 ∧ oR f r 3 = -1000004 := h.2.2.2.2.2.2.2.2.2.2.2.2.2.2.2.2.1
theorem Inv.Rt {B : Int} {f : Int → Int} (h : Inv B f) : ∀ r r', 1 ≤ r → r < r' → r' ≤ f 0 → oR f r 0 ≠ 0 → oR f r' 1 ≠ oR f r 1 := h.2.2.2.2.2.2.2.2.2.2.2.2.2.2.2.2.2.1
theorem Inv.Rs {B : Int} {f : Int → Int} (h : Inv B f) : ∀ k r, 0 ≤ k → k ≤ 2 → 1 ≤ r → r ≤ f 0 → oR f r 0 ≠ 0 → f (k + 9) ≠ oR f r 1 := h.2.2.2.2.2.2.2.2.2.2.2.2.2.2.2.2.2.2
theorem Inv.TI {B : Int} {f : Int → Int} (h : Inv B f) (hB : B ≤ 1073741823) : TI f B := by
  refine ⟨h.rf, h.tk, ?_, h.dl, ?_, ?_, fun r h1 h2 => ?_⟩
  · have := h.rt
    omega
  · have h0 := h.S 0 (by omega) (by omega)
    have hn := h.n
    have e0 : oS f 0 0 = f 12 := rfl
    have e1 : oS f 0 1 = f 13 := rfl
    omega
  · have h0 := h.S 1 (by omega) (by omega)
    have hn := h.n
    have e0 : oS f 1 0 = f 15 := rfl
    have e1 : oS f 1 1 = f 16 := rfl
    omega
  · have h0 := h.S 0 (by omega) (by omega)
    have h3 := h.S 1 (by omega) (by omega)
    have e0 : oS f 0 0 = f 12 := rfl
    have e1 : oS f 1 0 = f 15 := rfl
    have h4 := h.R r h1 (by omega)
    have h5 := h.tk
    omega
theorem mG_in {f : Int → Int} {b : Int} : 0 ≤ mG f b ∧ mG f b ≤ 100 := cnt_rng (P := fun r => decide (oG f b r = 1)) (a := 1) (k := 100)
theorem mB_in {f : Int → Int} {a z : Int} (h : 1 ≤ a ∧ a ≤ z + 1) : 0 ≤ mB f a z ∧ mB f a z ≤ z + 1 - a := by
  have := cnt_rng (P := fun r => decide (oR f r 0 = 1)) (a := a) (k := (z + 1 - a).toNat)
  rw [mB]
  omega
theorem go_end {f : Int → Int} {b p t rt n : Int} (h : oS f b 2 = 0) (ha : adv (ok f b t) p n.toNat = p + n) (hn : 0 ≤ n ∧ n < rt) (hok : ok f b t (p + n + 1) = false) : go f b p t rt = n := by
  have h1 := adv_stop (P := ok f b t) (p := p) (k := n.toNat) (by omega) (by rw [show p + (n.toNat : Int) + 1 = p + n + 1 by omega]; exact hok) (rt.toNat - n.toNat)
  rw [show n.toNat + (rt.toNat - n.toNat) = rt.toNat by omega] at h1
  rw [go, if_pos h, h1]
  omega
theorem go_more {f : Int → Int} {b p t n : Int} (ha : adv (ok f b t) p n.toNat = p + n) (hn : 0 ≤ n) (hok : ok f b t (p + n + 1) = true) : adv (ok f b t) p (n + 1).toNat = p + (n + 1) := by
  have h1 := adv_go (P := ok f b t) (p := p) (k := n.toNat) (by omega) (by rw [show p + (n.toNat : Int) + 1 = p + n + 1 by omega]; exact hok)
  rw [show (n + 1).toNat = n.toNat + 1 by omega, h1]
  omega
theorem go_full {f : Int → Int} {b p t rt : Int} (h : oS f b 2 = 0) (ha : adv (ok f b t) p rt.toNat = p + rt) : go f b p t rt = rt := by
  rw [go, if_pos h, ha]
  omega
theorem lk_none : ∀ {l : List (Int × Int)} {d z : Int}, l.all (fun p => p.1 != z) = true → Op.lookupswitch.offset l d z = d
  | [], _, _, _ => rfl
  | (a, o) :: l, d, z, h => by
    simp only [List.all_cons, Bool.and_eq_true, bne_iff_ne, ne_eq] at h
    show (if a = z then o else Op.lookupswitch.offset l d z) = d
    rw [if_neg h.1]
    exact lk_none h.2
/-! ===== what each question answers ===== -/
def sp_read (f : Int → Int) (b y e : Int) : Int := if (0 ≤ b ∧ b ≤ 1) ∧ (0 ≤ y ∧ y ≤ 23) ∧ 0 ≤ e ∧ e ≤ f 0 then if oS f b 2 = 0 ∧ e ≤ oS f b 1 then mV f (oS f b 1) y else -1000002 else -1000001
def sp_prim (f : Int → Int) (k y : Int) : Int := if (-1 ≤ k ∧ k ≤ 2) ∧ 0 ≤ y ∧ y ≤ 23 then if 0 ≤ k ∧ f (k + 9) = 0 then -1000002 else if 0 ≤ k ∧ 0 < mL f (f (k + 9)) y then oR f (mL f (f (k + 9)) y) 3 else mV f (f 0) y else -1000001
def sp_srv (f : Int → Int) (e : Int) : Int := if 0 ≤ e ∧ e ≤ f 0 then if oS f 0 2 = 0 ∧ e ≤ oS f 0 1 then (if (oS f 1 2 = 0 ∧ e ≤ oS f 1 1) ∧ oS f 0 1 < oS f 1 1 then 1 else 0) else if oS f 1 2 = 0 ∧ e ≤ oS f 1 1 then 1 else -1000004 else -1000001
def sp_fence (f : Int → Int) (y : Int) : Int := if 0 ≤ y ∧ y ≤ 23 then if mLC f (f 0) y = 0 then -1000004 else mLC f (f 0) y else -1000001
def sp_rec (f : Int → Int) (r w : Int) : Int := if 1 ≤ r ∧ 0 ≤ w ∧ w ≤ 4 then if f 0 < r then -1000004 else oR f r w else -1000001
def mU (f : Int → Int) (b : Int) : Int := cnt (fun y => decide (mV f (oS f b 1) y ≠ mV f (f 0) y)) 0 24
def sp_stb (f : Int → Int) (b w : Int) : Int := if (0 ≤ b ∧ b ≤ 1) ∧ 0 ≤ w ∧ w ≤ 8 then
    if w = 0 then oS f b 0 else if w = 1 then oS f b 1 else if w = 2 then mG f b else if w = 3 then mW f b else if w = 4 then oS f b 2 else if w = 5 then f 0 - oS f b 1 else if w = 6 then mB f (oS f b 1 + 1) (f 0) else if w = 7 then (if oS f b 1 = f 0 then -1000004 else f 1 - oR f (oS f b 1 + 1) 4) else mU f b
  else -1000001
def mO (f : Int → Int) (t : Int) : Int := cnt (fun r => decide (oR f r 0 = 0) && decide (oR f r 1 = t)) 1 (f 0).toNat
def sp_slot (f : Int → Int) (k w : Int) : Int := if (0 ≤ k ∧ k ≤ 2) ∧ 0 ≤ w ∧ w ≤ 1 then if f (k + 9) = 0 then -1000004 else if w = 0 then f (k + 9) else mO f (f (k + 9)) else -1000001
def sp_wait (f : Int → Int) (b e : Int) : Int := if (0 ≤ b ∧ b ≤ 1) ∧ 0 ≤ e ∧ e ≤ f 0 then if oS f b 2 = 1 then -1000002 else uT f b e (f 7) 200 else -1000001
def sp_wl (f : Int → Int) (b : Int) : Int := if 0 ≤ b ∧ b ≤ 1 then if oS f b 2 = 1 then -1000002 else mB f (oS f b 1 + 1) (f 0) else -1000001
def goalOf (f : Int → Int) (b : Int) : Int := if mW f b < 0 then oS f b 0 else mW f b - 1
def rtF (f : Int → Int) (b g t : Int) : Int := fstI (fun i => decide (0 ≤ uT f b g i t)) 1 20
def sp_rate (f : Int → Int) (b t : Int) : Int := if (0 ≤ b ∧ b ≤ 1) ∧ 1 ≤ t ∧ t ≤ 99 then if oS f b 2 = 1 then -1000002 else if rtF f b (goalOf f b) t ≤ 20 then rtF f b (goalOf f b) t else -1000004 else -1000001
def sp_count (f : Int → Int) (ps ty w : Int) : Int := if 0 ≤ w ∧ w ≤ 3 then f w else if w = 4 then mB f 1 (f 0) else if 5 ≤ w ∧ w ≤ 7 then f (w - 1) else if w = 8 then ps else if w = 9 then ty else if 20 ≤ w ∧ w ≤ 21 then f (w - 13) else -1000001
def undF (P : Int → Int) (q : Int) : Int → Int := fun j => P (718 * q + j)
theorem mW_rg {f : Int → Int} {b : Int} : mW f b = -1000004 ∨ (1 ≤ mW f b ∧ mW f b ≤ 100) := by
  have h := fstI_rng (P := fun r => decide (oG f b r = 1)) (a := 1) (k := 100)
  rw [mW]
  split <;> omega
theorem mW_r {f : Int → Int} {b : Int} : -2147483648 ≤ mW f b ∧ mW f b < 2147483648 := by
  have h := mW_rg (f := f) (b := b)
  omega
theorem uT_rg {f : Int → Int} {b p rt m : Int} : uT f b p rt m = -1000004 ∨ (0 ≤ uT f b p rt m ∧ uT f b p rt m ≤ m) := by
  have h := fstI_rng (P := fun n => decide (p ≤ un f b rt n.toNat)) (a := 0) (k := (m + 1).toNat)
  rw [uT]
  unfold uF
  split <;> omega
theorem sp_lay_lo {f : Int → Int} {b p a j : Int} (hb : 0 ≤ b) (hj : j < 12) : sp_lay f b p a j = f j := by
  rw [sp_lay, fG0, if_neg (by omega), uZ_n (by omega), uZ_n (by omega), uZ_n (by omega)]
theorem tk1_13 {f : Int → Int} : tk1 f 13 = f 13 + go (tkA f) 0 (oS (tkA f) 0 1) (f 1 + 1) (f 7) := by rw [tk1, uZ_n (by omega), tkB, uZ_s]
theorem tk1_16 {f : Int → Int} : tk1 f 16 = f 16 + go (tkB f) 1 (oS (tkB f) 1 1) (f 1 + 1) (f 7) := by rw [tk1, uZ_s]
theorem tk1_up {f : Int → Int} {T : Int} (h : TI f T) (hT : T ≤ 1073741822) : f 13 ≤ tk1 f 13 ∧ f 16 ≤ tk1 f 16 := by
  have hSa := (h.a hT).S (b := 0) (by omega)
  have hSb := (h.b hT).S (b := 1) (by omega)
  have hga := go_in (f := tkA f) (b := 0) (p := oS (tkA f) 0 1) (t := f 1 + 1) (rt := f 7) hSa.2.1 h.2.2.1
  have hgb := go_in (f := tkB f) (b := 1) (p := oS (tkB f) 1 1) (t := f 1 + 1) (rt := f 7) hSb.2.1 h.2.2.1
  rw [tk1_13, tk1_16]
  omega
theorem tkN_up {f : Int → Int} {T : Int} (h : TI f T) : ∀ (k : Nat), T + k ≤ 1073741823 → f 13 ≤ tkN f k 13 ∧ f 16 ≤ tkN f k 16
  | 0, _ => ⟨Int.le_refl _, Int.le_refl _⟩
  | k + 1, hk => by
    have h1 := tkN_up h k (by omega)
    have h2 := tk1_up (h.n k (by omega)) (by omega)
    rw [tkN]
    omega
theorem rF_G0 {f : Int → Int} {b p z : Int} (h : rF f) : rF (fG0 f b p z) := fun j => by
  unfold fG0
  split
  · omega
  · exact h j
theorem rF_lay {f : Int → Int} {b p a : Int} (h : rF f) (hp : -2147483648 ≤ p ∧ p < 2147483648) (ha : -2147483648 ≤ a ∧ a < 2147483648) : rF (sp_lay f b p a) := rF_G0 (((h.up hp).up hp).up ha)
theorem rF_pmB {f : Int → Int} {b p : Int} (h : rF f) (hp : -2147483648 ≤ p ∧ p < 2147483648) : rF (pmB f b p) := rF_G0 (h.up (by
  split
  · exact hp
  · exact h _))
theorem mV_r {f : Int → Int} {p y : Int} (h : rF f) : -2147483648 ≤ mV f p y ∧ mV f p y < 2147483648 := by
  unfold mV
  split
  · omega
  · exact h _

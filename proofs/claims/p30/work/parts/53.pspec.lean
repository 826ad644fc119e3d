/-! ===== the law's own log and its sets of gaps, beside a state ===== -/
def rkF (f : Int → Int) (k : Int) : Int := oR f k 0 + 4 * (if oR f k 0 = 0 then oR f k 2 else 0) + 128 * (if oR f k 0 = 0 then oR f k 3 else 0) + 128000 * oR f k 1 + 128000000 * oR f k 4
def RR (f : Int → Int) (lr : Int → Nat) : Prop := ∀ k : Int, 1 ≤ k → k ≤ f 0 → (lr k : Int) = rkF f k
/-- the bounds that this law's runs keep -/
def PI (B : Int) (f : Int → Int) : Prop := Inv B f ∧ B ≤ 1000000 ∧ f 0 ≤ 61 ∧ f 3 ≤ 900
theorem rk_all {B : Int} {f : Int → Int} {lr : Int → Nat} {k : Int} (h : PI B f) (hr : RR f lr) (h0 : 1 ≤ k) (h1 : k ≤ f 0) : lr k < 9223372036854775808 ∧ (((lr k) % 4 : Nat) : Int) = oR f k 0 ∧ ((((lr k) / 4) % 32 : Nat) : Int) = (if oR f k 0 = 0 then oR f k 2 else 0) ∧ ((((lr k) / 128) % 1000 : Nat) : Int) = (if oR f k 0 = 0 then oR f k 3 else 0) ∧ ((((lr k) / 128000) % 1000 : Nat) : Int) = oR f k 1 ∧ (((lr k) / 128000000 : Nat) : Int) = oR f k 4 := by
  obtain ⟨hI, hB, hn, ht⟩ := h
  have e := hr k h0 h1
  have hR := hI.R k h0 h1
  have hk := hI.tk
  rw [rkF] at e
  by_cases hz : oR f k 0 = 0
  · have hp := hI.Rp k h0 h1 hz
    rw [if_pos hz, if_pos hz] at e
    rw [if_pos hz, if_pos hz]
    omega
  · rw [if_neg hz, if_neg hz] at e
    rw [if_neg hz, if_neg hz]
    omega
theorem rk_lt {B : Int} {f : Int → Int} {lr : Int → Nat} {k : Int} (h : PI B f) (hr : RR f lr) (h0 : 1 ≤ k) (h1 : k ≤ f 0) : lr k < 9223372036854775808 := (rk_all h hr h0 h1).1
theorem rk_kd {B : Int} {f : Int → Int} {lr : Int → Nat} {k : Int} (h : PI B f) (hr : RR f lr) (h0 : 1 ≤ k) (h1 : k ≤ f 0) : (((lr k) % 4 : Nat) : Int) = oR f k 0 := (rk_all h hr h0 h1).2.1
theorem rk_y {B : Int} {f : Int → Int} {lr : Int → Nat} {k : Int} (h : PI B f) (hr : RR f lr) (h0 : 1 ≤ k) (h1 : k ≤ f 0) : ((((lr k) / 4) % 32 : Nat) : Int) = (if oR f k 0 = 0 then oR f k 2 else 0) := (rk_all h hr h0 h1).2.2.1
theorem rk_x {B : Int} {f : Int → Int} {lr : Int → Nat} {k : Int} (h : PI B f) (hr : RR f lr) (h0 : 1 ≤ k) (h1 : k ≤ f 0) : ((((lr k) / 128) % 1000 : Nat) : Int) = (if oR f k 0 = 0 then oR f k 3 else 0) := (rk_all h hr h0 h1).2.2.2.1
theorem rk_t {B : Int} {f : Int → Int} {lr : Int → Nat} {k : Int} (h : PI B f) (hr : RR f lr) (h0 : 1 ≤ k) (h1 : k ≤ f 0) : ((((lr k) / 128000) % 1000 : Nat) : Int) = oR f k 1 := (rk_all h hr h0 h1).2.2.2.2.1
theorem rk_a {B : Int} {f : Int → Int} {lr : Int → Nat} {k : Int} (h : PI B f) (hr : RR f lr) (h0 : 1 ≤ k) (h1 : k ≤ f 0) : (((lr k) / 128000000 : Nat) : Int) = oR f k 4 := (rk_all h hr h0 h1).2.2.2.2.2
theorem RR.cong {f f2 : Int → Int} {lr : Int → Nat} (h : RR f lr) (h0 : f2 0 ≤ f 0) (hc : ∀ r w : Int, 1 ≤ r → r ≤ f2 0 → 0 ≤ w → w ≤ 4 → oR f2 r w = oR f r w) : RR f2 lr := fun k a b => by
  have e := h k a (by omega)
  rw [rkF] at e ⊢
  rw [hc k 0 a b (by omega) (by omega), hc k 1 a b (by omega) (by omega), hc k 2 a b (by omega) (by omega), hc k 3 a b (by omega) (by omega), hc k 4 a b (by omega) (by omega)]
  exact e
/-- a record as the law writes it -/
def wrN (kd y x t a : Int) : Nat := (kd : Int).toNat + 4 * (y : Int).toNat + 128 * (x : Int).toNat + 128000 * (t : Int).toNat + 128000000 * (a : Int).toNat
theorem RR.write {f : Int → Int} {lr : Int → Nat} {kd k y x y2 x2 : Int} (h : RR f lr) (hn : 0 ≤ f 0) (hk : 0 ≤ k ∧ k ≤ 2) (hkd : (kd = 0 ∧ y2 = y ∧ x2 = x) ∨ (kd ≠ 0 ∧ 0 ≤ kd ∧ y2 = 0 ∧ x2 = 0)) (hy : 0 ≤ y2) (hx : 0 ≤ x2) (ht : 0 ≤ f (k + 9)) (ha : 0 ≤ f 1) : RR (sp_write f kd k y x) (uLg lr (f 0 + 1) (wrN kd y2 x2 (f (k + 9)) (f 1))) := by
  have e0 : sp_write f kd k y x 0 = f 0 + 1 := by
    rw [sp_write, uZ_n (by omega), uZ_n (by omega), uZ_n (by omega), uZ_n (by omega), uZ_n (by omega), uZ_n (by omega), uZ_s]
  intro j h1 h2
  rw [e0] at h2
  by_cases hj : j = f 0 + 1
  · rw [hj, uLg_s, rkF]
    have a0 : oR (sp_write f kd k y x) (f 0 + 1) 0 = kd := by
      rw [oR, sp_write, uZ_n (by omega), uZ_n (by omega), uZ_n (by omega), uZ_n (by omega), uZ_n (by omega), show 5 * (f 0 + 1) + 0 + 213 = 5 * f 0 + 218 by omega, uZ_s]
    have a1 : oR (sp_write f kd k y x) (f 0 + 1) 1 = f (k + 9) := by
      rw [oR, sp_write, uZ_n (by omega), uZ_n (by omega), uZ_n (by omega), uZ_n (by omega), show 5 * (f 0 + 1) + 1 + 213 = 5 * f 0 + 219 by omega, uZ_s]
    have a2 : oR (sp_write f kd k y x) (f 0 + 1) 2 = y := by
      rw [oR, sp_write, uZ_n (by omega), uZ_n (by omega), uZ_n (by omega), show 5 * (f 0 + 1) + 2 + 213 = 5 * f 0 + 220 by omega, uZ_s]
    have a3 : oR (sp_write f kd k y x) (f 0 + 1) 3 = x := by
      rw [oR, sp_write, uZ_n (by omega), uZ_n (by omega), show 5 * (f 0 + 1) + 3 + 213 = 5 * f 0 + 221 by omega, uZ_s]
    have a4 : oR (sp_write f kd k y x) (f 0 + 1) 4 = f 1 := by
      rw [oR, sp_write, uZ_n (by omega), show 5 * (f 0 + 1) + 4 + 213 = 5 * f 0 + 222 by omega, uZ_s]
    rw [a0, a1, a2, a3, a4, wrN]
    rcases hkd with ⟨g1, g2, g3⟩ | ⟨g1, g2, g3, g4⟩
    · rw [if_pos g1, if_pos g1]
      omega
    · rw [if_neg g1, if_neg g1]
      omega
  · rw [uLg_n hj, h j h1 (by omega)]
    have ew : ∀ w : Int, 0 ≤ w → w ≤ 4 → oR (sp_write f kd k y x) j w = oR f j w := fun w w0 w1 => by
      rw [oR, sp_write, uZ_n (by omega), uZ_n (by omega), uZ_n (by omega), uZ_n (by omega), uZ_n (by omega), uZ_n (by omega), uZ_n (by omega)]
      rfl
    rw [rkF, rkF, ew 0 (by omega) (by omega), ew 1 (by omega) (by omega), ew 2 (by omega) (by omega), ew 3 (by omega) (by omega), ew 4 (by omega) (by omega)]
/-! ===== sets of gaps as bits ===== -/
def BM (f : Int → Int) (b : Int) (m : Nat) : Prop := m < 4611686018427387904 ∧ ∀ j : Int, 0 ≤ j → j < 62 → (m / 2 ^ j.toNat % 2 = 1 ↔ 1 ≤ j ∧ oG f b j = 1)
theorem tb_iff {m i : Nat} : m.testBit i = true ↔ m / 2 ^ i % 2 = 1 := by
  rw [Nat.testBit_eq_decide_div_mod_eq, decide_eq_true_eq]
theorem BM.bit {f : Int → Int} {b k : Int} {m : Nat} (h : BM f b m) (h2 : ¬ oG f b 62 = 1) (h0 : 1 ≤ k) (h1 : k ≤ 62) : m / 2 ^ k.toNat % 2 = 1 ↔ oG f b k = 1 := by
  by_cases hk : k = 62
  · have e : m / 2 ^ k.toNat = 0 := by
      rw [hk]
      exact Nat.div_eq_of_lt h.1
    rw [e, hk]
    constructor
    · intro q
      cases q
    · intro q
      exact absurd q h2
  · have h3 := h.2 k (by omega) (by omega)
    rw [h3]
    constructor
    · exact fun q => q.2
    · exact fun q => ⟨h0, q⟩
theorem BM.zero {f : Int → Int} {b : Int} (h : ∀ r : Int, 1 ≤ r → r < 62 → ¬ oG f b r = 1) : BM f b 0 := by
  refine ⟨by decide, fun j h0 h1 => ?_⟩
  rw [Nat.zero_div]
  constructor
  · intro q
    cases q
  · intro q
    exact absurd q.2 (h j q.1 h1)
theorem BM.cong {f f2 : Int → Int} {b : Int} {m : Nat} (h : BM f b m) (hc : ∀ r : Int, 1 ≤ r → r < 62 → (oG f2 b r = 1 ↔ oG f b r = 1)) : BM f2 b m := by
  refine ⟨h.1, fun j h0 h1 => ?_⟩
  rw [h.2 j h0 h1]
  by_cases hj : 1 ≤ j
  · have := hc j hj h1
    omega
  · omega
theorem BM.set {f f2 : Int → Int} {b r : Int} {m : Nat} (h : BM f b m) (h1 : 1 ≤ r) (h2 : r < 62) (hc : ∀ q : Int, 1 ≤ q → q < 62 → (oG f2 b q = 1 ↔ (q = r ∨ oG f b q = 1))) : BM f2 b (m ||| 1 * 2 ^ (r : Int).toNat) := by
  rw [Nat.one_mul]
  refine ⟨Nat.or_lt_two_pow (n := 62) h.1 (Nat.pow_lt_pow_right (by decide) (by omega)), fun j j0 j1 => ?_⟩
  rw [← tb_iff, Nat.testBit_or, Bool.or_eq_true, tb_iff, h.2 j j0 j1, Nat.testBit_two_pow, decide_eq_true_eq]
  by_cases hj : 1 ≤ j
  · have := hc j hj j1
    omega
  · omega
theorem BM.cut {f f2 : Int → Int} {b p : Int} {m : Nat} (h : BM f b m) (h1 : 0 ≤ p) (h2 : p < 62) (hc : ∀ q : Int, 1 ≤ q → q < 62 → (oG f2 b q = 1 ↔ (q ≤ p ∧ oG f b q = 1))) : BM f2 b (m &&& (2 * 2 ^ (p : Int).toNat - 1)) := by
  rw [Nat.mul_comm 2, ← Nat.pow_succ, Nat.and_two_pow_sub_one_eq_mod]
  refine ⟨Nat.lt_of_le_of_lt (Nat.mod_le _ _) h.1, fun j j0 j1 => ?_⟩
  rw [← tb_iff, Nat.testBit_mod_two_pow, Bool.and_eq_true, tb_iff, h.2 j j0 j1, decide_eq_true_eq]
  by_cases hj : 1 ≤ j
  · have := hc j hj j1
    omega
  · omega
/-! ===== how many bits ===== -/
def pcN : Nat → Nat → Nat
  | 0, _ => 0
  | k + 1, m => m % 2 + pcN k (m / 2)
theorem pcN_0 : ∀ k : Nat, pcN k 0 = 0
  | 0 => rfl
  | k + 1 => by rw [pcN, Nat.zero_div, pcN_0 k]
theorem pcN_step : ∀ (k m : Nat), ¬ m = 0 → m < 2 ^ k → pcN k (m &&& (m - 1)) + 1 = pcN k m
  | 0, m, h0, h => by
    rw [Nat.pow_zero] at h
    omega
  | k + 1, m, h0, h => by
    rw [Nat.pow_succ] at h
    have e3 := Nat.and_mod_two_eq_one (a := m) (b := m - 1)
    have e2 : (m &&& (m - 1)) % 2 = 0 := by
      rcases Nat.mod_two_eq_zero_or_one (m &&& (m - 1)) with q | q
      · exact q
      · have := e3.mp q
        omega
    rw [pcN, pcN, Nat.and_div_two, e2]
    by_cases ho : m % 2 = 1
    · rw [show (m - 1) / 2 = m / 2 by omega, Nat.and_self, ho]
      omega
    · have ih := pcN_step k (m / 2) (by omega) (by omega)
      rw [show (m - 1) / 2 = m / 2 - 1 by omega]
      omega
theorem pcN_le : ∀ (k m : Nat), pcN k m ≤ k
  | 0, _ => Nat.le_refl 0
  | k + 1, m => by
    have h := pcN_le k (m / 2)
    rw [pcN]
    omega
theorem pcN_rg {m : Nat} : -2147483648 ≤ ((pcN 62 m : Nat) : Int) ∧ ((pcN 62 m : Nat) : Int) < 2147483648 := by
  have h := pcN_le 62 m
  omega
theorem cnt_head {P : Int → Bool} {a : Int} : ∀ k : Nat, cnt P a (k + 1) = (if P a then 1 else 0) + cnt P (a + 1) k
  | 0 => by
    rw [cnt_s, cnt, cnt, show a + ((0 : Nat) : Int) = a by omega]
    omega
  | k + 1 => by
    rw [cnt_s, cnt_head k, cnt_s (P := P) (a := a + 1), show a + ((k + 1 : Nat) : Int) = a + 1 + (k : Int) by omega]
    omega
theorem cnt_shift {P : Int → Bool} {a : Int} : ∀ k : Nat, cnt P (a + 1) k = cnt (fun j => P (j + 1)) a k
  | 0 => rfl
  | k + 1 => by rw [cnt_s, cnt_s, cnt_shift k, show a + 1 + (k : Int) = a + (k : Int) + 1 by omega]
theorem cnt_more {P : Int → Bool} {a : Int} {k : Nat} : ∀ m : Nat, (∀ r : Int, a + k ≤ r → r < a + k + m → P r = false) → cnt P a (k + m) = cnt P a k
  | 0, _ => rfl
  | m + 1, h => by
    rw [show k + (m + 1) = k + m + 1 by omega, cnt_s, cnt_more m (fun r h1 h2 => h r h1 (by omega)), h (a + ((k + m : Nat) : Int)) (by omega) (by omega)]
    show cnt P a k + 0 = cnt P a k
    omega
theorem pcN_cnt : ∀ (k m : Nat), (pcN k m : Int) = cnt (fun j => decide (m / 2 ^ j.toNat % 2 = 1)) 0 k
  | 0, m => rfl
  | k + 1, m => by
    have e : cnt (fun j => decide (m / 2 / 2 ^ j.toNat % 2 = 1)) 0 k = cnt (fun j => decide (m / 2 ^ (j + 1).toNat % 2 = 1)) 0 k := cnt_cong (fun r h1 h2 => by
      show decide _ = decide _
      rw [show (r + 1).toNat = r.toNat + 1 by omega, Nat.pow_succ, Nat.div_div_eq_div_mul, Nat.mul_comm 2])
    have e1 : (if decide (m / 2 ^ (0 : Int).toNat % 2 = 1) = true then (1 : Int) else 0) = ((m % 2 : Nat) : Int) := by
      rw [show m / 2 ^ (0 : Int).toNat = m from Nat.div_one m]
      by_cases q : m % 2 = 1
      · rw [if_pos (decide_eq_true q), q]
        rfl
      · rw [if_neg (by rw [decide_eq_false q]; decide)]
        omega
    rw [pcN, Int.natCast_add, pcN_cnt k (m / 2), cnt_head, cnt_shift, e1, e]
theorem BM.ones {f : Int → Int} {b : Int} {m : Nat} (h : BM f b m) (hz : ∀ r : Int, 62 ≤ r → r ≤ 100 → ¬ oG f b r = 1) : ((pcN 62 m : Nat) : Int) = mG f b := by
  rw [pcN_cnt, show (62 : Nat) = 61 + 1 by rfl, cnt_head, mG, show (100 : Nat) = 61 + 39 by rfl, cnt_more 39 (fun r h1 h2 => decide_eq_false (hz r (by omega) (by omega)))]
  have e0 : ¬ m / 2 ^ (0 : Int).toNat % 2 = 1 := fun q => by
    have := (h.2 0 (by omega) (by omega)).mp q
    omega
  rw [if_neg (by rw [decide_eq_false e0]; decide)]
  have e1 : cnt (fun j => decide (m / 2 ^ j.toNat % 2 = 1)) (0 + 1) 61 = cnt (fun r => decide (oG f b r = 1)) 1 61 := cnt_cong (fun r h1 h2 => by
    have := h.2 r (by omega) (by omega)
    show decide _ = decide _
    rw [decide_eq_decide, this]
    omega)
  rw [e1]
  omega
/-! ===== the lowest gap, sought from above ===== -/
def lwF (f : Int → Int) (b k lo : Int) : Prop := (lo = -1000004 ∧ ∀ j : Int, k < j → j ≤ 62 → ¬ oG f b j = 1) ∨ ((k < lo ∧ lo ≤ 62) ∧ oG f b lo = 1 ∧ ∀ j : Int, k < j → j < lo → ¬ oG f b j = 1)
theorem lwF.hit {f : Int → Int} {b k lo : Int} (h : lwF f b k lo) (h1 : 1 ≤ k ∧ k ≤ 62) (hg : oG f b k = 1) : lwF f b (k - 1) k := Or.inr ⟨by omega, hg, fun j j0 j1 => by omega⟩
theorem lwF.miss {f : Int → Int} {b k lo : Int} (h : lwF f b k lo) (h1 : 1 ≤ k ∧ k ≤ 62) (hg : ¬ oG f b k = 1) : lwF f b (k - 1) lo := by
  rcases h with ⟨a1, a2⟩ | ⟨a1, a2, a3⟩
  · refine Or.inl ⟨a1, fun j j0 j1 => ?_⟩
    by_cases e : j = k
    · rw [e]
      exact hg
    · exact a2 j (by omega) j1
  · refine Or.inr ⟨by omega, a2, fun j j0 j1 => ?_⟩
    by_cases e : j = k
    · rw [e]
      exact hg
    · exact a3 j (by omega) j1
theorem lwF.done {f : Int → Int} {b lo : Int} (h : lwF f b 0 lo) (hz : ∀ r : Int, 62 ≤ r → r ≤ 100 → ¬ oG f b r = 1) : lo = mW f b := by
  rcases h with ⟨a1, a2⟩ | ⟨a1, a2, a3⟩
  · rw [mW, fstI_none (fun i h1 h2 => ?_), if_neg (by omega), a1]
    by_cases e : i ≤ 62
    · exact decide_eq_false (a2 i (by omega) e)
    · exact decide_eq_false (hz i (by omega) (by omega))
  · rw [mW, fstI_hit (r := lo) (fun i h1 h2 => decide_eq_false (a3 i (by omega) h2)) (decide_eq_true a2) (by omega) (by omega), if_pos (by omega)]
/-! ===== all of it ===== -/
def LR (f : Int → Int) (lr lm : Int → Nat) : Prop := RR f lr ∧ BM f 0 (lm 0) ∧ BM f 1 (lm 1)
theorem LR.b {f : Int → Int} {lr lm : Int → Nat} (h : LR f lr lm) {b : Int} (hb : 0 ≤ b ∧ b ≤ 1) : BM f b (lm b) := by
  rcases (by omega : b = 0 ∨ b = 1) with e | e
  · rw [e]
    exact h.2.1
  · rw [e]
    exact h.2.2
theorem PI.gz {B : Int} {f : Int → Int} (h : PI B f) {b : Int} (hb : 0 ≤ b ∧ b ≤ 1) : ∀ r : Int, 62 ≤ r → r ≤ 100 → ¬ oG f b r = 1 := fun r h1 h2 q => by
  have a := h.1.G b r hb.1 hb.2 (by omega) h2
  have c := h.1.S b hb.1 hb.2
  have d := h.2.2.1
  omega
theorem PI.ones {B : Int} {f : Int → Int} {lr lm : Int → Nat} (h : PI B f) (hL : LR f lr lm) {b : Int} (hb : 0 ≤ b ∧ b ≤ 1) : ((pcN 62 (lm b) : Nat) : Int) = mG f b := (hL.b hb).ones (h.gz hb)
theorem PI.bit {B : Int} {f : Int → Int} {lr lm : Int → Nat} (h : PI B f) (hL : LR f lr lm) {b k : Int} (hb : 0 ≤ b ∧ b ≤ 1) (h0 : 1 ≤ k) (h1 : k ≤ 62) : lm b / 2 ^ k.toNat % 2 = 1 ↔ oG f b k = 1 := (hL.b hb).bit (h.gz hb 62 (by omega) (by omega)) h0 h1

/-! ===== what an act makes of a state, and what the law keeps beside it ===== -/
def NX (B : Int) (f f2 : Int → Int) (lr lm : Int → Nat) : Prop := Inv (B + 300) f2 ∧ LR f2 lr lm ∧ f2 0 ≤ 61 ∧ f2 3 ≤ f 3 + 1
theorem NX.rf {B : Int} {f : Int → Int} {lr lm : Int → Nat} (hP : PI B f) (hL : LR f lr lm) : NX B f f lr lm := ⟨hP.1.mono (by omega), hL, hP.2.2.1, by omega⟩
theorem HRel.mono {B B2 : Int} {P : Int → Int} {ps : Int} {S : Nat → Nat → Nat} {Q : Nat → Option Nat} {p : Nat → Nat} {cs : Nat → Nat → Int} {Fs : Nat → Nat → Int → Int} (h : HRel B P ps S Q p cs Fs) (hB : B ≤ B2) : HRel B2 P ps S Q p cs Fs := by
  obtain ⟨h1, h2, h3, h4, h5, h6, h7⟩ := h
  exact ⟨h1, h2, h3, h4, h5, fun i a b => ⟨(h6 i a b).1, (h6 i a b).2.mono hB⟩, h7⟩
theorem LR.cong {f f2 : Int → Int} {lr lm : Int → Nat} (h : LR f lr lm) (h0 : f2 0 ≤ f 0) (hc : ∀ r w : Int, 1 ≤ r → r ≤ f2 0 → 0 ≤ w → w ≤ 4 → oR f2 r w = oR f r w) (hg : ∀ b r : Int, 0 ≤ b → b ≤ 1 → 1 ≤ r → r < 62 → (oG f2 b r = 1 ↔ oG f b r = 1)) : LR f2 lr lm :=
  ⟨h.1.cong h0 hc, h.2.1.cong (hg 0 · (by omega) (by omega)), h.2.2.cong (hg 1 · (by omega) (by omega))⟩
theorem LR.head {f f2 : Int → Int} {lr lm : Int → Nat} (h : LR f lr lm) (h0 : f2 0 = f 0) (e : ∀ j : Int, 18 ≤ j → f2 j = f j) : LR f2 lr lm := by
  refine h.cong (by omega) (fun r w h1 h2 h3 h4 => ?_) (fun b r h1 h2 h3 h4 => ?_)
  · rw [oR, oR, e _ (by omega)]
  · rw [oG, oG, e _ (by omega)]
theorem X_open_no {B : Int} {f : Int → Int} {lr lm : Int → Nat} {k : Int} (hP : PI B f) (hL : LR f lr lm) (hk : 0 ≤ k ∧ k ≤ 2) (h : 0 < f (k + 9)) : sp_open f k = (-1000002, f) ∧ NX B f f lr lm := by
  refine ⟨?_, NX.rf hP hL⟩
  rw [sp_open, if_pos hk, if_pos h]
theorem X_open {B : Int} {f : Int → Int} {lr lm : Int → Nat} {k : Int} (hP : PI B f) (hL : LR f lr lm) (hk : 0 ≤ k ∧ k ≤ 2) (h : ¬ 0 < f (k + 9)) : sp_open f k = (f 3 + 1, uZ (uZ f 3 (f 3 + 1)) (k + 9) (f 3 + 1)) ∧ NX B f (uZ (uZ f 3 (f 3 + 1)) (k + 9) (f 3 + 1)) lr lm := by
  have e : sp_open f k = (f 3 + 1, uZ (uZ f 3 (f 3 + 1)) (k + 9) (f 3 + 1)) := by rw [sp_open, if_pos hk, if_neg h]
  have hB := hP.2.1
  have hI := hP.1.k_open (k := k) (by omega)
  rw [e] at hI
  refine ⟨e, hI.mono (by omega), hL.head (by rw [uZ_n (by omega), uZ_n (by omega)]) (fun j hj => by rw [uZ_n (by omega), uZ_n (by omega)]), ?_, ?_⟩
  · rw [uZ_n (by omega), uZ_n (by omega)]
    exact hP.2.2.1
  · rw [uZ_n (by omega), uZ_s]
    omega
theorem bar_no {f : Int → Int} {k : Int} (hk : 0 ≤ k ∧ k ≤ 2) (h : f (k + 9) = 0) : sp_bar f k = -1000002 := by rw [sp_bar, if_pos hk, if_pos h]
theorem bar_yes {f : Int → Int} {k : Int} (hk : 0 ≤ k ∧ k ≤ 2) (h : f (k + 9) ≠ 0) (h2 : f 0 ≠ 100) : sp_bar f k = 0 := by rw [sp_bar, if_pos hk, if_neg h, if_neg h2]
theorem X_put_no {B : Int} {f : Int → Int} {lr lm : Int → Nat} {k y x : Int} (hP : PI B f) (hL : LR f lr lm) (hk : 0 ≤ k ∧ k ≤ 2) (hy : 0 ≤ y ∧ y ≤ 23) (hx : 0 ≤ x ∧ x ≤ 999) (h : f (k + 9) = 0) : sp_put f k y x = (-1000002, f) ∧ NX B f f lr lm := by
  refine ⟨?_, NX.rf hP hL⟩
  rw [sp_put, if_pos ⟨hy, hx⟩, bar_no hk h, if_pos (by omega)]
theorem X_end_no {B : Int} {f : Int → Int} {lr lm : Int → Nat} {k kd : Int} (hP : PI B f) (hL : LR f lr lm) (hk : 0 ≤ k ∧ k ≤ 2) (h : f (k + 9) = 0) : sp_end f kd k = (-1000002, f) ∧ NX B f f lr lm := by
  refine ⟨?_, NX.rf hP hL⟩
  rw [sp_end, bar_no hk h, if_pos (by omega)]
theorem spw_0 {f : Int → Int} {kd k y x j : Int} (hk : 0 ≤ k ∧ k ≤ 2) (hn : 0 ≤ f 0) (hj : j < 18) : sp_write f kd k y x j = uZ (uZ f 0 (f 0 + 1)) (k + 9) (if kd = 0 then f (k + 9) else 0) j := by
  rw [sp_write]
  by_cases h : j = k + 9
  · rw [h, uZ_s, uZ_s]
  · rw [uZ_n h, uZ_n h, uZ_n (by omega), uZ_n (by omega), uZ_n (by omega), uZ_n (by omega), uZ_n (by omega)]
theorem X_write {B : Int} {f : Int → Int} {lr lm : Int → Nat} {kd k y x y2 x2 : Int} (hP : PI B f) (hL : LR f lr lm) (hk : 0 ≤ k ∧ k ≤ 2) (hz : f (k + 9) ≠ 0) (hn : f 0 ≤ 60) (h1 : (kd = 0 ∧ (0 ≤ y ∧ y ≤ 23) ∧ 0 ≤ x ∧ x ≤ 999) ∨ ((kd = 1 ∨ kd = 2) ∧ y = -1000004 ∧ x = -1000004)) (h2 : (kd = 0 ∧ y2 = y ∧ x2 = x) ∨ (kd ≠ 0 ∧ 0 ≤ kd ∧ y2 = 0 ∧ x2 = 0)) : NX B f (sp_write f kd k y x) (uLg lr (f 0 + 1) (wrN kd y2 x2 (f (k + 9)) (f 1))) lm := by
  have hB := hP.2.1
  have hI := hP.1
  have hn0 := hI.n
  have hsl := hI.sl k hk.1 hk.2
  have htk := hI.tk
  have e0 : sp_write f kd k y x 0 = f 0 + 1 := by rw [spw_0 hk hn0.1 (by omega), uZ_n (by omega), uZ_s]
  have e3 : sp_write f kd k y x 3 = f 3 := by rw [spw_0 hk hn0.1 (by omega), uZ_n (by omega), uZ_n (by omega)]
  have eg : ∀ b r : Int, 0 ≤ b → b ≤ 1 → 1 ≤ r → r < 62 → (oG (sp_write f kd k y x) b r = 1 ↔ oG f b r = 1) := fun b r b0 b1 r0 r1 => by
    rw [oG, sp_write, uZ_n (by omega), uZ_n (by omega), uZ_n (by omega), uZ_n (by omega), uZ_n (by omega), uZ_n (by omega), uZ_n (by omega)]
    exact Iff.rfl
  refine ⟨(hI.k_write (by omega) hk hz (by omega) h1).mono (by omega), ⟨hL.1.write hn0.1 hk h2 ?_ ?_ hsl.1 htk.1, hL.2.1.cong (eg 0 · (by omega) (by omega)), hL.2.2.cong (eg 1 · (by omega) (by omega))⟩, by omega, by omega⟩
  · omega
  · omega
theorem X_put {B : Int} {f : Int → Int} {lr lm : Int → Nat} {k y x : Int} (hP : PI B f) (hL : LR f lr lm) (hk : 0 ≤ k ∧ k ≤ 2) (hy : 0 ≤ y ∧ y ≤ 23) (hx : 0 ≤ x ∧ x ≤ 999) (hz : f (k + 9) ≠ 0) (hn : f 0 ≤ 60) : sp_put f k y x = (f 0 + 1, sp_write f 0 k y x) ∧ NX B f (sp_write f 0 k y x) (uLg lr (f 0 + 1) (wrN 0 y x (f (k + 9)) (f 1))) lm := by
  refine ⟨?_, X_write hP hL hk hz hn (Or.inl ⟨rfl, hy, hx⟩) (Or.inl ⟨rfl, rfl, rfl⟩)⟩
  rw [sp_put, if_pos ⟨hy, hx⟩, bar_yes hk hz (by omega), if_neg (by omega)]
theorem X_end {B : Int} {f : Int → Int} {lr lm : Int → Nat} {k kd : Int} (hP : PI B f) (hL : LR f lr lm) (hk : 0 ≤ k ∧ k ≤ 2) (hkd : kd = 1 ∨ kd = 2) (hz : f (k + 9) ≠ 0) (hn : f 0 ≤ 60) : sp_end f kd k = (f 0 + 1, sp_write f kd k (-1000004) (-1000004)) ∧ NX B f (sp_write f kd k (-1000004) (-1000004)) (uLg lr (f 0 + 1) (wrN kd 0 0 (f (k + 9)) (f 1))) lm := by
  refine ⟨?_, X_write hP hL hk hz hn (Or.inr ⟨hkd, rfl, rfl⟩) (Or.inr ⟨by omega, by omega, rfl, rfl⟩)⟩
  rw [sp_end, bar_yes hk hz (by omega), if_neg (by omega)]
/-! shipping, losing, sending again -/
theorem X_ship_no {B : Int} {f : Int → Int} {lr lm : Int → Nat} {b m : Int} (hP : PI B f) (hL : LR f lr lm) (hb : 0 ≤ b ∧ b ≤ 1) (hm : 1 ≤ m ∧ m ≤ 20) (h : f (3 * b + 14) = 1) : sp_ship f b m = (-1000002, f) ∧ NX B f f lr lm := by
  refine ⟨?_, NX.rf hP hL⟩
  have h2 : oS f b 2 = 1 := by rw [oS, show 3 * b + 2 + 12 = 3 * b + 14 by omega, h]
  rw [sp_ship, if_pos ⟨hb, hm⟩, if_pos h2]
theorem X_ship {B : Int} {f : Int → Int} {lr lm : Int → Nat} {b m s : Int} (hP : PI B f) (hL : LR f lr lm) (hb : 0 ≤ b ∧ b ≤ 1) (hm : 1 ≤ m ∧ m ≤ 20) (h : ¬ f (3 * b + 14) = 1) (hs : s = if f 0 - f (3 * b + 12) < m then f 0 - f (3 * b + 12) else m) : sp_ship f b m = (s, uZ f (3 * b + 12) (f (3 * b + 12) + s)) ∧ NX B f (uZ f (3 * b + 12) (f (3 * b + 12) + s)) lr lm := by
  have h2 : ¬ oS f b 2 = 1 := by rw [oS, show 3 * b + 2 + 12 = 3 * b + 14 by omega]; exact h
  have h3 : oS f b 0 = f (3 * b + 12) := by rw [oS, show 3 * b + 0 + 12 = 3 * b + 12 by omega]
  have e : sp_ship f b m = (s, uZ f (3 * b + 12) (f (3 * b + 12) + s)) := by rw [sp_ship, if_pos ⟨hb, hm⟩, if_neg h2, h3, ← hs]
  have hB := hP.2.1
  have hI := hP.1.k_ship (b := b) (m := m) (by omega)
  rw [e] at hI
  refine ⟨e, hI.mono (by omega), hL.head (by rw [uZ_n (by omega)]) (fun j hj => by rw [uZ_n (by omega)]), ?_, ?_⟩
  · rw [uZ_n (by omega)]
    exact hP.2.2.1
  · rw [uZ_n (by omega)]
    omega
theorem X_lose_0 {B : Int} {f : Int → Int} {lr lm : Int → Nat} {b : Int} (hP : PI B f) (hL : LR f lr lm) : sp_lose f b 0 = (-1000001, f) ∧ NX B f f lr lm := by
  refine ⟨?_, NX.rf hP hL⟩
  rw [sp_lose, if_neg (by omega)]
theorem X_lose_no {B : Int} {f : Int → Int} {lr lm : Int → Nat} {b r : Int} (hP : PI B f) (hL : LR f lr lm) (hb : 0 ≤ b ∧ b ≤ 1) (hr : 1 ≤ r) (h : f (3 * b + 14) = 1 ∨ f (3 * b + 12) < r ∨ r ≤ f (3 * b + 13) ∨ oG f b r = 1) : sp_lose f b r = (-1000002, f) ∧ NX B f f lr lm := by
  refine ⟨?_, NX.rf hP hL⟩
  have h1 : oS f b 0 = f (3 * b + 12) := by rw [oS, show 3 * b + 0 + 12 = 3 * b + 12 by omega]
  have h2 : oS f b 1 = f (3 * b + 13) := by rw [oS, show 3 * b + 1 + 12 = 3 * b + 13 by omega]
  have h3 : oS f b 2 = f (3 * b + 14) := by rw [oS, show 3 * b + 2 + 12 = 3 * b + 14 by omega]
  rw [sp_lose, if_pos ⟨hb, hr⟩, if_pos (by rw [h1, h2, h3]; exact h)]
theorem gzI {B : Int} {f : Int → Int} (h : Inv B f) (hn : f 0 ≤ 61) {b : Int} (hb : 0 ≤ b ∧ b ≤ 1) : ∀ r : Int, 62 ≤ r → r ≤ 100 → ¬ oG f b r = 1 := fun r h1 h2 q => by
  have a := h.G b r hb.1 hb.2 (by omega) h2
  have c := h.S b hb.1 hb.2
  omega
theorem LR.upd {f : Int → Int} {lr lm : Int → Nat} {b : Int} {m : Nat} (hb : 0 ≤ b ∧ b ≤ 1) (hr : RR f lr) (h1 : BM f b m) (h2 : BM f (1 - b) (lm (1 - b))) : LR f lr (uLg lm b m) := by
  rcases (by omega : b = 0 ∨ b = 1) with e | e
  · subst e
    exact ⟨hr, by rw [uLg_s]; exact h1, by rw [uLg_n (by omega)]; exact h2⟩
  · subst e
    exact ⟨hr, by rw [uLg_n (by omega)]; exact h2, by rw [uLg_s]; exact h1⟩
theorem X_lose {B : Int} {f : Int → Int} {lr lm : Int → Nat} {b r : Int} (hP : PI B f) (hL : LR f lr lm) (hb : 0 ≤ b ∧ b ≤ 1) (hr : 1 ≤ r) (h : ¬ f (3 * b + 14) = 1) (h0 : r ≤ f (3 * b + 12)) (h1 : f (3 * b + 13) < r) (h2 : ¬ oG f b r = 1) : (sp_lose f b r = (((pcN 62 (lm b ||| 1 * 2 ^ (r : Int).toNat) : Nat) : Int), uZ (uZ f (100 * b + r + 17) 1) 5 (f 5 + 1)) ∧ NX B f (uZ (uZ f (100 * b + r + 17) 1) 5 (f 5 + 1)) lr (uLg lm b (lm b ||| 1 * 2 ^ (r : Int).toNat))) ∧ lm b ||| 1 * 2 ^ (r : Int).toNat < 4611686018427387904 := by
  have e1 : oS f b 0 = f (3 * b + 12) := by rw [oS, show 3 * b + 0 + 12 = 3 * b + 12 by omega]
  have e2 : oS f b 1 = f (3 * b + 13) := by rw [oS, show 3 * b + 1 + 12 = 3 * b + 13 by omega]
  have e3 : oS f b 2 = f (3 * b + 14) := by rw [oS, show 3 * b + 2 + 12 = 3 * b + 14 by omega]
  have e : sp_lose f b r = (mG (uZ (uZ f (100 * b + r + 17) 1) 5 (f 5 + 1)) b, uZ (uZ f (100 * b + r + 17) 1) 5 (f 5 + 1)) := by rw [sp_lose, if_pos ⟨hb, hr⟩, if_neg (by rw [e1, e2, e3]; omega)]
  have hB := hP.2.1
  have hS := hP.1.S b hb.1 hb.2
  have hn := hP.2.2.1
  have hI := hP.1.k_lose (b := b) (r := r) (by omega)
  rw [e] at hI
  have f0 : (uZ (uZ f (100 * b + r + 17) 1) 5 (f 5 + 1)) 0 = f 0 := by rw [uZ_n (by omega), uZ_n (by omega)]
  have hgb : ∀ q : Int, 1 ≤ q → q < 62 → (oG (uZ (uZ f (100 * b + r + 17) 1) 5 (f 5 + 1)) b q = 1 ↔ (q = r ∨ oG f b q = 1)) := fun q q0 q1 => by
    by_cases hq : q = r
    · rw [hq, oG, uZ_n (by omega), uZ_s]
      omega
    · rw [oG_up (by omega), oG_up (by omega)]
      omega
  have hgo : ∀ q : Int, 1 ≤ q → q < 62 → (oG (uZ (uZ f (100 * b + r + 17) 1) 5 (f 5 + 1)) (1 - b) q = 1 ↔ oG f (1 - b) q = 1) := fun q q0 q1 => by
    rw [oG_up (by omega), oG_up (by omega)]
  have hrr : RR (uZ (uZ f (100 * b + r + 17) 1) 5 (f 5 + 1)) lr := hL.1.cong (by omega) (fun j w a1 a2 a3 a4 => by rw [oR_up (by omega), oR_up (by omega)])
  have hbm := (hL.b hb).set hr (by omega) hgb
  have hI2 : Inv (B + 1) (uZ (uZ f (100 * b + r + 17) 1) 5 (f 5 + 1)) := hI
  have hz := gzI hI2 (by omega) hb
  refine ⟨⟨?_, hI.mono (by omega), LR.upd hb hrr hbm ((hL.b (by omega)).cong hgo), by omega, ?_⟩, hbm.1⟩
  · rw [e, hbm.ones hz]
  · rw [uZ_n (by omega), uZ_n (by omega)]
    omega
theorem LR.same {f : Int → Int} {lr lm : Int → Nat} {b : Int} (h : LR f lr lm) (hb : 0 ≤ b ∧ b ≤ 1) : LR f lr (uLg lm b (lm b)) := LR.upd hb h.1 (h.b hb) (h.b (by omega))
theorem X_resend_no {B : Int} {f : Int → Int} {lr lm : Int → Nat} {b : Int} (hP : PI B f) (hL : LR f lr lm) (hb : 0 ≤ b ∧ b ≤ 1) (h : f (3 * b + 14) = 1) : sp_resend f b = (-1000002, f) ∧ NX B f f lr (uLg lm b (lm b)) := by
  refine ⟨?_, NX.rf hP (hL.same hb)⟩
  have h2 : oS f b 2 = 1 := by rw [oS, show 3 * b + 2 + 12 = 3 * b + 14 by omega, h]
  rw [sp_resend, if_pos hb, if_pos h2]
theorem fG0_out {f : Int → Int} {b p z j : Int} (h : ¬ (100 * b + p + 18 ≤ j ∧ j < z)) : fG0 f b p z j = f j := if_neg h
theorem fG0_in {f : Int → Int} {b p z j : Int} (h : 100 * b + p + 18 ≤ j ∧ j < z) : fG0 f b p z j = 0 := if_pos h
theorem X_resend {B : Int} {f : Int → Int} {lr lm : Int → Nat} {b : Int} (hP : PI B f) (hL : LR f lr lm) (hb : 0 ≤ b ∧ b ≤ 1) (h : ¬ f (3 * b + 14) = 1) : sp_resend f b = (((pcN 62 (lm b) : Nat) : Int), fG0 f b 0 (100 * b + 118)) ∧ NX B f (fG0 f b 0 (100 * b + 118)) lr (uLg lm b 0) := by
  have h2 : ¬ oS f b 2 = 1 := by rw [oS, show 3 * b + 2 + 12 = 3 * b + 14 by omega]; exact h
  have e : sp_resend f b = (mG f b, fG0 f b 0 (100 * b + 118)) := by rw [sp_resend, if_pos hb, if_neg h2]
  have hI := hP.1.k_resend (b := b)
  rw [e] at hI
  have f0 : fG0 f b 0 (100 * b + 118) 0 = f 0 := fG0_out (by omega)
  have f3 : fG0 f b 0 (100 * b + 118) 3 = f 3 := fG0_out (by omega)
  refine ⟨by rw [e, PI.ones hP hL hb], hI.mono (by omega), LR.upd hb (hL.1.cong (by omega) (fun j w a1 a2 a3 a4 => by rw [oR, fG0_out (by omega)]; rfl)) (BM.zero (fun r r0 r1 => ?_)) ((hL.b (by omega)).cong (fun r r0 r1 => ?_)), ?_, by omega⟩
  · rw [oG, fG0_in (by omega)]
    omega
  · rw [oG, fG0_out (by omega)]
    exact Iff.rfl
  · rw [f0]
    exact hP.2.2.1
/-! ticks -/
theorem tkN_o {f : Int → Int} {j : Int} (h1 : j ≠ 1) (h2 : j ≠ 13) (h3 : j ≠ 16) : ∀ k : Nat, tkN f k j = f j
  | 0 => rfl
  | k + 1 => by rw [tkN, tk1, uZ_n h3, tkB_n h1 h2, tkN_o h1 h2 h3 k]
theorem X_tick {B : Int} {f : Int → Int} {lr lm : Int → Nat} {t : Int} (hP : PI B f) (hL : LR f lr lm) (ht : 1 ≤ t ∧ t ≤ 99) : sp_tick f t = (tkN f t.toNat 13 + tkN f t.toNat 16 - f 13 - f 16, uZ (tkN f t.toNat) 6 (tkN f t.toNat 6 + (tkN f t.toNat 13 + tkN f t.toNat 16 - f 13 - f 16))) ∧ NX B f (uZ (tkN f t.toNat) 6 (tkN f t.toNat 6 + (tkN f t.toNat 13 + tkN f t.toNat 16 - f 13 - f 16))) lr lm := by
  have e : sp_tick f t = (tkN f t.toNat 13 + tkN f t.toNat 16 - f 13 - f 16, uZ (tkN f t.toNat) 6 (tkN f t.toNat 6 + (tkN f t.toNat 13 + tkN f t.toNat 16 - f 13 - f 16))) := by rw [sp_tick, if_pos ht]
  have hB := hP.2.1
  have hI := hP.1.k_tick (t := t) (by omega)
  rw [e] at hI
  refine ⟨e, hI.mono (by omega), hL.head (by rw [uZ_n (by omega), tkN_o (by omega) (by omega) (by omega)]) (fun j hj => by rw [uZ_n (by omega), tkN_o (by omega) (by omega) (by omega)]), ?_, ?_⟩
  · rw [uZ_n (by omega), tkN_o (by omega) (by omega) (by omega)]
    exact hP.2.2.1
  · rw [uZ_n (by omega), tkN_o (by omega) (by omega) (by omega)]
    omega
/-! promotion, rebuilding, settings -/
theorem X_promote_no {B : Int} {f : Int → Int} {lr lm : Int → Nat} {b : Int} (hP : PI B f) (hL : LR f lr lm) (hb : 0 ≤ b ∧ b ≤ 1) (h : f (3 * b + 14) = 1) : sp_promote f b = (-1000002, f) ∧ NX B f f lr lm := by
  refine ⟨?_, NX.rf hP hL⟩
  have h2 : oS f b 2 = 1 := by rw [oS, show 3 * b + 2 + 12 = 3 * b + 14 by omega, h]
  rw [sp_promote, if_pos hb, if_pos h2]
theorem X_promote {B : Int} {f : Int → Int} {lr lm : Int → Nat} {b : Int} (hP : PI B f) (hL : LR f lr lm) (hb : 0 ≤ b ∧ b ≤ 1) (h : ¬ f (3 * b + 14) = 1) : sp_promote f b = (mB f (f (3 * b + 13) + 1) (f 0), (sp_promote f b).2) ∧ NX B f (sp_promote f b).2 lr (uLg (uLg lm b 0) (1 - b) (lm (1 - b) &&& (2 * 2 ^ (f (3 * b + 13) : Int).toNat - 1))) := by
  have h2 : ¬ oS f b 2 = 1 := by rw [oS, show 3 * b + 2 + 12 = 3 * b + 14 by omega]; exact h
  have h1 : oS f b 1 = f (3 * b + 13) := by rw [oS, show 3 * b + 1 + 12 = 3 * b + 13 by omega]
  have hB := hP.2.1
  have hI := hP.1.k_promote (b := b) (by omega)
  have hS := hP.1.S b hb.1 hb.2
  have hn := hP.2.2.1
  have hn0 := hP.1.n
  rw [h1] at hS
  have e : sp_promote f b = (mB f (f (3 * b + 13) + 1) (f 0), pmC (pmB (sp_lay (pmA f (f (3 * b + 13)) (mB f (f (3 * b + 13) + 1) (f 0))) b (f (3 * b + 13)) (if f (3 * b + 13) < f 0 then 1 else 0)) b (f (3 * b + 13))) b (f (3 * b + 13))) := by rw [sp_promote, if_pos hb, if_neg h2, h1]
  have e2 : (sp_promote f b).2 = pmC (pmB (sp_lay (pmA f (f (3 * b + 13)) (mB f (f (3 * b + 13) + 1) (f 0))) b (f (3 * b + 13)) (if f (3 * b + 13) < f 0 then 1 else 0)) b (f (3 * b + 13))) b (f (3 * b + 13)) := congrArg Prod.snd e
  have e0 : (sp_promote f b).2 0 = f (3 * b + 13) := by
    rw [e2, pm_head hb (by omega) (by omega), pmA, uZ_n (by omega), uZ_n (by omega), uZ_n (by omega), uZ_n (by omega), uZ_n (by omega), uZ_s]
  have e3 : (sp_promote f b).2 3 = f 3 := by rw [e2, pm_fix hb (by omega) (by omega)]
  have eg : ∀ c r : Int, 0 ≤ c → c ≤ 1 → 1 ≤ r → r < 62 → oG (sp_promote f b).2 c r = if c = b ∨ f (3 * b + 13) < r then 0 else oG f c r := fun c r c0 c1 r0 r1 => by
    rw [e2, pm_gap hb ⟨c0, c1⟩ (by omega) (by omega)]
  have er : ∀ j w : Int, 1 ≤ j → 0 ≤ w → oR (sp_promote f b).2 j w = oR f j w := fun j w j0 w0 => by
    rw [oR, e2, pm_fix hb (by omega) (by omega)]
    rfl
  have hb0 : BM (sp_promote f b).2 b 0 := BM.zero (fun r r0 r1 => by
    rw [eg b r hb.1 hb.2 r0 r1, if_pos (Or.inl rfl)]
    omega)
  have hb1 : BM (sp_promote f b).2 (1 - b) (lm (1 - b) &&& (2 * 2 ^ (f (3 * b + 13) : Int).toNat - 1)) := (hL.b (by omega)).cut (by omega) (by omega) (fun q q0 q1 => by
    rw [eg (1 - b) q (by omega) (by omega) q0 q1]
    split <;> omega)
  have hrr : RR (sp_promote f b).2 lr := hL.1.cong (by omega) (fun j w a1 a2 a3 a4 => er j w a1 a3)
  have hLR : LR (sp_promote f b).2 lr (uLg (uLg lm b 0) (1 - b) (lm (1 - b) &&& (2 * 2 ^ (f (3 * b + 13) : Int).toNat - 1))) := by
    refine LR.upd (by omega) hrr hb1 ?_
    rw [show 1 - (1 - b) = b by omega, uLg_s]
    exact hb0
  refine ⟨?_, hI.mono (by omega), hLR, by omega, by omega⟩
  rw [e]
theorem X_rebuild {B : Int} {f : Int → Int} {lr lm : Int → Nat} {b : Int} (hP : PI B f) (hL : LR f lr lm) (hb : 0 ≤ b ∧ b ≤ 1) : sp_rebuild f b = (f 0, sp_lay f b (f 0) 0) ∧ NX B f (sp_lay f b (f 0) 0) lr (uLg lm b 0) := by
  have e : sp_rebuild f b = (f 0, sp_lay f b (f 0) 0) := by rw [sp_rebuild, if_pos hb]
  have hI := hP.1.k_rebuild (b := b)
  rw [e] at hI
  have eh : ∀ j : Int, j < 12 → sp_lay f b (f 0) 0 j = f j := fun j hj => by rw [sp_lay, fG0_out (by omega), uZ_n (by omega), uZ_n (by omega), uZ_n (by omega)]
  have e0 := eh 0 (by omega)
  have e3 := eh 3 (by omega)
  refine ⟨e, hI.mono (by omega), LR.upd hb (hL.1.cong (by omega) (fun j w a1 a2 a3 a4 => by rw [oR, sp_lay, fG0_out (by omega), uZ_n (by omega), uZ_n (by omega), uZ_n (by omega)]; rfl)) (BM.zero (fun r r0 r1 => ?_)) ((hL.b (by omega)).cong (fun r r0 r1 => ?_)), ?_, by omega⟩
  · rw [oG, sp_lay, fG0_in (by omega)]
    omega
  · rw [oG, sp_lay, fG0_out (by omega), uZ_n (by omega), uZ_n (by omega), uZ_n (by omega)]
    exact Iff.rfl
  · rw [e0]
    exact hP.2.2.1
theorem X_set {B : Int} {f : Int → Int} {lr lm : Int → Nat} {w x : Int} (hP : PI B f) (hL : LR f lr lm) (hw : 0 ≤ w ∧ w ≤ 1) (hx : 1 - w ≤ x ∧ x ≤ 20) : sp_set f w x = (f (w + 7), uZ f (w + 7) x) ∧ NX B f (uZ f (w + 7) x) lr lm := by
  have e : sp_set f w x = (f (w + 7), uZ f (w + 7) x) := by rw [sp_set, if_pos ⟨hw, hx⟩]
  have hB := hP.2.1
  have hI := hP.1.k_set (w := w) (x := x) (by omega)
  rw [e] at hI
  refine ⟨e, hI.mono (by omega), hL.head (by rw [uZ_n (by omega)]) (fun j hj => by rw [uZ_n (by omega)]), ?_, ?_⟩
  · rw [uZ_n (by omega)]
    exact hP.2.2.1
  · rw [uZ_n (by omega)]
    omega
theorem oS_o {f : Int → Int} {b w j : Int} (h : 3 * b + w + 12 = j) : oS f b w = f j := by rw [oS, h]
theorem pr_agr {f : Int → Int} {b st o0 o1 o2 j : Int} (hb : 0 ≤ b ∧ b ≤ 1) (h : ¬ f (3 * b + 14) = 1) (hp : 0 ≤ f (3 * b + 13) ∧ f (3 * b + 13) ≤ 100) (hst : st = if f (3 * b + 13) < f 0 then 1 else 0) (ho0 : o0 = if f (3 * b + 13) < f (15 - 3 * b) then f (3 * b + 13) else f (15 - 3 * b)) (ho1 : o1 = if f (3 * b + 13) < f (16 - 3 * b) then f (3 * b + 13) else f (16 - 3 * b)) (ho2 : o2 = if f (3 * b + 13) < f (16 - 3 * b) then 1 else f (17 - 3 * b)) (j0 : 0 ≤ j) (j1 : j < 18) :
    uZ (uZ (uZ (uZ (uZ (uZ (uZ (uZ (uZ (uZ (uZ f (3 * b + 12) (f (3 * b + 13))) (3 * b + 14) st) 0 (f (3 * b + 13))) (15 - 3 * b) o0) (17 - 3 * b) o2) (16 - 3 * b) o1) 9 0) 10 0) 11 0) 2 (f 2 + 1)) 4 (f 4 + mB f (f (3 * b + 13) + 1) (f 0)) j = (sp_promote f b).2 j := by
  have h2 : ¬ oS f b 2 = 1 := by rw [oS, show 3 * b + 2 + 12 = 3 * b + 14 by omega]; exact h
  have h1 : oS f b 1 = f (3 * b + 13) := by rw [oS, show 3 * b + 1 + 12 = 3 * b + 13 by omega]
  have e2 : (sp_promote f b).2 = pmC (pmB (sp_lay (pmA f (f (3 * b + 13)) (mB f (f (3 * b + 13) + 1) (f 0))) b (f (3 * b + 13)) (if f (3 * b + 13) < f 0 then 1 else 0)) b (f (3 * b + 13))) b (f (3 * b + 13)) := by rw [sp_promote, if_pos hb, if_neg h2, h1]
  rw [e2, ← hst]
  by_cases hj : j ≤ 11
  · rw [pm_head hb hp ⟨j0, hj⟩, pmA]
    by_cases a4 : j = 4
    · rw [a4, uZ_s, uZ_n (by omega), uZ_n (by omega), uZ_n (by omega), uZ_n (by omega), uZ_s]
    rw [uZ_n a4]
    by_cases a2 : j = 2
    · rw [a2, uZ_s, uZ_n (by omega), uZ_n (by omega), uZ_n (by omega), uZ_s]
    rw [uZ_n a2]
    by_cases a11 : j = 11
    · rw [a11, uZ_s, uZ_s]
    rw [uZ_n a11, uZ_n a11]
    by_cases a10 : j = 10
    · rw [a10, uZ_s, uZ_s]
    rw [uZ_n a10, uZ_n a10]
    by_cases a9 : j = 9
    · rw [a9, uZ_s, uZ_s]
    rw [uZ_n a9, uZ_n a9, uZ_n (by omega : j ≠ 16 - 3 * b), uZ_n (by omega : j ≠ 17 - 3 * b), uZ_n (by omega : j ≠ 15 - 3 * b), uZ_n a2, uZ_n a4]
    by_cases a0 : j = 0
    · rw [a0, uZ_s, uZ_s]
    rw [uZ_n a0, uZ_n a0, uZ_n (by omega), uZ_n (by omega)]
  · have hw := pm_own (f := f) (b := b) (p := f (3 * b + 13)) (lost := mB f (f (3 * b + 13) + 1) (f 0)) (a := st) hb hp
    have ho := pm_oth (f := f) (b := b) (c := 1 - b) (p := f (3 * b + 13)) (lost := mB f (f (3 * b + 13) + 1) (f 0)) (a := st) hb rfl hp
    obtain ⟨w0, w1, w2⟩ := hw
    obtain ⟨q0, q1, q2⟩ := ho
    rw [oS_o (j := 3 * b + 12) (by omega)] at w0
    rw [oS_o (j := 3 * b + 13) (by omega)] at w1
    rw [oS_o (j := 3 * b + 14) (by omega)] at w2
    rw [oS_o (j := 15 - 3 * b) (by omega), oS_o (f := f) (j := 15 - 3 * b) (by omega), ← ho0] at q0
    rw [oS_o (j := 16 - 3 * b) (by omega), oS_o (f := f) (j := 16 - 3 * b) (by omega), ← ho1] at q1
    rw [oS_o (j := 17 - 3 * b) (by omega), oS_o (f := f) (w := 1) (j := 16 - 3 * b) (by omega), oS_o (f := f) (w := 2) (j := 17 - 3 * b) (by omega), ← ho2] at q2
    rw [uZ_n (by omega), uZ_n (by omega), uZ_n (by omega), uZ_n (by omega), uZ_n (by omega)]
    rcases (by omega : j = 3 * b + 12 ∨ j = 3 * b + 13 ∨ j = 3 * b + 14 ∨ j = 15 - 3 * b ∨ j = 16 - 3 * b ∨ j = 17 - 3 * b) with e | e | e | e | e | e
    · rw [e, w0, uZ_n (by omega), uZ_n (by omega), uZ_n (by omega), uZ_n (by omega), uZ_n (by omega), uZ_s]
    · rw [e, w1, uZ_n (by omega), uZ_n (by omega), uZ_n (by omega), uZ_n (by omega), uZ_n (by omega), uZ_n (by omega)]
    · rw [e, w2, uZ_n (by omega), uZ_n (by omega), uZ_n (by omega), uZ_n (by omega), uZ_s]
    · rw [e, q0, uZ_n (by omega), uZ_n (by omega), uZ_s]
    · rw [e, q1, uZ_s]
    · rw [e, q2, uZ_n (by omega), uZ_s]
theorem X_promote0 {B : Int} {f : Int → Int} {lr lm : Int → Nat} (hP : PI B f) (hL : LR f lr lm) (h : ¬ f 14 = 1) : sp_promote f 0 = (mB f (f 13 + 1) (f 0), (sp_promote f 0).2) ∧ NX B f (sp_promote f 0).2 lr (uLg (uLg lm 0 0) 1 (lm 1 &&& (2 * 2 ^ (f 13 : Int).toNat - 1))) := X_promote (b := 0) hP hL (by omega) h
theorem X_promote1 {B : Int} {f : Int → Int} {lr lm : Int → Nat} (hP : PI B f) (hL : LR f lr lm) (h : ¬ f 17 = 1) : sp_promote f 1 = (mB f (f 16 + 1) (f 0), (sp_promote f 1).2) ∧ NX B f (sp_promote f 1).2 lr (uLg (uLg lm 1 0) 0 (lm 0 &&& (2 * 2 ^ (f 16 : Int).toNat - 1))) := X_promote (b := 1) hP hL (by omega) h
theorem pr_agr0 {f : Int → Int} {st o0 o1 o2 j : Int} (h : ¬ f 14 = 1) (hp : 0 ≤ f 13 ∧ f 13 ≤ 100) (hst : st = if f 13 < f 0 then 1 else 0) (ho0 : o0 = if f 13 < f 15 then f 13 else f 15) (ho1 : o1 = if f 13 < f 16 then f 13 else f 16) (ho2 : o2 = if f 13 < f 16 then 1 else f 17) (j0 : 0 ≤ j) (j1 : j < 18) :
    uZ (uZ (uZ (uZ (uZ (uZ (uZ (uZ (uZ (uZ (uZ f 12 (f 13)) 14 st) 0 (f 13)) 15 o0) 17 o2) 16 o1) 9 0) 10 0) 11 0) 2 (f 2 + 1)) 4 (f 4 + mB f (f 13 + 1) (f 0)) j = (sp_promote f 0).2 j := pr_agr (b := 0) (by omega) h hp hst ho0 ho1 ho2 j0 j1
theorem pr_agr1 {f : Int → Int} {st o0 o1 o2 j : Int} (h : ¬ f 17 = 1) (hp : 0 ≤ f 16 ∧ f 16 ≤ 100) (hst : st = if f 16 < f 0 then 1 else 0) (ho0 : o0 = if f 16 < f 12 then f 16 else f 12) (ho1 : o1 = if f 16 < f 13 then f 16 else f 13) (ho2 : o2 = if f 16 < f 13 then 1 else f 14) (j0 : 0 ≤ j) (j1 : j < 18) :
    uZ (uZ (uZ (uZ (uZ (uZ (uZ (uZ (uZ (uZ (uZ f 15 (f 16)) 17 st) 0 (f 16)) 12 o0) 14 o2) 13 o1) 9 0) 10 0) 11 0) 2 (f 2 + 1)) 4 (f 4 + mB f (f 16 + 1) (f 0)) j = (sp_promote f 1).2 j := pr_agr (b := 1) (by omega) h hp hst ho0 ho1 ho2 j0 j1

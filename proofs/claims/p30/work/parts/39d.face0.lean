theorem HRel.Q5 {B : Int} {P : Int → Int} {ps : Int} {S : Nat → Nat → Nat} {Q : Nat → Option Nat} {p : Nat → Nat} {cs : Nat → Nat → Int} {Fs : Nat → Nat → Int → Int} (h : HRel B P ps S Q p cs Fs) : ∀ i, i < 5 → Q i = some (S 0 0) ∨ Q i = some (S 1 0) ∨ Q i = some (S 2 0) ∨ Q i = some (S 3 0) ∨ Q i = some (S 4 0) := fun i hi => by
  have e := h.q hi
  rcases h.p hi with q | q | q | q | q <;> rw [q] at e
  · exact Or.inl e
  · exact Or.inr (Or.inl e)
  · exact Or.inr (Or.inr (Or.inl e))
  · exact Or.inr (Or.inr (Or.inr (Or.inl e)))
  · exact Or.inr (Or.inr (Or.inr (Or.inr e)))
theorem HRel.changed {B : Int} {P : Int → Int} {ps ps2 z : Int} {S : Nat → Nat → Nat} {Q Q2 : Nat → Option Nat} {p : Nat → Nat} {cs : Nat → Nat → Int} {Fs : Nat → Nat → Int → Int} (h : HRel B P ps S Q p cs Fs) {f : Int → Int} (hR : RSb f (cs (p ps.toNat)) (Fs (p ps.toNat))) (hI : Inv B f) (h1 : ps2 = if z < 0 then ps else pQ ps) (h2 : ∀ i, i < 5 → Q2 i = if z < 0 then Q i else if ps = 4 then Q (if i = 4 then 0 else i + 1) else Q i) : HRel B (if z < 0 then P else pS P ps f) ps2 S Q2 (if z < 0 then p else fun i => if ps = 4 then p (if i = 4 then 0 else i + 1) else p i) cs Fs := by
  by_cases hz : z < 0
  · rw [if_pos hz] at h1
    rw [if_pos hz, if_pos hz, h1]
    obtain ⟨a1, a2, a3⟩ := h
    refine ⟨a1, fun i hi => ?_, a3⟩
    rw [h2 i hi, if_pos hz]
    exact a2 i hi
  · rw [if_neg hz] at h1
    rw [if_neg hz, if_neg hz]
    exact h.keep hR hI h1 (fun i hi => by rw [h2 i hi, if_neg hz])
theorem rgc1 {g : Int → Int} : -2147483648 ≤ ((-1000001 : Int), g).1 ∧ ((-1000001 : Int), g).1 < 2147483648 := ⟨(by decide : (-2147483648 : Int) ≤ -1000001), (by decide : (-1000001 : Int) < 2147483648)⟩
theorem rgc2 {g : Int → Int} : -2147483648 ≤ ((-1000002 : Int), g).1 ∧ ((-1000002 : Int), g).1 < 2147483648 := ⟨(by decide : (-2147483648 : Int) ≤ -1000002), (by decide : (-1000002 : Int) < 2147483648)⟩
theorem rg_sp_open {B : Int} {f : Int → Int} {k : Int} (hI : Inv B f) (hB : B ≤ 1073000000) : -2147483648 ≤ (sp_open f k).1 ∧ (sp_open f k).1 < 2147483648 := by
  have h := hI.tr
  rw [sp_open]
  split
  · split
    · first | exact rgc1 | exact rgc2
    · exact ⟨(by omega : -2147483648 ≤ f 3 + 1), (by omega : f 3 + 1 < 2147483648)⟩
  · first | exact rgc1 | exact rgc2
theorem rg_sp_put {B : Int} {f : Int → Int} {k y x : Int} (hI : Inv B f) (_hB : B ≤ 1073000000) : -2147483648 ≤ (sp_put f k y x).1 ∧ (sp_put f k y x).1 < 2147483648 := by
  have h := hI.n
  rw [sp_put]
  split
  · split
    · exact sp_bar_rg
    · exact ⟨(by omega : -2147483648 ≤ f 0 + 1), (by omega : f 0 + 1 < 2147483648)⟩
  · first | exact rgc1 | exact rgc2
theorem rg_sp_end {B : Int} {f : Int → Int} {kd k : Int} (hI : Inv B f) (_hB : B ≤ 1073000000) : -2147483648 ≤ (sp_end f kd k).1 ∧ (sp_end f kd k).1 < 2147483648 := by
  have h := hI.n
  rw [sp_end]
  split
  · exact sp_bar_rg
  · exact ⟨(by omega : -2147483648 ≤ f 0 + 1), (by omega : f 0 + 1 < 2147483648)⟩
theorem rg_sp_ship {B : Int} {f : Int → Int} {b m : Int} (hI : Inv B f) (_hB : B ≤ 1073000000) : -2147483648 ≤ (sp_ship f b m).1 ∧ (sp_ship f b m).1 < 2147483648 := by
  have h := hI.n
  rw [sp_ship]
  by_cases hc : (0 ≤ b ∧ b ≤ 1) ∧ 1 ≤ m ∧ m ≤ 20
  · have hS := hI.S b hc.1.1 hc.1.2
    rw [if_pos hc]
    by_cases ha : oS f b 2 = 1
    · rw [if_pos ha]
      first | exact rgc1 | exact rgc2
    · rw [if_neg ha]
      show -2147483648 ≤ (if f 0 - oS f b 0 < m then f 0 - oS f b 0 else m) ∧ (if f 0 - oS f b 0 < m then f 0 - oS f b 0 else m) < 2147483648
      split <;> omega
  · rw [if_neg hc]
    first | exact rgc1 | exact rgc2
theorem rg_sp_lose {B : Int} {f : Int → Int} {b r : Int} (_hI : Inv B f) (_hB : B ≤ 1073000000) : -2147483648 ≤ (sp_lose f b r).1 ∧ (sp_lose f b r).1 < 2147483648 := by
  rw [sp_lose]
  have h := mG_in (f := uZ (uZ f (100 * b + r + 17) 1) 5 (f 5 + 1)) (b := b)
  split
  · split
    · first | exact rgc1 | exact rgc2
    · exact ⟨Int.le_trans (by decide) h.1, Int.lt_of_le_of_lt h.2 (by decide)⟩
  · first | exact rgc1 | exact rgc2
theorem rg_sp_resend {B : Int} {f : Int → Int} {b : Int} (_hI : Inv B f) (_hB : B ≤ 1073000000) : -2147483648 ≤ (sp_resend f b).1 ∧ (sp_resend f b).1 < 2147483648 := by
  rw [sp_resend]
  have h := mG_in (f := f) (b := b)
  split
  · split
    · first | exact rgc1 | exact rgc2
    · exact ⟨Int.le_trans (by decide) h.1, Int.lt_of_le_of_lt h.2 (by decide)⟩
  · first | exact rgc1 | exact rgc2
theorem rg_sp_tick {B : Int} {f : Int → Int} {t : Int} (hI : Inv B f) (hB : B ≤ 1073000000) : -2147483648 ≤ (sp_tick f t).1 ∧ (sp_tick f t).1 < 2147483648 := by
  rw [sp_tick]
  by_cases hc : 1 ≤ t ∧ t ≤ 99
  · rw [if_pos hc]
    have h0 := hI.TI (by omega)
    have h1 := h0.n t.toNat (by omega)
    have a0 := h0.2.2.2.2.1
    have b0 := h0.2.2.2.2.2.1
    have a1 := h1.2.2.2.2.1
    have b1 := h1.2.2.2.2.2.1
    exact ⟨(by omega : -2147483648 ≤ tkN f t.toNat 13 + tkN f t.toNat 16 - f 13 - f 16), (by omega : tkN f t.toNat 13 + tkN f t.toNat 16 - f 13 - f 16 < 2147483648)⟩
  · rw [if_neg hc]
    first | exact rgc1 | exact rgc2
theorem rg_sp_promote {B : Int} {f : Int → Int} {b : Int} (hI : Inv B f) (_hB : B ≤ 1073000000) : -2147483648 ≤ (sp_promote f b).1 ∧ (sp_promote f b).1 < 2147483648 := by
  rw [sp_promote]
  by_cases hc : 0 ≤ b ∧ b ≤ 1
  · rw [if_pos hc]
    have hS := hI.S b hc.1 hc.2
    have hn := hI.n
    have hm := mB_in (f := f) (a := oS f b 1 + 1) (z := f 0)
    split
    · first | exact rgc1 | exact rgc2
    · exact ⟨(by omega : -2147483648 ≤ mB f (oS f b 1 + 1) (f 0)), (by omega : mB f (oS f b 1 + 1) (f 0) < 2147483648)⟩
  · rw [if_neg hc]
    first | exact rgc1 | exact rgc2
theorem rg_sp_rebuild {B : Int} {f : Int → Int} {b : Int} (hI : Inv B f) (_hB : B ≤ 1073000000) : -2147483648 ≤ (sp_rebuild f b).1 ∧ (sp_rebuild f b).1 < 2147483648 := by
  have h := hI.n
  rw [sp_rebuild]
  split
  · exact ⟨(by omega : -2147483648 ≤ f 0), (by omega : f 0 < 2147483648)⟩
  · first | exact rgc1 | exact rgc2
theorem rg_sp_set {B : Int} {f : Int → Int} {wh x : Int} (hI : Inv B f) (_hB : B ≤ 1073000000) : -2147483648 ≤ (sp_set f wh x).1 ∧ (sp_set f wh x).1 < 2147483648 := by
  rw [sp_set]
  split
  · exact hI.rf (wh + 7)
  · first | exact rgc1 | exact rgc2
theorem vA_rg {n : Int} {K T Y V : Int → Int} {y p : Int} (h : rF V) : -2147483648 ≤ vA n K T Y V y p ∧ vA n K T Y V y p < 2147483648 := by
  rw [vA]
  split
  · exact ⟨by decide, by decide⟩
  · exact gR_r h _
theorem q_cT0 {f : Int → Int} {c : Nat → Int} {F : Nat → Int → Int} {B : Int} (hR : RSb f c F) (hI : Inv B f) (hB : B ≤ 1073000000) {e : Int} : cT (c 0) (F 7) (c 9) (c 11) (F 1) (c 8) (c 10) (c 1) (c 7) e 200 = uT f 0 e (c 7) 200 := by
  have hs := RS.scal hR hI
  have en := RS.e_n hR
  rw [cT, uT, q_cF (hI.TI (by omega)) (by omega) (q_h0 hR hI) (fun r h1 h3 => q_gA hR (by omega)) (RS.e_r0 hR) (RS.e_q0 hR) (RS.e_dl hR) (by omega) (RS.e_p0 hR) (RS.e_tk hR) (by omega)]
theorem q_cR0 {f : Int → Int} {c : Nat → Int} {F : Nat → Int → Int} {B : Int} (hR : RSb f c F) (hI : Inv B f) (hB : B ≤ 1073000000) {m : Int} (hm : 0 ≤ m) : cRt (c 0) (F 7) (c 9) (c 11) (F 1) (c 8) (c 10) (c 1) (if sW (F 1) = 0 then (c 9) else sW (F 1) - 1) m = if rtF f 0 (goalOf f 0) m ≤ 20 then rtF f 0 (goalOf f 0) m else -1000004 := by
  have hs := RS.scal hR hI
  have en := RS.e_n hR
  exact q_cRt (hI.TI (by omega)) (by omega) (q_h0 hR hI) (fun r h1 h3 => q_gA hR (by omega)) (RS.e_r0 hR) (RS.e_q0 hR) (RS.e_dl hR) (by omega) (RS.e_p0 hR) (RS.e_tk hR) hm
theorem q_cT1 {f : Int → Int} {c : Nat → Int} {F : Nat → Int → Int} {B : Int} (hR : RSb f c F) (hI : Inv B f) (hB : B ≤ 1073000000) {e : Int} : cT (c 0) (F 7) (c 12) (c 14) (F 2) (c 8) (c 13) (c 1) (c 7) e 200 = uT f 1 e (c 7) 200 := by
  have hs := RS.scal hR hI
  have en := RS.e_n hR
  rw [cT, uT, q_cF (hI.TI (by omega)) (by omega) (q_h1 hR hI) (fun r h1 h3 => q_gA hR (by omega)) (RS.e_r1 hR) (RS.e_q1 hR) (RS.e_dl hR) (by omega) (RS.e_p1 hR) (RS.e_tk hR) (by omega)]
theorem q_cR1 {f : Int → Int} {c : Nat → Int} {F : Nat → Int → Int} {B : Int} (hR : RSb f c F) (hI : Inv B f) (hB : B ≤ 1073000000) {m : Int} (hm : 0 ≤ m) : cRt (c 0) (F 7) (c 12) (c 14) (F 2) (c 8) (c 13) (c 1) (if sW (F 2) = 0 then (c 12) else sW (F 2) - 1) m = if rtF f 1 (goalOf f 1) m ≤ 20 then rtF f 1 (goalOf f 1) m else -1000004 := by
  have hs := RS.scal hR hI
  have en := RS.e_n hR
  exact q_cRt (hI.TI (by omega)) (by omega) (q_h1 hR hI) (fun r h1 h3 => q_gA hR (by omega)) (RS.e_r1 hR) (RS.e_q1 hR) (RS.e_dl hR) (by omega) (RS.e_p1 hR) (RS.e_tk hR) hm

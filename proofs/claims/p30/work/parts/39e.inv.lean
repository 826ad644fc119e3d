/-! ===== what the changes keep ===== -/
theorem Inv.mono {B B' : Int} {f : Int → Int} (h : Inv B f) (hb : B ≤ B') : Inv B' f := by
  obtain ⟨h0, h1, h2, h3, h4, h5, h6, h7, h8⟩ := h
  exact ⟨h0, h1, ⟨h2.1, by omega⟩, ⟨h3.1, by omega⟩, ⟨h4.1, by omega⟩, ⟨h5.1, by omega⟩, ⟨h6.1, by omega⟩, ⟨h7.1, by omega⟩, h8⟩
/-- a change of the head alone -/
theorem Inv.head {B B' : Int} {f f2 : Int → Int} (h : Inv B f) (hr : rF f2) (e : ∀ j : Int, 12 ≤ j → f2 j = f j) (e0 : f2 0 = f 0) (h1 : f 1 ≤ f2 1 ∧ f2 1 ≤ B') (h2 : 0 ≤ f2 2 ∧ f2 2 ≤ B') (h3 : f 3 ≤ f2 3 ∧ f2 3 ≤ B') (h4 : 0 ≤ f2 4 ∧ f2 4 ≤ B') (h5 : 0 ≤ f2 5 ∧ f2 5 ≤ B') (h6 : 0 ≤ f2 6 ∧ f2 6 ≤ B') (h7 : 1 ≤ f2 7 ∧ f2 7 ≤ 20) (h8 : 0 ≤ f2 8 ∧ f2 8 ≤ 20)
    (hs : ∀ k : Int, 0 ≤ k → k ≤ 2 → 0 ≤ f2 (k + 9) ∧ f2 (k + 9) ≤ f2 3) (hd : ∀ k k' : Int, 0 ≤ k → k < k' → k' ≤ 2 → f2 (k + 9) ≠ 0 → f2 (k + 9) ≠ f2 (k' + 9)) (hq : ∀ k r : Int, 0 ≤ k → k ≤ 2 → 1 ≤ r → r ≤ f 0 → oR f r 0 ≠ 0 → f2 (k + 9) ≠ oR f r 1) : Inv B' f2 := by
  have hn := h.n
  have ht := h.tk
  have h30 := h.tr
  have es : ∀ b w, 0 ≤ b → b ≤ 1 → 0 ≤ w → w ≤ 2 → oS f2 b w = oS f b w := fun b w h1 h2 h3 h4 => e _ (by omega)
  have eg : ∀ b r, 0 ≤ b → b ≤ 1 → 1 ≤ r → r ≤ 100 → oG f2 b r = oG f b r := fun b w h1 h2 h3 h4 => e _ (by omega)
  have er : ∀ r w, 1 ≤ r → r ≤ f 0 → 0 ≤ w → w ≤ 4 → oR f2 r w = oR f r w := fun b w h1 h2 h3 h4 => e _ (by omega)
  refine ⟨hr, by rw [e0]; exact h.n, by omega, h2, by omega, h4, h5, h6, h7, h8, hs, hd, fun b a1 a2 => ?_, fun b r a1 a2 a3 a4 => ?_, fun r a1 a2 => ?_, fun r a1 a2 => ?_, fun r a1 a2 => ?_, fun r r' a1 a2 a3 => ?_, fun k r a1 a2 a3 a4 => ?_⟩
  · rw [es b 0 a1 a2 (by omega) (by omega), es b 1 a1 a2 (by omega) (by omega), es b 2 a1 a2 (by omega) (by omega), e0]
    exact h.S b a1 a2
  · rw [es b 0 a1 a2 (by omega) (by omega), es b 1 a1 a2 (by omega) (by omega), eg b r a1 a2 a3 a4]
    exact h.G b r a1 a2 a3 a4
  · have hR := h.R r a1 (by omega)
    rw [er r 0 a1 (by omega) (by omega) (by omega), er r 1 a1 (by omega) (by omega) (by omega), er r 4 a1 (by omega) (by omega) (by omega)]
    exact ⟨hR.1, hR.2.1, by omega, by omega, by omega⟩
  · rw [er r 0 a1 (by omega) (by omega) (by omega), er r 2 a1 (by omega) (by omega) (by omega), er r 3 a1 (by omega) (by omega) (by omega)]
    exact h.Rp r a1 (by omega)
  · rw [er r 0 a1 (by omega) (by omega) (by omega), er r 2 a1 (by omega) (by omega) (by omega), er r 3 a1 (by omega) (by omega) (by omega)]
    exact h.Re r a1 (by omega)
  · rw [er r 0 a1 (by omega) (by omega) (by omega), er r 1 a1 (by omega) (by omega) (by omega), er r' 1 (by omega) (by omega) (by omega) (by omega)]
    exact h.Rt r r' a1 a2 (by omega)
  · rw [er r 0 a3 (by omega) (by omega) (by omega), er r 1 a3 (by omega) (by omega) (by omega)]
    exact hq k r a1 a2 a3 (by omega)
theorem Inv.k_open {B : Int} {f : Int → Int} {k : Int} (h : Inv B f) (hB : B ≤ 1073000000) : Inv (B + 1) (sp_open f k).2 := by
  rw [sp_open]
  split
  · rename_i hk
    split
    · exact h.mono (by omega)
    · rename_i hz
      have hsk := h.sl k hk.1 hk.2
      have a1 := h.tk
      have a2 := h.ln
      have a3 := h.tr
      have a4 := h.lc
      have a5 := h.lo
      have a6 := h.ap
      have u : ∀ j : Int, j ≠ 3 → j ≠ k + 9 → uZ (uZ f 3 (f 3 + 1)) (k + 9) (f 3 + 1) j = f j := fun j q1 q2 => by rw [uZ_n q2, uZ_n q1]
      have u3 : uZ (uZ f 3 (f 3 + 1)) (k + 9) (f 3 + 1) 3 = f 3 + 1 := by rw [uZ_n (by omega), uZ_s]
      have us : ∀ k' : Int, 0 ≤ k' → k' ≤ 2 → uZ (uZ f 3 (f 3 + 1)) (k + 9) (f 3 + 1) (k' + 9) = if k' = k then f 3 + 1 else f (k' + 9) := fun k' q1 q2 => by
        by_cases q : k' = k
        · rw [if_pos q, q, uZ_s]
        · rw [if_neg q, u _ (by omega) (by omega)]
      show Inv (B + 1) (uZ (uZ f 3 (f 3 + 1)) (k + 9) (f 3 + 1))
      refine h.head ((h.rf.up (by omega)).up (by omega)) (fun j hj => u j (by omega) (by omega)) (u 0 (by omega) (by omega)) (by rw [u 1 (by omega) (by omega)]; omega) (by rw [u 2 (by omega) (by omega)]; omega) (by rw [u3]; omega) (by rw [u 4 (by omega) (by omega)]; omega) (by rw [u 5 (by omega) (by omega)]; omega) (by rw [u 6 (by omega) (by omega)]; omega) (by rw [u 7 (by omega) (by omega)]; exact h.rt) (by rw [u 8 (by omega) (by omega)]; exact h.dl) (fun k' q1 q2 => ?_) (fun k1 k2 q1 q2 q3 q4 => ?_) (fun k' r q1 q2 q3 q4 q5 => ?_)
      · have := h.sl k' q1 q2
        rw [us k' q1 q2, u3]
        split <;> omega
      · have b1 := h.sl k1 q1 (by omega)
        have b2 := h.sl k2 (by omega) q3
        have b3 := h.sd k1 k2 q1 q2 q3
        rw [us k1 q1 (by omega)] at q4 ⊢
        rw [us k2 (by omega) q3]
        by_cases e1 : k1 = k
        · rw [if_pos e1, if_neg (by omega)]
          omega
        · rw [if_neg e1] at q4 ⊢
          by_cases e2 : k2 = k
          · rw [if_pos e2]
            omega
          · rw [if_neg e2]
            exact b3 q4
      · have b1 := h.R r q3 q4
        have b2 := h.Rs k' r q1 q2 q3 q4 q5
        rw [us k' q1 q2]
        split
        · omega
        · exact b2
  · exact h.mono (by omega)
theorem Inv.k_set {B : Int} {f : Int → Int} {w x : Int} (h : Inv B f) (_hB : B ≤ 1073000000) : Inv B (sp_set f w x).2 := by
  rw [sp_set]
  split
  · rename_i hw
    have u : ∀ j : Int, j ≠ w + 7 → uZ f (w + 7) x j = f j := fun j q => uZ_n q
    show Inv B (uZ f (w + 7) x)
    refine h.head (h.rf.up (by omega)) (fun j hj => u j (by omega)) (u 0 (by omega)) (by rw [u 1 (by omega)]; exact ⟨by omega, h.tk.2⟩) (by rw [u 2 (by omega)]; exact h.ln) (by rw [u 3 (by omega)]; exact ⟨by omega, h.tr.2⟩) (by rw [u 4 (by omega)]; exact h.lc) (by rw [u 5 (by omega)]; exact h.lo) (by rw [u 6 (by omega)]; exact h.ap) ?_ ?_ (fun k' q1 q2 => ?_) (fun k1 k2 q1 q2 q3 => ?_) (fun k' r q1 q2 q3 q4 q5 => ?_)
    · by_cases e : w = 0
      · rw [e, show (0 : Int) + 7 = 7 by omega, uZ_s]
        omega
      · rw [u 7 (by omega)]
        exact h.rt
    · by_cases e : w = 1
      · rw [e, show (1 : Int) + 7 = 8 by omega, uZ_s]
        omega
      · rw [u 8 (by omega)]
        exact h.dl
    · rw [u _ (by omega), u _ (by omega)]
      exact h.sl k' q1 q2
    · rw [u _ (by omega), u _ (by omega)]
      exact h.sd k1 k2 q1 q2 q3
    · rw [u _ (by omega)]
      exact h.Rs k' r q1 q2 q3 q4 q5
  · exact h
/-- a change of the standbys and of a few counts -/
theorem Inv.stand {B B' : Int} {f f2 : Int → Int} (h : Inv B f) (hr : rF f2) (e0 : f2 0 = f 0) (e3 : f2 3 = f 3) (hb : B ≤ B') (h1 : f 1 ≤ f2 1 ∧ f2 1 ≤ B') (h2 : 0 ≤ f2 2 ∧ f2 2 ≤ B') (h4 : 0 ≤ f2 4 ∧ f2 4 ≤ B') (h5 : 0 ≤ f2 5 ∧ f2 5 ≤ B') (h6 : 0 ≤ f2 6 ∧ f2 6 ≤ B') (e7 : f2 7 = f 7) (e8 : f2 8 = f 8) (ek : ∀ k : Int, 0 ≤ k → k ≤ 2 → f2 (k + 9) = f (k + 9)) (er : ∀ j : Int, 218 ≤ j → f2 j = f j)
    (hS : ∀ b : Int, 0 ≤ b → b ≤ 1 → 0 ≤ oS f2 b 1 ∧ oS f2 b 1 ≤ oS f2 b 0 ∧ oS f2 b 0 ≤ f 0 ∧ (oS f2 b 2 = 0 ∨ oS f2 b 2 = 1)) (hG : ∀ b r : Int, 0 ≤ b → b ≤ 1 → 1 ≤ r → r ≤ 100 → oG f2 b r = 0 ∨ (oG f2 b r = 1 ∧ oS f2 b 1 < r ∧ r ≤ oS f2 b 0)) : Inv B' f2 := by
  have hn := h.n
  have ht := h.tk
  have h30 := h.tr
  have er : ∀ r w, 1 ≤ r → 0 ≤ w → oR f2 r w = oR f r w := fun b w h1 h2 => er _ (by omega)
  refine ⟨hr, by rw [e0]; exact h.n, by omega, h2, by omega, h4, h5, h6, by rw [e7]; exact h.rt, by rw [e8]; exact h.dl, fun k a1 a2 => ?_, fun k k' a1 a2 a3 => ?_, fun b a1 a2 => ?_, hG, fun r a1 a2 => ?_, fun r a1 a2 => ?_, fun r a1 a2 => ?_, fun r r' a1 a2 a3 => ?_, fun k r a1 a2 a3 a4 => ?_⟩
  · rw [ek k a1 a2, e3]
    exact h.sl k a1 a2
  · rw [ek k a1 (by omega), ek k' (by omega) a3]
    exact h.sd k k' a1 a2 a3
  · rw [e0]
    exact hS b a1 a2
  · have hR := h.R r a1 (by omega)
    rw [er r 0 a1 (by omega), er r 1 a1 (by omega), er r 4 a1 (by omega), e3]
    exact ⟨hR.1, hR.2.1, hR.2.2.1, by omega, by omega⟩
  · rw [er r 0 a1 (by omega), er r 2 a1 (by omega), er r 3 a1 (by omega)]
    exact h.Rp r a1 (by omega)
  · rw [er r 0 a1 (by omega), er r 2 a1 (by omega), er r 3 a1 (by omega)]
    exact h.Re r a1 (by omega)
  · rw [er r 0 a1 (by omega), er r 1 a1 (by omega), er r' 1 (by omega) (by omega)]
    exact h.Rt r r' a1 a2 (by omega)
  · rw [er r 0 a3 (by omega), er r 1 a3 (by omega), ek k a1 a2]
    exact h.Rs k r a1 a2 a3 (by omega)
theorem Inv.k_ship {B : Int} {f : Int → Int} {b m : Int} (h : Inv B f) (_hB : B ≤ 1073000000) : Inv B (sp_ship f b m).2 := by
  rw [sp_ship]
  by_cases hc : (0 ≤ b ∧ b ≤ 1) ∧ 1 ≤ m ∧ m ≤ 20
  · rw [if_pos hc]
    by_cases ha : oS f b 2 = 1
    · rw [if_pos ha]
      exact h
    · rw [if_neg ha]
      have hS := h.S b hc.1.1 hc.1.2
      have hn := h.n
      obtain ⟨x, hx, hx0, hx1⟩ : ∃ x : Int, x = (if f 0 - oS f b 0 < m then f 0 - oS f b 0 else m) ∧ 0 ≤ x ∧ x ≤ f 0 - oS f b 0 := ⟨_, rfl, by split <;> omega, by split <;> omega⟩
      show Inv B (uZ f (3 * b + 12) (f (3 * b + 12) + (if f 0 - oS f b 0 < m then f 0 - oS f b 0 else m)))
      rw [← hx]
      have e0 : oS f b 0 = f (3 * b + 12) := by rw [oS]; congr 1; omega
      have u : ∀ j : Int, j ≠ 3 * b + 12 → uZ f (3 * b + 12) (f (3 * b + 12) + x) j = f j := fun j q => uZ_n q
      have us : ∀ b' w : Int, ¬ (b' = b ∧ w = 0) → 0 ≤ w → w ≤ 2 → oS (uZ f (3 * b + 12) (f (3 * b + 12) + x)) b' w = oS f b' w := fun b' w q1 q2 q3 => u _ (by omega)
      have ub : oS (uZ f (3 * b + 12) (f (3 * b + 12) + x)) b 0 = oS f b 0 + x := by
        rw [oS, show 3 * b + 0 + 12 = 3 * b + 12 by omega, uZ_s, e0]
      refine h.stand (h.rf.up (by omega)) (u 0 (by omega)) (u 3 (by omega)) (Int.le_refl B) (by rw [u 1 (by omega)]; exact ⟨by omega, h.tk.2⟩) (by rw [u 2 (by omega)]; exact h.ln) (by rw [u 4 (by omega)]; exact h.lc) (by rw [u 5 (by omega)]; exact h.lo) (by rw [u 6 (by omega)]; exact h.ap) (u 7 (by omega)) (u 8 (by omega)) (fun k q1 q2 => u _ (by omega)) (fun j q => u _ (by omega)) (fun b' q1 q2 => ?_) (fun b' r q1 q2 q3 q4 => ?_)
      · have hS' := h.S b' q1 q2
        rw [us b' 1 (by omega) (by omega) (by omega), us b' 2 (by omega) (by omega) (by omega)]
        by_cases e : b' = b
        · rw [e] at hS' ⊢
          rw [ub]
          omega
        · rw [us b' 0 (by omega) (by omega) (by omega)]
          exact hS'
      · have hG := h.G b' r q1 q2 q3 q4
        rw [us b' 1 (by omega) (by omega) (by omega), oG_up (by omega)]
        by_cases e : b' = b
        · rw [e] at hG ⊢
          rw [ub]
          omega
        · rw [us b' 0 (by omega) (by omega) (by omega)]
          exact hG
  · rw [if_neg hc]
    exact h
theorem Inv.k_lose {B : Int} {f : Int → Int} {b r : Int} (h : Inv B f) (hB : B ≤ 1073000000) : Inv (B + 1) (sp_lose f b r).2 := by
  rw [sp_lose]
  by_cases hc : (0 ≤ b ∧ b ≤ 1) ∧ 1 ≤ r
  · rw [if_pos hc]
    by_cases ha : oS f b 2 = 1 ∨ oS f b 0 < r ∨ r ≤ oS f b 1 ∨ oG f b r = 1
    · rw [if_pos ha]
      exact h.mono (by omega)
    · rw [if_neg ha]
      have hS := h.S b hc.1.1 hc.1.2
      have hn := h.n
      have h5 := h.lo
      show Inv (B + 1) (uZ (uZ f (100 * b + r + 17) 1) 5 (f 5 + 1))
      have u : ∀ j : Int, j ≠ 100 * b + r + 17 → j ≠ 5 → uZ (uZ f (100 * b + r + 17) 1) 5 (f 5 + 1) j = f j := fun j q1 q2 => by rw [uZ_n q2, uZ_n q1]
      have us : ∀ b' w : Int, 0 ≤ b' → b' ≤ 1 → 0 ≤ w → w ≤ 2 → oS (uZ (uZ f (100 * b + r + 17) 1) 5 (f 5 + 1)) b' w = oS f b' w := fun b' w q1 q2 q3 q4 => u _ (by omega) (by omega)
      have a1 := h.tk
      have a2 := h.ln
      have a4 := h.lc
      have a6 := h.ap
      refine h.stand ((h.rf.up (by omega)).up (by omega)) (u 0 (by omega) (by omega)) (u 3 (by omega) (by omega)) (by omega) (by rw [u 1 (by omega) (by omega)]; omega) (by rw [u 2 (by omega) (by omega)]; omega) (by rw [u 4 (by omega) (by omega)]; omega) (by rw [uZ_s]; omega) (by rw [u 6 (by omega) (by omega)]; omega) (u 7 (by omega) (by omega)) (u 8 (by omega) (by omega)) (fun k q1 q2 => u _ (by omega) (by omega)) (fun j q => u _ (by omega) (by omega)) (fun b' q1 q2 => ?_) (fun b' r' q1 q2 q3 q4 => ?_)
      · rw [us b' 0 q1 q2 (by omega) (by omega), us b' 1 q1 q2 (by omega) (by omega), us b' 2 q1 q2 (by omega) (by omega)]
        exact h.S b' q1 q2
      · have hG := h.G b' r' q1 q2 q3 q4
        rw [us b' 0 q1 q2 (by omega) (by omega), us b' 1 q1 q2 (by omega) (by omega), oG_up (by omega)]
        by_cases e : b' = b ∧ r' = r
        · rw [e.1, e.2, oG, uZ_s]
          right
          omega
        · rw [oG_up (by omega)]
          exact hG
  · rw [if_neg hc]
    exact h.mono (by omega)
theorem Inv.k_resend {B : Int} {f : Int → Int} {b : Int} (h : Inv B f) : Inv B (sp_resend f b).2 := by
  rw [sp_resend]
  split
  · rename_i hb
    split
    · exact h
    · show Inv B (fG0 f b 0 (100 * b + 118))
      have u : ∀ j : Int, (j < 18 ∨ 218 ≤ j) → fG0 f b 0 (100 * b + 118) j = f j := fun j q => by rw [fG0, if_neg (by omega)]
      have us : ∀ b' w : Int, 0 ≤ b' → b' ≤ 1 → 0 ≤ w → w ≤ 2 → oS (fG0 f b 0 (100 * b + 118)) b' w = oS f b' w := fun b' w q1 q2 q3 q4 => u _ (by omega)
      refine h.stand (rF_G0 h.rf) (u 0 (by omega)) (u 3 (by omega)) (Int.le_refl B) (by rw [u 1 (by omega)]; exact ⟨by omega, h.tk.2⟩) (by rw [u 2 (by omega)]; exact h.ln) (by rw [u 4 (by omega)]; exact h.lc) (by rw [u 5 (by omega)]; exact h.lo) (by rw [u 6 (by omega)]; exact h.ap) (u 7 (by omega)) (u 8 (by omega)) (fun k q1 q2 => u _ (by omega)) (fun j q => u _ (by omega)) (fun b' q1 q2 => ?_) (fun b' r q1 q2 q3 q4 => ?_)
      · rw [us b' 0 q1 q2 (by omega) (by omega), us b' 1 q1 q2 (by omega) (by omega), us b' 2 q1 q2 (by omega) (by omega)]
        exact h.S b' q1 q2
      · rw [us b' 0 q1 q2 (by omega) (by omega), us b' 1 q1 q2 (by omega) (by omega)]
        by_cases e : b' = b
        · left
          rw [e, oG, fG0, if_pos (by omega)]
        · have hG := h.G b' r q1 q2 q3 q4
          have e2 : oG (fG0 f b 0 (100 * b + 118)) b' r = oG f b' r := by rw [oG, fG0, if_neg (by omega), oG]
          rw [e2]
          exact hG
  · exact h
theorem Inv.k_rebuild {B : Int} {f : Int → Int} {b : Int} (h : Inv B f) : Inv B (sp_rebuild f b).2 := by
  rw [sp_rebuild]
  split
  · rename_i hb
    have hn := h.n
    show Inv B (sp_lay f b (f 0) 0)
    have u : ∀ j : Int, (j < 18 ∨ 218 ≤ j) → j ≠ 3 * b + 12 → j ≠ 3 * b + 13 → j ≠ 3 * b + 14 → sp_lay f b (f 0) 0 j = f j := fun j q q1 q2 q3 => by rw [sp_lay, fG0, if_neg (by omega), uZ_n q3, uZ_n q2, uZ_n q1]
    have us : ∀ b' w : Int, 0 ≤ b' → b' ≤ 1 → b' ≠ b → 0 ≤ w → w ≤ 2 → oS (sp_lay f b (f 0) 0) b' w = oS f b' w := fun b' w q1 q2 q3 q4 q5 => u _ (by omega) (by omega) (by omega) (by omega)
    have ub : oS (sp_lay f b (f 0) 0) b 0 = f 0 ∧ oS (sp_lay f b (f 0) 0) b 1 = f 0 ∧ oS (sp_lay f b (f 0) 0) b 2 = 0 := by
      refine ⟨?_, ?_, ?_⟩
      · rw [oS, sp_lay, fG0, if_neg (by omega), uZ_n (by omega), uZ_n (by omega), show 3 * b + 0 + 12 = 3 * b + 12 by omega, uZ_s]
      · rw [oS, sp_lay, fG0, if_neg (by omega), uZ_n (by omega), show 3 * b + 1 + 12 = 3 * b + 13 by omega, uZ_s]
      · rw [oS, sp_lay, fG0, if_neg (by omega), show 3 * b + 2 + 12 = 3 * b + 14 by omega, uZ_s]
    refine h.stand (rF_lay h.rf (by omega) (by omega)) (u 0 (by omega) (by omega) (by omega) (by omega)) (u 3 (by omega) (by omega) (by omega) (by omega)) (Int.le_refl B) (by rw [u 1 (by omega) (by omega) (by omega) (by omega)]; exact ⟨by omega, h.tk.2⟩) (by rw [u 2 (by omega) (by omega) (by omega) (by omega)]; exact h.ln) (by rw [u 4 (by omega) (by omega) (by omega) (by omega)]; exact h.lc) (by rw [u 5 (by omega) (by omega) (by omega) (by omega)]; exact h.lo) (by rw [u 6 (by omega) (by omega) (by omega) (by omega)]; exact h.ap) (u 7 (by omega) (by omega) (by omega) (by omega)) (u 8 (by omega) (by omega) (by omega) (by omega)) (fun k q1 q2 => u _ (by omega) (by omega) (by omega) (by omega)) (fun j q => u _ (by omega) (by omega) (by omega) (by omega)) (fun b' q1 q2 => ?_) (fun b' r q1 q2 q3 q4 => ?_)
    · by_cases e : b' = b
      · rw [e, ub.1, ub.2.1, ub.2.2]
        omega
      · rw [us b' 0 q1 q2 e (by omega) (by omega), us b' 1 q1 q2 e (by omega) (by omega), us b' 2 q1 q2 e (by omega) (by omega)]
        exact h.S b' q1 q2
    · by_cases e : b' = b
      · left
        rw [e, oG, sp_lay, fG0, if_pos (by omega)]
      · have hG := h.G b' r q1 q2 q3 q4
        have e2 : oG (sp_lay f b (f 0) 0) b' r = oG f b' r := by rw [oG, sp_lay, fG0, if_neg (by omega), uZ_n (by omega), uZ_n (by omega), uZ_n (by omega), oG]
        rw [e2, us b' 0 q1 q2 e (by omega) (by omega), us b' 1 q1 q2 e (by omega) (by omega)]
        exact hG
  · exact h
theorem go_gap {f : Int → Int} {b p t rt r : Int} (h1 : p < r) (h2 : r ≤ p + go f b p t rt) : ¬ oG f b r = 1 := by
  rw [go] at h2
  split at h2
  · have h3 := adv_ok (P := ok f b t) (p := p) (k := rt.toNat) (r := r) h1 (by omega)
    simp only [ok, Bool.and_eq_true, decide_eq_true_eq] at h3
    exact h3.1.2
  · omega
theorem Inv.k_tk1 {B : Int} {f : Int → Int} (h : Inv B f) (hB : B ≤ 1073000000) : Inv (B + 1) (tk1 f) := by
  have hT := h.TI (by omega)
  have hT2 := hT.t (by omega)
  have hup := tk1_up hT (by omega)
  have u : ∀ j : Int, j ≠ 1 → j ≠ 13 → j ≠ 16 → tk1 f j = f j := fun j q1 q2 q3 => by rw [tk1, uZ_n q3, tkB, uZ_n q2, tkA, uZ_n q1]
  have u1 : tk1 f 1 = f 1 + 1 := by rw [tk1, uZ_n (by omega), tkB, uZ_n (by omega), tkA, uZ_s]
  have a1 := h.tk
  have a2 := h.ln
  have a4 := h.lc
  have a5 := h.lo
  have a6 := h.ap
  have s0 := h.S 0 (by omega) (by omega)
  have s1 := h.S 1 (by omega) (by omega)
  have c0 : oS f 0 0 = f 12 := rfl
  have c1 : oS f 0 1 = f 13 := rfl
  have c2 : oS f 0 2 = f 14 := rfl
  have c3 : oS f 1 0 = f 15 := rfl
  have c4 : oS f 1 1 = f 16 := rfl
  have c5 : oS f 1 2 = f 17 := rfl
  have d0 : oS (tk1 f) 0 0 = f 12 := u 12 (by omega) (by omega) (by omega)
  have d1 : oS (tk1 f) 0 1 = tk1 f 13 := rfl
  have d2 : oS (tk1 f) 0 2 = f 14 := u 14 (by omega) (by omega) (by omega)
  have d3 : oS (tk1 f) 1 0 = f 15 := u 15 (by omega) (by omega) (by omega)
  have d4 : oS (tk1 f) 1 1 = tk1 f 16 := rfl
  have d5 : oS (tk1 f) 1 2 = f 17 := u 17 (by omega) (by omega) (by omega)
  have t0 := hT2.2.2.2.2.1
  have t1 := hT2.2.2.2.2.2.1
  have v12 := u 12 (by omega) (by omega) (by omega)
  have v15 := u 15 (by omega) (by omega) (by omega)
  refine h.stand hT2.1 (u 0 (by omega) (by omega) (by omega)) (u 3 (by omega) (by omega) (by omega)) (by omega) (by omega) (by rw [u 2 (by omega) (by omega) (by omega)]; omega) (by rw [u 4 (by omega) (by omega) (by omega)]; omega) (by rw [u 5 (by omega) (by omega) (by omega)]; omega) (by rw [u 6 (by omega) (by omega) (by omega)]; omega) (u 7 (by omega) (by omega) (by omega)) (u 8 (by omega) (by omega) (by omega)) (fun k q1 q2 => u _ (by omega) (by omega) (by omega)) (fun j q => u _ (by omega) (by omega) (by omega)) (fun b q1 q2 => ?_) (fun b r q1 q2 q3 q4 => ?_)
  · rcases (by omega : b = 0 ∨ b = 1) with e | e
    · rw [e, d0, d1, d2]
      omega
    · rw [e, d3, d4, d5]
      omega
  · have hG := h.G b r q1 q2 q3 q4
    have eg : oG (tk1 f) b r = oG f b r := u _ (by omega) (by omega) (by omega)
    rw [eg]
    rcases hG with hG | ⟨g1, g2, g3⟩
    · exact Or.inl hG
    · refine Or.inr ⟨g1, ?_, ?_⟩
      · rcases (by omega : b = 0 ∨ b = 1) with e | e
        · rw [e] at g1 g2
          rw [e, d1, tk1_13]
          by_cases hlt : f 13 + go (tkA f) 0 (oS (tkA f) 0 1) (f 1 + 1) (f 7) < r
          · exact hlt
          · have ep : oS (tkA f) 0 1 = f 13 := tkA_n (j := 13) (by omega)
            rw [ep] at hlt
            exact absurd (by rw [tkA, oG_up (by omega)]; exact g1) (go_gap (f := tkA f) (b := 0) (p := f 13) (t := f 1 + 1) (rt := f 7) (r := r) (by omega) (by omega))
        · rw [e] at g1 g2
          rw [e, d4, tk1_16]
          by_cases hlt : f 16 + go (tkB f) 1 (oS (tkB f) 1 1) (f 1 + 1) (f 7) < r
          · exact hlt
          · have ep : oS (tkB f) 1 1 = f 16 := tkB_n (j := 16) (by omega) (by omega)
            rw [ep] at hlt
            exact absurd (by rw [tkB, oG_up (by omega), tkA, oG_up (by omega)]; exact g1) (go_gap (f := tkB f) (b := 1) (p := f 16) (t := f 1 + 1) (rt := f 7) (r := r) (by omega) (by omega))
      · rcases (by omega : b = 0 ∨ b = 1) with e | e
        · rw [e] at g3
          rw [e, d0]
          omega
        · rw [e] at g3
          rw [e, d3]
          omega
theorem Inv.k_tkN {B : Int} {f : Int → Int} (h : Inv B f) : ∀ k : Nat, B + k ≤ 1073000000 → Inv (B + k) (tkN f k)
  | 0, _ => by
    rw [tkN, show B + ((0 : Nat) : Int) = B by omega]
    exact h
  | k + 1, hk => by
    have h1 := (Inv.k_tkN h k (by omega)).k_tk1 (by omega)
    rw [tkN, show B + ((k + 1 : Nat) : Int) = B + k + 1 by omega]
    exact h1
theorem Inv.k_tick {B : Int} {f : Int → Int} {t : Int} (h : Inv B f) (hB : B ≤ 1072000000) : Inv (B + 300) (sp_tick f t).2 := by
  rw [sp_tick]
  split
  · rename_i ht
    have h1 := h.k_tkN t.toNat (by omega)
    have hT := h.TI (by omega)
    have hT1 := hT.n t.toNat (by omega)
    have hup := tkN_up hT t.toNat (by omega)
    have t0 := hT1.2.2.2.2.1
    have t1 := hT1.2.2.2.2.2.1
    have s0 := hT.2.2.2.2.1
    have s1 := hT.2.2.2.2.2.1
    have a6 := h1.ap
    show Inv (B + 300) (uZ (tkN f t.toNat) 6 (tkN f t.toNat 6 + (tkN f t.toNat 13 + tkN f t.toNat 16 - f 13 - f 16)))
    obtain ⟨x, hx⟩ : ∃ x, x = tkN f t.toNat 6 + (tkN f t.toNat 13 + tkN f t.toNat 16 - f 13 - f 16) := ⟨_, rfl⟩
    rw [← hx]
    have u : ∀ j : Int, j ≠ 6 → uZ (tkN f t.toNat) 6 x j = tkN f t.toNat j := fun j q => uZ_n q
    have b1 := h1.tk
    have b2 := h1.ln
    have b3 := h1.tr
    have b4 := h1.lc
    have b5 := h1.lo
    refine h1.head (h1.rf.up (by omega)) (fun j q => u j (by omega)) (u 0 (by omega)) (by rw [u 1 (by omega)]; omega) (by rw [u 2 (by omega)]; omega) (by rw [u 3 (by omega)]; omega) (by rw [u 4 (by omega)]; omega) (by rw [u 5 (by omega)]; omega) (by rw [uZ_s]; omega) (by rw [u 7 (by omega)]; exact h1.rt) (by rw [u 8 (by omega)]; exact h1.dl) (fun k q1 q2 => ?_) (fun k1 k2 q1 q2 q3 => ?_) (fun k r q1 q2 q3 q4 q5 => ?_)
    · rw [u _ (by omega), u _ (by omega)]
      exact h1.sl k q1 q2
    · rw [u _ (by omega), u _ (by omega)]
      exact h1.sd k1 k2 q1 q2 q3
    · rw [u _ (by omega)]
      exact h1.Rs k r q1 q2 q3 q4 q5
  · exact h.mono (by omega)
theorem Inv.k_write {B : Int} {f : Int → Int} {kd k y x : Int} (h : Inv B f) (hB : B ≤ 1073000000) (hk : 0 ≤ k ∧ k ≤ 2) (hz : f (k + 9) ≠ 0) (hn : f 0 ≠ 100) (hkd : (kd = 0 ∧ (0 ≤ y ∧ y ≤ 23) ∧ 0 ≤ x ∧ x ≤ 999) ∨ ((kd = 1 ∨ kd = 2) ∧ y = -1000004 ∧ x = -1000004)) : Inv B (sp_write f kd k y x) := by
  have h0 := h.n
  have a1 := h.tk
  have a3 := h.tr
  have hsk := h.sl k hk.1 hk.2
  have u : ∀ j : Int, j ≠ 0 → (j < 5 * f 0 + 218 ∨ 5 * f 0 + 222 < j) → j ≠ k + 9 → sp_write f kd k y x j = f j := fun j q1 q2 q3 => by
    rw [sp_write, uZ_n q3, uZ_n (by omega), uZ_n (by omega), uZ_n (by omega), uZ_n (by omega), uZ_n (by omega), uZ_n q1]
  have u0 : sp_write f kd k y x 0 = f 0 + 1 := by rw [sp_write, uZ_n (by omega), uZ_n (by omega), uZ_n (by omega), uZ_n (by omega), uZ_n (by omega), uZ_n (by omega), uZ_s]
  have us : ∀ k' : Int, 0 ≤ k' → k' ≤ 2 → sp_write f kd k y x (k' + 9) = if k' = k then (if kd = 0 then f (k + 9) else 0) else f (k' + 9) := fun k' q1 q2 => by
    by_cases q : k' = k
    · rw [if_pos q, q, sp_write, uZ_s]
    · rw [if_neg q, u _ (by omega) (by omega) (by omega)]
  have r0 : oR (sp_write f kd k y x) (f 0 + 1) 0 = kd := by
    rw [oR, show 5 * (f 0 + 1) + 0 + 213 = 5 * f 0 + 218 by omega, sp_write, uZ_n (by omega), uZ_n (by omega), uZ_n (by omega), uZ_n (by omega), uZ_n (by omega), uZ_s]
  have r1 : oR (sp_write f kd k y x) (f 0 + 1) 1 = f (k + 9) := by
    rw [oR, show 5 * (f 0 + 1) + 1 + 213 = 5 * f 0 + 219 by omega, sp_write, uZ_n (by omega), uZ_n (by omega), uZ_n (by omega), uZ_n (by omega), uZ_s]
  have r2 : oR (sp_write f kd k y x) (f 0 + 1) 2 = y := by
    rw [oR, show 5 * (f 0 + 1) + 2 + 213 = 5 * f 0 + 220 by omega, sp_write, uZ_n (by omega), uZ_n (by omega), uZ_n (by omega), uZ_s]
  have r3 : oR (sp_write f kd k y x) (f 0 + 1) 3 = x := by
    rw [oR, show 5 * (f 0 + 1) + 3 + 213 = 5 * f 0 + 221 by omega, sp_write, uZ_n (by omega), uZ_n (by omega), uZ_s]
  have r4 : oR (sp_write f kd k y x) (f 0 + 1) 4 = f 1 := by
    rw [oR, show 5 * (f 0 + 1) + 4 + 213 = 5 * f 0 + 222 by omega, sp_write, uZ_n (by omega), uZ_s]
  have er : ∀ r w, 1 ≤ r → r ≤ f 0 → 0 ≤ w → w ≤ 4 → oR (sp_write f kd k y x) r w = oR f r w := fun r w q1 q2 q3 q4 => u _ (by omega) (by omega) (by omega)
  have es : ∀ b w, 0 ≤ b → b ≤ 1 → 0 ≤ w → w ≤ 2 → oS (sp_write f kd k y x) b w = oS f b w := fun b w q1 q2 q3 q4 => u _ (by omega) (by omega) (by omega)
  have eg : ∀ b r, 0 ≤ b → b ≤ 1 → 1 ≤ r → r ≤ 100 → oG (sp_write f kd k y x) b r = oG f b r := fun b r q1 q2 q3 q4 => u _ (by omega) (by omega) (by omega)
  have hrf : rF (sp_write f kd k y x) := by
    have b1 := h.rf (k + 9)
    have b2 := h.rf 1
    rw [sp_write]
    exact (((((((h.rf.up (by omega)).up (by omega)).up b1).up (by omega)).up (by omega)).up b2).up (by split <;> omega))
  refine ⟨hrf, by rw [u0]; omega, by rw [u 1 (by omega) (by omega) (by omega)]; exact h.tk, by rw [u 2 (by omega) (by omega) (by omega)]; exact h.ln, by rw [u 3 (by omega) (by omega) (by omega)]; exact h.tr, by rw [u 4 (by omega) (by omega) (by omega)]; exact h.lc, by rw [u 5 (by omega) (by omega) (by omega)]; exact h.lo, by rw [u 6 (by omega) (by omega) (by omega)]; exact h.ap, by rw [u 7 (by omega) (by omega) (by omega)]; exact h.rt, by rw [u 8 (by omega) (by omega) (by omega)]; exact h.dl, fun k' q1 q2 => ?_, fun k1 k2 q1 q2 q3 => ?_, fun b q1 q2 => ?_, fun b r q1 q2 q3 q4 => ?_, fun r q1 q2 => ?_, fun r q1 q2 => ?_, fun r q1 q2 => ?_, fun r r' q1 q2 q3 => ?_, fun k' r q1 q2 q3 q4 => ?_⟩
  · have := h.sl k' q1 q2
    rw [us k' q1 q2, u 3 (by omega) (by omega) (by omega)]
    split
    · split <;> omega
    · exact this
  · have b3 := h.sd k1 k2 q1 q2 q3
    rw [us k1 q1 (by omega), us k2 (by omega) q3]
    by_cases e1 : k1 = k
    · rw [if_pos e1, if_neg (by omega : ¬ k2 = k)]
      rw [e1] at b3
      split
      · exact b3
      · intro q
        omega
    · rw [if_neg e1]
      by_cases e2 : k2 = k
      · rw [if_pos e2]
        rw [e2] at b3
        split
        · exact b3
        · exact fun q => q
      · rw [if_neg e2]
        exact b3
  · have hS := h.S b q1 q2
    rw [es b 0 q1 q2 (by omega) (by omega), es b 1 q1 q2 (by omega) (by omega), es b 2 q1 q2 (by omega) (by omega), u0]
    omega
  · rw [es b 0 q1 q2 (by omega) (by omega), es b 1 q1 q2 (by omega) (by omega), eg b r q1 q2 q3 q4]
    exact h.G b r q1 q2 q3 q4
  · rw [u0] at q2
    rw [u 3 (by omega) (by omega) (by omega), u 1 (by omega) (by omega) (by omega)]
    by_cases e : r = f 0 + 1
    · rw [e, r0, r1, r4]
      omega
    · rw [er r 0 q1 (by omega) (by omega) (by omega), er r 1 q1 (by omega) (by omega) (by omega), er r 4 q1 (by omega) (by omega) (by omega)]
      exact h.R r q1 (by omega)
  · rw [u0] at q2
    by_cases e : r = f 0 + 1
    · rw [e, r0, r2, r3]
      omega
    · rw [er r 0 q1 (by omega) (by omega) (by omega), er r 2 q1 (by omega) (by omega) (by omega), er r 3 q1 (by omega) (by omega) (by omega)]
      exact h.Rp r q1 (by omega)
  · rw [u0] at q2
    by_cases e : r = f 0 + 1
    · rw [e, r0, r2, r3]
      omega
    · rw [er r 0 q1 (by omega) (by omega) (by omega), er r 2 q1 (by omega) (by omega) (by omega), er r 3 q1 (by omega) (by omega) (by omega)]
      exact h.Re r q1 (by omega)
  · rw [u0] at q3
    rw [er r 0 q1 (by omega) (by omega) (by omega), er r 1 q1 (by omega) (by omega) (by omega)]
    by_cases e : r' = f 0 + 1
    · rw [e, r1]
      exact h.Rs k r hk.1 hk.2 q1 (by omega)
    · rw [er r' 1 (by omega) (by omega) (by omega) (by omega)]
      exact h.Rt r r' q1 q2 (by omega)
  · rw [u0] at q4
    rw [us k' q1 q2]
    by_cases e : r = f 0 + 1
    · rw [e, r0, r1]
      intro q
      by_cases e2 : k' = k
      · rw [if_pos e2, if_neg q]
        omega
      · rw [if_neg e2]
        rcases (by omega : k' < k ∨ k < k') with l | l
        · have := h.sd k' k q1 l hk.2
          omega
        · have := h.sd k k' hk.1 l q2
          omega
    · rw [er r 0 q3 (by omega) (by omega) (by omega), er r 1 q3 (by omega) (by omega) (by omega)]
      intro q
      have b1 := h.R r q3 (by omega)
      by_cases e2 : k' = k
      · rw [if_pos e2]
        split
        · exact h.Rs k r hk.1 hk.2 q3 (by omega) q
        · omega
      · rw [if_neg e2]
        exact h.Rs k' r q1 q2 q3 (by omega) q
theorem Inv.k_put {B : Int} {f : Int → Int} {k y x : Int} (h : Inv B f) (hB : B ≤ 1073000000) : Inv B (sp_put f k y x).2 := by
  rw [sp_put]
  split
  · rename_i hyx
    split
    · exact h
    · rename_i hb
      have hc : (0 ≤ k ∧ k ≤ 2) ∧ f (k + 9) ≠ 0 ∧ f 0 ≠ 100 := by
        rw [sp_bar] at hb
        split at hb
        · rename_i hk
          split at hb
          · omega
          · split at hb
            · omega
            · rename_i q1 q2
              exact ⟨hk, q1, q2⟩
        · omega
      exact h.k_write hB hc.1 hc.2.1 hc.2.2 (Or.inl ⟨rfl, hyx⟩)
  · exact h
theorem Inv.k_end {B : Int} {f : Int → Int} {kd k : Int} (h : Inv B f) (hB : B ≤ 1073000000) (hkd : kd = 1 ∨ kd = 2) : Inv B (sp_end f kd k).2 := by
  rw [sp_end]
  split
  · exact h
  · rename_i hb
    have hc : (0 ≤ k ∧ k ≤ 2) ∧ f (k + 9) ≠ 0 ∧ f 0 ≠ 100 := by
      rw [sp_bar] at hb
      split at hb
      · rename_i hk
        split at hb
        · omega
        · split at hb
          · omega
          · rename_i q1 q2
            exact ⟨hk, q1, q2⟩
      · omega
    exact h.k_write hB hc.1 hc.2.1 hc.2.2 (Or.inr ⟨hkd, rfl, rfl⟩)
theorem pm_fix {f : Int → Int} {b p lost a j : Int} (hb : 0 ≤ b ∧ b ≤ 1) (hp : 0 ≤ p ∧ p ≤ 100) (h1 : j = 1 ∨ j = 3 ∨ (5 ≤ j ∧ j ≤ 8) ∨ 218 ≤ j) : pmC (pmB (sp_lay (pmA f p lost) b p a) b p) b p j = f j := by
  have e1 : pmC (pmB (sp_lay (pmA f p lost) b p a) b p) b p j = pmB (sp_lay (pmA f p lost) b p a) b p j := by
    rw [pmC]
    split
    · rw [uZ_n (by omega), uZ_n (by omega)]
    · rfl
  rw [e1, pmB, fG0, if_neg (by omega), uZ_n (by omega), sp_lay, fG0, if_neg (by omega), uZ_n (by omega), uZ_n (by omega), uZ_n (by omega), pmA, uZ_n (by omega), uZ_n (by omega), uZ_n (by omega), uZ_n (by omega), uZ_n (by omega), uZ_n (by omega)]
theorem pm_head {f : Int → Int} {b p lost a j : Int} (hb : 0 ≤ b ∧ b ≤ 1) (hp : 0 ≤ p ∧ p ≤ 100) (h1 : 0 ≤ j ∧ j ≤ 11) : pmC (pmB (sp_lay (pmA f p lost) b p a) b p) b p j = pmA f p lost j := by
  have e1 : pmC (pmB (sp_lay (pmA f p lost) b p a) b p) b p j = pmB (sp_lay (pmA f p lost) b p a) b p j := by
    rw [pmC]
    split
    · rw [uZ_n (by omega), uZ_n (by omega)]
    · rfl
  rw [e1, pmB, fG0, if_neg (by omega), uZ_n (by omega), sp_lay, fG0, if_neg (by omega), uZ_n (by omega), uZ_n (by omega), uZ_n (by omega)]
theorem pm_own {f : Int → Int} {b p lost a : Int} (hb : 0 ≤ b ∧ b ≤ 1) (hp : 0 ≤ p ∧ p ≤ 100) : oS (pmC (pmB (sp_lay (pmA f p lost) b p a) b p) b p) b 0 = p ∧ oS (pmC (pmB (sp_lay (pmA f p lost) b p a) b p) b p) b 1 = p ∧ oS (pmC (pmB (sp_lay (pmA f p lost) b p a) b p) b p) b 2 = a := by
  have e1 : ∀ w : Int, 0 ≤ w → w ≤ 2 → oS (pmC (pmB (sp_lay (pmA f p lost) b p a) b p) b p) b w = uZ (uZ (uZ (pmA f p lost) (3 * b + 12) p) (3 * b + 13) p) (3 * b + 14) a (3 * b + w + 12) := fun w q1 q2 => by
    have e2 : pmC (pmB (sp_lay (pmA f p lost) b p a) b p) b p (3 * b + w + 12) = pmB (sp_lay (pmA f p lost) b p a) b p (3 * b + w + 12) := by
      rw [pmC]
      split
      · rw [uZ_n (by omega), uZ_n (by omega)]
      · rfl
    rw [oS, e2, pmB, fG0, if_neg (by omega), uZ_n (by omega), sp_lay, fG0, if_neg (by omega)]
  refine ⟨?_, ?_, ?_⟩
  · rw [e1 0 (by omega) (by omega), uZ_n (by omega), uZ_n (by omega), show 3 * b + 0 + 12 = 3 * b + 12 by omega, uZ_s]
  · rw [e1 1 (by omega) (by omega), uZ_n (by omega), show 3 * b + 1 + 12 = 3 * b + 13 by omega, uZ_s]
  · rw [e1 2 (by omega) (by omega), show 3 * b + 2 + 12 = 3 * b + 14 by omega, uZ_s]
theorem pm_lay {f : Int → Int} {b p lost a j : Int} (hb : 0 ≤ b ∧ b ≤ 1) (h1 : 12 ≤ j ∧ j ≤ 17) (h2 : j < 3 * b + 12 ∨ 3 * b + 14 < j) : sp_lay (pmA f p lost) b p a j = f j := by
  rw [sp_lay, fG0, if_neg (by omega), uZ_n (by omega), uZ_n (by omega), uZ_n (by omega), pmA, uZ_n (by omega), uZ_n (by omega), uZ_n (by omega), uZ_n (by omega), uZ_n (by omega), uZ_n (by omega)]
theorem pm_oth {f : Int → Int} {b c p lost a : Int} (hb : 0 ≤ b ∧ b ≤ 1) (hc : c = 1 - b) (hp : 0 ≤ p ∧ p ≤ 100) : oS (pmC (pmB (sp_lay (pmA f p lost) b p a) b p) b p) c 0 = (if p < oS f c 0 then p else oS f c 0) ∧ oS (pmC (pmB (sp_lay (pmA f p lost) b p a) b p) b p) c 1 = (if p < oS f c 1 then p else oS f c 1) ∧ oS (pmC (pmB (sp_lay (pmA f p lost) b p a) b p) b p) c 2 = (if p < oS f c 1 then 1 else oS f c 2) := by
  have l0 : sp_lay (pmA f p lost) b p a (15 - 3 * b) = oS f c 0 := by rw [pm_lay hb (by omega) (by omega), oS]; congr 1; omega
  have l1 : pmB (sp_lay (pmA f p lost) b p a) b p (16 - 3 * b) = oS f c 1 := by rw [pmB, fG0, if_neg (by omega), uZ_n (by omega), pm_lay hb (by omega) (by omega), oS]; congr 1; omega
  have l2 : pmB (sp_lay (pmA f p lost) b p a) b p (17 - 3 * b) = oS f c 2 := by rw [pmB, fG0, if_neg (by omega), uZ_n (by omega), pm_lay hb (by omega) (by omega), oS]; congr 1; omega
  have m0 : pmB (sp_lay (pmA f p lost) b p a) b p (15 - 3 * b) = (if p < oS f c 0 then p else oS f c 0) := by rw [pmB, fG0, if_neg (by omega), uZ_s, l0]
  have i0 : 3 * c + 0 + 12 = 15 - 3 * b := by omega
  have i1 : 3 * c + 1 + 12 = 16 - 3 * b := by omega
  have i2 : 3 * c + 2 + 12 = 17 - 3 * b := by omega
  have d0 : oS (pmC (pmB (sp_lay (pmA f p lost) b p a) b p) b p) c 0 = pmC (pmB (sp_lay (pmA f p lost) b p a) b p) b p (15 - 3 * b) := by rw [oS, i0]
  have d1 : oS (pmC (pmB (sp_lay (pmA f p lost) b p a) b p) b p) c 1 = pmC (pmB (sp_lay (pmA f p lost) b p a) b p) b p (16 - 3 * b) := by rw [oS, i1]
  have d2 : oS (pmC (pmB (sp_lay (pmA f p lost) b p a) b p) b p) c 2 = pmC (pmB (sp_lay (pmA f p lost) b p a) b p) b p (17 - 3 * b) := by rw [oS, i2]
  rw [d0, d1, d2, pmC, l1]
  by_cases h : p < oS f c 1
  · rw [if_pos h, if_pos h, if_pos h, uZ_n (by omega), uZ_n (by omega), m0, uZ_n (by omega), uZ_s, uZ_s]
    exact ⟨rfl, rfl, rfl⟩
  · rw [if_neg h, if_neg h, if_neg h, m0, l1, l2]
    exact ⟨rfl, rfl, rfl⟩
theorem pm_gap {f : Int → Int} {b p lost a b' r : Int} (hb : 0 ≤ b ∧ b ≤ 1) (hb' : 0 ≤ b' ∧ b' ≤ 1) (hp : 0 ≤ p ∧ p ≤ 100) (hr : 1 ≤ r ∧ r ≤ 100) : oG (pmC (pmB (sp_lay (pmA f p lost) b p a) b p) b p) b' r = if b' = b ∨ p < r then 0 else oG f b' r := by
  have e1 : oG (pmC (pmB (sp_lay (pmA f p lost) b p a) b p) b p) b' r = pmB (sp_lay (pmA f p lost) b p a) b p (100 * b' + r + 17) := by
    rw [oG, pmC]
    split
    · rw [uZ_n (by omega), uZ_n (by omega)]
    · rfl
  rw [e1, pmB, fG0]
  by_cases h1 : b' = b
  · rw [if_neg (by omega), uZ_n (by omega), sp_lay, fG0, if_pos (by omega), if_pos (Or.inl h1)]
  · by_cases h2 : p < r
    · rw [if_pos (by omega), if_pos (Or.inr h2)]
    · rw [if_neg (by omega), uZ_n (by omega), sp_lay, fG0, if_neg (by omega), uZ_n (by omega), uZ_n (by omega), uZ_n (by omega), pmA, uZ_n (by omega), uZ_n (by omega), uZ_n (by omega), uZ_n (by omega), uZ_n (by omega), uZ_n (by omega), if_neg (by omega), oG]
theorem Inv.k_promote {B : Int} {f : Int → Int} {b : Int} (h : Inv B f) (hB : B ≤ 1073000000) : Inv (B + 101) (sp_promote f b).2 := by
  rw [sp_promote]
  by_cases hb : 0 ≤ b ∧ b ≤ 1
  · rw [if_pos hb]
    by_cases ha : oS f b 2 = 1
    · rw [if_pos ha]
      exact h.mono (by omega)
    · rw [if_neg ha]
      have hS := h.S b hb.1 hb.2
      have hn := h.n
      have hm := mB_in (f := f) (a := oS f b 1 + 1) (z := f 0) (by omega)
      have a1 := h.tk
      have a2 := h.ln
      have a3 := h.tr
      have a4 := h.lc
      have a5 := h.lo
      have a6 := h.ap
      show Inv (B + 101) (pmC (pmB (sp_lay (pmA f (oS f b 1) (mB f (oS f b 1 + 1) (f 0))) b (oS f b 1) (if oS f b 1 < f 0 then 1 else 0)) b (oS f b 1)) b (oS f b 1))
      obtain ⟨p, hp⟩ : ∃ p, p = oS f b 1 := ⟨_, rfl⟩
      obtain ⟨lost, hl⟩ : ∃ l, l = mB f (oS f b 1 + 1) (f 0) := ⟨_, rfl⟩
      obtain ⟨a, hq⟩ : ∃ a : Int, a = (if oS f b 1 < f 0 then 1 else 0) := ⟨_, rfl⟩
      have ha01 : a = 0 ∨ a = 1 := by rw [hq]; split <;> omega
      rw [← hl, ← hq, ← hp]
      rw [← hl] at hm
      rw [← hp] at hS hm
      have hp2 : 0 ≤ p ∧ p ≤ 100 := by omega
      have z : ∀ j : Int, (j = 1 ∨ j = 3 ∨ (5 ≤ j ∧ j ≤ 8) ∨ 218 ≤ j) → pmC (pmB (sp_lay (pmA f p lost) b p a) b p) b p j = f j := fun j q => pm_fix hb hp2 q
      have z0 : pmC (pmB (sp_lay (pmA f p lost) b p a) b p) b p 0 = p := by rw [pm_head hb hp2 (by omega), pmA, uZ_n (by omega), uZ_n (by omega), uZ_n (by omega), uZ_n (by omega), uZ_n (by omega), uZ_s]
      have z2 : pmC (pmB (sp_lay (pmA f p lost) b p a) b p) b p 2 = f 2 + 1 := by rw [pm_head hb hp2 (by omega), pmA, uZ_n (by omega), uZ_n (by omega), uZ_n (by omega), uZ_s]
      have z4 : pmC (pmB (sp_lay (pmA f p lost) b p a) b p) b p 4 = f 4 + lost := by rw [pm_head hb hp2 (by omega), pmA, uZ_n (by omega), uZ_n (by omega), uZ_n (by omega), uZ_n (by omega), uZ_s]
      have zs : ∀ k : Int, 0 ≤ k → k ≤ 2 → pmC (pmB (sp_lay (pmA f p lost) b p a) b p) b p (k + 9) = 0 := fun k q1 q2 => by
        rw [pm_head hb hp2 (by omega), pmA]
        rcases (by omega : k = 0 ∨ k = 1 ∨ k = 2) with e | e | e
        · rw [e, uZ_n (by omega), uZ_n (by omega), show (0 : Int) + 9 = 9 by omega, uZ_s]
        · rw [e, uZ_n (by omega), show (1 : Int) + 9 = 10 by omega, uZ_s]
        · rw [e, show (2 : Int) + 9 = 11 by omega, uZ_s]
      have er : ∀ r w, 1 ≤ r → 0 ≤ w → oR (pmC (pmB (sp_lay (pmA f p lost) b p a) b p) b p) r w = oR f r w := fun r w q1 q2 => z _ (by omega)
      have hrf : rF (pmC (pmB (sp_lay (pmA f p lost) b p a) b p) b p) := by
        have hA : rF (pmA f p lost) := (((((h.rf.up (by omega)).up (by omega)).up (by omega)).up (by omega)).up (by omega)).up (by omega)
        have hM := rF_pmB (b := b) (rF_lay (b := b) (p := p) (a := a) hA (by omega) (by omega)) (p := p) (by omega)
        rw [pmC]
        split
        · exact (hM.up (by omega)).up (by omega)
        · exact hM
      refine ⟨hrf, by rw [z0]; exact hp2, by rw [z 1 (by omega)]; omega, by rw [z2]; omega, by rw [z 3 (by omega)]; omega, by rw [z4]; omega, by rw [z 5 (by omega)]; omega, by rw [z 6 (by omega)]; omega, by rw [z 7 (by omega)]; exact h.rt, by rw [z 8 (by omega)]; exact h.dl, fun k q1 q2 => ?_, fun k1 k2 q1 q2 q3 q4 => ?_, fun b' q1 q2 => ?_, fun b' r q1 q2 q3 q4 => ?_, fun r q1 q2 => ?_, fun r q1 q2 => ?_, fun r q1 q2 => ?_, fun r r' q1 q2 q3 => ?_, fun k r q1 q2 q3 q4 => ?_⟩
      · rw [zs k q1 q2, z 3 (by omega)]
        omega
      · exact absurd (zs k1 q1 (by omega)) q4
      · rw [z0]
        by_cases e : b' = b
        · have w := pm_own (f := f) (b := b) (p := p) (lost := lost) (a := a) hb hp2
          rw [e, w.1, w.2.1, w.2.2]
          omega
        · have hS' := h.S b' q1 q2
          have w := pm_oth (f := f) (b := b) (c := b') (p := p) (lost := lost) (a := a) hb (by omega) hp2
          rw [w.1, w.2.1, w.2.2]
          refine ⟨by split <;> omega, by split <;> split <;> omega, by split <;> omega, by split <;> omega⟩
      · rw [pm_gap hb ⟨q1, q2⟩ hp2 ⟨q3, q4⟩]
        by_cases e : b' = b ∨ p < r
        · rw [if_pos e]
          exact Or.inl rfl
        · rw [if_neg e]
          have hG := h.G b' r q1 q2 q3 q4
          have w := pm_oth (f := f) (b := b) (c := b') (p := p) (lost := lost) (a := a) hb (by omega) hp2
          rw [w.1, w.2.1]
          rcases hG with hG | hG
          · exact Or.inl hG
          · exact Or.inr ⟨hG.1, by split <;> omega, by split <;> omega⟩
      · rw [z0] at q2
        rw [er r 0 q1 (by omega), er r 1 q1 (by omega), er r 4 q1 (by omega), z 3 (by omega), z 1 (by omega)]
        exact h.R r q1 (by omega)
      · rw [z0] at q2
        rw [er r 0 q1 (by omega), er r 2 q1 (by omega), er r 3 q1 (by omega)]
        exact h.Rp r q1 (by omega)
      · rw [z0] at q2
        rw [er r 0 q1 (by omega), er r 2 q1 (by omega), er r 3 q1 (by omega)]
        exact h.Re r q1 (by omega)
      · rw [z0] at q3
        rw [er r 0 q1 (by omega), er r 1 q1 (by omega), er r' 1 (by omega) (by omega)]
        exact h.Rt r r' q1 q2 (by omega)
      · rw [z0] at q4
        rw [er r 1 q3 (by omega), zs k q1 q2]
        intro _ q
        have := h.R r q3 (by omega)
        omega
  · rw [if_neg hb]
    exact h.mono (by omega)

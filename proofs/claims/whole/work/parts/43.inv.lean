/-! ===== what the changes keep ===== -/
theorem Inv.mono {B B' : Int} {f : Int → Int} (h : Inv B f) (hb : B ≤ B') : Inv B' f := by
  obtain ⟨h0, h1, h2, h3, h4, h5, h6, h7, h8⟩ := h
  exact ⟨h0, h1, ⟨h2.1, by omega⟩, ⟨h3.1, by omega⟩, ⟨h4.1, by omega⟩, ⟨h5.1, by omega⟩, ⟨h6.1, by omega⟩, ⟨h7.1, by omega⟩, h8⟩
/-- a change of the head alone -/
theorem Inv.head {B B' : Int} {f f2 : Int → Int} (h : Inv B f) (hr : rF f2) (e : ∀ j : Int, 12 ≤ j → f2 j = f j) (e0 : f2 0 = f 0) (h1 : f 1 ≤ f2 1 ∧ f2 1 ≤ B') (h2 : 0 ≤ f2 2 ∧ f2 2 ≤ B') (h3 : f 3 ≤ f2 3 ∧ f2 3 ≤ B') (h4 : 0 ≤ f2 4 ∧ f2 4 ≤ B') (h5 : 0 ≤ f2 5 ∧ f2 5 ≤ B') (h6 : 0 ≤ f2 6 ∧ f2 6 ≤ B') (h7 : 1 ≤ f2 7 ∧ f2 7 ≤ 20) (h8 : 0 ≤ f2 8 ∧ f2 8 ≤ 20)
    (hs : ∀ k : Int, 0 ≤ k → k ≤ 2 → 0 ≤ f2 (k + 9) ∧ f2 (k + 9) ≤ f2 3) (hd : ∀ k k' : Int, 0 ≤ k → k < k' → k' ≤ 2 → f2 (k + 9) ≠ 0 → f2 (k + 9) ≠ f2 (k' + 9)) (hq : ∀ k r : Int, 0 ≤ k → k ≤ 2 → 1 ≤ r → r ≤ f 0 → oR f r 0 ≠ 0 → f2 (k + 9) ≠ oR f r 1) : Inv B' f2 := by
  have hn := h.n
  have ht := h.tk
  have h30 := h.tr
  have es : ∀ b w, 0 ≤ b → b ≤ 1 → 0 ≤ w → w ≤ 2 → oS f2 b w = oS f b w := fun b w h1 h2 h3 h4 => e _ (by omega)
  have eg : ∀ b r, 0 ≤ b → b ≤ 1 → 1 ≤ r → r ≤ 100 → oG f2 b r = oG f b r := fun b w h1 h2 h3 h4 => e _ (by omega)
  have er : ∀ r w, 1 ≤ r → r ≤ f 0 → 0 ≤ w → w ≤ 4 → oR f2 r w = oR f r w := fun b w h1 h2 h3 h4 => e _ (by omega)
  refine ⟨hr, by rw [e0]; exact h.n, by omega, h2, by omega, h4, h5, h6, h7, h8, hs, hd, fun b a1 a2 => ?_, fun b r a1 a2 a3 a4 => ?_, fun r a1 a2 => ?_, fun r a1 a2 => ?_, fun r a1 a2 => ?_, fun r r' a1 a2 a3 => ?_, fun k r a1 a2 a3 a4 => ?_⟩
  · rw [es b 0 a1 a2 (by omega) (by omega), es b 1 a1 a2 (by omega) (by omega), es b 2 a1 a2 (by omega) (by omega), e0]
    exact h.S b a1 a2
  · rw [es b 0 a1 a2 (by omega) (by omega), es b 1 a1 a2 (by omega) (by omega), eg b r a1 a2 a3 a4]
    exact h.G b r a1 a2 a3 a4
  · have hR := h.R r a1 (by omega)
    rw [er r 0 a1 (by omega) (by omega) (by omega), er r 1 a1 (by omega) (by omega) (by omega), er r 4 a1 (by omega) (by omega) (by omega)]
    exact ⟨hR.1, hR.2.1, by omega, by omega, by omega⟩
  · rw [er r 0 a1 (by omega) (by omega) (by omega), er r 2 a1 (by omega) (by omega) (by omega), er r 3 a1 (by omega) (by omega) (by omega)]
    exact h.Rp r a1 (by omega)
  · rw [er r 0 a1 (by omega) (by omega) (by omega), er r 2 a1 (by omega) (by omega) (by omega), er r 3 a1 (by omega) (by omega) (by omega)]
    exact h.Re r a1 (by omega)
  · rw [er r 0 a1 (by omega) (by omega) (by omega), er r 1 a1 (by omega) (by omega) (by omega), er r' 1 (by omega) (by omega) (by omega) (by omega)]
    exact h.Rt r r' a1 a2 (by omega)
  · rw [er r 0 a3 (by omega) (by omega) (by omega), er r 1 a3 (by omega) (by omega) (by omega)]
    exact hq k r a1 a2 a3 (by omega)
theorem Inv.k_open {B : Int} {f : Int → Int} {k : Int} (h : Inv B f) (hB : B ≤ 1073000000) : Inv (B + 1) (sp_open f k).2 := by
  rw [sp_open]
  split
  · rename_i hk
    split
    · exact h.mono (by omega)
    · rename_i hz
      have hsk := h.sl k hk.1 hk.2
      have a1 := h.tk
      have a2 := h.ln
      have a3 := h.tr
      have a4 := h.lc
      have a5 := h.lo
      have a6 := h.ap
      have u : ∀ j : Int, j ≠ 3 → j ≠ k + 9 → uZ (uZ f 3 (f 3 + 1)) (k + 9) (f 3 + 1) j = f j := fun j q1 q2 => by rw [uZ_n q2, uZ_n q1]
      have u3 : uZ (uZ f 3 (f 3 + 1)) (k + 9) (f 3 + 1) 3 = f 3 + 1 := by rw [uZ_n (by omega), uZ_s]
      have us : ∀ k' : Int, 0 ≤ k' → k' ≤ 2 → uZ (uZ f 3 (f 3 + 1)) (k + 9) (f 3 + 1) (k' + 9) = if k' = k then f 3 + 1 else f (k' + 9) := fun k' q1 q2 => by
        by_cases q : k' = k
        · rw [if_pos q, q, uZ_s]
        · rw [if_neg q, u _ (by omega) (by omega)]
      show Inv (B + 1) (uZ (uZ f 3 (f 3 + 1)) (k + 9) (f 3 + 1))
      refine h.head ((h.rf.up (by omega)).up (by omega)) (fun j hj => u j (by omega) (by omega)) (u 0 (by omega) (by omega)) (by rw [u 1 (by omega) (by omega)]; omega) (by rw [u 2 (by omega) (by omega)]; omega) (by rw [u3]; omega) (by rw [u 4 (by omega) (by omega)]; omega) (by rw [u 5 (by omega) (by omega)]; omega) (by rw [u 6 (by omega) (by omega)]; omega) (by rw [u 7 (by omega) (by omega)]; exact h.rt) (by rw [u 8 (by omega) (by omega)]; exact h.dl) (fun k' q1 q2 => ?_) (fun k1 k2 q1 q2 q3 q4 => ?_) (fun k' r q1 q2 q3 q4 q5 => ?_)
      · have := h.sl k' q1 q2
        rw [us k' q1 q2, u3]
        split <;> omega
      · have b1 := h.sl k1 q1 (by omega)
        have b2 := h.sl k2 (by omega) q3
        have b3 := h.sd k1 k2 q1 q2 q3
        rw [us k1 q1 (by omega)] at q4 ⊢
        rw [us k2 (by omega) q3]
        by_cases e1 : k1 = k
        · rw [if_pos e1, if_neg (by omega)]
          omega
        · rw [if_neg e1] at q4 ⊢
          by_cases e2 : k2 = k
          · rw [if_pos e2]
            omega
          · rw [if_neg e2]
            exact b3 q4
      · have b1 := h.R r q3 q4
        have b2 := h.Rs k' r q1 q2 q3 q4 q5
        rw [us k' q1 q2]
        split
        · omega
        · exact b2
  · exact h.mono (by omega)
theorem Inv.k_set {B : Int} {f : Int → Int} {w x : Int} (h : Inv B f) (_hB : B ≤ 1073000000) : Inv B (sp_set f w x).2 := by
  rw [sp_set]
  split
  · rename_i hw
    have u : ∀ j : Int, j ≠ w + 7 → uZ f (w + 7) x j = f j := fun j q => uZ_n q
    show Inv B (uZ f (w + 7) x)
    refine h.head (h.rf.up (by omega)) (fun j hj => u j (by omega)) (u 0 (by omega)) (by rw [u 1 (by omega)]; exact ⟨by omega, h.tk.2⟩) (by rw [u 2 (by omega)]; exact h.ln) (by rw [u 3 (by omega)]; exact ⟨by omega, h.tr.2⟩) (by rw [u 4 (by omega)]; exact h.lc) (by rw [u 5 (by omega)]; exact h.lo) (by rw [u 6 (by omega)]; exact h.ap) ?_ ?_ (fun k' q1 q2 => ?_) (fun k1 k2 q1 q2 q3 => ?_) (fun k' r q1 q2 q3 q4 q5 => ?_)
    · by_cases e : w = 0
      · rw [e, show (0 : Int) + 7 = 7 by omega, uZ_s]
        omega
      · rw [u 7 (by omega)]
        exact h.rt
    · by_cases e : w = 1
      · rw [e, show (1 : Int) + 7 = 8 by omega, uZ_s]
        omega
      · rw [u 8 (by omega)]
        exact h.dl
    · rw [u _ (by omega), u _ (by omega)]
      exact h.sl k' q1 q2
    · rw [u _ (by omega), u _ (by omega)]
      exact h.sd k1 k2 q1 q2 q3
    · rw [u _ (by omega)]
      exact h.Rs k' r q1 q2 q3 q4 q5
  · exact h
/-- a change of the standbys and of a few counts -/
theorem Inv.stand {B B' : Int} {f f2 : Int → Int} (h : Inv B f) (hr : rF f2) (e0 : f2 0 = f 0) (e3 : f2 3 = f 3) (hb : B ≤ B') (h1 : f 1 ≤ f2 1 ∧ f2 1 ≤ B') (h2 : 0 ≤ f2 2 ∧ f2 2 ≤ B') (h4 : 0 ≤ f2 4 ∧ f2 4 ≤ B') (h5 : 0 ≤ f2 5 ∧ f2 5 ≤ B') (h6 : 0 ≤ f2 6 ∧ f2 6 ≤ B') (e7 : f2 7 = f 7) (e8 : f2 8 = f 8) (ek : ∀ k : Int, 0 ≤ k → k ≤ 2 → f2 (k + 9) = f (k + 9)) (er : ∀ j : Int, 218 ≤ j → f2 j = f j)
    (hS : ∀ b : Int, 0 ≤ b → b ≤ 1 → 0 ≤ oS f2 b 1 ∧ oS f2 b 1 ≤ oS f2 b 0 ∧ oS f2 b 0 ≤ f 0 ∧ (oS f2 b 2 = 0 ∨ oS f2 b 2 = 1)) (hG : ∀ b r : Int, 0 ≤ b → b ≤ 1 → 1 ≤ r → r ≤ 100 → oG f2 b r = 0 ∨ (oG f2 b r = 1 ∧ oS f2 b 1 < r ∧ r ≤ oS f2 b 0)) : Inv B' f2 := by
  have hn := h.n
  have ht := h.tk
  have h30 := h.tr
  have er : ∀ r w, 1 ≤ r → 0 ≤ w → oR f2 r w = oR f r w := fun b w h1 h2 => er _ (by omega)
  refine ⟨hr, by rw [e0]; exact h.n, by omega, h2, by omega, h4, h5, h6, by rw [e7]; exact h.rt, by rw [e8]; exact h.dl, fun k a1 a2 => ?_, fun k k' a1 a2 a3 => ?_, fun b a1 a2 => ?_, hG, fun r a1 a2 => ?_, fun r a1 a2 => ?_, fun r a1 a2 => ?_, fun r r' a1 a2 a3 => ?_, fun k r a1 a2 a3 a4 => ?_⟩
  · rw [ek k a1 a2, e3]
    exact h.sl k a1 a2
  · rw [ek k a1 (by omega), ek k' (by omega) a3]
    exact h.sd k k' a1 a2 a3
  · rw [e0]
    exact hS b a1 a2
  · have hR := h.R r a1 (by omega)
    rw [er r 0 a1 (by omega), er r 1 a1 (by omega), er r 4 a1 (by omega), e3]
    exact ⟨hR.1, hR.2.1, hR.2.2.1, by omega, by omega⟩
  · rw [er r 0 a1 (by omega), er r 2 a1 (by omega), er r 3 a1 (by omega)]
    exact h.Rp r a1 (by omega)
  · rw [er r 0 a1 (by omega), er r 2 a1 (by omega), er r 3 a1 (by omega)]
    exact h.Re r a1 (by omega)
  · rw [er r 0 a1 (by omega), er r 1 a1 (by omega), er r' 1 (by omega) (by omega)]
    exact h.Rt r r' a1 a2 (by omega)
  · rw [er r 0 a3 (by omega), er r 1 a3 (by omega), ek k a1 a2]
    exact h.Rs k r a1 a2 a3 (by omega)
theorem Inv.k_ship {B : Int} {f : Int → Int} {b m : Int} (h : Inv B f) (_hB : B ≤ 1073000000) : Inv B (sp_ship f b m).2 := by
  rw [sp_ship]
  by_cases hc : (0 ≤ b ∧ b ≤ 1) ∧ 1 ≤ m ∧ m ≤ 20
  · rw [if_pos hc]
    by_cases ha : oS f b 2 = 1
    · rw [if_pos ha]
      exact h
    · rw [if_neg ha]
      have hS := h.S b hc.1.1 hc.1.2
      have hn := h.n
      obtain ⟨x, hx, hx0, hx1⟩ : ∃ x : Int, x = (if f 0 - oS f b 0 < m then f 0 - oS f b 0 else m) ∧ 0 ≤ x ∧ x ≤ f 0 - oS f b 0 := ⟨_, rfl, by split <;> omega, by split <;> omega⟩
      show Inv B (uZ f (3 * b + 12) (f (3 * b + 12) + (if f 0 - oS f b 0 < m then f 0 - oS f b 0 else m)))
      rw [← hx]
      have e0 : oS f b 0 = f (3 * b + 12) := by rw [oS]; congr 1; omega
      have u : ∀ j : Int, j ≠ 3 * b + 12 → uZ f (3 * b + 12) (f (3 * b + 12) + x) j = f j := fun j q => uZ_n q
      have us : ∀ b' w : Int, ¬ (b' = b ∧ w = 0) → 0 ≤ w → w ≤ 2 → oS (uZ f (3 * b + 12) (f (3 * b + 12) + x)) b' w = oS f b' w := fun b' w q1 q2 q3 => u _ (by omega)
      have ub : oS (uZ f (3 * b + 12) (f (3 * b + 12) + x)) b 0 = oS f b 0 + x := by
        rw [oS, show 3 * b + 0 + 12 = 3 * b + 12 by omega, uZ_s, e0]
      refine h.stand (h.rf.up (by omega)) (u 0 (by omega)) (u 3 (by omega)) (Int.le_refl B) (by rw [u 1 (by omega)]; exact ⟨by omega, h.tk.2⟩) (by rw [u 2 (by omega)]; exact h.ln) (by rw [u 4 (by omega)]; exact h.lc) (by rw [u 5 (by omega)]; exact h.lo) (by rw [u 6 (by omega)]; exact h.ap) (u 7 (by omega)) (u 8 (by omega)) (fun k q1 q2 => u _ (by omega)) (fun j q => u _ (by omega)) (fun b' q1 q2 => ?_) (fun b' r q1 q2 q3 q4 => ?_)
      · have hS' := h.S b' q1 q2
        rw [us b' 1 (by omega) (by omega) (by omega), us b' 2 (by omega) (by omega) (by omega)]
        by_cases e : b' = b
        · rw [e] at hS' ⊢
          rw [ub]
          omega
        · rw [us b' 0 (by omega) (by omega) (by omega)]
          exact hS'
      · have hG := h.G b' r q1 q2 q3 q4
        rw [us b' 1 (by omega) (by omega) (by omega), oG_up (by omega)]
        by_cases e : b' = b
        · rw [e] at hG ⊢
          rw [ub]
          omega
        · rw [us b' 0 (by omega) (by omega) (by omega)]
          exact hG
  · rw [if_neg hc]
    exact h
theorem Inv.k_lose {B : Int} {f : Int → Int} {b r : Int} (h : Inv B f) (hB : B ≤ 1073000000) : Inv (B + 1) (sp_lose f b r).2 := by
  rw [sp_lose]
  by_cases hc : (0 ≤ b ∧ b ≤ 1) ∧ 1 ≤ r
  · rw [if_pos hc]
    by_cases ha : oS f b 2 = 1 ∨ oS f b 0 < r ∨ r ≤ oS f b 1 ∨ oG f b r = 1
    · rw [if_pos ha]
      exact h.mono (by omega)
    · rw [if_neg ha]
      have hS := h.S b hc.1.1 hc.1.2
      have hn := h.n
      have h5 := h.lo
      show Inv (B + 1) (uZ (uZ f (100 * b + r + 17) 1) 5 (f 5 + 1))
      have u : ∀ j : Int, j ≠ 100 * b + r + 17 → j ≠ 5 → uZ (uZ f (100 * b + r + 17) 1) 5 (f 5 + 1) j = f j := fun j q1 q2 => by rw [uZ_n q2, uZ_n q1]
      have us : ∀ b' w : Int, 0 ≤ b' → b' ≤ 1 → 0 ≤ w → w ≤ 2 → oS (uZ (uZ f (100 * b + r + 17) 1) 5 (f 5 + 1)) b' w = oS f b' w := fun b' w q1 q2 q3 q4 => u _ (by omega) (by omega)
      have a1 := h.tk
      have a2 := h.ln
      have a4 := h.lc
      have a6 := h.ap
      refine h.stand ((h.rf.up (by omega)).up (by omega)) (u 0 (by omega) (by omega)) (u 3 (by omega) (by omega)) (by omega) (by rw [u 1 (by omega) (by omega)]; omega) (by rw [u 2 (by omega) (by omega)]; omega) (by rw [u 4 (by omega) (by omega)]; omega) (by rw [uZ_s]; omega) (by rw [u 6 (by omega) (by omega)]; omega) (u 7 (by omega) (by omega)) (u 8 (by omega) (by omega)) (fun k q1 q2 => u _ (by omega) (by omega)) (fun j q => u _ (by omega) (by omega)) (fun b' q1 q2 => ?_) (fun b' r' q1 q2 q3 q4 => ?_)
      · rw [us b' 0 q1 q2 (by omega) (by omega), us b' 1 q1 q2 (by omega) (by omega), us b' 2 q1 q2 (by omega) (by omega)]
        exact h.S b' q1 q2
      · have hG := h.G b' r' q1 q2 q3 q4
        rw [us b' 0 q1 q2 (by omega) (by omega), us b' 1 q1 q2 (by omega) (by omega), oG_up (by omega)]
        by_cases e : b' = b ∧ r' = r
        · rw [e.1, e.2, oG, uZ_s]
          right
          omega
        · rw [oG_up (by omega)]
          exact hG
  · rw [if_neg hc]
    exact h.mono (by omega)
theorem Inv.k_resend {B : Int} {f : Int → Int} {b : Int} (h : Inv B f) : Inv B (sp_resend f b).2 := by
  rw [sp_resend]
  split
  · rename_i hb
    split
    · exact h
    · show Inv B (fG0 f b 0 (100 * b + 118))
      have u : ∀ j : Int, (j < 18 ∨ 218 ≤ j) → fG0 f b 0 (100 * b + 118) j = f j := fun j q => by rw [fG0, if_neg (by omega)]
      have us : ∀ b' w : Int, 0 ≤ b' → b' ≤ 1 → 0 ≤ w → w ≤ 2 → oS (fG0 f b 0 (100 * b + 118)) b' w = oS f b' w := fun b' w q1 q2 q3 q4 => u _ (by omega)
      refine h.stand (rF_G0 h.rf) (u 0 (by omega)) (u 3 (by omega)) (Int.le_refl B) (by rw [u 1 (by omega)]; exact ⟨by omega, h.tk.2⟩) (by rw [u 2 (by omega)]; exact h.ln) (by rw [u 4 (by omega)]; exact h.lc) (by rw [u 5 (by omega)]; exact h.lo) (by rw [u 6 (by omega)]; exact h.ap) (u 7 (by omega)) (u 8 (by omega)) (fun k q1 q2 => u _ (by omega)) (fun j q => u _ (by omega)) (fun b' q1 q2 => ?_) (fun b' r q1 q2 q3 q4 => ?_)
      · rw [us b' 0 q1 q2 (by omega) (by omega), us b' 1 q1 q2 (by omega) (by omega), us b' 2 q1 q2 (by omega) (by omega)]
        exact h.S b' q1 q2
      · rw [us b' 0 q1 q2 (by omega) (by omega), us b' 1 q1 q2 (by omega) (by omega)]
        by_cases e : b' = b
        · left
          rw [e, oG, fG0, if_pos (by omega)]
        · have hG := h.G b' r q1 q2 q3 q4
          have e2 : oG (fG0 f b 0 (100 * b + 118)) b' r = oG f b' r := by rw [oG, fG0, if_neg (by omega), oG]
          rw [e2]
          exact hG
  · exact h
theorem Inv.k_rebuild {B : Int} {f : Int → Int} {b : Int} (h : Inv B f) : Inv B (sp_rebuild f b).2 := by
  rw [sp_rebuild]
  split
  · rename_i hb
    have hn := h.n
    show Inv B (sp_lay f b (f 0) 0)
    have u : ∀ j : Int, (j < 18 ∨ 218 ≤ j) → j ≠ 3 * b + 12 → j ≠ 3 * b + 13 → j ≠ 3 * b + 14 → sp_lay f b (f 0) 0 j = f j := fun j q q1 q2 q3 => by rw [sp_lay, fG0, if_neg (by omega), uZ_n q3, uZ_n q2, uZ_n q1]
    have us : ∀ b' w : Int, 0 ≤ b' → b' ≤ 1 → b' ≠ b → 0 ≤ w → w ≤ 2 → oS (sp_lay f b (f 0) 0) b' w = oS f b' w := fun b' w q1 q2 q3 q4 q5 => u _ (by omega) (by omega) (by omega) (by omega)
    have ub : oS (sp_lay f b (f 0) 0) b 0 = f 0 ∧ oS (sp_lay f b (f 0) 0) b 1 = f 0 ∧ oS (sp_lay f b (f 0) 0) b 2 = 0 := by
      refine ⟨?_, ?_, ?_⟩
      · rw [oS, sp_lay, fG0, if_neg (by omega), uZ_n (by omega), uZ_n (by omega), show 3 * b + 0 + 12 = 3 * b + 12 by omega, uZ_s]
      · rw [oS, sp_lay, fG0, if_neg (by omega), uZ_n (by omega), show 3 * b + 1 + 12 = 3 * b + 13 by omega, uZ_s]
      · rw [oS, sp_lay, fG0, if_neg (by omega), show 3 * b + 2 + 12 = 3 * b + 14 by omega, uZ_s]
    refine h.stand (rF_lay h.rf (by omega) (by omega)) (u 0 (by omega) (by omega) (by omega) (by omega)) (u 3 (by omega) (by omega) (by omega) (by omega)) (Int.le_refl B) (by rw [u 1 (by omega) (by omega) (by omega) (by omega)]; exact ⟨by omega, h.tk.2⟩) (by rw [u 2 (by omega) (by omega) (by omega) (by omega)]; exact h.ln) (by rw [u 4 (by omega) (by omega) (by omega) (by omega)]; exact h.lc) (by rw [u 5 (by omega) (by omega) (by omega) (by omega)]; exact h.lo) (by rw [u 6 (by omega) (by omega) (by omega) (by omega)]; exact h.ap) (u 7 (by omega) (by omega) (by omega) (by omega)) (u 8 (by omega) (by omega) (by omega) (by omega)) (fun k q1 q2 => u _ (by omega) (by omega) (by omega) (by omega)) (fun j q => u _ (by omega) (by omega) (by omega) (by omega)) (fun b' q1 q2 => ?_) (fun b' r q1 q2 q3 q4 => ?_)
    · by_cases e : b' = b
      · rw [e, ub.1, ub.2.1, ub.2.2]
        omega
      · rw [us b' 0 q1 q2 e (by omega) (by omega), us b' 1 q1 q2 e (by omega) (by omega), us b' 2 q1 q2 e (by omega) (by omega)]
        exact h.S b' q1 q2
    · by_cases e : b' = b
      · left
        rw [e, oG, sp_lay, fG0, if_pos (by omega)]
      · have hG := h.G b' r q1 q2 q3 q4
        have e2 : oG (sp_lay f b (f 0) 0) b' r = oG f b' r := by rw [oG, sp_lay, fG0, if_neg (by omega), uZ_n (by omega), uZ_n (by omega), uZ_n (by omega), oG]
        rw [e2, us b' 0 q1 q2 e (by omega) (by omega), us b' 1 q1 q2 e (by omega) (by omega)]
        exact hG
  · exact h

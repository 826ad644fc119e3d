/-! ===== answers of questions, in the law's words ===== -/
theorem st_0 {f : Int → Int} {b : Int} (hb : 0 ≤ b ∧ b ≤ 1) : sp_stb f b 0 = f (3 * b + 12) := by
  rw [sp_stb, if_pos (by omega), if_pos rfl, oS, show 3 * b + 0 + 12 = 3 * b + 12 by omega]
theorem st_1 {f : Int → Int} {b : Int} (hb : 0 ≤ b ∧ b ≤ 1) : sp_stb f b 1 = f (3 * b + 13) := by
  rw [sp_stb, if_pos (by omega), if_neg (by omega), if_pos rfl, oS, show 3 * b + 1 + 12 = 3 * b + 13 by omega]
theorem st_2 {f : Int → Int} {b : Int} (hb : 0 ≤ b ∧ b ≤ 1) : sp_stb f b 2 = mG f b := by
  rw [sp_stb, if_pos (by omega), if_neg (by omega), if_neg (by omega), if_pos rfl]
theorem st_3 {f : Int → Int} {b : Int} (hb : 0 ≤ b ∧ b ≤ 1) : sp_stb f b 3 = mW f b := by
  rw [sp_stb, if_pos (by omega), if_neg (by omega), if_neg (by omega), if_neg (by omega), if_pos rfl]
theorem st_4 {f : Int → Int} {b : Int} (hb : 0 ≤ b ∧ b ≤ 1) : sp_stb f b 4 = f (3 * b + 14) := by
  rw [sp_stb, if_pos (by omega), if_neg (by omega), if_neg (by omega), if_neg (by omega), if_neg (by omega), if_pos rfl, oS, show 3 * b + 2 + 12 = 3 * b + 14 by omega]
theorem st_5 {f : Int → Int} {b : Int} (hb : 0 ≤ b ∧ b ≤ 1) : sp_stb f b 5 = f 0 - f (3 * b + 13) := by
  rw [sp_stb, if_pos (by omega), if_neg (by omega), if_neg (by omega), if_neg (by omega), if_neg (by omega), if_neg (by omega), if_pos rfl, oS, show 3 * b + 1 + 12 = 3 * b + 13 by omega]
theorem st_6 {f : Int → Int} {b : Int} (hb : 0 ≤ b ∧ b ≤ 1) : sp_stb f b 6 = mB f (f (3 * b + 13) + 1) (f 0) := by
  rw [sp_stb, if_pos (by omega), if_neg (by omega), if_neg (by omega), if_neg (by omega), if_neg (by omega), if_neg (by omega), if_neg (by omega), if_pos rfl, oS, show 3 * b + 1 + 12 = 3 * b + 13 by omega]
theorem st_7 {f : Int → Int} {b : Int} (hb : 0 ≤ b ∧ b ≤ 1) : (f (3 * b + 13) = f 0 ∧ sp_stb f b 7 = -1000004) ∨ (¬ f (3 * b + 13) = f 0 ∧ sp_stb f b 7 = f 1 - oR f (f (3 * b + 13) + 1) 4) := by
  rw [sp_stb, if_pos (by omega), if_neg (by omega), if_neg (by omega), if_neg (by omega), if_neg (by omega), if_neg (by omega), if_neg (by omega), if_neg (by omega), if_pos rfl, oS, show 3 * b + 1 + 12 = 3 * b + 13 by omega]
  by_cases h : f (3 * b + 13) = f 0
  · rw [if_pos h]
    exact Or.inl ⟨h, rfl⟩
  · rw [if_neg h]
    exact Or.inr ⟨h, rfl⟩
theorem st_bad {f : Int → Int} {b w : Int} (h : ¬ ((0 ≤ b ∧ b ≤ 1) ∧ 0 ≤ w ∧ w ≤ 8)) : sp_stb f b w = -1000001 := by rw [sp_stb, if_neg h]
theorem rc_in {f : Int → Int} {r w : Int} (h : 1 ≤ r ∧ 0 ≤ w ∧ w ≤ 4) (h2 : r ≤ f 0) : sp_rec f r w = oR f r w := by rw [sp_rec, if_pos h, if_neg (by omega)]
theorem rc_out {f : Int → Int} {r w : Int} (h : 1 ≤ r ∧ 0 ≤ w ∧ w ≤ 4) (h2 : f 0 < r) : sp_rec f r w = -1000004 := by rw [sp_rec, if_pos h, if_pos h2]
theorem rc_bad {f : Int → Int} {r w : Int} (h : ¬ (1 ≤ r ∧ 0 ≤ w ∧ w ≤ 4)) : sp_rec f r w = -1000001 := by rw [sp_rec, if_neg h]
theorem sl_0 {f : Int → Int} {k : Int} (hk : 0 ≤ k ∧ k ≤ 2) : (f (k + 9) = 0 ∧ sp_slot f k 0 = -1000004) ∨ (¬ f (k + 9) = 0 ∧ sp_slot f k 0 = f (k + 9)) := by
  rw [sp_slot, if_pos (by omega)]
  by_cases h : f (k + 9) = 0
  · rw [if_pos h]
    exact Or.inl ⟨h, rfl⟩
  · rw [if_neg h, if_pos rfl]
    exact Or.inr ⟨h, rfl⟩
theorem sl_1 {f : Int → Int} {k : Int} (hk : 0 ≤ k ∧ k ≤ 2) : (f (k + 9) = 0 ∧ sp_slot f k 1 = -1000004) ∨ (¬ f (k + 9) = 0 ∧ sp_slot f k 1 = mO f (f (k + 9))) := by
  rw [sp_slot, if_pos (by omega)]
  by_cases h : f (k + 9) = 0
  · rw [if_pos h]
    exact Or.inl ⟨h, rfl⟩
  · rw [if_neg h, if_neg (by omega)]
    exact Or.inr ⟨h, rfl⟩
theorem sl_bad {f : Int → Int} {k w : Int} (h : ¬ ((0 ≤ k ∧ k ≤ 2) ∧ 0 ≤ w ∧ w ≤ 1)) : sp_slot f k w = -1000001 := by rw [sp_slot, if_neg h]
theorem mO_rg {f : Int → Int} {t : Int} (h : 0 ≤ f 0 ∧ f 0 ≤ 100) : 0 ≤ mO f t ∧ mO f t ≤ 100 := by
  have e := cnt_rng (P := fun r => decide (oR f r 0 = 0) && decide (oR f r 1 = t)) (a := 1) (k := (f 0).toNat)
  rw [mO]
  omega
theorem ct_03 {f : Int → Int} {ps ty w : Int} (h : 0 ≤ w ∧ w ≤ 3) : sp_count f ps ty w = f w := by rw [sp_count, if_pos h]
theorem ct_4 {f : Int → Int} {ps ty : Int} : sp_count f ps ty 4 = mB f (0 + 1) (f 0) := by
  rw [sp_count, if_neg (by omega), if_pos rfl]
  rfl
theorem ct_5 {f : Int → Int} {ps ty : Int} : sp_count f ps ty 5 = f 4 := by
  rw [sp_count, if_neg (by omega), if_neg (by omega), if_pos (by omega)]
  rfl
theorem ct_6 {f : Int → Int} {ps ty : Int} : sp_count f ps ty 6 = f 5 := by
  rw [sp_count, if_neg (by omega), if_neg (by omega), if_pos (by omega)]
  rfl
theorem ct_7 {f : Int → Int} {ps ty : Int} : sp_count f ps ty 7 = f 6 := by
  rw [sp_count, if_neg (by omega), if_neg (by omega), if_pos (by omega)]
  rfl
theorem ct_9 {f : Int → Int} {ps ty : Int} : sp_count f ps ty 9 = ty := by rw [sp_count, if_neg (by omega), if_neg (by omega), if_neg (by omega), if_neg (by omega), if_pos rfl]
theorem ct_20 {f : Int → Int} {ps ty : Int} : sp_count f ps ty 20 = f 7 := by
  rw [sp_count, if_neg (by omega), if_neg (by omega), if_neg (by omega), if_neg (by omega), if_neg (by omega), if_pos (by omega)]
  rfl
theorem ct_21 {f : Int → Int} {ps ty : Int} : sp_count f ps ty 21 = f 8 := by
  rw [sp_count, if_neg (by omega), if_neg (by omega), if_neg (by omega), if_neg (by omega), if_neg (by omega), if_pos (by omega)]
  rfl
theorem ct_bad {f : Int → Int} {ps ty w : Int} (h : w = 10 ∨ w = 19 ∨ w = 22) : sp_count f ps ty w = -1000001 := by
  rw [sp_count, if_neg (by omega), if_neg (by omega), if_neg (by omega), if_neg (by omega), if_neg (by omega), if_neg (by omega)]

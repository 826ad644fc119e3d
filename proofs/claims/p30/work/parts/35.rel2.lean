theorem RS.scal {f : Int → Int} {n tk ln tr lc lo ap rt dl r0 p0 q0 r1 p1 q1 : Int} {sl g0 g1 K T Y V A : Int → Int} {B : Int} (h : RS f n tk ln tr lc lo ap rt dl r0 p0 q0 r1 p1 q1 sl g0 g1 K T Y V A) (hI : Inv B f) : (0 ≤ n ∧ n ≤ 100) ∧ (0 ≤ tk ∧ tk ≤ B) ∧ (0 ≤ ln ∧ ln ≤ B) ∧ (0 ≤ tr ∧ tr ≤ B) ∧ (0 ≤ lc ∧ lc ≤ B) ∧ (0 ≤ lo ∧ lo ≤ B) ∧ (0 ≤ ap ∧ ap ≤ B) ∧ (1 ≤ rt ∧ rt ≤ 20) ∧ (0 ≤ dl ∧ dl ≤ 20) ∧ (0 ≤ p0 ∧ p0 ≤ r0 ∧ r0 ≤ n ∧ (q0 = 0 ∨ q0 = 1)) ∧ (0 ≤ p1 ∧ p1 ≤ r1 ∧ r1 ≤ n ∧ (q1 = 0 ∨ q1 = 1)) := by
  have a0 := h.e_n
  have a1 := h.e_tk
  have a2 := h.e_ln
  have a3 := h.e_tr
  have a4 := h.e_lc
  have a5 := h.e_lo
  have a6 := h.e_ap
  have a7 := h.e_rt
  have a8 := h.e_dl
  have a9 := h.e_r0
  have a10 := h.e_p0
  have a11 := h.e_q0
  have a12 := h.e_r1
  have a13 := h.e_p1
  have a14 := h.e_q1
  have s0 := hI.S 0 (by omega) (by omega)
  have s1 := hI.S 1 (by omega) (by omega)
  have c0 : oS f 0 0 = f 12 := rfl
  have c1 : oS f 0 1 = f 13 := rfl
  have c2 : oS f 0 2 = f 14 := rfl
  have c3 : oS f 1 0 = f 15 := rfl
  have c4 : oS f 1 1 = f 16 := rfl
  have c5 : oS f 1 2 = f 17 := rfl
  have i0 := hI.n
  have i1 := hI.tk
  have i2 := hI.ln
  have i3 := hI.tr
  have i4 := hI.lc
  have i5 := hI.lo
  have i6 := hI.ap
  have i7 := hI.rt
  have i8 := hI.dl
  exact ⟨by omega, by omega, by omega, by omega, by omega, by omega, by omega, by omega, by omega, by omega, by omega⟩
theorem RS.b0 {f : Int → Int} {n tk ln tr lc lo ap rt dl r0 p0 q0 r1 p1 q1 : Int} {sl g0 g1 K T Y V A : Int → Int} (h : RS f n tk ln tr lc lo ap rt dl r0 p0 q0 r1 p1 q1 sl g0 g1 K T Y V A) : r0 = oS f 0 0 ∧ p0 = oS f 0 1 ∧ q0 = oS f 0 2 := ⟨h.e_r0, h.e_p0, h.e_q0⟩
theorem RS.b1 {f : Int → Int} {n tk ln tr lc lo ap rt dl r0 p0 q0 r1 p1 q1 : Int} {sl g0 g1 K T Y V A : Int → Int} (h : RS f n tk ln tr lc lo ap rt dl r0 p0 q0 r1 p1 q1 sl g0 g1 K T Y V A) : r1 = oS f 1 0 ∧ p1 = oS f 1 1 ∧ q1 = oS f 1 2 := ⟨h.e_r1, h.e_p1, h.e_q1⟩
/-- what an append makes -/
def apnd (n z n2 kd t y x tk : Int) (K T Y V A K2 T2 Y2 V2 A2 : Int → Int) : Prop := (n = 100 ∧ z = -1000003 ∧ n2 = n ∧ K2 = K ∧ T2 = T ∧ Y2 = Y ∧ V2 = V ∧ A2 = A) ∨ (n < 100 ∧ z = n + 1 ∧ n2 = n + 1 ∧ K2 = uZ K n kd ∧ T2 = uZ T n t ∧ Y2 = uZ Y n y ∧ V2 = uZ V n x ∧ A2 = uZ A n tk)
def wrt (n z n2 kd t y x tk : Int) (K T Y V A K2 T2 Y2 V2 A2 : Int → Int) : Prop := (t = 0 ∧ z = -1000002 ∧ n2 = n ∧ K2 = K ∧ T2 = T ∧ Y2 = Y ∧ V2 = V ∧ A2 = A) ∨ (t ≠ 0 ∧ apnd n z n2 kd t y x tk K T Y V A K2 T2 Y2 V2 A2)
theorem put_rel {f : Int → Int} {n tk ln tr lc lo ap rt dl r0 p0 q0 r1 p1 q1 : Int} {sl g0 g1 K T Y V A : Int → Int} {B k y x z n2 : Int} {K2 T2 Y2 V2 A2 : Int → Int} (h : RS f n tk ln tr lc lo ap rt dl r0 p0 q0 r1 p1 q1 sl g0 g1 K T Y V A) (hI : Inv B f) (hB : B ≤ 1073000000) (hk : 0 ≤ k ∧ k ≤ 2) (hy : 0 ≤ y ∧ y ≤ 23) (hx : 0 ≤ x ∧ x ≤ 999) (hw : wrt n z n2 0 (sl k) y x tk K T Y V A K2 T2 Y2 V2 A2) :
    RS (sp_put f k y x).2 n2 tk ln tr lc lo ap rt dl r0 p0 q0 r1 p1 q1 sl g0 g1 K2 T2 Y2 V2 A2 ∧ (z, (sp_put f k y x).2) = sp_put f k y x := by
  have hs := h.hsl k hk.1 hk.2
  have hsb := hI.sl k hk.1 hk.2
  have en := h.e_n
  have hsc := h.scal hI
  have htr := hI.tr
  rcases hw with ⟨h1, rfl, rfl, rfl, rfl, rfl, rfl, rfl⟩ | ⟨h1, ⟨h2, rfl, rfl, rfl, rfl, rfl, rfl, rfl⟩ | ⟨h2, rfl, rfl, rfl, rfl, rfl, rfl, rfl⟩⟩
  · have hb : sp_bar f k = -1000002 := by rw [sp_bar, if_pos hk, if_pos (by omega)]
    have e : sp_put f k y x = (-1000002, f) := by rw [sp_put, if_pos ⟨hy, hx⟩, hb, if_pos (by decide)]
    rw [e]
    exact ⟨h, rfl⟩
  · have hb : sp_bar f k = -1000003 := by rw [sp_bar, if_pos hk, if_neg (by omega), if_pos (by omega)]
    have e : sp_put f k y x = (-1000003, f) := by rw [sp_put, if_pos ⟨hy, hx⟩, hb, if_pos (by decide)]
    rw [e]
    exact ⟨h, rfl⟩
  · have hb : sp_bar f k = 0 := by rw [sp_bar, if_pos hk, if_neg (by omega), if_neg (by omega)]
    have e : sp_put f k y x = (f 0 + 1, sp_write f 0 k y x) := by rw [sp_put, if_pos ⟨hy, hx⟩, hb, if_neg (by decide)]
    rw [e]
    refine ⟨?_, by rw [en]⟩
    have e2 : sp_write f 0 k y x = sp_wr f 0 (sl k) y x y x := by
      rw [sp_write, if_pos rfl, sp_wr, hs]
      funext j
      by_cases hj : j = k + 9
      · rw [hj, uZ_s, uZ_n (by omega), uZ_n (by omega), uZ_n (by omega), uZ_n (by omega), uZ_n (by omega), uZ_n (by omega)]
      · rw [uZ_n hj]
    rw [e2]
    exact h.s_w (by omega) (by omega) (by omega) (by omega) (by omega) (by omega) (fun _ => ⟨rfl, rfl⟩)
theorem end_rel {f : Int → Int} {n tk ln tr lc lo ap rt dl r0 p0 q0 r1 p1 q1 : Int} {sl g0 g1 K T Y V A : Int → Int} {B k kd z n2 : Int} {K2 T2 Y2 V2 A2 sl2 : Int → Int} (h : RS f n tk ln tr lc lo ap rt dl r0 p0 q0 r1 p1 q1 sl g0 g1 K T Y V A) (hI : Inv B f) (hB : B ≤ 1073000000) (hk : 0 ≤ k ∧ k ≤ 2) (hkd : kd = 1 ∨ kd = 2) (hw : wrt n z n2 kd (sl k) 0 0 tk K T Y V A K2 T2 Y2 V2 A2) (hs2 : sl2 = if 1 ≤ z then uZ sl k 0 else sl) :
    RS (sp_end f kd k).2 n2 tk ln tr lc lo ap rt dl r0 p0 q0 r1 p1 q1 sl2 g0 g1 K2 T2 Y2 V2 A2 ∧ (z, (sp_end f kd k).2) = sp_end f kd k := by
  have hs := h.hsl k hk.1 hk.2
  have hsb := hI.sl k hk.1 hk.2
  have en := h.e_n
  have hsc := h.scal hI
  have htr := hI.tr
  rcases hw with ⟨h1, rfl, rfl, rfl, rfl, rfl, rfl, rfl⟩ | ⟨h1, ⟨h2, rfl, rfl, rfl, rfl, rfl, rfl, rfl⟩ | ⟨h2, rfl, rfl, rfl, rfl, rfl, rfl, rfl⟩⟩
  · have hb : sp_bar f k = -1000002 := by rw [sp_bar, if_pos hk, if_pos (by omega)]
    have e : sp_end f kd k = (-1000002, f) := by rw [sp_end, hb, if_pos (by decide)]
    rw [e, hs2, if_neg (by omega)]
    exact ⟨h, rfl⟩
  · have hb : sp_bar f k = -1000003 := by rw [sp_bar, if_pos hk, if_neg (by omega), if_pos (by omega)]
    have e : sp_end f kd k = (-1000003, f) := by rw [sp_end, hb, if_pos (by decide)]
    rw [e, hs2, if_neg (by omega)]
    exact ⟨h, rfl⟩
  · have hb : sp_bar f k = 0 := by rw [sp_bar, if_pos hk, if_neg (by omega), if_neg (by omega)]
    have e : sp_end f kd k = (f 0 + 1, sp_write f kd k (-1000004) (-1000004)) := by rw [sp_end, hb, if_neg (by decide)]
    rw [e, hs2, if_pos (by omega)]
    refine ⟨?_, by rw [en]⟩
    have e2 : sp_write f kd k (-1000004) (-1000004) = uZ (sp_wr f kd (sl k) 0 0 (-1000004) (-1000004)) (k + 9) 0 := by
      rw [sp_write, if_neg (by omega), sp_wr, hs]
    rw [e2]
    exact (h.s_w (by omega) (by omega) (by omega) (by omega) (by omega) (by omega) (fun q => absurd q (by omega))).s_sl hk (by omega)
theorem sp_put_bad {f : Int → Int} {k y x : Int} (h : ¬ ((0 ≤ k ∧ k ≤ 2) ∧ (0 ≤ y ∧ y ≤ 23) ∧ 0 ≤ x ∧ x ≤ 999)) : (-1000001, f) = sp_put f k y x := by
  rw [sp_put]
  by_cases h1 : (0 ≤ y ∧ y ≤ 23) ∧ 0 ≤ x ∧ x ≤ 999
  · have hb : sp_bar f k = -1000001 := by rw [sp_bar, if_neg (by omega)]
    rw [if_pos h1, hb, if_pos (by decide)]
  · rw [if_neg h1]
theorem sp_end_bad {f : Int → Int} {k kd : Int} (h : ¬ (0 ≤ k ∧ k ≤ 2)) : (-1000001, f) = sp_end f kd k := by
  have hb : sp_bar f k = -1000001 := by rw [sp_bar, if_neg h]
  rw [sp_end, hb, if_pos (by decide)]
theorem lose_sC0 {f : Int → Int} {n tk ln tr lc lo ap rt dl r0 p0 q0 r1 p1 q1 : Int} {sl g0 g1 K T Y V A : Int → Int} {B r : Int} (h : RS f n tk ln tr lc lo ap rt dl r0 p0 q0 r1 p1 q1 sl g0 g1 K T Y V A) (hI : Inv B f) (hr : 1 ≤ r ∧ r ≤ 100) : sC (uZ g0 r 1) = mG (uZ (uZ f (100 * 0 + r + 17) 1) 5 (f 5 + 1)) 0 := cnt_cong (fun j h1 h2 => by
  have e := q_h0 h hI j h1 (by omega)
  rw [oG_up (by omega)]
  by_cases hj : j = r
  · rw [hj, uZ_s, oG, uZ_s]; rfl
  · rw [uZ_n hj, oG_up (by omega)]
    exact decide_eq_decide.mpr e)
theorem lose_sC1 {f : Int → Int} {n tk ln tr lc lo ap rt dl r0 p0 q0 r1 p1 q1 : Int} {sl g0 g1 K T Y V A : Int → Int} {B r : Int} (h : RS f n tk ln tr lc lo ap rt dl r0 p0 q0 r1 p1 q1 sl g0 g1 K T Y V A) (hI : Inv B f) (hr : 1 ≤ r ∧ r ≤ 100) : sC (uZ g1 r 1) = mG (uZ (uZ f (100 * 1 + r + 17) 1) 5 (f 5 + 1)) 1 := cnt_cong (fun j h1 h2 => by
  have e := q_h1 h hI j h1 (by omega)
  rw [oG_up (by omega)]
  by_cases hj : j = r
  · rw [hj, uZ_s, oG, uZ_s]; rfl
  · rw [uZ_n hj, oG_up (by omega)]
    exact decide_eq_decide.mpr e)

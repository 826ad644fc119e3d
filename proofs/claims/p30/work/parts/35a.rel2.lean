theorem q_i0 {f : Int → Int} {n tk ln tr lc lo ap rt dl r0 p0 q0 r1 p1 q1 : Int} {sl g0 g1 K T Y V A : Int → Int} (h : RS f n tk ln tr lc lo ap rt dl r0 p0 q0 r1 p1 q1 sl g0 g1 K T Y V A) : ∀ r, 1 ≤ r → r ≤ 100 → (g0 r ≠ 0 ↔ oG f 0 r = 1) := fun r h1 h2 => by
  have e := h.hg0 r h1 h2
  have h3 := h.hG0 r
  omega
theorem ship_0 {f : Int → Int} {n tk ln tr lc lo ap rt dl r0 p0 q0 r1 p1 q1 : Int} {sl g0 g1 K T Y V A : Int → Int} {m : Int} (h : RS f n tk ln tr lc lo ap rt dl r0 p0 q0 r1 p1 q1 sl g0 g1 K T Y V A) (hm : 1 ≤ m ∧ m ≤ 20) (hq : q0 = 0) : ((if n - r0 < m then n - r0 else m), uZ f 12 (r0 + (if n - r0 < m then n - r0 else m))) = sp_ship f 0 m := by
  have e : f 0 - oS f 0 0 = n - r0 := by rw [h.e_n, h.b0.1]
  have e2 : ¬ oS f 0 2 = 1 := by rw [← h.b0.2.2]; omega
  have e3 : f (3 * 0 + 12) = r0 := h.e_r0.symm
  have hc : ((0 : Int) ≤ 0 ∧ (0 : Int) ≤ 1) ∧ 1 ≤ m ∧ m ≤ 20 := ⟨⟨by omega, by omega⟩, hm⟩
  rw [sp_ship, if_pos hc, if_neg e2, e, e3]
  rfl
theorem prom_0 {f : Int → Int} {n tk ln tr lc lo ap rt dl r0 p0 q0 r1 p1 q1 : Int} {sl g0 g1 K T Y V A : Int → Int} {B a : Int} (h : RS f n tk ln tr lc lo ap rt dl r0 p0 q0 r1 p1 q1 sl g0 g1 K T Y V A) (hI : Inv B f) (hq : q0 = 0) (ha : a = if p0 < n then 1 else 0) : RS ((sp_promote f 0).2) (p0) tk (ln + 1) tr (lc + cB n K p0) lo ap rt dl (p0) p0 (a) (if p0 < r1 then p0 else r1) (if p0 < p1 then p0 else p1) (if p0 < p1 then 1 else q1) (uZ (uZ (uZ sl 0 0) 1 0) 2 0) (dG g0 0) (dG g1 p0) K T Y V A ∧ (cB n K p0, (sp_promote f 0).2) = sp_promote f 0 := by
  have hsc := h.scal hI
  have en := h.e_n
  have e : sp_promote f 0 = (cB n K p0, pmC (pmB (sp_lay (pmA f p0 (cB n K p0)) 0 p0 a) 0 p0) 0 p0) := by
    have hc : (0 : Int) ≤ 0 ∧ (0 : Int) ≤ 1 := ⟨by omega, by omega⟩
    have e2 : ¬ oS f 0 2 = 1 := by rw [← h.b0.2.2]; omega
    rw [sp_promote, if_pos hc, if_neg e2, ← h.b0.2.1, ← q_cB h (by omega), ← h.e_n, ha]
  have s1 := (((((h.s_n (z := p0) (by omega)).s_lc (z := f 4 + cB n K p0)).s_ln (z := f 2 + 1)).s_sl (k := 0) (z := 0) (by omega) (by omega)).s_sl (k := 1) (z := 0) (by omega) (by omega)).s_sl (k := 2) (z := 0) (by omega) (by omega)
  have s2 := (((s1.s_r0 (z := p0)).s_p0 (z := p0)).s_q0 (z := a)).s_d0 (p := 0) (by omega)
  have s3 : RS (sp_lay (pmA f p0 (cB n K p0)) 0 p0 a) (p0) tk (ln + 1) tr (lc + cB n K p0) lo ap rt dl (p0) p0 (a) r1 p1 q1 (uZ (uZ (uZ sl 0 0) 1 0) 2 0) (dG g0 0) g1 K T Y V A := by
    rw [show ln = f 2 from h.e_ln, show lc = f 4 from h.e_lc]
    exact s2
  have s4 : RS (pmB (sp_lay (pmA f p0 (cB n K p0)) 0 p0 a) 0 p0) (p0) tk (ln + 1) tr (lc + cB n K p0) lo ap rt dl (p0) p0 (a) (if p0 < r1 then p0 else r1) p1 q1 (uZ (uZ (uZ sl 0 0) 1 0) 2 0) (dG g0 0) (dG g1 p0) K T Y V A := by
    have s5 := (s3.s_r1 (z := if p0 < r1 then p0 else r1)).s_d1 (p := p0) (by omega)
    have e5 : r1 = sp_lay (pmA f p0 (cB n K p0)) 0 p0 a (15 - 3 * 0) := s3.e_r1
    rw [pmB, ← e5]
    exact s5
  rw [e]
  refine ⟨?_, rfl⟩
  have e6 : p1 = pmB (sp_lay (pmA f p0 (cB n K p0)) 0 p0 a) 0 p0 (16 - 3 * 0) := s4.e_p1
  by_cases hp : p0 < p1
  · have e7 : pmC (pmB (sp_lay (pmA f p0 (cB n K p0)) 0 p0 a) 0 p0) 0 p0 = uZ (uZ (pmB (sp_lay (pmA f p0 (cB n K p0)) 0 p0 a) 0 p0) (16 - 3 * 0) p0) (17 - 3 * 0) 1 := by rw [pmC, ← e6, if_pos hp]
    have s6 := (s4.s_p1 (z := p0)).s_q1 (z := 1)
    rw [if_pos hp, if_pos hp]
    show RS (pmC (pmB (sp_lay (pmA f p0 (cB n K p0)) 0 p0 a) 0 p0) 0 p0) (p0) (tk) (ln + 1) (tr) (lc + cB n K p0) (lo) (ap) (rt) (dl) (p0) (p0) (a) (if p0 < r1 then p0 else r1) (p0) (1) (uZ (uZ (uZ sl 0 0) 1 0) 2 0) (dG g0 0) (dG g1 p0) (K) (T) (Y) (V) (A)
    rw [e7]
    exact s6
  · have e7 : pmC (pmB (sp_lay (pmA f p0 (cB n K p0)) 0 p0 a) 0 p0) 0 p0 = pmB (sp_lay (pmA f p0 (cB n K p0)) 0 p0 a) 0 p0 := by rw [pmC, ← e6, if_neg hp]
    rw [if_neg hp, if_neg hp]
    show RS (pmC (pmB (sp_lay (pmA f p0 (cB n K p0)) 0 p0 a) 0 p0) 0 p0) (p0) (tk) (ln + 1) (tr) (lc + cB n K p0) (lo) (ap) (rt) (dl) (p0) (p0) (a) (if p0 < r1 then p0 else r1) (p1) (q1) (uZ (uZ (uZ sl 0 0) 1 0) 2 0) (dG g0 0) (dG g1 p0) (K) (T) (Y) (V) (A)
    rw [e7]
    exact s4
theorem reb_0 {f : Int → Int} {n tk ln tr lc lo ap rt dl r0 p0 q0 r1 p1 q1 : Int} {sl g0 g1 K T Y V A : Int → Int} {B : Int} (h : RS f n tk ln tr lc lo ap rt dl r0 p0 q0 r1 p1 q1 sl g0 g1 K T Y V A) (hI : Inv B f) : RS (sp_lay f 0 n 0) n tk ln tr lc lo ap rt dl (n) (n) (0) r1 p1 q1 sl (dG g0 0) g1 K T Y V A := (((h.s_r0 (z := n)).s_p0 (z := n)).s_q0 (z := 0)).s_d0 (p := 0) (by omega)
theorem q_i1 {f : Int → Int} {n tk ln tr lc lo ap rt dl r0 p0 q0 r1 p1 q1 : Int} {sl g0 g1 K T Y V A : Int → Int} (h : RS f n tk ln tr lc lo ap rt dl r0 p0 q0 r1 p1 q1 sl g0 g1 K T Y V A) : ∀ r, 1 ≤ r → r ≤ 100 → (g1 r ≠ 0 ↔ oG f 1 r = 1) := fun r h1 h2 => by
  have e := h.hg1 r h1 h2
  have h3 := h.hG1 r
  omega
theorem ship_1 {f : Int → Int} {n tk ln tr lc lo ap rt dl r0 p0 q0 r1 p1 q1 : Int} {sl g0 g1 K T Y V A : Int → Int} {m : Int} (h : RS f n tk ln tr lc lo ap rt dl r0 p0 q0 r1 p1 q1 sl g0 g1 K T Y V A) (hm : 1 ≤ m ∧ m ≤ 20) (hq : q1 = 0) : ((if n - r1 < m then n - r1 else m), uZ f 15 (r1 + (if n - r1 < m then n - r1 else m))) = sp_ship f 1 m := by
  have e : f 0 - oS f 1 0 = n - r1 := by rw [h.e_n, h.b1.1]
  have e2 : ¬ oS f 1 2 = 1 := by rw [← h.b1.2.2]; omega
  have e3 : f (3 * 1 + 12) = r1 := h.e_r1.symm
  have hc : ((0 : Int) ≤ 1 ∧ (1 : Int) ≤ 1) ∧ 1 ≤ m ∧ m ≤ 20 := ⟨⟨by omega, by omega⟩, hm⟩
  rw [sp_ship, if_pos hc, if_neg e2, e, e3]
  rfl
theorem prom_1 {f : Int → Int} {n tk ln tr lc lo ap rt dl r0 p0 q0 r1 p1 q1 : Int} {sl g0 g1 K T Y V A : Int → Int} {B a : Int} (h : RS f n tk ln tr lc lo ap rt dl r0 p0 q0 r1 p1 q1 sl g0 g1 K T Y V A) (hI : Inv B f) (hq : q1 = 0) (ha : a = if p1 < n then 1 else 0) : RS ((sp_promote f 1).2) (p1) tk (ln + 1) tr (lc + cB n K p1) lo ap rt dl (if p1 < r0 then p1 else r0) (if p1 < p0 then p1 else p0) (if p1 < p0 then 1 else q0) (p1) p1 (a) (uZ (uZ (uZ sl 0 0) 1 0) 2 0) (dG g0 p1) (dG g1 0) K T Y V A ∧ (cB n K p1, (sp_promote f 1).2) = sp_promote f 1 := by
  have hsc := h.scal hI
  have en := h.e_n
  have e : sp_promote f 1 = (cB n K p1, pmC (pmB (sp_lay (pmA f p1 (cB n K p1)) 1 p1 a) 1 p1) 1 p1) := by
    have hc : (0 : Int) ≤ 1 ∧ (1 : Int) ≤ 1 := ⟨by omega, by omega⟩
    have e2 : ¬ oS f 1 2 = 1 := by rw [← h.b1.2.2]; omega
    rw [sp_promote, if_pos hc, if_neg e2, ← h.b1.2.1, ← q_cB h (by omega), ← h.e_n, ha]
  have s1 := (((((h.s_n (z := p1) (by omega)).s_lc (z := f 4 + cB n K p1)).s_ln (z := f 2 + 1)).s_sl (k := 0) (z := 0) (by omega) (by omega)).s_sl (k := 1) (z := 0) (by omega) (by omega)).s_sl (k := 2) (z := 0) (by omega) (by omega)
  have s2 := (((s1.s_r1 (z := p1)).s_p1 (z := p1)).s_q1 (z := a)).s_d1 (p := 0) (by omega)
  have s3 : RS (sp_lay (pmA f p1 (cB n K p1)) 1 p1 a) (p1) tk (ln + 1) tr (lc + cB n K p1) lo ap rt dl r0 p0 q0 (p1) p1 (a) (uZ (uZ (uZ sl 0 0) 1 0) 2 0) g0 (dG g1 0) K T Y V A := by
    rw [show ln = f 2 from h.e_ln, show lc = f 4 from h.e_lc]
    exact s2
  have s4 : RS (pmB (sp_lay (pmA f p1 (cB n K p1)) 1 p1 a) 1 p1) (p1) tk (ln + 1) tr (lc + cB n K p1) lo ap rt dl (if p1 < r0 then p1 else r0) p0 q0 (p1) p1 (a) (uZ (uZ (uZ sl 0 0) 1 0) 2 0) (dG g0 p1) (dG g1 0) K T Y V A := by
    have s5 := (s3.s_r0 (z := if p1 < r0 then p1 else r0)).s_d0 (p := p1) (by omega)
    have e5 : r0 = sp_lay (pmA f p1 (cB n K p1)) 1 p1 a (15 - 3 * 1) := s3.e_r0
    rw [pmB, ← e5]
    exact s5
  rw [e]
  refine ⟨?_, rfl⟩
  have e6 : p0 = pmB (sp_lay (pmA f p1 (cB n K p1)) 1 p1 a) 1 p1 (16 - 3 * 1) := s4.e_p0
  by_cases hp : p1 < p0
  · have e7 : pmC (pmB (sp_lay (pmA f p1 (cB n K p1)) 1 p1 a) 1 p1) 1 p1 = uZ (uZ (pmB (sp_lay (pmA f p1 (cB n K p1)) 1 p1 a) 1 p1) (16 - 3 * 1) p1) (17 - 3 * 1) 1 := by rw [pmC, ← e6, if_pos hp]
    have s6 := (s4.s_p0 (z := p1)).s_q0 (z := 1)
    rw [if_pos hp, if_pos hp]
    show RS (pmC (pmB (sp_lay (pmA f p1 (cB n K p1)) 1 p1 a) 1 p1) 1 p1) (p1) (tk) (ln + 1) (tr) (lc + cB n K p1) (lo) (ap) (rt) (dl) (if p1 < r0 then p1 else r0) (p1) (1) (p1) (p1) (a) (uZ (uZ (uZ sl 0 0) 1 0) 2 0) (dG g0 p1) (dG g1 0) (K) (T) (Y) (V) (A)
    rw [e7]
    exact s6
  · have e7 : pmC (pmB (sp_lay (pmA f p1 (cB n K p1)) 1 p1 a) 1 p1) 1 p1 = pmB (sp_lay (pmA f p1 (cB n K p1)) 1 p1 a) 1 p1 := by rw [pmC, ← e6, if_neg hp]
    rw [if_neg hp, if_neg hp]
    show RS (pmC (pmB (sp_lay (pmA f p1 (cB n K p1)) 1 p1 a) 1 p1) 1 p1) (p1) (tk) (ln + 1) (tr) (lc + cB n K p1) (lo) (ap) (rt) (dl) (if p1 < r0 then p1 else r0) (p0) (q0) (p1) (p1) (a) (uZ (uZ (uZ sl 0 0) 1 0) 2 0) (dG g0 p1) (dG g1 0) (K) (T) (Y) (V) (A)
    rw [e7]
    exact s4
theorem reb_1 {f : Int → Int} {n tk ln tr lc lo ap rt dl r0 p0 q0 r1 p1 q1 : Int} {sl g0 g1 K T Y V A : Int → Int} {B : Int} (h : RS f n tk ln tr lc lo ap rt dl r0 p0 q0 r1 p1 q1 sl g0 g1 K T Y V A) (hI : Inv B f) : RS (sp_lay f 1 n 0) n tk ln tr lc lo ap rt dl r0 p0 q0 (n) (n) (0) sl g0 (dG g1 0) K T Y V A := (((h.s_r1 (z := n)).s_p1 (z := n)).s_q1 (z := 0)).s_d1 (p := 0) (by omega)
theorem tk_rel {f : Int → Int} {n tk ln tr lc lo ap rt dl r0 p0 q0 r1 p1 q1 : Int} {sl g0 g1 K T Y V A : Int → Int} (h : RS f n tk ln tr lc lo ap rt dl r0 p0 q0 r1 p1 q1 sl g0 g1 K T Y V A) : RS (tk1 f) n (tk + 1) ln tr lc lo ap rt dl r0 (tk1 f 13) q0 r1 (tk1 f 16) q1 sl g0 g1 K T Y V A := by
  have e := ((h.s_tk (z := f 1 + 1)).s_p0 (z := f 13 + go (tkA f) 0 (oS (tkA f) 0 1) (f 1 + 1) (f 7))).s_p1 (z := f 16 + go (tkB f) 1 (oS (tkB f) 1 1) (f 1 + 1) (f 7))
  rw [tk1_13, tk1_16, show tk = f 1 from h.e_tk]
  exact e
theorem tk_c0 {f : Int → Int} {n tk ln tr lc lo ap rt dl r0 p0 q0 r1 p1 q1 : Int} {sl g0 g1 K T Y V A : Int → Int} {D : Int} (h : RS f n tk ln tr lc lo ap rt dl r0 p0 q0 r1 p1 q1 sl g0 g1 K T Y V A) (hT : TI f D) (hr : r0 ≤ n ∧ n ≤ 100) : cg n A r0 q0 g0 dl p0 (tk + 1) rt = tk1 f 13 := by
  have h2 : RS (tkA f) n (f 1 + 1) ln tr lc lo ap rt dl r0 p0 q0 r1 p1 q1 sl g0 g1 K T Y V A := h.s_tk (z := f 1 + 1)
  have e1 := h2.e_n
  have e2 := h.e_p0
  have e4 := hT.2.2.2.2.1
  have e3 : oS (tkA f) 0 1 = f 13 := tkA_n (j := 13) (by omega)
  have e := q_cg (n := n) (A := A) (rc := r0) (st := q0) (g := g0) (dl := dl) (f := tkA f) (b := 0) (p := p0) (t := f 1 + 1) (rt := f 7) (q_i0 h2) (fun r h1 h3 => q_gA h2 (by omega)) h2.e_r0 h2.e_q0 h2.e_dl (by omega) (by omega)
  rw [show tk = f 1 from h.e_tk, show rt = f 7 from h.e_rt, e, tk1_13, e3, e2]
theorem tk_c1 {f : Int → Int} {n tk ln tr lc lo ap rt dl r0 p0 q0 r1 p1 q1 : Int} {sl g0 g1 K T Y V A : Int → Int} {D : Int} (h : RS f n tk ln tr lc lo ap rt dl r0 p0 q0 r1 p1 q1 sl g0 g1 K T Y V A) (hT : TI f D) (hr : r1 ≤ n ∧ n ≤ 100) : cg n A r1 q1 g1 dl p1 (tk + 1) rt = tk1 f 16 := by
  have h2 : RS (tkB f) n (f 1 + 1) ln tr lc lo ap rt dl r0 (f 13 + go (tkA f) 0 (oS (tkA f) 0 1) (f 1 + 1) (f 7)) q0 r1 p1 q1 sl g0 g1 K T Y V A := (h.s_tk (z := f 1 + 1)).s_p0 (z := f 13 + go (tkA f) 0 (oS (tkA f) 0 1) (f 1 + 1) (f 7))
  have e1 := h2.e_n
  have e2 := h.e_p1
  have e4 := hT.2.2.2.2.2.1
  have e3 : oS (tkB f) 1 1 = f 16 := tkB_n (j := 16) (by omega) (by omega)
  have e := q_cg (n := n) (A := A) (rc := r1) (st := q1) (g := g1) (dl := dl) (f := tkB f) (b := 1) (p := p1) (t := f 1 + 1) (rt := f 7) (q_i1 h2) (fun r h1 h3 => q_gA h2 (by omega)) h2.e_r1 h2.e_q1 h2.e_dl (by omega) (by omega)
  rw [show tk = f 1 from h.e_tk, show rt = f 7 from h.e_rt, e, tk1_16, e3, e2]
theorem tk_b {f : Int → Int} {n tk ln tr lc lo ap rt dl r0 p0 q0 r1 p1 q1 : Int} {sl g0 g1 K T Y V A : Int → Int} {D : Int} (h : RS f n tk ln tr lc lo ap rt dl r0 p0 q0 r1 p1 q1 sl g0 g1 K T Y V A) (hT : TI f D) (hD : D ≤ 1073741822) : (0 ≤ tk ∧ tk ≤ D) ∧ (0 ≤ p0 ∧ p0 ≤ r0) ∧ (0 ≤ p1 ∧ p1 ≤ r1) ∧ (p0 ≤ tk1 f 13 ∧ tk1 f 13 ≤ r0) ∧ (p1 ≤ tk1 f 16 ∧ tk1 f 16 ≤ r1) := by
  have h2 := hT.t hD
  have h3 := tk_rel h
  have h4 := tk1_up hT hD
  have a1 := hT.2.1
  have a2 := hT.2.2.2.2.1
  have a3 := hT.2.2.2.2.2.1
  have b2 := h2.2.2.2.2.1
  have b3 := h2.2.2.2.2.2.1
  have c1 := h.e_tk
  have c2 := h.e_r0
  have c3 := h.e_p0
  have c4 := h.e_r1
  have c5 := h.e_p1
  have d2 := h3.e_r0
  have d4 := h3.e_r1
  exact ⟨by omega, by omega, by omega, by omega, by omega⟩
theorem copy_rel {f : Int → Int} {n tk ln tr lc lo ap rt dl r0 p0 q0 r1 p1 q1 : Int} {sl g0 g1 K T Y V A : Int → Int} {slj Kj Tj Yj Vj Aj : Int → Int} {B : Int} (h : RS f n tk ln tr lc lo ap rt dl r0 p0 q0 r1 p1 q1 sl g0 g1 K T Y V A) (hI : Inv B f) (hs : rF slj) (hK : rF Kj) (hT : rF Tj) (hY : rF Yj) (hV : rF Vj) (hA : rF Aj) : RS (f) n tk ln tr lc lo ap rt dl r0 p0 q0 r1 p1 q1 (cpZ sl slj 3) g0 g1 (cpZ K Kj n) (cpZ T Tj n) (cpZ Y Yj n) (cpZ V Vj n) (cpZ A Aj n) := by
  have en := h.e_n
  refine ⟨h.e_n, h.e_tk, h.e_ln, h.e_tr, h.e_lc, h.e_lo, h.e_ap, h.e_rt, h.e_dl, h.e_r0, h.e_p0, h.e_q0, h.e_r1, h.e_p1, h.e_q1, fun k h1 h2 => ?_, h.hg0, h.hg1, fun r h1 h2 => ?_, h.hrK.cp hK, h.hrT.cp hT, h.hrY.cp hY, h.hrV.cp hV, h.hrA.cp hA, h.hrs.cp hs, h.hG0, h.hG1⟩
  · rw [cpZ_in (by omega)]
    exact h.hsl k h1 h2
  · rw [cpZ_in (by omega), cpZ_in (by omega), cpZ_in (by omega), cpZ_in (by omega), cpZ_in (by omega)]
    exact h.hrec r h1 h2

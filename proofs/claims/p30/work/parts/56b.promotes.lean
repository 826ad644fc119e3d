set_option maxHeartbeats 4000000 in
set_option maxRecDepth 100000 in
theorem c_L_promotes_0 (l : Launch) (G : fG) (x0 h0 h1 o0 u0 e8 e9 g0 r0 m0 : Nat) (a : Nat → Nat) (S : Nat → Nat → Nat) (c : Nat → Int) (F : Nat → Int → Int) (ps : Int) (Q : Nat → Option Nat) (cs : Nat → Nat → Int) (Fs : Nat → Nat → Int → Int) (p : Nat → Nat) (B : Int) (f P : Int → Int) (lr lm : Int → Nat) (hR : RSb f c F) (hP : PI B f) (hH : HRel B P ps S Q p cs Fs) (hL : LR f lr lm) (ha : ¬ f 14 = 1) : fCt l G yL_promotes wsL_promotes 5 125 0 0 [.ref x0, .ref g0, .ref r0, .ref m0, vI 0] ([[cO x0 6 [.ref (a 0), .ref h0, .ref o0, .ref u0, .ref e8, .ref e9]], stW G a c F, [cO h0 0 [.ref h1, vI ps]], [cQ h1 G.2.1.2.2.2.1 5 Q], stW G (S 0) (cs 0) (Fs 0), stW G (S 1) (cs 1) (Fs 1), stW G (S 2) (cs 2) (Fs 2), stW G (S 3) (cs 3) (Fs 3), stW G (S 4) (cs 4) (Fs 4), [cA g0 G.2.1.1 18 f], [cLg r0 G.2.1.2.2.2.2 64 lr], [cLg m0 G.2.1.2.2.2.2 2 lm]] : List va_W).flatten (fun (v0 : Option Value) (w0 : va_W) => ∃ (c2 : Nat → Int) (F2 : Nat → Int → Int) (ps2 : Int) (Q2 : Nat → Option Nat) (cs2 : Nat → Nat → Int) (Fs2 : Nat → Nat → Int → Int) (p2 : Nat → Nat) (f2 P2 : Int → Int) (lr2 lm2 : Int → Nat), v0 = some (vI 1) ∧ w0 = ([[cO x0 6 [.ref (a 0), .ref h0, .ref o0, .ref u0, .ref e8, .ref e9]], stW G a c2 F2, [cO h0 0 [.ref h1, vI ps2]], [cQ h1 G.2.1.2.2.2.1 5 Q2], stW G (S 0) (cs2 0) (Fs2 0), stW G (S 1) (cs2 1) (Fs2 1), stW G (S 2) (cs2 2) (Fs2 2), stW G (S 3) (cs2 3) (Fs2 3), stW G (S 4) (cs2 4) (Fs2 4), [cA g0 G.2.1.1 18 f2], [cLg r0 G.2.1.2.2.2.2 64 lr2], [cLg m0 G.2.1.2.2.2.2 2 lm2]] : List va_W).flatten ∧ (RSb f2 c2 F2) ∧ (NX B f f2 lr2 lm2) ∧ (HRel (B + 300) P2 ps2 S Q2 p2 cs2 Fs2)) := by
  refine fs_met (cc := cL_promotes) (nL := 9) (ret := (some .boolean)) (by decide) rfl (Nat.le_of_ble_eq_true rfl) ?_
  intro X C E
  show fSt l G X 0 0 0 [(0, .ref x0), (1, .ref g0), (2, .ref r0), (3, .ref m0), (4, vI 0)] [] ([[cO x0 6 [.ref (a 0), .ref h0, .ref o0, .ref u0, .ref e8, .ref e9]], stW G a c F, [cO h0 0 [.ref h1, vI ps]], [cQ h1 G.2.1.2.2.2.1 5 Q], stW G (S 0) (cs 0) (Fs 0), stW G (S 1) (cs 1) (Fs 1), stW G (S 2) (cs 2) (Fs 2), stW G (S 3) (cs 3) (Fs 3), stW G (S 4) (cs 4) (Fs 4), [cA g0 G.2.1.1 18 f], [cLg r0 G.2.1.2.2.2.2 64 lr], [cLg m0 G.2.1.2.2.2.2 2 lm]] : List va_W).flatten
  have hI := hP.1
  have hBl := hP.2.1
  have hBB : B ≤ 1073000000 := by omega
  have hn61 := hP.2.2.1
  have ht9 := hP.2.2.2
  have hn0 := hI.n
  have htk := hI.tk
  have hSb := hI.S 0 (by omega) (by omega)
  have hT9 : 0 ≤ f 13 ∧ f 13 ≤ f 0 := ⟨hSb.1, Int.le_trans hSb.2.1 hSb.2.2.1⟩
  have hm0 := (hL.b (b := 1) (by omega)).1
  have hp2 := Nat.one_le_two_pow (n := (f 13 : Int).toNat)
  have hp3 : 2 ^ (f 13 : Int).toNat ≤ 2 ^ 61 := Nat.pow_le_pow_right (by decide) (by omega)
  have hmB := mB_in (f := f) (a := f 13 + 1) (z := f 0) (by omega)
  have J_165 : ∀ (st na nd nb : Int), (st = if f 13 < f 0 then 1 else 0) → (na = if f 13 < f 15 then f 13 else f 15) → (nd = if f 13 < f 16 then 1 else f 17) → (nb = if f 13 < f 16 then f 13 else f 16) → fSt l G X 0 0 165 [(0, .ref x0), (1, .ref g0), (2, .ref r0), (3, .ref m0), (4, vI 0), (5, vI 12), (6, vI 15), (7, vI (f 13)), (8, vI (mB f (f 13 + 1) (f 0)))] [vI nb, vI 16, .ref g0] ([[cO x0 6 [.ref (a 0), .ref h0, .ref o0, .ref u0, .ref e8, .ref e9]], stW G a c F, [cO h0 0 [.ref h1, vI ps]], [cQ h1 G.2.1.2.2.2.1 5 Q], stW G (S 0) (cs 0) (Fs 0), stW G (S 1) (cs 1) (Fs 1), stW G (S 2) (cs 2) (Fs 2), stW G (S 3) (cs 3) (Fs 3), stW G (S 4) (cs 4) (Fs 4), [cA g0 G.2.1.1 18 (uZ (uZ (uZ (uZ (uZ f 12 (f 13)) 14 st) 0 (f 13)) 15 na) 17 nd)], [cLg r0 G.2.1.2.2.2.2 64 lr], [cLg m0 G.2.1.2.2.2.2 2 (uLg (uLg lm 0 0) 1 ((lm 1) &&& ((2 * 2 ^ (f 13 : Int).toNat) - 1)))]] : List va_W).flatten := by
    intro st na nd nb h_st h_na h_nd h_nb
    refine s_iast ([[cO x0 6 [.ref (a 0), .ref h0, .ref o0, .ref u0, .ref e8, .ref e9]], stW G a c F, [cO h0 0 [.ref h1, vI ps]], [cQ h1 G.2.1.2.2.2.1 5 Q], stW G (S 0) (cs 0) (Fs 0), stW G (S 1) (cs 1) (Fs 1), stW G (S 2) (cs 2) (Fs 2), stW G (S 3) (cs 3) (Fs 3), stW G (S 4) (cs 4) (Fs 4), [cA g0 G.2.1.1 18 (uZ (uZ (uZ (uZ (uZ (uZ f 12 (f 13)) 14 st) 0 (f 13)) 15 na) 17 nd) 16 nb)], [cLg r0 G.2.1.2.2.2.2 64 lr], [cLg m0 G.2.1.2.2.2.2 2 (uLg (uLg lm 0 0) 1 ((lm 1) &&& ((2 * 2 ^ (f 13 : Int).toNat) - 1)))]] : List va_W).flatten C dL_promotes_165 75 rfl 16 rfl (by omega) (by omega) (by omega) rfl ?_
    refine s_aload_n 1 C dL_promotes_166 rfl 1 rfl ?_
    refine s_bipush (z := 9) C dL_promotes_167 rfl ?_
    refine s_iconst C dL_promotes_169 ?_
    refine s_iast ([[cO x0 6 [.ref (a 0), .ref h0, .ref o0, .ref u0, .ref e8, .ref e9]], stW G a c F, [cO h0 0 [.ref h1, vI ps]], [cQ h1 G.2.1.2.2.2.1 5 Q], stW G (S 0) (cs 0) (Fs 0), stW G (S 1) (cs 1) (Fs 1), stW G (S 2) (cs 2) (Fs 2), stW G (S 3) (cs 3) (Fs 3), stW G (S 4) (cs 4) (Fs 4), [cA g0 G.2.1.1 18 (uZ (uZ (uZ (uZ (uZ (uZ (uZ f 12 (f 13)) 14 st) 0 (f 13)) 15 na) 17 nd) 16 nb) 9 0)], [cLg r0 G.2.1.2.2.2.2 64 lr], [cLg m0 G.2.1.2.2.2.2 2 (uLg (uLg lm 0 0) 1 ((lm 1) &&& ((2 * 2 ^ (f 13 : Int).toNat) - 1)))]] : List va_W).flatten C dL_promotes_170 75 rfl 9 rfl (by omega) (by omega) (by omega) rfl ?_
    refine s_aload_n 1 C dL_promotes_171 rfl 1 rfl ?_
    refine s_bipush (z := 10) C dL_promotes_172 rfl ?_
    refine s_iconst C dL_promotes_174 ?_
    refine s_iast ([[cO x0 6 [.ref (a 0), .ref h0, .ref o0, .ref u0, .ref e8, .ref e9]], stW G a c F, [cO h0 0 [.ref h1, vI ps]], [cQ h1 G.2.1.2.2.2.1 5 Q], stW G (S 0) (cs 0) (Fs 0), stW G (S 1) (cs 1) (Fs 1), stW G (S 2) (cs 2) (Fs 2), stW G (S 3) (cs 3) (Fs 3), stW G (S 4) (cs 4) (Fs 4), [cA g0 G.2.1.1 18 (uZ (uZ (uZ (uZ (uZ (uZ (uZ (uZ f 12 (f 13)) 14 st) 0 (f 13)) 15 na) 17 nd) 16 nb) 9 0) 10 0)], [cLg r0 G.2.1.2.2.2.2 64 lr], [cLg m0 G.2.1.2.2.2.2 2 (uLg (uLg lm 0 0) 1 ((lm 1) &&& ((2 * 2 ^ (f 13 : Int).toNat) - 1)))]] : List va_W).flatten C dL_promotes_175 75 rfl 10 rfl (by omega) (by omega) (by omega) rfl ?_
    refine s_aload_n 1 C dL_promotes_176 rfl 1 rfl ?_
    refine s_bipush (z := 11) C dL_promotes_177 rfl ?_
    refine s_iconst C dL_promotes_179 ?_
    refine s_iast ([[cO x0 6 [.ref (a 0), .ref h0, .ref o0, .ref u0, .ref e8, .ref e9]], stW G a c F, [cO h0 0 [.ref h1, vI ps]], [cQ h1 G.2.1.2.2.2.1 5 Q], stW G (S 0) (cs 0) (Fs 0), stW G (S 1) (cs 1) (Fs 1), stW G (S 2) (cs 2) (Fs 2), stW G (S 3) (cs 3) (Fs 3), stW G (S 4) (cs 4) (Fs 4), [cA g0 G.2.1.1 18 (uZ (uZ (uZ (uZ (uZ (uZ (uZ (uZ (uZ f 12 (f 13)) 14 st) 0 (f 13)) 15 na) 17 nd) 16 nb) 9 0) 10 0) 11 0)], [cLg r0 G.2.1.2.2.2.2 64 lr], [cLg m0 G.2.1.2.2.2.2 2 (uLg (uLg lm 0 0) 1 ((lm 1) &&& ((2 * 2 ^ (f 13 : Int).toNat) - 1)))]] : List va_W).flatten C dL_promotes_180 75 rfl 11 rfl (by omega) (by omega) (by omega) rfl ?_
    refine s_aload_n 1 C dL_promotes_181 rfl 1 rfl ?_
    refine s_iconst C dL_promotes_182 ?_
    refine s_dup2 C dL_promotes_183 rfl rfl ?_
    refine s_iald C dL_promotes_184 75 rfl 2 rfl (by omega) (by omega) (by omega) ?_
    refine s_top ((uZ (uZ (uZ (uZ (uZ (uZ (uZ (uZ f 12 (f 13)) 14 st) 0 (f 13)) 15 na) 17 nd) 16 nb) 9 0) 10 0) 2) (uZ_n (by omega)) ?_
    refine s_top ((uZ (uZ (uZ (uZ (uZ (uZ (uZ f 12 (f 13)) 14 st) 0 (f 13)) 15 na) 17 nd) 16 nb) 9 0) 2) (uZ_n (by omega)) ?_
    refine s_top ((uZ (uZ (uZ (uZ (uZ (uZ f 12 (f 13)) 14 st) 0 (f 13)) 15 na) 17 nd) 16 nb) 2) (uZ_n (by omega)) ?_
    refine s_top ((uZ (uZ (uZ (uZ (uZ f 12 (f 13)) 14 st) 0 (f 13)) 15 na) 17 nd) 2) (uZ_n (by omega)) ?_
    refine s_top ((uZ (uZ (uZ (uZ f 12 (f 13)) 14 st) 0 (f 13)) 15 na) 2) (uZ_n (by omega)) ?_
    refine s_top ((uZ (uZ (uZ f 12 (f 13)) 14 st) 0 (f 13)) 2) (uZ_n (by omega)) ?_
    refine s_top ((uZ (uZ f 12 (f 13)) 14 st) 2) (uZ_n (by omega)) ?_
    refine s_top ((uZ f 12 (f 13)) 2) (uZ_n (by omega)) ?_
    refine s_top (f 2) (uZ_n (by omega)) ?_
    refine s_iconst C dL_promotes_185 ?_
    refine s_iadd C dL_promotes_186 ?_
    refine s_iast ([[cO x0 6 [.ref (a 0), .ref h0, .ref o0, .ref u0, .ref e8, .ref e9]], stW G a c F, [cO h0 0 [.ref h1, vI ps]], [cQ h1 G.2.1.2.2.2.1 5 Q], stW G (S 0) (cs 0) (Fs 0), stW G (S 1) (cs 1) (Fs 1), stW G (S 2) (cs 2) (Fs 2), stW G (S 3) (cs 3) (Fs 3), stW G (S 4) (cs 4) (Fs 4), [cA g0 G.2.1.1 18 (uZ (uZ (uZ (uZ (uZ (uZ (uZ (uZ (uZ (uZ f 12 (f 13)) 14 st) 0 (f 13)) 15 na) 17 nd) 16 nb) 9 0) 10 0) 11 0) 2 ((f 2) + 1))], [cLg r0 G.2.1.2.2.2.2 64 lr], [cLg m0 G.2.1.2.2.2.2 2 (uLg (uLg lm 0 0) 1 ((lm 1) &&& ((2 * 2 ^ (f 13 : Int).toNat) - 1)))]] : List va_W).flatten C dL_promotes_187 75 rfl 2 rfl (by omega) (by omega) (by omega) rfl ?_
    refine s_aload_n 1 C dL_promotes_188 rfl 1 rfl ?_
    refine s_iconst C dL_promotes_189 ?_
    refine s_dup2 C dL_promotes_190 rfl rfl ?_
    refine s_iald C dL_promotes_191 75 rfl 4 rfl (by omega) (by omega) (by omega) ?_
    refine s_top ((uZ (uZ (uZ (uZ (uZ (uZ (uZ (uZ (uZ f 12 (f 13)) 14 st) 0 (f 13)) 15 na) 17 nd) 16 nb) 9 0) 10 0) 11 0) 4) (uZ_n (by omega)) ?_
    refine s_top ((uZ (uZ (uZ (uZ (uZ (uZ (uZ (uZ f 12 (f 13)) 14 st) 0 (f 13)) 15 na) 17 nd) 16 nb) 9 0) 10 0) 4) (uZ_n (by omega)) ?_
    refine s_top ((uZ (uZ (uZ (uZ (uZ (uZ (uZ f 12 (f 13)) 14 st) 0 (f 13)) 15 na) 17 nd) 16 nb) 9 0) 4) (uZ_n (by omega)) ?_
    refine s_top ((uZ (uZ (uZ (uZ (uZ (uZ f 12 (f 13)) 14 st) 0 (f 13)) 15 na) 17 nd) 16 nb) 4) (uZ_n (by omega)) ?_
    refine s_top ((uZ (uZ (uZ (uZ (uZ f 12 (f 13)) 14 st) 0 (f 13)) 15 na) 17 nd) 4) (uZ_n (by omega)) ?_
    refine s_top ((uZ (uZ (uZ (uZ f 12 (f 13)) 14 st) 0 (f 13)) 15 na) 4) (uZ_n (by omega)) ?_
    refine s_top ((uZ (uZ (uZ f 12 (f 13)) 14 st) 0 (f 13)) 4) (uZ_n (by omega)) ?_
    refine s_top ((uZ (uZ f 12 (f 13)) 14 st) 4) (uZ_n (by omega)) ?_
    refine s_top ((uZ f 12 (f 13)) 4) (uZ_n (by omega)) ?_
    refine s_top (f 4) (uZ_n (by omega)) ?_
    refine s_iload C dL_promotes_192 8 rfl ?_
    refine s_iadd C dL_promotes_194 ?_
    refine s_iast ([[cO x0 6 [.ref (a 0), .ref h0, .ref o0, .ref u0, .ref e8, .ref e9]], stW G a c F, [cO h0 0 [.ref h1, vI ps]], [cQ h1 G.2.1.2.2.2.1 5 Q], stW G (S 0) (cs 0) (Fs 0), stW G (S 1) (cs 1) (Fs 1), stW G (S 2) (cs 2) (Fs 2), stW G (S 3) (cs 3) (Fs 3), stW G (S 4) (cs 4) (Fs 4), [cA g0 G.2.1.1 18 (uZ (uZ (uZ (uZ (uZ (uZ (uZ (uZ (uZ (uZ (uZ f 12 (f 13)) 14 st) 0 (f 13)) 15 na) 17 nd) 16 nb) 9 0) 10 0) 11 0) 2 ((f 2) + 1)) 4 ((f 4) + (mB f (f 13 + 1) (f 0))))], [cLg r0 G.2.1.2.2.2.2 64 lr], [cLg m0 G.2.1.2.2.2.2 2 (uLg (uLg lm 0 0) 1 ((lm 1) &&& ((2 * 2 ^ (f 13 : Int).toNat) - 1)))]] : List va_W).flatten C dL_promotes_195 75 rfl 4 rfl (by omega) (by omega) (by omega) rfl ?_
    refine s_aload_n 0 C dL_promotes_196 rfl 0 rfl ?_
    refine s_iload C dL_promotes_197 4 rfl ?_
    refine s_callVQ (As := [vI 0]) (rest := []) (segs := [[cO x0 6 [.ref (a 0), .ref h0, .ref o0, .ref u0, .ref e8, .ref e9]], stW G a c F, [cO h0 0 [.ref h1, vI ps]], [cQ h1 G.2.1.2.2.2.1 5 Q], stW G (S 0) (cs 0) (Fs 0), stW G (S 1) (cs 1) (Fs 1), stW G (S 2) (cs 2) (Fs 2), stW G (S 3) (cs 3) (Fs 3), stW G (S 4) (cs 4) (Fs 4), [cA g0 G.2.1.1 18 (uZ (uZ (uZ (uZ (uZ (uZ (uZ (uZ (uZ (uZ (uZ f 12 (f 13)) 14 st) 0 (f 13)) 15 na) 17 nd) 16 nb) 9 0) 10 0) 11 0) 2 ((f 2) + 1)) 4 ((f 4) + (mB f (f 13 + 1) (f 0))))], [cLg r0 G.2.1.2.2.2.2 64 lr], [cLg m0 G.2.1.2.2.2.2 2 (uLg (uLg lm 0 0) 1 ((lm 1) &&& ((2 * 2 ^ (f 13 : Int).toNat) - 1)))]]) C dL_promotes_199 (c_X6_promote l G x0 h0 h1 (.ref o0) (.ref u0) (.ref e8) (.ref e9) ps Q S cs Fs p a c F B f P 0 (by first | assumption | omega) hI hBB hH (by first | assumption | omega)) gL_promotes_X6_promote rfl 1 (by decide +kernel) (by decide) 6 rfl rfl 0 _ rfl rfl [0, 2, 3, 4, 5, 6, 7, 8, 1] [9, 10, 11] 12 (rfl : (12 : Nat) = 12) (by decide +kernel) rfl rfl (Nat.le_of_ble_eq_true rfl) ⟨Nat.zero_le _, Nat.zero_le _⟩ ?_
    intro v0 w0 hq
    obtain ⟨z_199, f2_199, c2_199, F2_199, ps2_199, P2_199, Q2_199, cs2_199, Fs2_199, p2_199, rfl, rfl, hq0_199, hq1_199, hq2_199, hq3_199, hq4_199⟩ := hq
    refine ⟨(fst_f (fst_c rfl (fst_c (fst_k rfl) (fst_c (fst_k rfl) (fst_c stW_fst (fst_c stW_fst (fst_c stW_fst (fst_c stW_fst (fst_c stW_fst (fst_c stW_fst rfl)))))))))), [[cO x0 6 [.ref (a 0), .ref h0, .ref o0, .ref u0, .ref e8, .ref e9]], stW G a c2_199 F2_199, [cO h0 0 [.ref h1, vI ps2_199]], [cQ h1 G.2.1.2.2.2.1 5 Q2_199], stW G (S 0) (cs2_199 0) (Fs2_199 0), stW G (S 1) (cs2_199 1) (Fs2_199 1), stW G (S 2) (cs2_199 2) (Fs2_199 2), stW G (S 3) (cs2_199 3) (Fs2_199 3), stW G (S 4) (cs2_199 4) (Fs2_199 4), [cA g0 G.2.1.1 18 (uZ (uZ (uZ (uZ (uZ (uZ (uZ (uZ (uZ (uZ (uZ f 12 (f 13)) 14 st) 0 (f 13)) 15 na) 17 nd) 16 nb) 9 0) 10 0) 11 0) 2 ((f 2) + 1)) 4 ((f 4) + (mB f (f 13 + 1) (f 0))))], [cLg r0 G.2.1.2.2.2.2 64 lr], [cLg m0 G.2.1.2.2.2.2 2 (uLg (uLg lm 0 0) 1 ((lm 1) &&& ((2 * 2 ^ (f 13 : Int).toNat) - 1)))]], (rfl : (12 : Nat) = 12), rfl, Eq.trans (b := ([[cA g0 G.2.1.1 18 (uZ (uZ (uZ (uZ (uZ (uZ (uZ (uZ (uZ (uZ (uZ f 12 (f 13)) 14 st) 0 (f 13)) 15 na) 17 nd) 16 nb) 9 0) 10 0) 11 0) 2 ((f 2) + 1)) 4 ((f 4) + (mB f (f 13 + 1) (f 0))))], [cLg r0 G.2.1.2.2.2.2 64 lr], [cLg m0 G.2.1.2.2.2.2 2 (uLg (uLg lm 0 0) 1 ((lm 1) &&& ((2 * 2 ^ (f 13 : Int).toNat) - 1)))]] : List va_W)) rfl rfl, ?_⟩
    show fSt l G X 0 0 202 [(0, .ref x0), (1, .ref g0), (2, .ref r0), (3, .ref m0), (4, vI 0), (5, vI 12), (6, vI 15), (7, vI (f 13)), (8, vI (mB f (f 13 + 1) (f 0)))] [vI z_199] ([[cO x0 6 [.ref (a 0), .ref h0, .ref o0, .ref u0, .ref e8, .ref e9]], stW G a c2_199 F2_199, [cO h0 0 [.ref h1, vI ps2_199]], [cQ h1 G.2.1.2.2.2.1 5 Q2_199], stW G (S 0) (cs2_199 0) (Fs2_199 0), stW G (S 1) (cs2_199 1) (Fs2_199 1), stW G (S 2) (cs2_199 2) (Fs2_199 2), stW G (S 3) (cs2_199 3) (Fs2_199 3), stW G (S 4) (cs2_199 4) (Fs2_199 4), [cA g0 G.2.1.1 18 (uZ (uZ (uZ (uZ (uZ (uZ (uZ (uZ (uZ (uZ (uZ f 12 (f 13)) 14 st) 0 (f 13)) 15 na) 17 nd) 16 nb) 9 0) 10 0) 11 0) 2 ((f 2) + 1)) 4 ((f 4) + (mB f (f 13 + 1) (f 0))))], [cLg r0 G.2.1.2.2.2.2 64 lr], [cLg m0 G.2.1.2.2.2.2 2 (uLg (uLg lm 0 0) 1 ((lm 1) &&& ((2 * 2 ^ (f 13 : Int).toNat) - 1)))]] : List va_W).flatten
    obtain ⟨hE9, hN9⟩ := X_promote0 hP hL ha
    obtain ⟨hz, hf⟩ := Prod.mk.inj (hq1_199.trans hE9)
    have hz := hz.symm
    have hf := hf.symm
    subst hz
    subst hf
    refine s_agr ([[cO x0 6 [.ref (a 0), .ref h0, .ref o0, .ref u0, .ref e8, .ref e9]], stW G a c2_199 F2_199, [cO h0 0 [.ref h1, vI ps2_199]], [cQ h1 G.2.1.2.2.2.1 5 Q2_199], stW G (S 0) (cs2_199 0) (Fs2_199 0), stW G (S 1) (cs2_199 1) (Fs2_199 1), stW G (S 2) (cs2_199 2) (Fs2_199 2), stW G (S 3) (cs2_199 3) (Fs2_199 3), stW G (S 4) (cs2_199 4) (Fs2_199 4), [cA g0 G.2.1.1 18 ((sp_promote f 0).2)], [cLg r0 G.2.1.2.2.2.2 64 lr], [cLg m0 G.2.1.2.2.2.2 2 (uLg (uLg lm 0 0) 1 ((lm 1) &&& ((2 * 2 ^ (f 13 : Int).toNat) - 1)))]] : List va_W).flatten 75 rfl ((sp_promote f 0).2) (fun j h0 h1 => ?agr) rfl ?_
    case agr =>
      exact pr_agr0 ha (by omega) h_st h_na h_nb h_nd h0 (by omega)
    refine s_iload C dL_promotes_202 8 rfl ?_
    refine s_icmp_ne 211 C dL_promotes_204 (by decide) (by omega) (by omega) (fun h => absurd (by omega) h) (fun _ => ?_)
    refine s_iconst C dL_promotes_207 ?_
    refine s_goto 212 C dL_promotes_208 (by decide) ?_
    exact s_zret C E dL_promotes_212 rfl ⟨c2_199, F2_199, ps2_199, Q2_199, cs2_199, Fs2_199, p2_199, ((sp_promote f 0).2), P2_199, lr, (uLg (uLg lm 0 0) 1 ((lm 1) &&& ((2 * 2 ^ (f 13 : Int).toNat) - 1))), rfl, rfl, hq0_199, hN9, (hq2_199.mono (by omega))⟩
  have J_137 : ∀ (st na nd : Int), (st = if f 13 < f 0 then 1 else 0) → (na = if f 13 < f 15 then f 13 else f 15) → (nd = if f 13 < f 16 then 1 else f 17) → fSt l G X 0 0 137 [(0, .ref x0), (1, .ref g0), (2, .ref r0), (3, .ref m0), (4, vI 0), (5, vI 12), (6, vI 15), (7, vI (f 13)), (8, vI (mB f (f 13 + 1) (f 0)))] [vI nd, vI 17, .ref g0] ([[cO x0 6 [.ref (a 0), .ref h0, .ref o0, .ref u0, .ref e8, .ref e9]], stW G a c F, [cO h0 0 [.ref h1, vI ps]], [cQ h1 G.2.1.2.2.2.1 5 Q], stW G (S 0) (cs 0) (Fs 0), stW G (S 1) (cs 1) (Fs 1), stW G (S 2) (cs 2) (Fs 2), stW G (S 3) (cs 3) (Fs 3), stW G (S 4) (cs 4) (Fs 4), [cA g0 G.2.1.1 18 (uZ (uZ (uZ (uZ f 12 (f 13)) 14 st) 0 (f 13)) 15 na)], [cLg r0 G.2.1.2.2.2.2 64 lr], [cLg m0 G.2.1.2.2.2.2 2 (uLg (uLg lm 0 0) 1 ((lm 1) &&& ((2 * 2 ^ (f 13 : Int).toNat) - 1)))]] : List va_W).flatten := by
    intro st na nd h_st h_na h_nd
    refine s_iast ([[cO x0 6 [.ref (a 0), .ref h0, .ref o0, .ref u0, .ref e8, .ref e9]], stW G a c F, [cO h0 0 [.ref h1, vI ps]], [cQ h1 G.2.1.2.2.2.1 5 Q], stW G (S 0) (cs 0) (Fs 0), stW G (S 1) (cs 1) (Fs 1), stW G (S 2) (cs 2) (Fs 2), stW G (S 3) (cs 3) (Fs 3), stW G (S 4) (cs 4) (Fs 4), [cA g0 G.2.1.1 18 (uZ (uZ (uZ (uZ (uZ f 12 (f 13)) 14 st) 0 (f 13)) 15 na) 17 nd)], [cLg r0 G.2.1.2.2.2.2 64 lr], [cLg m0 G.2.1.2.2.2.2 2 (uLg (uLg lm 0 0) 1 ((lm 1) &&& ((2 * 2 ^ (f 13 : Int).toNat) - 1)))]] : List va_W).flatten C dL_promotes_137 75 rfl 17 rfl (by omega) (by omega) (by omega) rfl ?_
    refine s_aload_n 1 C dL_promotes_138 rfl 1 rfl ?_
    refine s_iload C dL_promotes_139 6 rfl ?_
    refine s_iconst C dL_promotes_141 ?_
    refine s_iadd C dL_promotes_142 ?_
    refine s_aload_n 1 C dL_promotes_143 rfl 1 rfl ?_
    refine s_iload C dL_promotes_144 6 rfl ?_
    refine s_iconst C dL_promotes_146 ?_
    refine s_iadd C dL_promotes_147 ?_
    refine s_iald C dL_promotes_148 75 rfl 16 (by omega) (by omega) (by omega) (by omega) ?_
    refine s_top ((uZ (uZ (uZ (uZ f 12 (f 13)) 14 st) 0 (f 13)) 15 na) 16) (uZ_n (by omega)) ?_
    refine s_top ((uZ (uZ (uZ f 12 (f 13)) 14 st) 0 (f 13)) 16) (uZ_n (by omega)) ?_
    refine s_top ((uZ (uZ f 12 (f 13)) 14 st) 16) (uZ_n (by omega)) ?_
    refine s_top ((uZ f 12 (f 13)) 16) (uZ_n (by omega)) ?_
    refine s_top (f 16) (uZ_n (by omega)) ?_
    refine s_iload C dL_promotes_149 7 rfl ?_
    refine s_icmp_le 159 C dL_promotes_151 (by decide) (hI.rf _) (hI.rf _) (fun h_151 => ?_) (fun h_151 => ?_)
    · refine s_aload_n 1 C dL_promotes_159 rfl 1 rfl ?_
      refine s_iload C dL_promotes_160 6 rfl ?_
      refine s_iconst C dL_promotes_162 ?_
      refine s_iadd C dL_promotes_163 ?_
      refine s_iald C dL_promotes_164 75 rfl 16 (by omega) (by omega) (by omega) (by omega) ?_
      refine s_top ((uZ (uZ (uZ (uZ f 12 (f 13)) 14 st) 0 (f 13)) 15 na) 16) (uZ_n (by omega)) ?_
      refine s_top ((uZ (uZ (uZ f 12 (f 13)) 14 st) 0 (f 13)) 16) (uZ_n (by omega)) ?_
      refine s_top ((uZ (uZ f 12 (f 13)) 14 st) 16) (uZ_n (by omega)) ?_
      refine s_top ((uZ f 12 (f 13)) 16) (uZ_n (by omega)) ?_
      refine s_top (f 16) (uZ_n (by omega)) ?_
      exact J_165 st na nd (f 16) h_st h_na h_nd (by split <;> omega)
    · refine s_iload C dL_promotes_154 7 rfl ?_
      refine s_goto 165 C dL_promotes_156 (by decide) ?_
      exact J_165 st na nd (f 13) h_st h_na h_nd (by split <;> omega)
  have J_110 : ∀ (st na : Int), (st = if f 13 < f 0 then 1 else 0) → (na = if f 13 < f 15 then f 13 else f 15) → fSt l G X 0 0 110 [(0, .ref x0), (1, .ref g0), (2, .ref r0), (3, .ref m0), (4, vI 0), (5, vI 12), (6, vI 15), (7, vI (f 13)), (8, vI (mB f (f 13 + 1) (f 0)))] [vI na, vI 15, .ref g0] ([[cO x0 6 [.ref (a 0), .ref h0, .ref o0, .ref u0, .ref e8, .ref e9]], stW G a c F, [cO h0 0 [.ref h1, vI ps]], [cQ h1 G.2.1.2.2.2.1 5 Q], stW G (S 0) (cs 0) (Fs 0), stW G (S 1) (cs 1) (Fs 1), stW G (S 2) (cs 2) (Fs 2), stW G (S 3) (cs 3) (Fs 3), stW G (S 4) (cs 4) (Fs 4), [cA g0 G.2.1.1 18 (uZ (uZ (uZ f 12 (f 13)) 14 st) 0 (f 13))], [cLg r0 G.2.1.2.2.2.2 64 lr], [cLg m0 G.2.1.2.2.2.2 2 (uLg (uLg lm 0 0) 1 ((lm 1) &&& ((2 * 2 ^ (f 13 : Int).toNat) - 1)))]] : List va_W).flatten := by
    intro st na h_st h_na
    refine s_iast ([[cO x0 6 [.ref (a 0), .ref h0, .ref o0, .ref u0, .ref e8, .ref e9]], stW G a c F, [cO h0 0 [.ref h1, vI ps]], [cQ h1 G.2.1.2.2.2.1 5 Q], stW G (S 0) (cs 0) (Fs 0), stW G (S 1) (cs 1) (Fs 1), stW G (S 2) (cs 2) (Fs 2), stW G (S 3) (cs 3) (Fs 3), stW G (S 4) (cs 4) (Fs 4), [cA g0 G.2.1.1 18 (uZ (uZ (uZ (uZ f 12 (f 13)) 14 st) 0 (f 13)) 15 na)], [cLg r0 G.2.1.2.2.2.2 64 lr], [cLg m0 G.2.1.2.2.2.2 2 (uLg (uLg lm 0 0) 1 ((lm 1) &&& ((2 * 2 ^ (f 13 : Int).toNat) - 1)))]] : List va_W).flatten C dL_promotes_110 75 rfl 15 rfl (by omega) (by omega) (by omega) rfl ?_
    refine s_aload_n 1 C dL_promotes_111 rfl 1 rfl ?_
    refine s_iload C dL_promotes_112 6 rfl ?_
    refine s_iconst C dL_promotes_114 ?_
    refine s_iadd C dL_promotes_115 ?_
    refine s_aload_n 1 C dL_promotes_116 rfl 1 rfl ?_
    refine s_iload C dL_promotes_117 6 rfl ?_
    refine s_iconst C dL_promotes_119 ?_
    refine s_iadd C dL_promotes_120 ?_
    refine s_iald C dL_promotes_121 75 rfl 16 (by omega) (by omega) (by omega) (by omega) ?_
    refine s_top ((uZ (uZ (uZ f 12 (f 13)) 14 st) 0 (f 13)) 16) (uZ_n (by omega)) ?_
    refine s_top ((uZ (uZ f 12 (f 13)) 14 st) 16) (uZ_n (by omega)) ?_
    refine s_top ((uZ f 12 (f 13)) 16) (uZ_n (by omega)) ?_
    refine s_top (f 16) (uZ_n (by omega)) ?_
    refine s_iload C dL_promotes_122 7 rfl ?_
    refine s_icmp_le 131 C dL_promotes_124 (by decide) (hI.rf _) (hI.rf _) (fun h_124 => ?_) (fun h_124 => ?_)
    · refine s_aload_n 1 C dL_promotes_131 rfl 1 rfl ?_
      refine s_iload C dL_promotes_132 6 rfl ?_
      refine s_iconst C dL_promotes_134 ?_
      refine s_iadd C dL_promotes_135 ?_
      refine s_iald C dL_promotes_136 75 rfl 17 (by omega) (by omega) (by omega) (by omega) ?_
      refine s_top ((uZ (uZ (uZ f 12 (f 13)) 14 st) 0 (f 13)) 17) (uZ_n (by omega)) ?_
      refine s_top ((uZ (uZ f 12 (f 13)) 14 st) 17) (uZ_n (by omega)) ?_
      refine s_top ((uZ f 12 (f 13)) 17) (uZ_n (by omega)) ?_
      refine s_top (f 17) (uZ_n (by omega)) ?_
      exact J_137 st na (f 17) h_st h_na (by split <;> omega)
    · refine s_iconst C dL_promotes_127 ?_
      refine s_goto 137 C dL_promotes_128 (by decide) ?_
      exact J_137 st na 1 h_st h_na (by split <;> omega)
  have J_61 : ∀ (st : Int), (st = if f 13 < f 0 then 1 else 0) → fSt l G X 0 0 61 [(0, .ref x0), (1, .ref g0), (2, .ref r0), (3, .ref m0), (4, vI 0), (5, vI 12), (6, vI 15), (7, vI (f 13)), (8, vI (mB f (f 13 + 1) (f 0)))] [vI st, vI 14, .ref g0] ([[cO x0 6 [.ref (a 0), .ref h0, .ref o0, .ref u0, .ref e8, .ref e9]], stW G a c F, [cO h0 0 [.ref h1, vI ps]], [cQ h1 G.2.1.2.2.2.1 5 Q], stW G (S 0) (cs 0) (Fs 0), stW G (S 1) (cs 1) (Fs 1), stW G (S 2) (cs 2) (Fs 2), stW G (S 3) (cs 3) (Fs 3), stW G (S 4) (cs 4) (Fs 4), [cA g0 G.2.1.1 18 (uZ f 12 (f 13))], [cLg r0 G.2.1.2.2.2.2 64 lr], [cLg m0 G.2.1.2.2.2.2 2 lm]] : List va_W).flatten := by
    intro st h_st
    refine s_iast ([[cO x0 6 [.ref (a 0), .ref h0, .ref o0, .ref u0, .ref e8, .ref e9]], stW G a c F, [cO h0 0 [.ref h1, vI ps]], [cQ h1 G.2.1.2.2.2.1 5 Q], stW G (S 0) (cs 0) (Fs 0), stW G (S 1) (cs 1) (Fs 1), stW G (S 2) (cs 2) (Fs 2), stW G (S 3) (cs 3) (Fs 3), stW G (S 4) (cs 4) (Fs 4), [cA g0 G.2.1.1 18 (uZ (uZ f 12 (f 13)) 14 st)], [cLg r0 G.2.1.2.2.2.2 64 lr], [cLg m0 G.2.1.2.2.2.2 2 lm]] : List va_W).flatten C dL_promotes_61 75 rfl 14 rfl (by omega) (by omega) (by omega) rfl ?_
    refine s_aload_n 1 C dL_promotes_62 rfl 1 rfl ?_
    refine s_iconst C dL_promotes_63 ?_
    refine s_iload C dL_promotes_64 7 rfl ?_
    refine s_iast ([[cO x0 6 [.ref (a 0), .ref h0, .ref o0, .ref u0, .ref e8, .ref e9]], stW G a c F, [cO h0 0 [.ref h1, vI ps]], [cQ h1 G.2.1.2.2.2.1 5 Q], stW G (S 0) (cs 0) (Fs 0), stW G (S 1) (cs 1) (Fs 1), stW G (S 2) (cs 2) (Fs 2), stW G (S 3) (cs 3) (Fs 3), stW G (S 4) (cs 4) (Fs 4), [cA g0 G.2.1.1 18 (uZ (uZ (uZ f 12 (f 13)) 14 st) 0 (f 13))], [cLg r0 G.2.1.2.2.2.2 64 lr], [cLg m0 G.2.1.2.2.2.2 2 lm]] : List va_W).flatten C dL_promotes_66 75 rfl 0 rfl (by omega) (by omega) (by omega) rfl ?_
    refine s_aload_n 3 C dL_promotes_67 rfl 3 rfl ?_
    refine s_iload C dL_promotes_68 4 rfl ?_
    refine s_lconst (v := 0) C dL_promotes_70 rfl ?_
    refine s_last ([[cO x0 6 [.ref (a 0), .ref h0, .ref o0, .ref u0, .ref e8, .ref e9]], stW G a c F, [cO h0 0 [.ref h1, vI ps]], [cQ h1 G.2.1.2.2.2.1 5 Q], stW G (S 0) (cs 0) (Fs 0), stW G (S 1) (cs 1) (Fs 1), stW G (S 2) (cs 2) (Fs 2), stW G (S 3) (cs 3) (Fs 3), stW G (S 4) (cs 4) (Fs 4), [cA g0 G.2.1.1 18 (uZ (uZ (uZ f 12 (f 13)) 14 st) 0 (f 13))], [cLg r0 G.2.1.2.2.2.2 64 lr], [cLg m0 G.2.1.2.2.2.2 2 (uLg lm 0 0)]] : List va_W).flatten C dL_promotes_71 77 rfl 0 rfl (by omega) (by omega) (by omega) rfl ?_
    refine s_aload_n 3 C dL_promotes_72 rfl 3 rfl ?_
    refine s_iconst C dL_promotes_73 ?_
    refine s_iload C dL_promotes_74 4 rfl ?_
    refine s_isub C dL_promotes_76 ?_
    refine s_dup2 C dL_promotes_77 rfl rfl ?_
    refine s_lald C dL_promotes_78 77 rfl 1 (by omega) (by omega) (by omega) (by omega) ?_
    refine s_topL (lm 1) (uLg_n (by omega)) ?_
    refine s_ldc2 (v := 2) C (by decide +kernel) dL_promotes_79 ?_
    refine s_iload C dL_promotes_82 7 rfl ?_
    refine s_lshl C dL_promotes_84 (by omega) ?_
    refine s_lconst (v := 1) C dL_promotes_85 rfl ?_
    refine s_lsub C dL_promotes_86 (by omega) ?_
    refine s_land C dL_promotes_87 (by omega) (by omega) ?_
    refine s_last ([[cO x0 6 [.ref (a 0), .ref h0, .ref o0, .ref u0, .ref e8, .ref e9]], stW G a c F, [cO h0 0 [.ref h1, vI ps]], [cQ h1 G.2.1.2.2.2.1 5 Q], stW G (S 0) (cs 0) (Fs 0), stW G (S 1) (cs 1) (Fs 1), stW G (S 2) (cs 2) (Fs 2), stW G (S 3) (cs 3) (Fs 3), stW G (S 4) (cs 4) (Fs 4), [cA g0 G.2.1.1 18 (uZ (uZ (uZ f 12 (f 13)) 14 st) 0 (f 13))], [cLg r0 G.2.1.2.2.2.2 64 lr], [cLg m0 G.2.1.2.2.2.2 2 (uLg (uLg lm 0 0) 1 ((lm 1) &&& ((2 * 2 ^ (f 13 : Int).toNat) - 1)))]] : List va_W).flatten C dL_promotes_88 77 rfl 1 (by omega) (by omega) (by omega) (by omega) rfl ?_
    refine s_aload_n 1 C dL_promotes_89 rfl 1 rfl ?_
    refine s_iload C dL_promotes_90 6 rfl ?_
    refine s_aload_n 1 C dL_promotes_92 rfl 1 rfl ?_
    refine s_iload C dL_promotes_93 6 rfl ?_
    refine s_iald C dL_promotes_95 75 rfl 15 rfl (by omega) (by omega) (by omega) ?_
    refine s_top ((uZ (uZ f 12 (f 13)) 14 st) 15) (uZ_n (by omega)) ?_
    refine s_top ((uZ f 12 (f 13)) 15) (uZ_n (by omega)) ?_
    refine s_top (f 15) (uZ_n (by omega)) ?_
    refine s_iload C dL_promotes_96 7 rfl ?_
    refine s_icmp_ge 108 C dL_promotes_98 (by decide) (hI.rf _) (hI.rf _) (fun h_98 => ?_) (fun h_98 => ?_)
    · refine s_iload C dL_promotes_108 7 rfl ?_
      exact J_110 st (f 13) h_st (by split <;> omega)
    · refine s_aload_n 1 C dL_promotes_101 rfl 1 rfl ?_
      refine s_iload C dL_promotes_102 6 rfl ?_
      refine s_iald C dL_promotes_104 75 rfl 15 rfl (by omega) (by omega) (by omega) ?_
      refine s_top ((uZ (uZ f 12 (f 13)) 14 st) 15) (uZ_n (by omega)) ?_
      refine s_top ((uZ f 12 (f 13)) 15) (uZ_n (by omega)) ?_
      refine s_top (f 15) (uZ_n (by omega)) ?_
      refine s_goto 110 C dL_promotes_105 (by decide) ?_
      exact J_110 st (f 15) h_st (by split <;> omega)
  refine s_bipush (z := 12) C dL_promotes_0 rfl ?_
  refine s_iconst C dL_promotes_2 ?_
  refine s_iload C dL_promotes_3 4 rfl ?_
  refine s_imul C dL_promotes_5 ?_
  refine s_iadd C dL_promotes_6 ?_
  refine s_istore [(5, vI (12 + (3 * 0))), (0, .ref x0), (1, .ref g0), (2, .ref r0), (3, .ref m0), (4, vI 0)] C dL_promotes_7 (by decide) rfl ?_
  refine s_bipush (z := 15) C dL_promotes_9 rfl ?_
  refine s_iconst C dL_promotes_11 ?_
  refine s_iload C dL_promotes_12 5 rfl ?_
  refine s_imul C dL_promotes_14 ?_
  refine s_isub C dL_promotes_15 ?_
  refine s_istore [(6, vI (15 - (3 * 0))), (5, vI (12 + (3 * 0))), (0, .ref x0), (1, .ref g0), (2, .ref r0), (3, .ref m0), (4, vI 0)] C dL_promotes_16 (by decide) rfl ?_
  refine s_aload_n 1 C dL_promotes_18 rfl 3 rfl ?_
  refine s_iload C dL_promotes_19 1 rfl ?_
  refine s_iconst C dL_promotes_21 ?_
  refine s_iadd C dL_promotes_22 ?_
  refine s_iald C dL_promotes_23 75 rfl 13 (by omega) (by omega) (by omega) (by omega) ?_
  refine s_istore [(7, vI (f 13)), (6, vI (15 - (3 * 0))), (5, vI (12 + (3 * 0))), (0, .ref x0), (1, .ref g0), (2, .ref r0), (3, .ref m0), (4, vI 0)] C dL_promotes_24 (by decide) rfl ?_
  refine s_aload_n 2 C dL_promotes_26 rfl 5 rfl ?_
  refine s_iload C dL_promotes_27 0 rfl ?_
  refine s_aload_n 1 C dL_promotes_29 rfl 4 rfl ?_
  refine s_iconst C dL_promotes_30 ?_
  refine s_iald C dL_promotes_31 75 rfl 0 rfl (by omega) (by omega) (by omega) ?_
  refine s_callSQ (As := [.ref r0, vI (f 13), vI (f 0)]) (rest := []) (segs := [[cO x0 6 [.ref (a 0), .ref h0, .ref o0, .ref u0, .ref e8, .ref e9]], stW G a c F, [cO h0 0 [.ref h1, vI ps]], [cQ h1 G.2.1.2.2.2.1 5 Q], stW G (S 0) (cs 0) (Fs 0), stW G (S 1) (cs 1) (Fs 1), stW G (S 2) (cs 2) (Fs 2), stW G (S 3) (cs 3) (Fs 3), stW G (S 4) (cs 4) (Fs 4), [cA g0 G.2.1.1 18 f], [cLg r0 G.2.1.2.2.2.2 64 lr], [cLg m0 G.2.1.2.2.2.2 2 lm]]) C dL_promotes_32 (c_L_commits l G r0 lr f B (f 13) (f 0) hP hL.1 (by first | assumption | omega) (by first | assumption | omega)) gL_promotes_L_commits rfl 3 (by decide +kernel) (by decide) [10] [0, 1, 2, 3, 4, 5, 6, 7, 8, 9, 11] 12 (rfl : (12 : Nat) = 12) (by decide +kernel) rfl rfl (Nat.le_of_ble_eq_true rfl) ⟨Nat.zero_le _, Nat.zero_le _⟩ ?_
  intro v0 w0 hq
  obtain ⟨rfl, rfl⟩ := hq
  refine ⟨rfl, [[cO x0 6 [.ref (a 0), .ref h0, .ref o0, .ref u0, .ref e8, .ref e9]], stW G a c F, [cO h0 0 [.ref h1, vI ps]], [cQ h1 G.2.1.2.2.2.1 5 Q], stW G (S 0) (cs 0) (Fs 0), stW G (S 1) (cs 1) (Fs 1), stW G (S 2) (cs 2) (Fs 2), stW G (S 3) (cs 3) (Fs 3), stW G (S 4) (cs 4) (Fs 4), [cA g0 G.2.1.1 18 f], [cLg r0 G.2.1.2.2.2.2 64 lr], [cLg m0 G.2.1.2.2.2.2 2 lm]], (rfl : (12 : Nat) = 12), rfl, Eq.trans (b := ([[cO x0 6 [.ref (a 0), .ref h0, .ref o0, .ref u0, .ref e8, .ref e9]], stW G a c F, [cO h0 0 [.ref h1, vI ps]], [cQ h1 G.2.1.2.2.2.1 5 Q], stW G (S 0) (cs 0) (Fs 0), stW G (S 1) (cs 1) (Fs 1), stW G (S 2) (cs 2) (Fs 2), stW G (S 3) (cs 3) (Fs 3), stW G (S 4) (cs 4) (Fs 4), [cA g0 G.2.1.1 18 f], [cLg m0 G.2.1.2.2.2.2 2 lm]] : List va_W)) rfl rfl, ?_⟩
  show fSt l G X 0 0 35 [(7, vI (f 13)), (6, vI (15 - (3 * 0))), (5, vI (12 + (3 * 0))), (0, .ref x0), (1, .ref g0), (2, .ref r0), (3, .ref m0), (4, vI 0)] [vI (mB f ((f 13) + 1) (f 0))] ([[cO x0 6 [.ref (a 0), .ref h0, .ref o0, .ref u0, .ref e8, .ref e9]], stW G a c F, [cO h0 0 [.ref h1, vI ps]], [cQ h1 G.2.1.2.2.2.1 5 Q], stW G (S 0) (cs 0) (Fs 0), stW G (S 1) (cs 1) (Fs 1), stW G (S 2) (cs 2) (Fs 2), stW G (S 3) (cs 3) (Fs 3), stW G (S 4) (cs 4) (Fs 4), [cA g0 G.2.1.1 18 f], [cLg r0 G.2.1.2.2.2.2 64 lr], [cLg m0 G.2.1.2.2.2.2 2 lm]] : List va_W).flatten
  refine s_istore [(8, vI (mB f ((f 13) + 1) (f 0))), (7, vI (f 13)), (6, vI (15 - (3 * 0))), (5, vI (12 + (3 * 0))), (0, .ref x0), (1, .ref g0), (2, .ref r0), (3, .ref m0), (4, vI 0)] C dL_promotes_35 (by decide) rfl ?_
  refine s_aload_n 1 C dL_promotes_37 rfl 5 rfl ?_
  refine s_iload C dL_promotes_38 3 rfl ?_
  refine s_iload C dL_promotes_40 1 rfl ?_
  refine s_iast ([[cO x0 6 [.ref (a 0), .ref h0, .ref o0, .ref u0, .ref e8, .ref e9]], stW G a c F, [cO h0 0 [.ref h1, vI ps]], [cQ h1 G.2.1.2.2.2.1 5 Q], stW G (S 0) (cs 0) (Fs 0), stW G (S 1) (cs 1) (Fs 1), stW G (S 2) (cs 2) (Fs 2), stW G (S 3) (cs 3) (Fs 3), stW G (S 4) (cs 4) (Fs 4), [cA g0 G.2.1.1 18 (uZ f 12 (f 13))], [cLg r0 G.2.1.2.2.2.2 64 lr], [cLg m0 G.2.1.2.2.2.2 2 lm]] : List va_W).flatten C dL_promotes_42 75 rfl 12 (by omega) (by omega) (by omega) (by omega) rfl ?_
  refine s_aload_n 1 C dL_promotes_43 rfl 5 rfl ?_
  refine s_iload C dL_promotes_44 3 rfl ?_
  refine s_iconst C dL_promotes_46 ?_
  refine s_iadd C dL_promotes_47 ?_
  refine s_iload C dL_promotes_48 1 rfl ?_
  refine s_aload_n 1 C dL_promotes_50 rfl 5 rfl ?_
  refine s_iconst C dL_promotes_51 ?_
  refine s_iald C dL_promotes_52 75 rfl 0 rfl (by omega) (by omega) (by omega) ?_
  refine s_top (f 0) (uZ_n (by omega)) ?_
  refine s_icmp_ge 60 C dL_promotes_53 (by decide) (hI.rf _) (hI.rf _) (fun h_53 => ?_) (fun h_53 => ?_)
  · refine s_iconst C dL_promotes_60 ?_
    refine s_lv [(0, .ref x0), (1, .ref g0), (2, .ref r0), (3, .ref m0), (4, vI 0), (5, vI 12), (6, vI 15), (7, vI (f 13)), (8, vI (mB f (f 13 + 1) (f 0)))] [4, 5, 6, 7, 8, 3, 2, 1, 0] rfl ?_
    exact J_61 0 (by split <;> omega)
  · refine s_iconst C dL_promotes_56 ?_
    refine s_goto 61 C dL_promotes_57 (by decide) ?_
    refine s_lv [(0, .ref x0), (1, .ref g0), (2, .ref r0), (3, .ref m0), (4, vI 0), (5, vI 12), (6, vI 15), (7, vI (f 13)), (8, vI (mB f (f 13 + 1) (f 0)))] [4, 5, 6, 7, 8, 3, 2, 1, 0] rfl ?_
    exact J_61 1 (by split <;> omega)

set_option maxHeartbeats 4000000 in
set_option maxRecDepth 100000 in
theorem c_L_promotes_1 (l : Launch) (G : fG) (x0 h0 h1 o0 u0 e8 e9 g0 r0 m0 : Nat) (a : Nat → Nat) (S : Nat → Nat → Nat) (c : Nat → Int) (F : Nat → Int → Int) (ps : Int) (Q : Nat → Option Nat) (cs : Nat → Nat → Int) (Fs : Nat → Nat → Int → Int) (p : Nat → Nat) (B : Int) (f P : Int → Int) (lr lm : Int → Nat) (hR : RSb f c F) (hP : PI B f) (hH : HRel B P ps S Q p cs Fs) (hL : LR f lr lm) (ha : ¬ f 17 = 1) : fCt l G yL_promotes wsL_promotes 5 125 0 0 [.ref x0, .ref g0, .ref r0, .ref m0, vI 1] ([[cO x0 6 [.ref (a 0), .ref h0, .ref o0, .ref u0, .ref e8, .ref e9]], stW G a c F, [cO h0 0 [.ref h1, vI ps]], [cQ h1 G.2.1.2.2.2.1 5 Q], stW G (S 0) (cs 0) (Fs 0), stW G (S 1) (cs 1) (Fs 1), stW G (S 2) (cs 2) (Fs 2), stW G (S 3) (cs 3) (Fs 3), stW G (S 4) (cs 4) (Fs 4), [cA g0 G.2.1.1 18 f], [cLg r0 G.2.1.2.2.2.2 64 lr], [cLg m0 G.2.1.2.2.2.2 2 lm]] : List va_W).flatten (fun (v0 : Option Value) (w0 : va_W) => ∃ (c2 : Nat → Int) (F2 : Nat → Int → Int) (ps2 : Int) (Q2 : Nat → Option Nat) (cs2 : Nat → Nat → Int) (Fs2 : Nat → Nat → Int → Int) (p2 : Nat → Nat) (f2 P2 : Int → Int) (lr2 lm2 : Int → Nat), v0 = some (vI 1) ∧ w0 = ([[cO x0 6 [.ref (a 0), .ref h0, .ref o0, .ref u0, .ref e8, .ref e9]], stW G a c2 F2, [cO h0 0 [.ref h1, vI ps2]], [cQ h1 G.2.1.2.2.2.1 5 Q2], stW G (S 0) (cs2 0) (Fs2 0), stW G (S 1) (cs2 1) (Fs2 1), stW G (S 2) (cs2 2) (Fs2 2), stW G (S 3) (cs2 3) (Fs2 3), stW G (S 4) (cs2 4) (Fs2 4), [cA g0 G.2.1.1 18 f2], [cLg r0 G.2.1.2.2.2.2 64 lr2], [cLg m0 G.2.1.2.2.2.2 2 lm2]] : List va_W).flatten ∧ (RSb f2 c2 F2) ∧ (NX B f f2 lr2 lm2) ∧ (HRel (B + 300) P2 ps2 S Q2 p2 cs2 Fs2)) := by
  refine fs_met (cc := cL_promotes) (nL := 9) (ret := (some .boolean)) (by decide) rfl (Nat.le_of_ble_eq_true rfl) ?_
  intro X C E
  show fSt l G X 0 0 0 [(0, .ref x0), (1, .ref g0), (2, .ref r0), (3, .ref m0), (4, vI 1)] [] ([[cO x0 6 [.ref (a 0), .ref h0, .ref o0, .ref u0, .ref e8, .ref e9]], stW G a c F, [cO h0 0 [.ref h1, vI ps]], [cQ h1 G.2.1.2.2.2.1 5 Q], stW G (S 0) (cs 0) (Fs 0), stW G (S 1) (cs 1) (Fs 1), stW G (S 2) (cs 2) (Fs 2), stW G (S 3) (cs 3) (Fs 3), stW G (S 4) (cs 4) (Fs 4), [cA g0 G.2.1.1 18 f], [cLg r0 G.2.1.2.2.2.2 64 lr], [cLg m0 G.2.1.2.2.2.2 2 lm]] : List va_W).flatten
  have hI := hP.1
  have hBl := hP.2.1
  have hBB : B ≤ 1073000000 := by omega
  have hn61 := hP.2.2.1
  have ht9 := hP.2.2.2
  have hn0 := hI.n
  have htk := hI.tk
  have hSb := hI.S 1 (by omega) (by omega)
  have hT9 : 0 ≤ f 16 ∧ f 16 ≤ f 0 := ⟨hSb.1, Int.le_trans hSb.2.1 hSb.2.2.1⟩
  have hm0 := (hL.b (b := 0) (by omega)).1
  have hp2 := Nat.one_le_two_pow (n := (f 16 : Int).toNat)
  have hp3 : 2 ^ (f 16 : Int).toNat ≤ 2 ^ 61 := Nat.pow_le_pow_right (by decide) (by omega)
  have hmB := mB_in (f := f) (a := f 16 + 1) (z := f 0) (by omega)
  have J_165 : ∀ (st na nd nb : Int), (st = if f 16 < f 0 then 1 else 0) → (na = if f 16 < f 12 then f 16 else f 12) → (nd = if f 16 < f 13 then 1 else f 14) → (nb = if f 16 < f 13 then f 16 else f 13) → fSt l G X 0 0 165 [(0, .ref x0), (1, .ref g0), (2, .ref r0), (3, .ref m0), (4, vI 1), (5, vI 15), (6, vI 12), (7, vI (f 16)), (8, vI (mB f (f 16 + 1) (f 0)))] [vI nb, vI 13, .ref g0] ([[cO x0 6 [.ref (a 0), .ref h0, .ref o0, .ref u0, .ref e8, .ref e9]], stW G a c F, [cO h0 0 [.ref h1, vI ps]], [cQ h1 G.2.1.2.2.2.1 5 Q], stW G (S 0) (cs 0) (Fs 0), stW G (S 1) (cs 1) (Fs 1), stW G (S 2) (cs 2) (Fs 2), stW G (S 3) (cs 3) (Fs 3), stW G (S 4) (cs 4) (Fs 4), [cA g0 G.2.1.1 18 (uZ (uZ (uZ (uZ (uZ f 15 (f 16)) 17 st) 0 (f 16)) 12 na) 14 nd)], [cLg r0 G.2.1.2.2.2.2 64 lr], [cLg m0 G.2.1.2.2.2.2 2 (uLg (uLg lm 1 0) 0 ((lm 0) &&& ((2 * 2 ^ (f 16 : Int).toNat) - 1)))]] : List va_W).flatten := by
    intro st na nd nb h_st h_na h_nd h_nb
    refine s_iast ([[cO x0 6 [.ref (a 0), .ref h0, .ref o0, .ref u0, .ref e8, .ref e9]], stW G a c F, [cO h0 0 [.ref h1, vI ps]], [cQ h1 G.2.1.2.2.2.1 5 Q], stW G (S 0) (cs 0) (Fs 0), stW G (S 1) (cs 1) (Fs 1), stW G (S 2) (cs 2) (Fs 2), stW G (S 3) (cs 3) (Fs 3), stW G (S 4) (cs 4) (Fs 4), [cA g0 G.2.1.1 18 (uZ (uZ (uZ (uZ (uZ (uZ f 15 (f 16)) 17 st) 0 (f 16)) 12 na) 14 nd) 13 nb)], [cLg r0 G.2.1.2.2.2.2 64 lr], [cLg m0 G.2.1.2.2.2.2 2 (uLg (uLg lm 1 0) 0 ((lm 0) &&& ((2 * 2 ^ (f 16 : Int).toNat) - 1)))]] : List va_W).flatten C dL_promotes_165 75 rfl 13 rfl (by omega) (by omega) (by omega) rfl ?_
    refine s_aload_n 1 C dL_promotes_166 rfl 1 rfl ?_
    refine s_bipush (z := 9) C dL_promotes_167 rfl ?_
    refine s_iconst C dL_promotes_169 ?_
    refine s_iast ([[cO x0 6 [.ref (a 0), .ref h0, .ref o0, .ref u0, .ref e8, .ref e9]], stW G a c F, [cO h0 0 [.ref h1, vI ps]], [cQ h1 G.2.1.2.2.2.1 5 Q], stW G (S 0) (cs 0) (Fs 0), stW G (S 1) (cs 1) (Fs 1), stW G (S 2) (cs 2) (Fs 2), stW G (S 3) (cs 3) (Fs 3), stW G (S 4) (cs 4) (Fs 4), [cA g0 G.2.1.1 18 (uZ (uZ (uZ (uZ (uZ (uZ (uZ f 15 (f 16)) 17 st) 0 (f 16)) 12 na) 14 nd) 13 nb) 9 0)], [cLg r0 G.2.1.2.2.2.2 64 lr], [cLg m0 G.2.1.2.2.2.2 2 (uLg (uLg lm 1 0) 0 ((lm 0) &&& ((2 * 2 ^ (f 16 : Int).toNat) - 1)))]] : List va_W).flatten C dL_promotes_170 75 rfl 9 rfl (by omega) (by omega) (by omega) rfl ?_
    refine s_aload_n 1 C dL_promotes_171 rfl 1 rfl ?_
    refine s_bipush (z := 10) C dL_promotes_172 rfl ?_
    refine s_iconst C dL_promotes_174 ?_
    refine s_iast ([[cO x0 6 [.ref (a 0), .ref h0, .ref o0, .ref u0, .ref e8, .ref e9]], stW G a c F, [cO h0 0 [.ref h1, vI ps]], [cQ h1 G.2.1.2.2.2.1 5 Q], stW G (S 0) (cs 0) (Fs 0), stW G (S 1) (cs 1) (Fs 1), stW G (S 2) (cs 2) (Fs 2), stW G (S 3) (cs 3) (Fs 3), stW G (S 4) (cs 4) (Fs 4), [cA g0 G.2.1.1 18 (uZ (uZ (uZ (uZ (uZ (uZ (uZ (uZ f 15 (f 16)) 17 st) 0 (f 16)) 12 na) 14 nd) 13 nb) 9 0) 10 0)], [cLg r0 G.2.1.2.2.2.2 64 lr], [cLg m0 G.2.1.2.2.2.2 2 (uLg (uLg lm 1 0) 0 ((lm 0) &&& ((2 * 2 ^ (f 16 : Int).toNat) - 1)))]] : List va_W).flatten C dL_promotes_175 75 rfl 10 rfl (by omega) (by omega) (by omega) rfl ?_
    refine s_aload_n 1 C dL_promotes_176 rfl 1 rfl ?_
    refine s_bipush (z := 11) C dL_promotes_177 rfl ?_
    refine s_iconst C dL_promotes_179 ?_
    refine s_iast ([[cO x0 6 [.ref (a 0), .ref h0, .ref o0, .ref u0, .ref e8, .ref e9]], stW G a c F, [cO h0 0 [.ref h1, vI ps]], [cQ h1 G.2.1.2.2.2.1 5 Q], stW G (S 0) (cs 0) (Fs 0), stW G (S 1) (cs 1) (Fs 1), stW G (S 2) (cs 2) (Fs 2), stW G (S 3) (cs 3) (Fs 3), stW G (S 4) (cs 4) (Fs 4), [cA g0 G.2.1.1 18 (uZ (uZ (uZ (uZ (uZ (uZ (uZ (uZ (uZ f 15 (f 16)) 17 st) 0 (f 16)) 12 na) 14 nd) 13 nb) 9 0) 10 0) 11 0)], [cLg r0 G.2.1.2.2.2.2 64 lr], [cLg m0 G.2.1.2.2.2.2 2 (uLg (uLg lm 1 0) 0 ((lm 0) &&& ((2 * 2 ^ (f 16 : Int).toNat) - 1)))]] : List va_W).flatten C dL_promotes_180 75 rfl 11 rfl (by omega) (by omega) (by omega) rfl ?_
    refine s_aload_n 1 C dL_promotes_181 rfl 1 rfl ?_
    refine s_iconst C dL_promotes_182 ?_
    refine s_dup2 C dL_promotes_183 rfl rfl ?_
    refine s_iald C dL_promotes_184 75 rfl 2 rfl (by omega) (by omega) (by omega) ?_
    refine s_top ((uZ (uZ (uZ (uZ (uZ (uZ (uZ (uZ f 15 (f 16)) 17 st) 0 (f 16)) 12 na) 14 nd) 13 nb) 9 0) 10 0) 2) (uZ_n (by omega)) ?_
    refine s_top ((uZ (uZ (uZ (uZ (uZ (uZ (uZ f 15 (f 16)) 17 st) 0 (f 16)) 12 na) 14 nd) 13 nb) 9 0) 2) (uZ_n (by omega)) ?_
    refine s_top ((uZ (uZ (uZ (uZ (uZ (uZ f 15 (f 16)) 17 st) 0 (f 16)) 12 na) 14 nd) 13 nb) 2) (uZ_n (by omega)) ?_
    refine s_top ((uZ (uZ (uZ (uZ (uZ f 15 (f 16)) 17 st) 0 (f 16)) 12 na) 14 nd) 2) (uZ_n (by omega)) ?_
    refine s_top ((uZ (uZ (uZ (uZ f 15 (f 16)) 17 st) 0 (f 16)) 12 na) 2) (uZ_n (by omega)) ?_
    refine s_top ((uZ (uZ (uZ f 15 (f 16)) 17 st) 0 (f 16)) 2) (uZ_n (by omega)) ?_
    refine s_top ((uZ (uZ f 15 (f 16)) 17 st) 2) (uZ_n (by omega)) ?_
    refine s_top ((uZ f 15 (f 16)) 2) (uZ_n (by omega)) ?_
    refine s_top (f 2) (uZ_n (by omega)) ?_
    refine s_iconst C dL_promotes_185 ?_
    refine s_iadd C dL_promotes_186 ?_
    refine s_iast ([[cO x0 6 [.ref (a 0), .ref h0, .ref o0, .ref u0, .ref e8, .ref e9]], stW G a c F, [cO h0 0 [.ref h1, vI ps]], [cQ h1 G.2.1.2.2.2.1 5 Q], stW G (S 0) (cs 0) (Fs 0), stW G (S 1) (cs 1) (Fs 1), stW G (S 2) (cs 2) (Fs 2), stW G (S 3) (cs 3) (Fs 3), stW G (S 4) (cs 4) (Fs 4), [cA g0 G.2.1.1 18 (uZ (uZ (uZ (uZ (uZ (uZ (uZ (uZ (uZ (uZ f 15 (f 16)) 17 st) 0 (f 16)) 12 na) 14 nd) 13 nb) 9 0) 10 0) 11 0) 2 ((f 2) + 1))], [cLg r0 G.2.1.2.2.2.2 64 lr], [cLg m0 G.2.1.2.2.2.2 2 (uLg (uLg lm 1 0) 0 ((lm 0) &&& ((2 * 2 ^ (f 16 : Int).toNat) - 1)))]] : List va_W).flatten C dL_promotes_187 75 rfl 2 rfl (by omega) (by omega) (by omega) rfl ?_
    refine s_aload_n 1 C dL_promotes_188 rfl 1 rfl ?_
    refine s_iconst C dL_promotes_189 ?_
    refine s_dup2 C dL_promotes_190 rfl rfl ?_
    refine s_iald C dL_promotes_191 75 rfl 4 rfl (by omega) (by omega) (by omega) ?_
    refine s_top ((uZ (uZ (uZ (uZ (uZ (uZ (uZ (uZ (uZ f 15 (f 16)) 17 st) 0 (f 16)) 12 na) 14 nd) 13 nb) 9 0) 10 0) 11 0) 4) (uZ_n (by omega)) ?_
    refine s_top ((uZ (uZ (uZ (uZ (uZ (uZ (uZ (uZ f 15 (f 16)) 17 st) 0 (f 16)) 12 na) 14 nd) 13 nb) 9 0) 10 0) 4) (uZ_n (by omega)) ?_
    refine s_top ((uZ (uZ (uZ (uZ (uZ (uZ (uZ f 15 (f 16)) 17 st) 0 (f 16)) 12 na) 14 nd) 13 nb) 9 0) 4) (uZ_n (by omega)) ?_
    refine s_top ((uZ (uZ (uZ (uZ (uZ (uZ f 15 (f 16)) 17 st) 0 (f 16)) 12 na) 14 nd) 13 nb) 4) (uZ_n (by omega)) ?_
    refine s_top ((uZ (uZ (uZ (uZ (uZ f 15 (f 16)) 17 st) 0 (f 16)) 12 na) 14 nd) 4) (uZ_n (by omega)) ?_
    refine s_top ((uZ (uZ (uZ (uZ f 15 (f 16)) 17 st) 0 (f 16)) 12 na) 4) (uZ_n (by omega)) ?_
    refine s_top ((uZ (uZ (uZ f 15 (f 16)) 17 st) 0 (f 16)) 4) (uZ_n (by omega)) ?_
    refine s_top ((uZ (uZ f 15 (f 16)) 17 st) 4) (uZ_n (by omega)) ?_
    refine s_top ((uZ f 15 (f 16)) 4) (uZ_n (by omega)) ?_
    refine s_top (f 4) (uZ_n (by omega)) ?_
    refine s_iload C dL_promotes_192 8 rfl ?_
    refine s_iadd C dL_promotes_194 ?_
    refine s_iast ([[cO x0 6 [.ref (a 0), .ref h0, .ref o0, .ref u0, .ref e8, .ref e9]], stW G a c F, [cO h0 0 [.ref h1, vI ps]], [cQ h1 G.2.1.2.2.2.1 5 Q], stW G (S 0) (cs 0) (Fs 0), stW G (S 1) (cs 1) (Fs 1), stW G (S 2) (cs 2) (Fs 2), stW G (S 3) (cs 3) (Fs 3), stW G (S 4) (cs 4) (Fs 4), [cA g0 G.2.1.1 18 (uZ (uZ (uZ (uZ (uZ (uZ (uZ (uZ (uZ (uZ (uZ f 15 (f 16)) 17 st) 0 (f 16)) 12 na) 14 nd) 13 nb) 9 0) 10 0) 11 0) 2 ((f 2) + 1)) 4 ((f 4) + (mB f (f 16 + 1) (f 0))))], [cLg r0 G.2.1.2.2.2.2 64 lr], [cLg m0 G.2.1.2.2.2.2 2 (uLg (uLg lm 1 0) 0 ((lm 0) &&& ((2 * 2 ^ (f 16 : Int).toNat) - 1)))]] : List va_W).flatten C dL_promotes_195 75 rfl 4 rfl (by omega) (by omega) (by omega) rfl ?_
    refine s_aload_n 0 C dL_promotes_196 rfl 0 rfl ?_
    refine s_iload C dL_promotes_197 4 rfl ?_
    refine s_callVQ (As := [vI 1]) (rest := []) (segs := [[cO x0 6 [.ref (a 0), .ref h0, .ref o0, .ref u0, .ref e8, .ref e9]], stW G a c F, [cO h0 0 [.ref h1, vI ps]], [cQ h1 G.2.1.2.2.2.1 5 Q], stW G (S 0) (cs 0) (Fs 0), stW G (S 1) (cs 1) (Fs 1), stW G (S 2) (cs 2) (Fs 2), stW G (S 3) (cs 3) (Fs 3), stW G (S 4) (cs 4) (Fs 4), [cA g0 G.2.1.1 18 (uZ (uZ (uZ (uZ (uZ (uZ (uZ (uZ (uZ (uZ (uZ f 15 (f 16)) 17 st) 0 (f 16)) 12 na) 14 nd) 13 nb) 9 0) 10 0) 11 0) 2 ((f 2) + 1)) 4 ((f 4) + (mB f (f 16 + 1) (f 0))))], [cLg r0 G.2.1.2.2.2.2 64 lr], [cLg m0 G.2.1.2.2.2.2 2 (uLg (uLg lm 1 0) 0 ((lm 0) &&& ((2 * 2 ^ (f 16 : Int).toNat) - 1)))]]) C dL_promotes_199 (c_X6_promote l G x0 h0 h1 (.ref o0) (.ref u0) (.ref e8) (.ref e9) ps Q S cs Fs p a c F B f P 1 (by first | assumption | omega) hI hBB hH (by first | assumption | omega)) gL_promotes_X6_promote rfl 1 (by decide +kernel) (by decide) 6 rfl rfl 0 _ rfl rfl [0, 2, 3, 4, 5, 6, 7, 8, 1] [9, 10, 11] 12 (rfl : (12 : Nat) = 12) (by decide +kernel) rfl rfl (Nat.le_of_ble_eq_true rfl) ⟨Nat.zero_le _, Nat.zero_le _⟩ ?_
    intro v0 w0 hq
    obtain ⟨z_199, f2_199, c2_199, F2_199, ps2_199, P2_199, Q2_199, cs2_199, Fs2_199, p2_199, rfl, rfl, hq0_199, hq1_199, hq2_199, hq3_199, hq4_199⟩ := hq
    refine ⟨(fst_f (fst_c rfl (fst_c (fst_k rfl) (fst_c (fst_k rfl) (fst_c stW_fst (fst_c stW_fst (fst_c stW_fst (fst_c stW_fst (fst_c stW_fst (fst_c stW_fst rfl)))))))))), [[cO x0 6 [.ref (a 0), .ref h0, .ref o0, .ref u0, .ref e8, .ref e9]], stW G a c2_199 F2_199, [cO h0 0 [.ref h1, vI ps2_199]], [cQ h1 G.2.1.2.2.2.1 5 Q2_199], stW G (S 0) (cs2_199 0) (Fs2_199 0), stW G (S 1) (cs2_199 1) (Fs2_199 1), stW G (S 2) (cs2_199 2) (Fs2_199 2), stW G (S 3) (cs2_199 3) (Fs2_199 3), stW G (S 4) (cs2_199 4) (Fs2_199 4), [cA g0 G.2.1.1 18 (uZ (uZ (uZ (uZ (uZ (uZ (uZ (uZ (uZ (uZ (uZ f 15 (f 16)) 17 st) 0 (f 16)) 12 na) 14 nd) 13 nb) 9 0) 10 0) 11 0) 2 ((f 2) + 1)) 4 ((f 4) + (mB f (f 16 + 1) (f 0))))], [cLg r0 G.2.1.2.2.2.2 64 lr], [cLg m0 G.2.1.2.2.2.2 2 (uLg (uLg lm 1 0) 0 ((lm 0) &&& ((2 * 2 ^ (f 16 : Int).toNat) - 1)))]], (rfl : (12 : Nat) = 12), rfl, Eq.trans (b := ([[cA g0 G.2.1.1 18 (uZ (uZ (uZ (uZ (uZ (uZ (uZ (uZ (uZ (uZ (uZ f 15 (f 16)) 17 st) 0 (f 16)) 12 na) 14 nd) 13 nb) 9 0) 10 0) 11 0) 2 ((f 2) + 1)) 4 ((f 4) + (mB f (f 16 + 1) (f 0))))], [cLg r0 G.2.1.2.2.2.2 64 lr], [cLg m0 G.2.1.2.2.2.2 2 (uLg (uLg lm 1 0) 0 ((lm 0) &&& ((2 * 2 ^ (f 16 : Int).toNat) - 1)))]] : List va_W)) rfl rfl, ?_⟩
    show fSt l G X 0 0 202 [(0, .ref x0), (1, .ref g0), (2, .ref r0), (3, .ref m0), (4, vI 1), (5, vI 15), (6, vI 12), (7, vI (f 16)), (8, vI (mB f (f 16 + 1) (f 0)))] [vI z_199] ([[cO x0 6 [.ref (a 0), .ref h0, .ref o0, .ref u0, .ref e8, .ref e9]], stW G a c2_199 F2_199, [cO h0 0 [.ref h1, vI ps2_199]], [cQ h1 G.2.1.2.2.2.1 5 Q2_199], stW G (S 0) (cs2_199 0) (Fs2_199 0), stW G (S 1) (cs2_199 1) (Fs2_199 1), stW G (S 2) (cs2_199 2) (Fs2_199 2), stW G (S 3) (cs2_199 3) (Fs2_199 3), stW G (S 4) (cs2_199 4) (Fs2_199 4), [cA g0 G.2.1.1 18 (uZ (uZ (uZ (uZ (uZ (uZ (uZ (uZ (uZ (uZ (uZ f 15 (f 16)) 17 st) 0 (f 16)) 12 na) 14 nd) 13 nb) 9 0) 10 0) 11 0) 2 ((f 2) + 1)) 4 ((f 4) + (mB f (f 16 + 1) (f 0))))], [cLg r0 G.2.1.2.2.2.2 64 lr], [cLg m0 G.2.1.2.2.2.2 2 (uLg (uLg lm 1 0) 0 ((lm 0) &&& ((2 * 2 ^ (f 16 : Int).toNat) - 1)))]] : List va_W).flatten
    obtain ⟨hE9, hN9⟩ := X_promote1 hP hL ha
    obtain ⟨hz, hf⟩ := Prod.mk.inj (hq1_199.trans hE9)
    have hz := hz.symm
    have hf := hf.symm
    subst hz
    subst hf
    refine s_agr ([[cO x0 6 [.ref (a 0), .ref h0, .ref o0, .ref u0, .ref e8, .ref e9]], stW G a c2_199 F2_199, [cO h0 0 [.ref h1, vI ps2_199]], [cQ h1 G.2.1.2.2.2.1 5 Q2_199], stW G (S 0) (cs2_199 0) (Fs2_199 0), stW G (S 1) (cs2_199 1) (Fs2_199 1), stW G (S 2) (cs2_199 2) (Fs2_199 2), stW G (S 3) (cs2_199 3) (Fs2_199 3), stW G (S 4) (cs2_199 4) (Fs2_199 4), [cA g0 G.2.1.1 18 ((sp_promote f 1).2)], [cLg r0 G.2.1.2.2.2.2 64 lr], [cLg m0 G.2.1.2.2.2.2 2 (uLg (uLg lm 1 0) 0 ((lm 0) &&& ((2 * 2 ^ (f 16 : Int).toNat) - 1)))]] : List va_W).flatten 75 rfl ((sp_promote f 1).2) (fun j h0 h1 => ?agr) rfl ?_
    case agr =>
      exact pr_agr1 ha (by omega) h_st h_na h_nb h_nd h0 (by omega)
    refine s_iload C dL_promotes_202 8 rfl ?_
    refine s_icmp_ne 211 C dL_promotes_204 (by decide) (by omega) (by omega) (fun h => absurd (by omega) h) (fun _ => ?_)
    refine s_iconst C dL_promotes_207 ?_
    refine s_goto 212 C dL_promotes_208 (by decide) ?_
    exact s_zret C E dL_promotes_212 rfl ⟨c2_199, F2_199, ps2_199, Q2_199, cs2_199, Fs2_199, p2_199, ((sp_promote f 1).2), P2_199, lr, (uLg (uLg lm 1 0) 0 ((lm 0) &&& ((2 * 2 ^ (f 16 : Int).toNat) - 1))), rfl, rfl, hq0_199, hN9, (hq2_199.mono (by omega))⟩
  have J_137 : ∀ (st na nd : Int), (st = if f 16 < f 0 then 1 else 0) → (na = if f 16 < f 12 then f 16 else f 12) → (nd = if f 16 < f 13 then 1 else f 14) → fSt l G X 0 0 137 [(0, .ref x0), (1, .ref g0), (2, .ref r0), (3, .ref m0), (4, vI 1), (5, vI 15), (6, vI 12), (7, vI (f 16)), (8, vI (mB f (f 16 + 1) (f 0)))] [vI nd, vI 14, .ref g0] ([[cO x0 6 [.ref (a 0), .ref h0, .ref o0, .ref u0, .ref e8, .ref e9]], stW G a c F, [cO h0 0 [.ref h1, vI ps]], [cQ h1 G.2.1.2.2.2.1 5 Q], stW G (S 0) (cs 0) (Fs 0), stW G (S 1) (cs 1) (Fs 1), stW G (S 2) (cs 2) (Fs 2), stW G (S 3) (cs 3) (Fs 3), stW G (S 4) (cs 4) (Fs 4), [cA g0 G.2.1.1 18 (uZ (uZ (uZ (uZ f 15 (f 16)) 17 st) 0 (f 16)) 12 na)], [cLg r0 G.2.1.2.2.2.2 64 lr], [cLg m0 G.2.1.2.2.2.2 2 (uLg (uLg lm 1 0) 0 ((lm 0) &&& ((2 * 2 ^ (f 16 : Int).toNat) - 1)))]] : List va_W).flatten := by
    intro st na nd h_st h_na h_nd
    refine s_iast ([[cO x0 6 [.ref (a 0), .ref h0, .ref o0, .ref u0, .ref e8, .ref e9]], stW G a c F, [cO h0 0 [.ref h1, vI ps]], [cQ h1 G.2.1.2.2.2.1 5 Q], stW G (S 0) (cs 0) (Fs 0), stW G (S 1) (cs 1) (Fs 1), stW G (S 2) (cs 2) (Fs 2), stW G (S 3) (cs 3) (Fs 3), stW G (S 4) (cs 4) (Fs 4), [cA g0 G.2.1.1 18 (uZ (uZ (uZ (uZ (uZ f 15 (f 16)) 17 st) 0 (f 16)) 12 na) 14 nd)], [cLg r0 G.2.1.2.2.2.2 64 lr], [cLg m0 G.2.1.2.2.2.2 2 (uLg (uLg lm 1 0) 0 ((lm 0) &&& ((2 * 2 ^ (f 16 : Int).toNat) - 1)))]] : List va_W).flatten C dL_promotes_137 75 rfl 14 rfl (by omega) (by omega) (by omega) rfl ?_
    refine s_aload_n 1 C dL_promotes_138 rfl 1 rfl ?_
    refine s_iload C dL_promotes_139 6 rfl ?_
    refine s_iconst C dL_promotes_141 ?_
    refine s_iadd C dL_promotes_142 ?_
    refine s_aload_n 1 C dL_promotes_143 rfl 1 rfl ?_
    refine s_iload C dL_promotes_144 6 rfl ?_
    refine s_iconst C dL_promotes_146 ?_
    refine s_iadd C dL_promotes_147 ?_
    refine s_iald C dL_promotes_148 75 rfl 13 (by omega) (by omega) (by omega) (by omega) ?_
    refine s_top ((uZ (uZ (uZ (uZ f 15 (f 16)) 17 st) 0 (f 16)) 12 na) 13) (uZ_n (by omega)) ?_
    refine s_top ((uZ (uZ (uZ f 15 (f 16)) 17 st) 0 (f 16)) 13) (uZ_n (by omega)) ?_
    refine s_top ((uZ (uZ f 15 (f 16)) 17 st) 13) (uZ_n (by omega)) ?_
    refine s_top ((uZ f 15 (f 16)) 13) (uZ_n (by omega)) ?_
    refine s_top (f 13) (uZ_n (by omega)) ?_
    refine s_iload C dL_promotes_149 7 rfl ?_
    refine s_icmp_le 159 C dL_promotes_151 (by decide) (hI.rf _) (hI.rf _) (fun h_151 => ?_) (fun h_151 => ?_)
    · refine s_aload_n 1 C dL_promotes_159 rfl 1 rfl ?_
      refine s_iload C dL_promotes_160 6 rfl ?_
      refine s_iconst C dL_promotes_162 ?_
      refine s_iadd C dL_promotes_163 ?_
      refine s_iald C dL_promotes_164 75 rfl 13 (by omega) (by omega) (by omega) (by omega) ?_
      refine s_top ((uZ (uZ (uZ (uZ f 15 (f 16)) 17 st) 0 (f 16)) 12 na) 13) (uZ_n (by omega)) ?_
      refine s_top ((uZ (uZ (uZ f 15 (f 16)) 17 st) 0 (f 16)) 13) (uZ_n (by omega)) ?_
      refine s_top ((uZ (uZ f 15 (f 16)) 17 st) 13) (uZ_n (by omega)) ?_
      refine s_top ((uZ f 15 (f 16)) 13) (uZ_n (by omega)) ?_
      refine s_top (f 13) (uZ_n (by omega)) ?_
      exact J_165 st na nd (f 13) h_st h_na h_nd (by split <;> omega)
    · refine s_iload C dL_promotes_154 7 rfl ?_
      refine s_goto 165 C dL_promotes_156 (by decide) ?_
      exact J_165 st na nd (f 16) h_st h_na h_nd (by split <;> omega)
  have J_110 : ∀ (st na : Int), (st = if f 16 < f 0 then 1 else 0) → (na = if f 16 < f 12 then f 16 else f 12) → fSt l G X 0 0 110 [(0, .ref x0), (1, .ref g0), (2, .ref r0), (3, .ref m0), (4, vI 1), (5, vI 15), (6, vI 12), (7, vI (f 16)), (8, vI (mB f (f 16 + 1) (f 0)))] [vI na, vI 12, .ref g0] ([[cO x0 6 [.ref (a 0), .ref h0, .ref o0, .ref u0, .ref e8, .ref e9]], stW G a c F, [cO h0 0 [.ref h1, vI ps]], [cQ h1 G.2.1.2.2.2.1 5 Q], stW G (S 0) (cs 0) (Fs 0), stW G (S 1) (cs 1) (Fs 1), stW G (S 2) (cs 2) (Fs 2), stW G (S 3) (cs 3) (Fs 3), stW G (S 4) (cs 4) (Fs 4), [cA g0 G.2.1.1 18 (uZ (uZ (uZ f 15 (f 16)) 17 st) 0 (f 16))], [cLg r0 G.2.1.2.2.2.2 64 lr], [cLg m0 G.2.1.2.2.2.2 2 (uLg (uLg lm 1 0) 0 ((lm 0) &&& ((2 * 2 ^ (f 16 : Int).toNat) - 1)))]] : List va_W).flatten := by
    intro st na h_st h_na
    refine s_iast ([[cO x0 6 [.ref (a 0), .ref h0, .ref o0, .ref u0, .ref e8, .ref e9]], stW G a c F, [cO h0 0 [.ref h1, vI ps]], [cQ h1 G.2.1.2.2.2.1 5 Q], stW G (S 0) (cs 0) (Fs 0), stW G (S 1) (cs 1) (Fs 1), stW G (S 2) (cs 2) (Fs 2), stW G (S 3) (cs 3) (Fs 3), stW G (S 4) (cs 4) (Fs 4), [cA g0 G.2.1.1 18 (uZ (uZ (uZ (uZ f 15 (f 16)) 17 st) 0 (f 16)) 12 na)], [cLg r0 G.2.1.2.2.2.2 64 lr], [cLg m0 G.2.1.2.2.2.2 2 (uLg (uLg lm 1 0) 0 ((lm 0) &&& ((2 * 2 ^ (f 16 : Int).toNat) - 1)))]] : List va_W).flatten C dL_promotes_110 75 rfl 12 rfl (by omega) (by omega) (by omega) rfl ?_
    refine s_aload_n 1 C dL_promotes_111 rfl 1 rfl ?_
    refine s_iload C dL_promotes_112 6 rfl ?_
    refine s_iconst C dL_promotes_114 ?_
    refine s_iadd C dL_promotes_115 ?_
    refine s_aload_n 1 C dL_promotes_116 rfl 1 rfl ?_
    refine s_iload C dL_promotes_117 6 rfl ?_
    refine s_iconst C dL_promotes_119 ?_
    refine s_iadd C dL_promotes_120 ?_
    refine s_iald C dL_promotes_121 75 rfl 13 (by omega) (by omega) (by omega) (by omega) ?_
    refine s_top ((uZ (uZ (uZ f 15 (f 16)) 17 st) 0 (f 16)) 13) (uZ_n (by omega)) ?_
    refine s_top ((uZ (uZ f 15 (f 16)) 17 st) 13) (uZ_n (by omega)) ?_
    refine s_top ((uZ f 15 (f 16)) 13) (uZ_n (by omega)) ?_
    refine s_top (f 13) (uZ_n (by omega)) ?_
    refine s_iload C dL_promotes_122 7 rfl ?_
    refine s_icmp_le 131 C dL_promotes_124 (by decide) (hI.rf _) (hI.rf _) (fun h_124 => ?_) (fun h_124 => ?_)
    · refine s_aload_n 1 C dL_promotes_131 rfl 1 rfl ?_
      refine s_iload C dL_promotes_132 6 rfl ?_
      refine s_iconst C dL_promotes_134 ?_
      refine s_iadd C dL_promotes_135 ?_
      refine s_iald C dL_promotes_136 75 rfl 14 (by omega) (by omega) (by omega) (by omega) ?_
      refine s_top ((uZ (uZ (uZ f 15 (f 16)) 17 st) 0 (f 16)) 14) (uZ_n (by omega)) ?_
      refine s_top ((uZ (uZ f 15 (f 16)) 17 st) 14) (uZ_n (by omega)) ?_
      refine s_top ((uZ f 15 (f 16)) 14) (uZ_n (by omega)) ?_
      refine s_top (f 14) (uZ_n (by omega)) ?_
      exact J_137 st na (f 14) h_st h_na (by split <;> omega)
    · refine s_iconst C dL_promotes_127 ?_
      refine s_goto 137 C dL_promotes_128 (by decide) ?_
      exact J_137 st na 1 h_st h_na (by split <;> omega)
  have J_61 : ∀ (st : Int), (st = if f 16 < f 0 then 1 else 0) → fSt l G X 0 0 61 [(0, .ref x0), (1, .ref g0), (2, .ref r0), (3, .ref m0), (4, vI 1), (5, vI 15), (6, vI 12), (7, vI (f 16)), (8, vI (mB f (f 16 + 1) (f 0)))] [vI st, vI 17, .ref g0] ([[cO x0 6 [.ref (a 0), .ref h0, .ref o0, .ref u0, .ref e8, .ref e9]], stW G a c F, [cO h0 0 [.ref h1, vI ps]], [cQ h1 G.2.1.2.2.2.1 5 Q], stW G (S 0) (cs 0) (Fs 0), stW G (S 1) (cs 1) (Fs 1), stW G (S 2) (cs 2) (Fs 2), stW G (S 3) (cs 3) (Fs 3), stW G (S 4) (cs 4) (Fs 4), [cA g0 G.2.1.1 18 (uZ f 15 (f 16))], [cLg r0 G.2.1.2.2.2.2 64 lr], [cLg m0 G.2.1.2.2.2.2 2 lm]] : List va_W).flatten := by
    intro st h_st
    refine s_iast ([[cO x0 6 [.ref (a 0), .ref h0, .ref o0, .ref u0, .ref e8, .ref e9]], stW G a c F, [cO h0 0 [.ref h1, vI ps]], [cQ h1 G.2.1.2.2.2.1 5 Q], stW G (S 0) (cs 0) (Fs 0), stW G (S 1) (cs 1) (Fs 1), stW G (S 2) (cs 2) (Fs 2), stW G (S 3) (cs 3) (Fs 3), stW G (S 4) (cs 4) (Fs 4), [cA g0 G.2.1.1 18 (uZ (uZ f 15 (f 16)) 17 st)], [cLg r0 G.2.1.2.2.2.2 64 lr], [cLg m0 G.2.1.2.2.2.2 2 lm]] : List va_W).flatten C dL_promotes_61 75 rfl 17 rfl (by omega) (by omega) (by omega) rfl ?_
    refine s_aload_n 1 C dL_promotes_62 rfl 1 rfl ?_
    refine s_iconst C dL_promotes_63 ?_
    refine s_iload C dL_promotes_64 7 rfl ?_
    refine s_iast ([[cO x0 6 [.ref (a 0), .ref h0, .ref o0, .ref u0, .ref e8, .ref e9]], stW G a c F, [cO h0 0 [.ref h1, vI ps]], [cQ h1 G.2.1.2.2.2.1 5 Q], stW G (S 0) (cs 0) (Fs 0), stW G (S 1) (cs 1) (Fs 1), stW G (S 2) (cs 2) (Fs 2), stW G (S 3) (cs 3) (Fs 3), stW G (S 4) (cs 4) (Fs 4), [cA g0 G.2.1.1 18 (uZ (uZ (uZ f 15 (f 16)) 17 st) 0 (f 16))], [cLg r0 G.2.1.2.2.2.2 64 lr], [cLg m0 G.2.1.2.2.2.2 2 lm]] : List va_W).flatten C dL_promotes_66 75 rfl 0 rfl (by omega) (by omega) (by omega) rfl ?_
    refine s_aload_n 3 C dL_promotes_67 rfl 3 rfl ?_
    refine s_iload C dL_promotes_68 4 rfl ?_
    refine s_lconst (v := 0) C dL_promotes_70 rfl ?_
    refine s_last ([[cO x0 6 [.ref (a 0), .ref h0, .ref o0, .ref u0, .ref e8, .ref e9]], stW G a c F, [cO h0 0 [.ref h1, vI ps]], [cQ h1 G.2.1.2.2.2.1 5 Q], stW G (S 0) (cs 0) (Fs 0), stW G (S 1) (cs 1) (Fs 1), stW G (S 2) (cs 2) (Fs 2), stW G (S 3) (cs 3) (Fs 3), stW G (S 4) (cs 4) (Fs 4), [cA g0 G.2.1.1 18 (uZ (uZ (uZ f 15 (f 16)) 17 st) 0 (f 16))], [cLg r0 G.2.1.2.2.2.2 64 lr], [cLg m0 G.2.1.2.2.2.2 2 (uLg lm 1 0)]] : List va_W).flatten C dL_promotes_71 77 rfl 1 rfl (by omega) (by omega) (by omega) rfl ?_
    refine s_aload_n 3 C dL_promotes_72 rfl 3 rfl ?_
    refine s_iconst C dL_promotes_73 ?_
    refine s_iload C dL_promotes_74 4 rfl ?_
    refine s_isub C dL_promotes_76 ?_
    refine s_dup2 C dL_promotes_77 rfl rfl ?_
    refine s_lald C dL_promotes_78 77 rfl 0 (by omega) (by omega) (by omega) (by omega) ?_
    refine s_topL (lm 0) (uLg_n (by omega)) ?_
    refine s_ldc2 (v := 2) C (by decide +kernel) dL_promotes_79 ?_
    refine s_iload C dL_promotes_82 7 rfl ?_
    refine s_lshl C dL_promotes_84 (by omega) ?_
    refine s_lconst (v := 1) C dL_promotes_85 rfl ?_
    refine s_lsub C dL_promotes_86 (by omega) ?_
    refine s_land C dL_promotes_87 (by omega) (by omega) ?_
    refine s_last ([[cO x0 6 [.ref (a 0), .ref h0, .ref o0, .ref u0, .ref e8, .ref e9]], stW G a c F, [cO h0 0 [.ref h1, vI ps]], [cQ h1 G.2.1.2.2.2.1 5 Q], stW G (S 0) (cs 0) (Fs 0), stW G (S 1) (cs 1) (Fs 1), stW G (S 2) (cs 2) (Fs 2), stW G (S 3) (cs 3) (Fs 3), stW G (S 4) (cs 4) (Fs 4), [cA g0 G.2.1.1 18 (uZ (uZ (uZ f 15 (f 16)) 17 st) 0 (f 16))], [cLg r0 G.2.1.2.2.2.2 64 lr], [cLg m0 G.2.1.2.2.2.2 2 (uLg (uLg lm 1 0) 0 ((lm 0) &&& ((2 * 2 ^ (f 16 : Int).toNat) - 1)))]] : List va_W).flatten C dL_promotes_88 77 rfl 0 (by omega) (by omega) (by omega) (by omega) rfl ?_
    refine s_aload_n 1 C dL_promotes_89 rfl 1 rfl ?_
    refine s_iload C dL_promotes_90 6 rfl ?_
    refine s_aload_n 1 C dL_promotes_92 rfl 1 rfl ?_
    refine s_iload C dL_promotes_93 6 rfl ?_
    refine s_iald C dL_promotes_95 75 rfl 12 rfl (by omega) (by omega) (by omega) ?_
    refine s_top ((uZ (uZ f 15 (f 16)) 17 st) 12) (uZ_n (by omega)) ?_
    refine s_top ((uZ f 15 (f 16)) 12) (uZ_n (by omega)) ?_
    refine s_top (f 12) (uZ_n (by omega)) ?_
    refine s_iload C dL_promotes_96 7 rfl ?_
    refine s_icmp_ge 108 C dL_promotes_98 (by decide) (hI.rf _) (hI.rf _) (fun h_98 => ?_) (fun h_98 => ?_)
    · refine s_iload C dL_promotes_108 7 rfl ?_
      exact J_110 st (f 16) h_st (by split <;> omega)
    · refine s_aload_n 1 C dL_promotes_101 rfl 1 rfl ?_
      refine s_iload C dL_promotes_102 6 rfl ?_
      refine s_iald C dL_promotes_104 75 rfl 12 rfl (by omega) (by omega) (by omega) ?_
      refine s_top ((uZ (uZ f 15 (f 16)) 17 st) 12) (uZ_n (by omega)) ?_
      refine s_top ((uZ f 15 (f 16)) 12) (uZ_n (by omega)) ?_
      refine s_top (f 12) (uZ_n (by omega)) ?_
      refine s_goto 110 C dL_promotes_105 (by decide) ?_
      exact J_110 st (f 12) h_st (by split <;> omega)
  refine s_bipush (z := 12) C dL_promotes_0 rfl ?_
  refine s_iconst C dL_promotes_2 ?_
  refine s_iload C dL_promotes_3 4 rfl ?_
  refine s_imul C dL_promotes_5 ?_
  refine s_iadd C dL_promotes_6 ?_
  refine s_istore [(5, vI (12 + (3 * 1))), (0, .ref x0), (1, .ref g0), (2, .ref r0), (3, .ref m0), (4, vI 1)] C dL_promotes_7 (by decide) rfl ?_
  refine s_bipush (z := 15) C dL_promotes_9 rfl ?_
  refine s_iconst C dL_promotes_11 ?_
  refine s_iload C dL_promotes_12 5 rfl ?_
  refine s_imul C dL_promotes_14 ?_
  refine s_isub C dL_promotes_15 ?_
  refine s_istore [(6, vI (15 - (3 * 1))), (5, vI (12 + (3 * 1))), (0, .ref x0), (1, .ref g0), (2, .ref r0), (3, .ref m0), (4, vI 1)] C dL_promotes_16 (by decide) rfl ?_
  refine s_aload_n 1 C dL_promotes_18 rfl 3 rfl ?_
  refine s_iload C dL_promotes_19 1 rfl ?_
  refine s_iconst C dL_promotes_21 ?_
  refine s_iadd C dL_promotes_22 ?_
  refine s_iald C dL_promotes_23 75 rfl 16 (by omega) (by omega) (by omega) (by omega) ?_
  refine s_istore [(7, vI (f 16)), (6, vI (15 - (3 * 1))), (5, vI (12 + (3 * 1))), (0, .ref x0), (1, .ref g0), (2, .ref r0), (3, .ref m0), (4, vI 1)] C dL_promotes_24 (by decide) rfl ?_
  refine s_aload_n 2 C dL_promotes_26 rfl 5 rfl ?_
  refine s_iload C dL_promotes_27 0 rfl ?_
  refine s_aload_n 1 C dL_promotes_29 rfl 4 rfl ?_
  refine s_iconst C dL_promotes_30 ?_
  refine s_iald C dL_promotes_31 75 rfl 0 rfl (by omega) (by omega) (by omega) ?_
  refine s_callSQ (As := [.ref r0, vI (f 16), vI (f 0)]) (rest := []) (segs := [[cO x0 6 [.ref (a 0), .ref h0, .ref o0, .ref u0, .ref e8, .ref e9]], stW G a c F, [cO h0 0 [.ref h1, vI ps]], [cQ h1 G.2.1.2.2.2.1 5 Q], stW G (S 0) (cs 0) (Fs 0), stW G (S 1) (cs 1) (Fs 1), stW G (S 2) (cs 2) (Fs 2), stW G (S 3) (cs 3) (Fs 3), stW G (S 4) (cs 4) (Fs 4), [cA g0 G.2.1.1 18 f], [cLg r0 G.2.1.2.2.2.2 64 lr], [cLg m0 G.2.1.2.2.2.2 2 lm]]) C dL_promotes_32 (c_L_commits l G r0 lr f B (f 16) (f 0) hP hL.1 (by first | assumption | omega) (by first | assumption | omega)) gL_promotes_L_commits rfl 3 (by decide +kernel) (by decide) [10] [0, 1, 2, 3, 4, 5, 6, 7, 8, 9, 11] 12 (rfl : (12 : Nat) = 12) (by decide +kernel) rfl rfl (Nat.le_of_ble_eq_true rfl) ⟨Nat.zero_le _, Nat.zero_le _⟩ ?_
  intro v0 w0 hq
  obtain ⟨rfl, rfl⟩ := hq
  refine ⟨rfl, [[cO x0 6 [.ref (a 0), .ref h0, .ref o0, .ref u0, .ref e8, .ref e9]], stW G a c F, [cO h0 0 [.ref h1, vI ps]], [cQ h1 G.2.1.2.2.2.1 5 Q], stW G (S 0) (cs 0) (Fs 0), stW G (S 1) (cs 1) (Fs 1), stW G (S 2) (cs 2) (Fs 2), stW G (S 3) (cs 3) (Fs 3), stW G (S 4) (cs 4) (Fs 4), [cA g0 G.2.1.1 18 f], [cLg r0 G.2.1.2.2.2.2 64 lr], [cLg m0 G.2.1.2.2.2.2 2 lm]], (rfl : (12 : Nat) = 12), rfl, Eq.trans (b := ([[cO x0 6 [.ref (a 0), .ref h0, .ref o0, .ref u0, .ref e8, .ref e9]], stW G a c F, [cO h0 0 [.ref h1, vI ps]], [cQ h1 G.2.1.2.2.2.1 5 Q], stW G (S 0) (cs 0) (Fs 0), stW G (S 1) (cs 1) (Fs 1), stW G (S 2) (cs 2) (Fs 2), stW G (S 3) (cs 3) (Fs 3), stW G (S 4) (cs 4) (Fs 4), [cA g0 G.2.1.1 18 f], [cLg m0 G.2.1.2.2.2.2 2 lm]] : List va_W)) rfl rfl, ?_⟩
  show fSt l G X 0 0 35 [(7, vI (f 16)), (6, vI (15 - (3 * 1))), (5, vI (12 + (3 * 1))), (0, .ref x0), (1, .ref g0), (2, .ref r0), (3, .ref m0), (4, vI 1)] [vI (mB f ((f 16) + 1) (f 0))] ([[cO x0 6 [.ref (a 0), .ref h0, .ref o0, .ref u0, .ref e8, .ref e9]], stW G a c F, [cO h0 0 [.ref h1, vI ps]], [cQ h1 G.2.1.2.2.2.1 5 Q], stW G (S 0) (cs 0) (Fs 0), stW G (S 1) (cs 1) (Fs 1), stW G (S 2) (cs 2) (Fs 2), stW G (S 3) (cs 3) (Fs 3), stW G (S 4) (cs 4) (Fs 4), [cA g0 G.2.1.1 18 f], [cLg r0 G.2.1.2.2.2.2 64 lr], [cLg m0 G.2.1.2.2.2.2 2 lm]] : List va_W).flatten
  refine s_istore [(8, vI (mB f ((f 16) + 1) (f 0))), (7, vI (f 16)), (6, vI (15 - (3 * 1))), (5, vI (12 + (3 * 1))), (0, .ref x0), (1, .ref g0), (2, .ref r0), (3, .ref m0), (4, vI 1)] C dL_promotes_35 (by decide) rfl ?_
  refine s_aload_n 1 C dL_promotes_37 rfl 5 rfl ?_
  refine s_iload C dL_promotes_38 3 rfl ?_
  refine s_iload C dL_promotes_40 1 rfl ?_
  refine s_iast ([[cO x0 6 [.ref (a 0), .ref h0, .ref o0, .ref u0, .ref e8, .ref e9]], stW G a c F, [cO h0 0 [.ref h1, vI ps]], [cQ h1 G.2.1.2.2.2.1 5 Q], stW G (S 0) (cs 0) (Fs 0), stW G (S 1) (cs 1) (Fs 1), stW G (S 2) (cs 2) (Fs 2), stW G (S 3) (cs 3) (Fs 3), stW G (S 4) (cs 4) (Fs 4), [cA g0 G.2.1.1 18 (uZ f 15 (f 16))], [cLg r0 G.2.1.2.2.2.2 64 lr], [cLg m0 G.2.1.2.2.2.2 2 lm]] : List va_W).flatten C dL_promotes_42 75 rfl 15 (by omega) (by omega) (by omega) (by omega) rfl ?_
  refine s_aload_n 1 C dL_promotes_43 rfl 5 rfl ?_
  refine s_iload C dL_promotes_44 3 rfl ?_
  refine s_iconst C dL_promotes_46 ?_
  refine s_iadd C dL_promotes_47 ?_
  refine s_iload C dL_promotes_48 1 rfl ?_
  refine s_aload_n 1 C dL_promotes_50 rfl 5 rfl ?_
  refine s_iconst C dL_promotes_51 ?_
  refine s_iald C dL_promotes_52 75 rfl 0 rfl (by omega) (by omega) (by omega) ?_
  refine s_top (f 0) (uZ_n (by omega)) ?_
  refine s_icmp_ge 60 C dL_promotes_53 (by decide) (hI.rf _) (hI.rf _) (fun h_53 => ?_) (fun h_53 => ?_)
  · refine s_iconst C dL_promotes_60 ?_
    refine s_lv [(0, .ref x0), (1, .ref g0), (2, .ref r0), (3, .ref m0), (4, vI 1), (5, vI 15), (6, vI 12), (7, vI (f 16)), (8, vI (mB f (f 16 + 1) (f 0)))] [4, 5, 6, 7, 8, 3, 2, 1, 0] rfl ?_
    exact J_61 0 (by split <;> omega)
  · refine s_iconst C dL_promotes_56 ?_
    refine s_goto 61 C dL_promotes_57 (by decide) ?_
    refine s_lv [(0, .ref x0), (1, .ref g0), (2, .ref r0), (3, .ref m0), (4, vI 1), (5, vI 15), (6, vI 12), (7, vI (f 16)), (8, vI (mB f (f 16 + 1) (f 0)))] [4, 5, 6, 7, 8, 3, 2, 1, 0] rfl ?_
    exact J_61 1 (by split <;> omega)

theorem w_L_promotes (l : Launch) (G : fG) (x0 h0 h1 o0 u0 e8 e9 g0 r0 m0 : Nat) (a : Nat → Nat) (S : Nat → Nat → Nat) (c : Nat → Int) (F : Nat → Int → Int) (ps : Int) (Q : Nat → Option Nat) (cs : Nat → Nat → Int) (Fs : Nat → Nat → Int → Int) (p : Nat → Nat) (B : Int) (f P : Int → Int) (lr lm : Int → Nat) (b : Int) (hR : RSb f c F) (hP : PI B f) (hH : HRel B P ps S Q p cs Fs) (hL : LR f lr lm) (hb : 0 ≤ b ∧ b ≤ 1) (ha : ¬ f (3 * b + 14) = 1) : fCt l G yL_promotes wsL_promotes 5 125 0 0 [.ref x0, .ref g0, .ref r0, .ref m0, vI b] ([[cO x0 6 [.ref (a 0), .ref h0, .ref o0, .ref u0, .ref e8, .ref e9]], stW G a c F, [cO h0 0 [.ref h1, vI ps]], [cQ h1 G.2.1.2.2.2.1 5 Q], stW G (S 0) (cs 0) (Fs 0), stW G (S 1) (cs 1) (Fs 1), stW G (S 2) (cs 2) (Fs 2), stW G (S 3) (cs 3) (Fs 3), stW G (S 4) (cs 4) (Fs 4), [cA g0 G.2.1.1 18 f], [cLg r0 G.2.1.2.2.2.2 64 lr], [cLg m0 G.2.1.2.2.2.2 2 lm]] : List va_W).flatten (fun (v0 : Option Value) (w0 : va_W) => ∃ (c2 : Nat → Int) (F2 : Nat → Int → Int) (ps2 : Int) (Q2 : Nat → Option Nat) (cs2 : Nat → Nat → Int) (Fs2 : Nat → Nat → Int → Int) (p2 : Nat → Nat) (f2 P2 : Int → Int) (lr2 lm2 : Int → Nat), v0 = some (vI 1) ∧ w0 = ([[cO x0 6 [.ref (a 0), .ref h0, .ref o0, .ref u0, .ref e8, .ref e9]], stW G a c2 F2, [cO h0 0 [.ref h1, vI ps2]], [cQ h1 G.2.1.2.2.2.1 5 Q2], stW G (S 0) (cs2 0) (Fs2 0), stW G (S 1) (cs2 1) (Fs2 1), stW G (S 2) (cs2 2) (Fs2 2), stW G (S 3) (cs2 3) (Fs2 3), stW G (S 4) (cs2 4) (Fs2 4), [cA g0 G.2.1.1 18 f2], [cLg r0 G.2.1.2.2.2.2 64 lr2], [cLg m0 G.2.1.2.2.2.2 2 lm2]] : List va_W).flatten ∧ (RSb f2 c2 F2) ∧ (NX B f f2 lr2 lm2) ∧ (HRel (B + 300) P2 ps2 S Q2 p2 cs2 Fs2)) := by
  rcases (by omega : b = 0 ∨ b = 1) with e | e
  · subst e
    exact c_L_promotes_0 l G x0 h0 h1 o0 u0 e8 e9 g0 r0 m0 a S c F ps Q cs Fs p B f P lr lm hR hP hH hL ha
  · subst e
    exact c_L_promotes_1 l G x0 h0 h1 o0 u0 e8 e9 g0 r0 m0 a S c F ps Q cs Fs p B f P lr lm hR hP hH hL ha

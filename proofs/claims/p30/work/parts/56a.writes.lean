set_option maxHeartbeats 4000000 in
set_option maxRecDepth 100000 in
theorem c_L_writes (l : Launch) (G : fG) (x0 h0 h1 o0 u0 e8 e9 g0 r0 : Nat) (a : Nat → Nat) (S : Nat → Nat → Nat) (c : Nat → Int) (F : Nat → Int → Int) (ps : Int) (Q : Nat → Option Nat) (cs : Nat → Nat → Int) (Fs : Nat → Nat → Int → Int) (p : Nat → Nat) (B : Int) (f P : Int → Int) (lr lm : Int → Nat) (wy y : Int) (hR : RSb f c F) (hP : PI B f) (hH : HRel B P ps S Q p cs Fs) (hL : LR f lr lm) (hwy : 0 ≤ wy ∧ wy < 19) (hy : 0 ≤ y ∧ y < 10000000) : fCt l G yL_writes wsL_writes 5 127 0 0 [.ref x0, .ref g0, .ref r0, vI wy, vI y] ([[cO x0 6 [.ref (a 0), .ref h0, .ref o0, .ref u0, .ref e8, .ref e9]], stW G a c F, [cO h0 0 [.ref h1, vI ps]], [cQ h1 G.2.1.2.2.2.1 5 Q], stW G (S 0) (cs 0) (Fs 0), stW G (S 1) (cs 1) (Fs 1), stW G (S 2) (cs 2) (Fs 2), stW G (S 3) (cs 3) (Fs 3), stW G (S 4) (cs 4) (Fs 4), [cA g0 G.2.1.1 18 f], [cLg r0 G.2.1.2.2.2.2 64 lr]] : List va_W).flatten (fun (v0 : Option Value) (w0 : va_W) => ∃ (c2 : Nat → Int) (F2 : Nat → Int → Int) (ps2 : Int) (Q2 : Nat → Option Nat) (cs2 : Nat → Nat → Int) (Fs2 : Nat → Nat → Int → Int) (p2 : Nat → Nat) (f2 P2 : Int → Int) (lr2 : Int → Nat), v0 = some (vI 1) ∧ w0 = ([[cO x0 6 [.ref (a 0), .ref h0, .ref o0, .ref u0, .ref e8, .ref e9]], stW G a c2 F2, [cO h0 0 [.ref h1, vI ps2]], [cQ h1 G.2.1.2.2.2.1 5 Q2], stW G (S 0) (cs2 0) (Fs2 0), stW G (S 1) (cs2 1) (Fs2 1), stW G (S 2) (cs2 2) (Fs2 2), stW G (S 3) (cs2 3) (Fs2 3), stW G (S 4) (cs2 4) (Fs2 4), [cA g0 G.2.1.1 18 f2], [cLg r0 G.2.1.2.2.2.2 64 lr2]] : List va_W).flatten ∧ (RSb f2 c2 F2) ∧ (NX B f f2 lr2 lm) ∧ (HRel (B + 300) P2 ps2 S Q2 p2 cs2 Fs2)) := by
  refine fs_met (cc := cL_writes) (nL := 10) (ret := (some .boolean)) (by decide) rfl (Nat.le_of_ble_eq_true rfl) ?_
  intro X C E
  show fSt l G X 0 0 0 [(0, .ref x0), (1, .ref g0), (2, .ref r0), (3, vI wy), (4, vI y)] [] ([[cO x0 6 [.ref (a 0), .ref h0, .ref o0, .ref u0, .ref e8, .ref e9]], stW G a c F, [cO h0 0 [.ref h1, vI ps]], [cQ h1 G.2.1.2.2.2.1 5 Q], stW G (S 0) (cs 0) (Fs 0), stW G (S 1) (cs 1) (Fs 1), stW G (S 2) (cs 2) (Fs 2), stW G (S 3) (cs 3) (Fs 3), stW G (S 4) (cs 4) (Fs 4), [cA g0 G.2.1.1 18 f], [cLg r0 G.2.1.2.2.2.2 64 lr]] : List va_W).flatten
  have hI := hP.1
  have hBl := hP.2.1
  have hBB : B ≤ 1073000000 := by omega
  have hn61 := hP.2.2.1
  have ht9 := hP.2.2.2
  have hn0 := hI.n
  have htk := hI.tk
  refine s_iload C dL_writes_0 4 rfl ?_
  refine s_iconst C dL_writes_2 ?_
  refine s_irem C dL_writes_3 (by omega) (by omega) ?_
  obtain ⟨k, hv_k, hq_k⟩ : ∃ k : Int, k = (y % 3) ∧ (0 ≤ k ∧ k ≤ 2) := ⟨_, rfl, by omega⟩
  refine s_top k hv_k.symm ?_
  refine s_istore [(5, vI k), (0, .ref x0), (1, .ref g0), (2, .ref r0), (3, vI wy), (4, vI y)] C dL_writes_4 (by decide) rfl ?_
  refine s_aload_n 1 C dL_writes_6 rfl 2 rfl ?_
  refine s_bipush (z := 9) C dL_writes_7 rfl ?_
  refine s_iload C dL_writes_9 0 rfl ?_
  refine s_iadd C dL_writes_11 ?_
  refine s_iald C dL_writes_12 75 rfl (k + 9) (by omega) (by omega) (by omega) (by omega) ?_
  refine s_istore [(6, vI (f (k + 9))), (5, vI k), (0, .ref x0), (1, .ref g0), (2, .ref r0), (3, vI wy), (4, vI y)] C dL_writes_13 (by decide) rfl ?_
  have hsl := hI.sl k (by omega) (by omega)
  refine s_iload_n 3 C dL_writes_15 rfl 5 rfl ?_
  refine s_iconst C dL_writes_16 ?_
  refine s_icmp_ge 77 C dL_writes_17 (by decide) (by omega) (by omega) (fun h_17 => ?_) (fun h_17 => ?_)
  · refine s_iload C dL_writes_77 6 rfl ?_
    refine s_iconst C dL_writes_79 ?_
    refine s_idiv C dL_writes_80 (by omega) (by omega) ?_
    refine s_iload C dL_writes_81 6 rfl ?_
    refine s_iconst C dL_writes_83 ?_
    refine s_irem C dL_writes_84 (by omega) (by omega) ?_
    refine s_if_ne 93 C dL_writes_85 (by decide) (by omega) (fun h_85 => ?_) (fun h_85 => ?_)
    · refine s_iconst C dL_writes_93 ?_
      refine s_irem C dL_writes_94 (by omega) (by omega) ?_
      obtain ⟨ky, hv_ky, hq_ky⟩ : ∃ ky : Int, ky = ((y / 3) % 4) ∧ (0 ≤ ky ∧ ky ≤ 23) := ⟨_, rfl, by omega⟩
      refine s_top ky hv_ky.symm ?_
      refine s_istore [(7, vI ky), (6, vI (f (k + 9))), (5, vI k), (0, .ref x0), (1, .ref g0), (2, .ref r0), (3, vI wy), (4, vI y)] C dL_writes_95 (by decide) rfl ?_
      refine s_iload C dL_writes_97 7 rfl ?_
      refine s_bipush (z := 72) C dL_writes_99 rfl ?_
      refine s_idiv C dL_writes_101 (by omega) (by omega) ?_
      refine s_sipush (z := 1000) C dL_writes_102 rfl ?_
      refine s_irem C dL_writes_105 (by omega) (by omega) ?_
      obtain ⟨vx, hv_vx, hq_vx⟩ : ∃ vx : Int, vx = ((y / 72) % 1000) ∧ (0 ≤ vx ∧ vx ≤ 999) := ⟨_, rfl, by omega⟩
      refine s_top vx hv_vx.symm ?_
      refine s_istore [(8, vI vx), (7, vI ky), (6, vI (f (k + 9))), (5, vI k), (0, .ref x0), (1, .ref g0), (2, .ref r0), (3, vI wy), (4, vI y)] C dL_writes_106 (by decide) rfl ?_
      refine s_iload C dL_writes_108 2 rfl ?_
      refine s_if_eq 121 C dL_writes_110 (by decide) (hI.rf _) (fun h_110 => ?_) (fun h_110 => ?_)
      · refine s_iload C dL_writes_121 2 rfl ?_
        refine s_if_ne 130 C dL_writes_123 (by decide) (hI.rf _) (fun h_123 => ?_) (fun h_123 => ?_)
        · exfalso
          omega
        · refine s_iconst C dL_writes_126 ?_
          refine s_goto 131 C dL_writes_127 (by decide) ?_
          refine s_istore [(9, vI 1), (8, vI vx), (7, vI ky), (6, vI (f (k + 9))), (5, vI k), (0, .ref x0), (1, .ref g0), (2, .ref r0), (3, vI wy), (4, vI y)] C dL_writes_131 (by decide) rfl ?_
          refine s_iload C dL_writes_133 0 rfl ?_
          refine s_if_eq 175 C dL_writes_135 (by decide) (by decide) (fun h => absurd h (by decide)) (fun h => ?_)
          refine s_aload_n 0 C dL_writes_138 rfl 5 rfl ?_
          refine s_iload C dL_writes_139 4 rfl ?_
          refine s_iload C dL_writes_141 2 rfl ?_
          refine s_iload C dL_writes_143 1 rfl ?_
          refine s_callVQ (As := [vI k, vI ky, vI vx]) (rest := []) (segs := [[cO x0 6 [.ref (a 0), .ref h0, .ref o0, .ref u0, .ref e8, .ref e9]], stW G a c F, [cO h0 0 [.ref h1, vI ps]], [cQ h1 G.2.1.2.2.2.1 5 Q], stW G (S 0) (cs 0) (Fs 0), stW G (S 1) (cs 1) (Fs 1), stW G (S 2) (cs 2) (Fs 2), stW G (S 3) (cs 3) (Fs 3), stW G (S 4) (cs 4) (Fs 4), [cA g0 G.2.1.1 18 f], [cLg r0 G.2.1.2.2.2.2 64 lr]]) C dL_writes_145 (c_X6_put l G x0 h0 h1 (.ref o0) (.ref u0) (.ref e8) (.ref e9) ps Q S cs Fs p a c F B f P k ky vx (by first | assumption | omega) hI hBB hH (by first | assumption | omega) (by first | assumption | omega) (by first | assumption | omega)) gL_writes_X6_put rfl 3 (by decide +kernel) (by decide) 6 rfl rfl 0 _ rfl rfl [0, 2, 3, 4, 5, 6, 7, 8, 1] [9, 10] 11 (rfl : (11 : Nat) = 11) (by decide +kernel) rfl rfl (Nat.le_of_ble_eq_true rfl) ⟨Nat.zero_le _, Nat.zero_le _⟩ ?_
          intro v0 w0 hq
          obtain ⟨z_145, f2_145, c2_145, F2_145, ps2_145, P2_145, Q2_145, cs2_145, Fs2_145, p2_145, rfl, rfl, hq0_145, hq1_145, hq2_145, hq3_145, hq4_145⟩ := hq
          refine ⟨(fst_f (fst_c rfl (fst_c (fst_k rfl) (fst_c (fst_k rfl) (fst_c stW_fst (fst_c stW_fst (fst_c stW_fst (fst_c stW_fst (fst_c stW_fst (fst_c stW_fst rfl)))))))))), [[cO x0 6 [.ref (a 0), .ref h0, .ref o0, .ref u0, .ref e8, .ref e9]], stW G a c2_145 F2_145, [cO h0 0 [.ref h1, vI ps2_145]], [cQ h1 G.2.1.2.2.2.1 5 Q2_145], stW G (S 0) (cs2_145 0) (Fs2_145 0), stW G (S 1) (cs2_145 1) (Fs2_145 1), stW G (S 2) (cs2_145 2) (Fs2_145 2), stW G (S 3) (cs2_145 3) (Fs2_145 3), stW G (S 4) (cs2_145 4) (Fs2_145 4), [cA g0 G.2.1.1 18 f], [cLg r0 G.2.1.2.2.2.2 64 lr]], (rfl : (11 : Nat) = 11), rfl, Eq.trans (b := ([[cA g0 G.2.1.1 18 f], [cLg r0 G.2.1.2.2.2.2 64 lr]] : List va_W)) rfl rfl, ?_⟩
          show fSt l G X 0 0 148 [(9, vI 1), (8, vI vx), (7, vI ky), (6, vI (f (k + 9))), (5, vI k), (0, .ref x0), (1, .ref g0), (2, .ref r0), (3, vI wy), (4, vI y)] [vI z_145] ([[cO x0 6 [.ref (a 0), .ref h0, .ref o0, .ref u0, .ref e8, .ref e9]], stW G a c2_145 F2_145, [cO h0 0 [.ref h1, vI ps2_145]], [cQ h1 G.2.1.2.2.2.1 5 Q2_145], stW G (S 0) (cs2_145 0) (Fs2_145 0), stW G (S 1) (cs2_145 1) (Fs2_145 1), stW G (S 2) (cs2_145 2) (Fs2_145 2), stW G (S 3) (cs2_145 3) (Fs2_145 3), stW G (S 4) (cs2_145 4) (Fs2_145 4), [cA g0 G.2.1.1 18 f], [cLg r0 G.2.1.2.2.2.2 64 lr]] : List va_W).flatten
          obtain ⟨hE9, hN9⟩ := X_put_no hP hL hq_k hq_ky hq_vx (by omega)
          obtain ⟨hz, hf⟩ := Prod.mk.inj (hq1_145.trans hE9)
          have hz := hz.symm
          have hf := hf.symm
          subst hz
          subst hf
          refine s_ldc (z := -1000002) C (by decide +kernel) dL_writes_148 ?_
          refine s_icmp_ne 179 C dL_writes_150 (by decide) (by decide) (by decide) (fun h => absurd h (by decide)) (fun h => ?_)
          refine s_aload_n 0 C dL_writes_153 rfl 5 rfl ?_
          refine s_iload C dL_writes_154 4 rfl ?_
          refine s_callVQ (As := [vI k]) (rest := []) (segs := [[cO x0 6 [.ref (a 0), .ref h0, .ref o0, .ref u0, .ref e8, .ref e9]], stW G a c2_145 F2_145, [cO h0 0 [.ref h1, vI ps2_145]], [cQ h1 G.2.1.2.2.2.1 5 Q2_145], stW G (S 0) (cs2_145 0) (Fs2_145 0), stW G (S 1) (cs2_145 1) (Fs2_145 1), stW G (S 2) (cs2_145 2) (Fs2_145 2), stW G (S 3) (cs2_145 3) (Fs2_145 3), stW G (S 4) (cs2_145 4) (Fs2_145 4), [cA g0 G.2.1.1 18 f], [cLg r0 G.2.1.2.2.2.2 64 lr]]) C dL_writes_156 (c_X6_commit l G x0 h0 h1 (.ref o0) (.ref u0) (.ref e8) (.ref e9) ps2_145 Q2_145 S cs2_145 Fs2_145 p2_145 a c2_145 F2_145 B f P2_145 k hq0_145 hI hBB hq2_145 (by first | assumption | omega)) gL_writes_X6_commit rfl 1 (by decide +kernel) (by decide) 6 rfl rfl 0 _ rfl rfl [0, 2, 3, 4, 5, 6, 7, 8, 1] [9, 10] 11 (rfl : (11 : Nat) = 11) (by decide +kernel) rfl rfl (Nat.le_of_ble_eq_true rfl) ⟨Nat.zero_le _, Nat.zero_le _⟩ ?_
          intro v0 w0 hq
          obtain ⟨z_156, f2_156, c2_156, F2_156, ps2_156, P2_156, Q2_156, cs2_156, Fs2_156, p2_156, rfl, rfl, hq0_156, hq1_156, hq2_156, hq3_156, hq4_156⟩ := hq
          refine ⟨(fst_f (fst_c rfl (fst_c (fst_k rfl) (fst_c (fst_k rfl) (fst_c stW_fst (fst_c stW_fst (fst_c stW_fst (fst_c stW_fst (fst_c stW_fst (fst_c stW_fst rfl)))))))))), [[cO x0 6 [.ref (a 0), .ref h0, .ref o0, .ref u0, .ref e8, .ref e9]], stW G a c2_156 F2_156, [cO h0 0 [.ref h1, vI ps2_156]], [cQ h1 G.2.1.2.2.2.1 5 Q2_156], stW G (S 0) (cs2_156 0) (Fs2_156 0), stW G (S 1) (cs2_156 1) (Fs2_156 1), stW G (S 2) (cs2_156 2) (Fs2_156 2), stW G (S 3) (cs2_156 3) (Fs2_156 3), stW G (S 4) (cs2_156 4) (Fs2_156 4), [cA g0 G.2.1.1 18 f], [cLg r0 G.2.1.2.2.2.2 64 lr]], (rfl : (11 : Nat) = 11), rfl, Eq.trans (b := ([[cA g0 G.2.1.1 18 f], [cLg r0 G.2.1.2.2.2.2 64 lr]] : List va_W)) rfl rfl, ?_⟩
          show fSt l G X 0 0 159 [(9, vI 1), (8, vI vx), (7, vI ky), (6, vI (f (k + 9))), (5, vI k), (0, .ref x0), (1, .ref g0), (2, .ref r0), (3, vI wy), (4, vI y)] [vI z_156] ([[cO x0 6 [.ref (a 0), .ref h0, .ref o0, .ref u0, .ref e8, .ref e9]], stW G a c2_156 F2_156, [cO h0 0 [.ref h1, vI ps2_156]], [cQ h1 G.2.1.2.2.2.1 5 Q2_156], stW G (S 0) (cs2_156 0) (Fs2_156 0), stW G (S 1) (cs2_156 1) (Fs2_156 1), stW G (S 2) (cs2_156 2) (Fs2_156 2), stW G (S 3) (cs2_156 3) (Fs2_156 3), stW G (S 4) (cs2_156 4) (Fs2_156 4), [cA g0 G.2.1.1 18 f], [cLg r0 G.2.1.2.2.2.2 64 lr]] : List va_W).flatten
          obtain ⟨hE9, hN9⟩ := X_end_no (kd := 1) hP hL hq_k (by omega)
          obtain ⟨hz, hf⟩ := Prod.mk.inj (hq1_156.trans hE9)
          have hz := hz.symm
          have hf := hf.symm
          subst hz
          subst hf
          refine s_ldc (z := -1000002) C (by decide +kernel) dL_writes_159 ?_
          refine s_icmp_ne 179 C dL_writes_161 (by decide) (by decide) (by decide) (fun h => absurd h (by decide)) (fun h => ?_)
          refine s_aload_n 0 C dL_writes_164 rfl 5 rfl ?_
          refine s_iload C dL_writes_165 4 rfl ?_
          refine s_callVQ (As := [vI k]) (rest := []) (segs := [[cO x0 6 [.ref (a 0), .ref h0, .ref o0, .ref u0, .ref e8, .ref e9]], stW G a c2_156 F2_156, [cO h0 0 [.ref h1, vI ps2_156]], [cQ h1 G.2.1.2.2.2.1 5 Q2_156], stW G (S 0) (cs2_156 0) (Fs2_156 0), stW G (S 1) (cs2_156 1) (Fs2_156 1), stW G (S 2) (cs2_156 2) (Fs2_156 2), stW G (S 3) (cs2_156 3) (Fs2_156 3), stW G (S 4) (cs2_156 4) (Fs2_156 4), [cA g0 G.2.1.1 18 f], [cLg r0 G.2.1.2.2.2.2 64 lr]]) C dL_writes_167 (c_X6_abort l G x0 h0 h1 (.ref o0) (.ref u0) (.ref e8) (.ref e9) ps2_156 Q2_156 S cs2_156 Fs2_156 p2_156 a c2_156 F2_156 B f P2_156 k hq0_156 hI hBB hq2_156 (by first | assumption | omega)) gL_writes_X6_abort rfl 1 (by decide +kernel) (by decide) 6 rfl rfl 0 _ rfl rfl [0, 2, 3, 4, 5, 6, 7, 8, 1] [9, 10] 11 (rfl : (11 : Nat) = 11) (by decide +kernel) rfl rfl (Nat.le_of_ble_eq_true rfl) ⟨Nat.zero_le _, Nat.zero_le _⟩ ?_
          intro v0 w0 hq
          obtain ⟨z_167, f2_167, c2_167, F2_167, ps2_167, P2_167, Q2_167, cs2_167, Fs2_167, p2_167, rfl, rfl, hq0_167, hq1_167, hq2_167, hq3_167, hq4_167⟩ := hq
          refine ⟨(fst_f (fst_c rfl (fst_c (fst_k rfl) (fst_c (fst_k rfl) (fst_c stW_fst (fst_c stW_fst (fst_c stW_fst (fst_c stW_fst (fst_c stW_fst (fst_c stW_fst rfl)))))))))), [[cO x0 6 [.ref (a 0), .ref h0, .ref o0, .ref u0, .ref e8, .ref e9]], stW G a c2_167 F2_167, [cO h0 0 [.ref h1, vI ps2_167]], [cQ h1 G.2.1.2.2.2.1 5 Q2_167], stW G (S 0) (cs2_167 0) (Fs2_167 0), stW G (S 1) (cs2_167 1) (Fs2_167 1), stW G (S 2) (cs2_167 2) (Fs2_167 2), stW G (S 3) (cs2_167 3) (Fs2_167 3), stW G (S 4) (cs2_167 4) (Fs2_167 4), [cA g0 G.2.1.1 18 f], [cLg r0 G.2.1.2.2.2.2 64 lr]], (rfl : (11 : Nat) = 11), rfl, Eq.trans (b := ([[cA g0 G.2.1.1 18 f], [cLg r0 G.2.1.2.2.2.2 64 lr]] : List va_W)) rfl rfl, ?_⟩
          show fSt l G X 0 0 170 [(9, vI 1), (8, vI vx), (7, vI ky), (6, vI (f (k + 9))), (5, vI k), (0, .ref x0), (1, .ref g0), (2, .ref r0), (3, vI wy), (4, vI y)] [vI z_167] ([[cO x0 6 [.ref (a 0), .ref h0, .ref o0, .ref u0, .ref e8, .ref e9]], stW G a c2_167 F2_167, [cO h0 0 [.ref h1, vI ps2_167]], [cQ h1 G.2.1.2.2.2.1 5 Q2_167], stW G (S 0) (cs2_167 0) (Fs2_167 0), stW G (S 1) (cs2_167 1) (Fs2_167 1), stW G (S 2) (cs2_167 2) (Fs2_167 2), stW G (S 3) (cs2_167 3) (Fs2_167 3), stW G (S 4) (cs2_167 4) (Fs2_167 4), [cA g0 G.2.1.1 18 f], [cLg r0 G.2.1.2.2.2.2 64 lr]] : List va_W).flatten
          obtain ⟨hE9, hN9⟩ := X_end_no (kd := 2) hP hL hq_k (by omega)
          obtain ⟨hz, hf⟩ := Prod.mk.inj (hq1_167.trans hE9)
          have hz := hz.symm
          have hf := hf.symm
          subst hz
          subst hf
          refine s_ldc (z := -1000002) C (by decide +kernel) dL_writes_170 ?_
          refine s_icmp_ne 179 C dL_writes_172 (by decide) (by decide) (by decide) (fun h => absurd h (by decide)) (fun h => ?_)
          refine s_iconst C dL_writes_175 ?_
          refine s_goto 180 C dL_writes_176 (by decide) ?_
          exact s_zret C E dL_writes_180 rfl ⟨c2_167, F2_167, ps2_167, Q2_167, cs2_167, Fs2_167, p2_167, f, P2_167, lr, rfl, rfl, hq0_167, hN9, (hq2_167.mono (by omega))⟩
      · refine s_aload_n 1 C dL_writes_113 rfl 5 rfl ?_
        refine s_iconst C dL_writes_114 ?_
        refine s_iald C dL_writes_115 75 rfl 0 rfl (by omega) (by omega) (by omega) ?_
        refine s_bipush (z := 60) C dL_writes_116 rfl ?_
        refine s_icmp_le 181 C dL_writes_118 (by decide) (hI.rf _) (by omega) (fun h_118 => ?_) (fun h_118 => ?_)
        · refine s_iload_n 3 C dL_writes_181 rfl 7 rfl ?_
          refine s_bipush (z := 13) C dL_writes_182 rfl ?_
          refine s_icmp_ge 221 C dL_writes_184 (by decide) (by omega) (by omega) (fun h_184 => ?_) (fun h_184 => ?_)
          · refine s_aload_n 1 C dL_writes_221 rfl 5 rfl ?_
            refine s_aload_n 2 C dL_writes_222 rfl 6 rfl ?_
            refine s_iload_n 3 C dL_writes_223 rfl 7 rfl ?_
            refine s_bipush (z := 18) C dL_writes_224 rfl ?_
            refine s_icmp_ge 233 C dL_writes_226 (by decide) (by omega) (by omega) (fun h_226 => ?_) (fun h_226 => ?_)
            · refine s_iconst C dL_writes_233 ?_
              refine s_iconst C dL_writes_234 ?_
              refine s_iconst C dL_writes_235 ?_
              refine s_iload C dL_writes_236 2 rfl ?_
              refine s_callSQ (As := [.ref g0, .ref r0, vI 2, vI 0, vI 0, vI (f (k + 9))]) (rest := []) (segs := [[cO x0 6 [.ref (a 0), .ref h0, .ref o0, .ref u0, .ref e8, .ref e9]], stW G a c F, [cO h0 0 [.ref h1, vI ps]], [cQ h1 G.2.1.2.2.2.1 5 Q], stW G (S 0) (cs 0) (Fs 0), stW G (S 1) (cs 1) (Fs 1), stW G (S 2) (cs 2) (Fs 2), stW G (S 3) (cs 3) (Fs 3), stW G (S 4) (cs 4) (Fs 4), [cA g0 G.2.1.1 18 f], [cLg r0 G.2.1.2.2.2.2 64 lr]]) C dL_writes_238 (c_L_write l G g0 r0 f lr 2 0 0 (f (k + 9)) (by first | assumption | omega) (by first | assumption | omega) (by first | assumption | omega) (by first | assumption | omega) (by first | assumption | omega) (by first | assumption | omega)) gL_writes_L_write rfl 6 (by decide +kernel) (by decide) [9, 10] [0, 1, 2, 3, 4, 5, 6, 7, 8] 11 (rfl : (11 : Nat) = 11) (by decide +kernel) rfl rfl (Nat.le_of_ble_eq_true rfl) ⟨Nat.zero_le _, Nat.zero_le _⟩ ?_
              intro v0 w0 hq
              obtain ⟨rfl, rfl⟩ := hq
              refine ⟨(fst_k (fst_k rfl)), [[cO x0 6 [.ref (a 0), .ref h0, .ref o0, .ref u0, .ref e8, .ref e9]], stW G a c F, [cO h0 0 [.ref h1, vI ps]], [cQ h1 G.2.1.2.2.2.1 5 Q], stW G (S 0) (cs 0) (Fs 0), stW G (S 1) (cs 1) (Fs 1), stW G (S 2) (cs 2) (Fs 2), stW G (S 3) (cs 3) (Fs 3), stW G (S 4) (cs 4) (Fs 4), [cA g0 G.2.1.1 18 (uZ f 0 (f 0 + 1))], [cLg r0 G.2.1.2.2.2.2 64 (uLg lr (f 0 + 1) (wrN 2 0 0 (f (k + 9)) (f 1)))]], (rfl : (11 : Nat) = 11), rfl, Eq.trans (b := ([[cO x0 6 [.ref (a 0), .ref h0, .ref o0, .ref u0, .ref e8, .ref e9]], stW G a c F, [cO h0 0 [.ref h1, vI ps]], [cQ h1 G.2.1.2.2.2.1 5 Q], stW G (S 0) (cs 0) (Fs 0), stW G (S 1) (cs 1) (Fs 1), stW G (S 2) (cs 2) (Fs 2), stW G (S 3) (cs 3) (Fs 3), stW G (S 4) (cs 4) (Fs 4)] : List va_W)) rfl rfl, ?_⟩
              show fSt l G X 0 0 241 [(8, vI vx), (7, vI ky), (6, vI (f (k + 9))), (5, vI k), (0, .ref x0), (1, .ref g0), (2, .ref r0), (3, vI wy), (4, vI y)] [] ([[cO x0 6 [.ref (a 0), .ref h0, .ref o0, .ref u0, .ref e8, .ref e9]], stW G a c F, [cO h0 0 [.ref h1, vI ps]], [cQ h1 G.2.1.2.2.2.1 5 Q], stW G (S 0) (cs 0) (Fs 0), stW G (S 1) (cs 1) (Fs 1), stW G (S 2) (cs 2) (Fs 2), stW G (S 3) (cs 3) (Fs 3), stW G (S 4) (cs 4) (Fs 4), [cA g0 G.2.1.1 18 (uZ f 0 (f 0 + 1))], [cLg r0 G.2.1.2.2.2.2 64 (uLg lr (f 0 + 1) (wrN 2 0 0 (f (k + 9)) (f 1)))]] : List va_W).flatten
              refine s_aload_n 1 C dL_writes_241 rfl 5 rfl ?_
              refine s_bipush (z := 9) C dL_writes_242 rfl ?_
              refine s_iload C dL_writes_244 3 rfl ?_
              refine s_iadd C dL_writes_246 ?_
              refine s_iconst C dL_writes_247 ?_
              refine s_iast ([[cO x0 6 [.ref (a 0), .ref h0, .ref o0, .ref u0, .ref e8, .ref e9]], stW G a c F, [cO h0 0 [.ref h1, vI ps]], [cQ h1 G.2.1.2.2.2.1 5 Q], stW G (S 0) (cs 0) (Fs 0), stW G (S 1) (cs 1) (Fs 1), stW G (S 2) (cs 2) (Fs 2), stW G (S 3) (cs 3) (Fs 3), stW G (S 4) (cs 4) (Fs 4), [cA g0 G.2.1.1 18 (uZ (uZ f 0 (f 0 + 1)) (k + 9) 0)], [cLg r0 G.2.1.2.2.2.2 64 (uLg lr (f 0 + 1) (wrN 2 0 0 (f (k + 9)) (f 1)))]] : List va_W).flatten C dL_writes_248 75 rfl (k + 9) (by omega) (by omega) (by omega) (by omega) rfl ?_
              refine s_iload_n 3 C dL_writes_249 rfl 7 rfl ?_
              refine s_bipush (z := 18) C dL_writes_250 rfl ?_
              refine s_icmp_ge 264 C dL_writes_252 (by decide) (by omega) (by omega) (fun h_252 => ?_) (fun h_252 => ?_)
              · refine s_aload_n 0 C dL_writes_264 rfl 4 rfl ?_
                refine s_iload C dL_writes_265 3 rfl ?_
                refine s_callVQ (As := [vI k]) (rest := []) (segs := [[cO x0 6 [.ref (a 0), .ref h0, .ref o0, .ref u0, .ref e8, .ref e9]], stW G a c F, [cO h0 0 [.ref h1, vI ps]], [cQ h1 G.2.1.2.2.2.1 5 Q], stW G (S 0) (cs 0) (Fs 0), stW G (S 1) (cs 1) (Fs 1), stW G (S 2) (cs 2) (Fs 2), stW G (S 3) (cs 3) (Fs 3), stW G (S 4) (cs 4) (Fs 4), [cA g0 G.2.1.1 18 (uZ (uZ f 0 (f 0 + 1)) (k + 9) 0)], [cLg r0 G.2.1.2.2.2.2 64 (uLg lr (f 0 + 1) (wrN 2 0 0 (f (k + 9)) (f 1)))]]) C dL_writes_267 (c_X6_abort l G x0 h0 h1 (.ref o0) (.ref u0) (.ref e8) (.ref e9) ps Q S cs Fs p a c F B f P k (by first | assumption | omega) hI hBB hH (by first | assumption | omega)) gL_writes_X6_abort rfl 1 (by decide +kernel) (by decide) 6 rfl rfl 0 _ rfl rfl [0, 2, 3, 4, 5, 6, 7, 8, 1] [9, 10] 11 (rfl : (11 : Nat) = 11) (by decide +kernel) rfl rfl (Nat.le_of_ble_eq_true rfl) ⟨Nat.zero_le _, Nat.zero_le _⟩ ?_
                intro v0 w0 hq
                obtain ⟨z_267, f2_267, c2_267, F2_267, ps2_267, P2_267, Q2_267, cs2_267, Fs2_267, p2_267, rfl, rfl, hq0_267, hq1_267, hq2_267, hq3_267, hq4_267⟩ := hq
                refine ⟨(fst_f (fst_c rfl (fst_c (fst_k rfl) (fst_c (fst_k rfl) (fst_c stW_fst (fst_c stW_fst (fst_c stW_fst (fst_c stW_fst (fst_c stW_fst (fst_c stW_fst rfl)))))))))), [[cO x0 6 [.ref (a 0), .ref h0, .ref o0, .ref u0, .ref e8, .ref e9]], stW G a c2_267 F2_267, [cO h0 0 [.ref h1, vI ps2_267]], [cQ h1 G.2.1.2.2.2.1 5 Q2_267], stW G (S 0) (cs2_267 0) (Fs2_267 0), stW G (S 1) (cs2_267 1) (Fs2_267 1), stW G (S 2) (cs2_267 2) (Fs2_267 2), stW G (S 3) (cs2_267 3) (Fs2_267 3), stW G (S 4) (cs2_267 4) (Fs2_267 4), [cA g0 G.2.1.1 18 (uZ (uZ f 0 (f 0 + 1)) (k + 9) 0)], [cLg r0 G.2.1.2.2.2.2 64 (uLg lr (f 0 + 1) (wrN 2 0 0 (f (k + 9)) (f 1)))]], (rfl : (11 : Nat) = 11), rfl, Eq.trans (b := ([[cA g0 G.2.1.1 18 (uZ (uZ f 0 (f 0 + 1)) (k + 9) 0)], [cLg r0 G.2.1.2.2.2.2 64 (uLg lr (f 0 + 1) (wrN 2 0 0 (f (k + 9)) (f 1)))]] : List va_W)) rfl rfl, ?_⟩
                show fSt l G X 0 0 270 [(8, vI vx), (7, vI ky), (6, vI (f (k + 9))), (5, vI k), (0, .ref x0), (1, .ref g0), (2, .ref r0), (3, vI wy), (4, vI y)] [vI z_267] ([[cO x0 6 [.ref (a 0), .ref h0, .ref o0, .ref u0, .ref e8, .ref e9]], stW G a c2_267 F2_267, [cO h0 0 [.ref h1, vI ps2_267]], [cQ h1 G.2.1.2.2.2.1 5 Q2_267], stW G (S 0) (cs2_267 0) (Fs2_267 0), stW G (S 1) (cs2_267 1) (Fs2_267 1), stW G (S 2) (cs2_267 2) (Fs2_267 2), stW G (S 3) (cs2_267 3) (Fs2_267 3), stW G (S 4) (cs2_267 4) (Fs2_267 4), [cA g0 G.2.1.1 18 (uZ (uZ f 0 (f 0 + 1)) (k + 9) 0)], [cLg r0 G.2.1.2.2.2.2 64 (uLg lr (f 0 + 1) (wrN 2 0 0 (f (k + 9)) (f 1)))]] : List va_W).flatten
                obtain ⟨hE9, hN9⟩ := X_end hP hL hq_k (Or.inr rfl) (by omega) (by omega)
                obtain ⟨hz, hf⟩ := Prod.mk.inj (hq1_267.trans hE9)
                have hz := hz.symm
                have hf := hf.symm
                subst hz
                subst hf
                refine s_agr ([[cO x0 6 [.ref (a 0), .ref h0, .ref o0, .ref u0, .ref e8, .ref e9]], stW G a c2_267 F2_267, [cO h0 0 [.ref h1, vI ps2_267]], [cQ h1 G.2.1.2.2.2.1 5 Q2_267], stW G (S 0) (cs2_267 0) (Fs2_267 0), stW G (S 1) (cs2_267 1) (Fs2_267 1), stW G (S 2) (cs2_267 2) (Fs2_267 2), stW G (S 3) (cs2_267 3) (Fs2_267 3), stW G (S 4) (cs2_267 4) (Fs2_267 4), [cA g0 G.2.1.1 18 (sp_write f 2 k (-1000004) (-1000004))], [cLg r0 G.2.1.2.2.2.2 64 (uLg lr (f 0 + 1) (wrN 2 0 0 (f (k + 9)) (f 1)))]] : List va_W).flatten 75 rfl (sp_write f 2 k (-1000004) (-1000004)) (fun j h0 h1 => ?agr) rfl ?_
                case agr =>
                  have hj : j < 18 := (by omega)
                  rw [spw_0 hq_k hn0.1 hj, if_neg (by omega)]
                refine s_aload_n 1 C dL_writes_270 rfl 5 rfl ?_
                refine s_iconst C dL_writes_271 ?_
                refine s_iald C dL_writes_272 75 rfl 0 rfl (by omega) (by omega) (by omega) ?_
                refine s_top (f 0 + 1) ((spw_0 hq_k hn0.1 (by omega)).trans ((uZ_n (by omega)).trans uZ_s)) ?_
                refine s_icmp_ne 280 C dL_writes_273 (by decide) (by omega) (by omega) (fun h => absurd (by omega) h) (fun _ => ?_)
                refine s_iconst C dL_writes_276 ?_
                refine s_goto 281 C dL_writes_277 (by decide) ?_
                exact s_zret C E dL_writes_281 rfl ⟨c2_267, F2_267, ps2_267, Q2_267, cs2_267, Fs2_267, p2_267, (sp_write f 2 k (-1000004) (-1000004)), P2_267, (uLg lr (f 0 + 1) (wrN 2 0 0 (f (k + 9)) (f 1))), rfl, rfl, hq0_267, hN9, (hq2_267.mono (by omega))⟩
              · exfalso
                omega
            · refine s_iconst C dL_writes_229 ?_
              refine s_goto 234 C dL_writes_230 (by decide) ?_
              refine s_iconst C dL_writes_234 ?_
              refine s_iconst C dL_writes_235 ?_
              refine s_iload C dL_writes_236 2 rfl ?_
              refine s_callSQ (As := [.ref g0, .ref r0, vI 1, vI 0, vI 0, vI (f (k + 9))]) (rest := []) (segs := [[cO x0 6 [.ref (a 0), .ref h0, .ref o0, .ref u0, .ref e8, .ref e9]], stW G a c F, [cO h0 0 [.ref h1, vI ps]], [cQ h1 G.2.1.2.2.2.1 5 Q], stW G (S 0) (cs 0) (Fs 0), stW G (S 1) (cs 1) (Fs 1), stW G (S 2) (cs 2) (Fs 2), stW G (S 3) (cs 3) (Fs 3), stW G (S 4) (cs 4) (Fs 4), [cA g0 G.2.1.1 18 f], [cLg r0 G.2.1.2.2.2.2 64 lr]]) C dL_writes_238 (c_L_write l G g0 r0 f lr 1 0 0 (f (k + 9)) (by first | assumption | omega) (by first | assumption | omega) (by first | assumption | omega) (by first | assumption | omega) (by first | assumption | omega) (by first | assumption | omega)) gL_writes_L_write rfl 6 (by decide +kernel) (by decide) [9, 10] [0, 1, 2, 3, 4, 5, 6, 7, 8] 11 (rfl : (11 : Nat) = 11) (by decide +kernel) rfl rfl (Nat.le_of_ble_eq_true rfl) ⟨Nat.zero_le _, Nat.zero_le _⟩ ?_
              intro v0 w0 hq
              obtain ⟨rfl, rfl⟩ := hq
              refine ⟨(fst_k (fst_k rfl)), [[cO x0 6 [.ref (a 0), .ref h0, .ref o0, .ref u0, .ref e8, .ref e9]], stW G a c F, [cO h0 0 [.ref h1, vI ps]], [cQ h1 G.2.1.2.2.2.1 5 Q], stW G (S 0) (cs 0) (Fs 0), stW G (S 1) (cs 1) (Fs 1), stW G (S 2) (cs 2) (Fs 2), stW G (S 3) (cs 3) (Fs 3), stW G (S 4) (cs 4) (Fs 4), [cA g0 G.2.1.1 18 (uZ f 0 (f 0 + 1))], [cLg r0 G.2.1.2.2.2.2 64 (uLg lr (f 0 + 1) (wrN 1 0 0 (f (k + 9)) (f 1)))]], (rfl : (11 : Nat) = 11), rfl, Eq.trans (b := ([[cO x0 6 [.ref (a 0), .ref h0, .ref o0, .ref u0, .ref e8, .ref e9]], stW G a c F, [cO h0 0 [.ref h1, vI ps]], [cQ h1 G.2.1.2.2.2.1 5 Q], stW G (S 0) (cs 0) (Fs 0), stW G (S 1) (cs 1) (Fs 1), stW G (S 2) (cs 2) (Fs 2), stW G (S 3) (cs 3) (Fs 3), stW G (S 4) (cs 4) (Fs 4)] : List va_W)) rfl rfl, ?_⟩
              show fSt l G X 0 0 241 [(8, vI vx), (7, vI ky), (6, vI (f (k + 9))), (5, vI k), (0, .ref x0), (1, .ref g0), (2, .ref r0), (3, vI wy), (4, vI y)] [] ([[cO x0 6 [.ref (a 0), .ref h0, .ref o0, .ref u0, .ref e8, .ref e9]], stW G a c F, [cO h0 0 [.ref h1, vI ps]], [cQ h1 G.2.1.2.2.2.1 5 Q], stW G (S 0) (cs 0) (Fs 0), stW G (S 1) (cs 1) (Fs 1), stW G (S 2) (cs 2) (Fs 2), stW G (S 3) (cs 3) (Fs 3), stW G (S 4) (cs 4) (Fs 4), [cA g0 G.2.1.1 18 (uZ f 0 (f 0 + 1))], [cLg r0 G.2.1.2.2.2.2 64 (uLg lr (f 0 + 1) (wrN 1 0 0 (f (k + 9)) (f 1)))]] : List va_W).flatten
              refine s_aload_n 1 C dL_writes_241 rfl 5 rfl ?_
              refine s_bipush (z := 9) C dL_writes_242 rfl ?_
              refine s_iload C dL_writes_244 3 rfl ?_
              refine s_iadd C dL_writes_246 ?_
              refine s_iconst C dL_writes_247 ?_
              refine s_iast ([[cO x0 6 [.ref (a 0), .ref h0, .ref o0, .ref u0, .ref e8, .ref e9]], stW G a c F, [cO h0 0 [.ref h1, vI ps]], [cQ h1 G.2.1.2.2.2.1 5 Q], stW G (S 0) (cs 0) (Fs 0), stW G (S 1) (cs 1) (Fs 1), stW G (S 2) (cs 2) (Fs 2), stW G (S 3) (cs 3) (Fs 3), stW G (S 4) (cs 4) (Fs 4), [cA g0 G.2.1.1 18 (uZ (uZ f 0 (f 0 + 1)) (k + 9) 0)], [cLg r0 G.2.1.2.2.2.2 64 (uLg lr (f 0 + 1) (wrN 1 0 0 (f (k + 9)) (f 1)))]] : List va_W).flatten C dL_writes_248 75 rfl (k + 9) (by omega) (by omega) (by omega) (by omega) rfl ?_
              refine s_iload_n 3 C dL_writes_249 rfl 7 rfl ?_
              refine s_bipush (z := 18) C dL_writes_250 rfl ?_
              refine s_icmp_ge 264 C dL_writes_252 (by decide) (by omega) (by omega) (fun h_252 => ?_) (fun h_252 => ?_)
              · exfalso
                omega
              · refine s_aload_n 0 C dL_writes_255 rfl 4 rfl ?_
                refine s_iload C dL_writes_256 3 rfl ?_
                refine s_callVQ (As := [vI k]) (rest := []) (segs := [[cO x0 6 [.ref (a 0), .ref h0, .ref o0, .ref u0, .ref e8, .ref e9]], stW G a c F, [cO h0 0 [.ref h1, vI ps]], [cQ h1 G.2.1.2.2.2.1 5 Q], stW G (S 0) (cs 0) (Fs 0), stW G (S 1) (cs 1) (Fs 1), stW G (S 2) (cs 2) (Fs 2), stW G (S 3) (cs 3) (Fs 3), stW G (S 4) (cs 4) (Fs 4), [cA g0 G.2.1.1 18 (uZ (uZ f 0 (f 0 + 1)) (k + 9) 0)], [cLg r0 G.2.1.2.2.2.2 64 (uLg lr (f 0 + 1) (wrN 1 0 0 (f (k + 9)) (f 1)))]]) C dL_writes_258 (c_X6_commit l G x0 h0 h1 (.ref o0) (.ref u0) (.ref e8) (.ref e9) ps Q S cs Fs p a c F B f P k (by first | assumption | omega) hI hBB hH (by first | assumption | omega)) gL_writes_X6_commit rfl 1 (by decide +kernel) (by decide) 6 rfl rfl 0 _ rfl rfl [0, 2, 3, 4, 5, 6, 7, 8, 1] [9, 10] 11 (rfl : (11 : Nat) = 11) (by decide +kernel) rfl rfl (Nat.le_of_ble_eq_true rfl) ⟨Nat.zero_le _, Nat.zero_le _⟩ ?_
                intro v0 w0 hq
                obtain ⟨z_258, f2_258, c2_258, F2_258, ps2_258, P2_258, Q2_258, cs2_258, Fs2_258, p2_258, rfl, rfl, hq0_258, hq1_258, hq2_258, hq3_258, hq4_258⟩ := hq
                refine ⟨(fst_f (fst_c rfl (fst_c (fst_k rfl) (fst_c (fst_k rfl) (fst_c stW_fst (fst_c stW_fst (fst_c stW_fst (fst_c stW_fst (fst_c stW_fst (fst_c stW_fst rfl)))))))))), [[cO x0 6 [.ref (a 0), .ref h0, .ref o0, .ref u0, .ref e8, .ref e9]], stW G a c2_258 F2_258, [cO h0 0 [.ref h1, vI ps2_258]], [cQ h1 G.2.1.2.2.2.1 5 Q2_258], stW G (S 0) (cs2_258 0) (Fs2_258 0), stW G (S 1) (cs2_258 1) (Fs2_258 1), stW G (S 2) (cs2_258 2) (Fs2_258 2), stW G (S 3) (cs2_258 3) (Fs2_258 3), stW G (S 4) (cs2_258 4) (Fs2_258 4), [cA g0 G.2.1.1 18 (uZ (uZ f 0 (f 0 + 1)) (k + 9) 0)], [cLg r0 G.2.1.2.2.2.2 64 (uLg lr (f 0 + 1) (wrN 1 0 0 (f (k + 9)) (f 1)))]], (rfl : (11 : Nat) = 11), rfl, Eq.trans (b := ([[cA g0 G.2.1.1 18 (uZ (uZ f 0 (f 0 + 1)) (k + 9) 0)], [cLg r0 G.2.1.2.2.2.2 64 (uLg lr (f 0 + 1) (wrN 1 0 0 (f (k + 9)) (f 1)))]] : List va_W)) rfl rfl, ?_⟩
                show fSt l G X 0 0 261 [(8, vI vx), (7, vI ky), (6, vI (f (k + 9))), (5, vI k), (0, .ref x0), (1, .ref g0), (2, .ref r0), (3, vI wy), (4, vI y)] [vI z_258] ([[cO x0 6 [.ref (a 0), .ref h0, .ref o0, .ref u0, .ref e8, .ref e9]], stW G a c2_258 F2_258, [cO h0 0 [.ref h1, vI ps2_258]], [cQ h1 G.2.1.2.2.2.1 5 Q2_258], stW G (S 0) (cs2_258 0) (Fs2_258 0), stW G (S 1) (cs2_258 1) (Fs2_258 1), stW G (S 2) (cs2_258 2) (Fs2_258 2), stW G (S 3) (cs2_258 3) (Fs2_258 3), stW G (S 4) (cs2_258 4) (Fs2_258 4), [cA g0 G.2.1.1 18 (uZ (uZ f 0 (f 0 + 1)) (k + 9) 0)], [cLg r0 G.2.1.2.2.2.2 64 (uLg lr (f 0 + 1) (wrN 1 0 0 (f (k + 9)) (f 1)))]] : List va_W).flatten
                obtain ⟨hE9, hN9⟩ := X_end hP hL hq_k (Or.inl rfl) (by omega) (by omega)
                obtain ⟨hz, hf⟩ := Prod.mk.inj (hq1_258.trans hE9)
                have hz := hz.symm
                have hf := hf.symm
                subst hz
                subst hf
                refine s_agr ([[cO x0 6 [.ref (a 0), .ref h0, .ref o0, .ref u0, .ref e8, .ref e9]], stW G a c2_258 F2_258, [cO h0 0 [.ref h1, vI ps2_258]], [cQ h1 G.2.1.2.2.2.1 5 Q2_258], stW G (S 0) (cs2_258 0) (Fs2_258 0), stW G (S 1) (cs2_258 1) (Fs2_258 1), stW G (S 2) (cs2_258 2) (Fs2_258 2), stW G (S 3) (cs2_258 3) (Fs2_258 3), stW G (S 4) (cs2_258 4) (Fs2_258 4), [cA g0 G.2.1.1 18 (sp_write f 1 k (-1000004) (-1000004))], [cLg r0 G.2.1.2.2.2.2 64 (uLg lr (f 0 + 1) (wrN 1 0 0 (f (k + 9)) (f 1)))]] : List va_W).flatten 75 rfl (sp_write f 1 k (-1000004) (-1000004)) (fun j h0 h1 => ?agr) rfl ?_
                case agr =>
                  have hj : j < 18 := (by omega)
                  rw [spw_0 hq_k hn0.1 hj, if_neg (by omega)]
                refine s_goto 270 C dL_writes_261 (by decide) ?_
                refine s_aload_n 1 C dL_writes_270 rfl 5 rfl ?_
                refine s_iconst C dL_writes_271 ?_
                refine s_iald C dL_writes_272 75 rfl 0 rfl (by omega) (by omega) (by omega) ?_
                refine s_top (f 0 + 1) ((spw_0 hq_k hn0.1 (by omega)).trans ((uZ_n (by omega)).trans uZ_s)) ?_
                refine s_icmp_ne 280 C dL_writes_273 (by decide) (by omega) (by omega) (fun h => absurd (by omega) h) (fun _ => ?_)
                refine s_iconst C dL_writes_276 ?_
                refine s_goto 281 C dL_writes_277 (by decide) ?_
                exact s_zret C E dL_writes_281 rfl ⟨c2_258, F2_258, ps2_258, Q2_258, cs2_258, Fs2_258, p2_258, (sp_write f 1 k (-1000004) (-1000004)), P2_258, (uLg lr (f 0 + 1) (wrN 1 0 0 (f (k + 9)) (f 1))), rfl, rfl, hq0_258, hN9, (hq2_258.mono (by omega))⟩
          · refine s_aload_n 1 C dL_writes_187 rfl 5 rfl ?_
            refine s_aload_n 2 C dL_writes_188 rfl 6 rfl ?_
            refine s_iconst C dL_writes_189 ?_
            refine s_iload C dL_writes_190 1 rfl ?_
            refine s_iload C dL_writes_192 0 rfl ?_
            refine s_iload C dL_writes_194 2 rfl ?_
            refine s_callSQ (As := [.ref g0, .ref r0, vI 0, vI ky, vI vx, vI (f (k + 9))]) (rest := []) (segs := [[cO x0 6 [.ref (a 0), .ref h0, .ref o0, .ref u0, .ref e8, .ref e9]], stW G a c F, [cO h0 0 [.ref h1, vI ps]], [cQ h1 G.2.1.2.2.2.1 5 Q], stW G (S 0) (cs 0) (Fs 0), stW G (S 1) (cs 1) (Fs 1), stW G (S 2) (cs 2) (Fs 2), stW G (S 3) (cs 3) (Fs 3), stW G (S 4) (cs 4) (Fs 4), [cA g0 G.2.1.1 18 f], [cLg r0 G.2.1.2.2.2.2 64 lr]]) C dL_writes_196 (c_L_write l G g0 r0 f lr 0 ky vx (f (k + 9)) (by omega) (by first | assumption | omega) (by first | assumption | omega) (by first | assumption | omega) (by omega) (by omega)) gL_writes_L_write rfl 6 (by decide +kernel) (by decide) [9, 10] [0, 1, 2, 3, 4, 5, 6, 7, 8] 11 (rfl : (11 : Nat) = 11) (by decide +kernel) rfl rfl (Nat.le_of_ble_eq_true rfl) ⟨Nat.zero_le _, Nat.zero_le _⟩ ?_
            intro v0 w0 hq
            obtain ⟨rfl, rfl⟩ := hq
            refine ⟨(fst_k (fst_k rfl)), [[cO x0 6 [.ref (a 0), .ref h0, .ref o0, .ref u0, .ref e8, .ref e9]], stW G a c F, [cO h0 0 [.ref h1, vI ps]], [cQ h1 G.2.1.2.2.2.1 5 Q], stW G (S 0) (cs 0) (Fs 0), stW G (S 1) (cs 1) (Fs 1), stW G (S 2) (cs 2) (Fs 2), stW G (S 3) (cs 3) (Fs 3), stW G (S 4) (cs 4) (Fs 4), [cA g0 G.2.1.1 18 (uZ f 0 (f 0 + 1))], [cLg r0 G.2.1.2.2.2.2 64 (uLg lr (f 0 + 1) (wrN 0 ky vx (f (k + 9)) (f 1)))]], (rfl : (11 : Nat) = 11), rfl, Eq.trans (b := ([[cO x0 6 [.ref (a 0), .ref h0, .ref o0, .ref u0, .ref e8, .ref e9]], stW G a c F, [cO h0 0 [.ref h1, vI ps]], [cQ h1 G.2.1.2.2.2.1 5 Q], stW G (S 0) (cs 0) (Fs 0), stW G (S 1) (cs 1) (Fs 1), stW G (S 2) (cs 2) (Fs 2), stW G (S 3) (cs 3) (Fs 3), stW G (S 4) (cs 4) (Fs 4)] : List va_W)) rfl rfl, ?_⟩
            show fSt l G X 0 0 199 [(8, vI vx), (7, vI ky), (6, vI (f (k + 9))), (5, vI k), (0, .ref x0), (1, .ref g0), (2, .ref r0), (3, vI wy), (4, vI y)] [] ([[cO x0 6 [.ref (a 0), .ref h0, .ref o0, .ref u0, .ref e8, .ref e9]], stW G a c F, [cO h0 0 [.ref h1, vI ps]], [cQ h1 G.2.1.2.2.2.1 5 Q], stW G (S 0) (cs 0) (Fs 0), stW G (S 1) (cs 1) (Fs 1), stW G (S 2) (cs 2) (Fs 2), stW G (S 3) (cs 3) (Fs 3), stW G (S 4) (cs 4) (Fs 4), [cA g0 G.2.1.1 18 (uZ f 0 (f 0 + 1))], [cLg r0 G.2.1.2.2.2.2 64 (uLg lr (f 0 + 1) (wrN 0 ky vx (f (k + 9)) (f 1)))]] : List va_W).flatten
            refine s_aload_n 0 C dL_writes_199 rfl 4 rfl ?_
            refine s_iload C dL_writes_200 3 rfl ?_
            refine s_iload C dL_writes_202 1 rfl ?_
            refine s_iload C dL_writes_204 0 rfl ?_
            refine s_callVQ (As := [vI k, vI ky, vI vx]) (rest := []) (segs := [[cO x0 6 [.ref (a 0), .ref h0, .ref o0, .ref u0, .ref e8, .ref e9]], stW G a c F, [cO h0 0 [.ref h1, vI ps]], [cQ h1 G.2.1.2.2.2.1 5 Q], stW G (S 0) (cs 0) (Fs 0), stW G (S 1) (cs 1) (Fs 1), stW G (S 2) (cs 2) (Fs 2), stW G (S 3) (cs 3) (Fs 3), stW G (S 4) (cs 4) (Fs 4), [cA g0 G.2.1.1 18 (uZ f 0 (f 0 + 1))], [cLg r0 G.2.1.2.2.2.2 64 (uLg lr (f 0 + 1) (wrN 0 ky vx (f (k + 9)) (f 1)))]]) C dL_writes_206 (c_X6_put l G x0 h0 h1 (.ref o0) (.ref u0) (.ref e8) (.ref e9) ps Q S cs Fs p a c F B f P k ky vx (by first | assumption | omega) hI hBB hH (by first | assumption | omega) (by first | assumption | omega) (by first | assumption | omega)) gL_writes_X6_put rfl 3 (by decide +kernel) (by decide) 6 rfl rfl 0 _ rfl rfl [0, 2, 3, 4, 5, 6, 7, 8, 1] [9, 10] 11 (rfl : (11 : Nat) = 11) (by decide +kernel) rfl rfl (Nat.le_of_ble_eq_true rfl) ⟨Nat.zero_le _, Nat.zero_le _⟩ ?_
            intro v0 w0 hq
            obtain ⟨z_206, f2_206, c2_206, F2_206, ps2_206, P2_206, Q2_206, cs2_206, Fs2_206, p2_206, rfl, rfl, hq0_206, hq1_206, hq2_206, hq3_206, hq4_206⟩ := hq
            refine ⟨(fst_f (fst_c rfl (fst_c (fst_k rfl) (fst_c (fst_k rfl) (fst_c stW_fst (fst_c stW_fst (fst_c stW_fst (fst_c stW_fst (fst_c stW_fst (fst_c stW_fst rfl)))))))))), [[cO x0 6 [.ref (a 0), .ref h0, .ref o0, .ref u0, .ref e8, .ref e9]], stW G a c2_206 F2_206, [cO h0 0 [.ref h1, vI ps2_206]], [cQ h1 G.2.1.2.2.2.1 5 Q2_206], stW G (S 0) (cs2_206 0) (Fs2_206 0), stW G (S 1) (cs2_206 1) (Fs2_206 1), stW G (S 2) (cs2_206 2) (Fs2_206 2), stW G (S 3) (cs2_206 3) (Fs2_206 3), stW G (S 4) (cs2_206 4) (Fs2_206 4), [cA g0 G.2.1.1 18 (uZ f 0 (f 0 + 1))], [cLg r0 G.2.1.2.2.2.2 64 (uLg lr (f 0 + 1) (wrN 0 ky vx (f (k + 9)) (f 1)))]], (rfl : (11 : Nat) = 11), rfl, Eq.trans (b := ([[cA g0 G.2.1.1 18 (uZ f 0 (f 0 + 1))], [cLg r0 G.2.1.2.2.2.2 64 (uLg lr (f 0 + 1) (wrN 0 ky vx (f (k + 9)) (f 1)))]] : List va_W)) rfl rfl, ?_⟩
            show fSt l G X 0 0 209 [(8, vI vx), (7, vI ky), (6, vI (f (k + 9))), (5, vI k), (0, .ref x0), (1, .ref g0), (2, .ref r0), (3, vI wy), (4, vI y)] [vI z_206] ([[cO x0 6 [.ref (a 0), .ref h0, .ref o0, .ref u0, .ref e8, .ref e9]], stW G a c2_206 F2_206, [cO h0 0 [.ref h1, vI ps2_206]], [cQ h1 G.2.1.2.2.2.1 5 Q2_206], stW G (S 0) (cs2_206 0) (Fs2_206 0), stW G (S 1) (cs2_206 1) (Fs2_206 1), stW G (S 2) (cs2_206 2) (Fs2_206 2), stW G (S 3) (cs2_206 3) (Fs2_206 3), stW G (S 4) (cs2_206 4) (Fs2_206 4), [cA g0 G.2.1.1 18 (uZ f 0 (f 0 + 1))], [cLg r0 G.2.1.2.2.2.2 64 (uLg lr (f 0 + 1) (wrN 0 ky vx (f (k + 9)) (f 1)))]] : List va_W).flatten
            obtain ⟨hE9, hN9⟩ := X_put hP hL hq_k hq_ky hq_vx (by omega) (by omega)
            obtain ⟨hz, hf⟩ := Prod.mk.inj (hq1_206.trans hE9)
            have hz := hz.symm
            have hf := hf.symm
            subst hz
            subst hf
            refine s_agr ([[cO x0 6 [.ref (a 0), .ref h0, .ref o0, .ref u0, .ref e8, .ref e9]], stW G a c2_206 F2_206, [cO h0 0 [.ref h1, vI ps2_206]], [cQ h1 G.2.1.2.2.2.1 5 Q2_206], stW G (S 0) (cs2_206 0) (Fs2_206 0), stW G (S 1) (cs2_206 1) (Fs2_206 1), stW G (S 2) (cs2_206 2) (Fs2_206 2), stW G (S 3) (cs2_206 3) (Fs2_206 3), stW G (S 4) (cs2_206 4) (Fs2_206 4), [cA g0 G.2.1.1 18 (sp_write f 0 k ky vx)], [cLg r0 G.2.1.2.2.2.2 64 (uLg lr (f 0 + 1) (wrN 0 ky vx (f (k + 9)) (f 1)))]] : List va_W).flatten 75 rfl (sp_write f 0 k ky vx) (fun j h0 h1 => ?agr) rfl ?_
            case agr =>
              have hj : j < 18 := (by omega)
              rw [spw_0 hq_k hn0.1 hj, if_pos rfl]
              by_cases hjk : j = k + 9
              · rw [hjk, uZ_s, uZ_n (by omega)]
              · rw [uZ_n hjk]
            refine s_aload_n 1 C dL_writes_209 rfl 5 rfl ?_
            refine s_iconst C dL_writes_210 ?_
            refine s_iald C dL_writes_211 75 rfl 0 rfl (by omega) (by omega) (by omega) ?_
            refine s_top (f 0 + 1) ((spw_0 hq_k hn0.1 (by omega)).trans ((uZ_n (by omega)).trans uZ_s)) ?_
            refine s_icmp_ne 219 C dL_writes_212 (by decide) (by omega) (by omega) (fun h => absurd (by omega) h) (fun _ => ?_)
            refine s_iconst C dL_writes_215 ?_
            refine s_goto 220 C dL_writes_216 (by decide) ?_
            exact s_zret C E dL_writes_220 rfl ⟨c2_206, F2_206, ps2_206, Q2_206, cs2_206, Fs2_206, p2_206, (sp_write f 0 k ky vx), P2_206, (uLg lr (f 0 + 1) (wrN 0 ky vx (f (k + 9)) (f 1))), rfl, rfl, hq0_206, hN9, (hq2_206.mono (by omega))⟩
        · refine s_iload C dL_writes_121 2 rfl ?_
          refine s_if_ne 130 C dL_writes_123 (by decide) (hI.rf _) (fun h_123 => ?_) (fun h_123 => ?_)
          · refine s_iconst C dL_writes_130 ?_
            refine s_istore [(9, vI 0), (8, vI vx), (7, vI ky), (6, vI (f (k + 9))), (5, vI k), (0, .ref x0), (1, .ref g0), (2, .ref r0), (3, vI wy), (4, vI y)] C dL_writes_131 (by decide) rfl ?_
            refine s_iload C dL_writes_133 0 rfl ?_
            refine s_if_eq 175 C dL_writes_135 (by decide) (by decide) (fun h => ?_) (fun h => absurd h (by decide))
            refine s_iconst C dL_writes_175 ?_
            refine s_goto 180 C dL_writes_176 (by decide) ?_
            exact s_zret C E dL_writes_180 rfl ⟨c, F, ps, Q, cs, Fs, p, f, P, lr, rfl, rfl, hR, (NX.rf hP hL), (hH.mono (by omega))⟩
          · exfalso
            omega
    · refine s_bipush (z := 24) C dL_writes_88 rfl ?_
      refine s_goto 94 C dL_writes_90 (by decide) ?_
      refine s_irem C dL_writes_94 (by omega) (by omega) ?_
      obtain ⟨ky, hv_ky, hq_ky⟩ : ∃ ky : Int, ky = ((y / 3) % 24) ∧ (0 ≤ ky ∧ ky ≤ 23) := ⟨_, rfl, by omega⟩
      refine s_top ky hv_ky.symm ?_
      refine s_istore [(7, vI ky), (6, vI (f (k + 9))), (5, vI k), (0, .ref x0), (1, .ref g0), (2, .ref r0), (3, vI wy), (4, vI y)] C dL_writes_95 (by decide) rfl ?_
      refine s_iload C dL_writes_97 7 rfl ?_
      refine s_bipush (z := 72) C dL_writes_99 rfl ?_
      refine s_idiv C dL_writes_101 (by omega) (by omega) ?_
      refine s_sipush (z := 1000) C dL_writes_102 rfl ?_
      refine s_irem C dL_writes_105 (by omega) (by omega) ?_
      obtain ⟨vx, hv_vx, hq_vx⟩ : ∃ vx : Int, vx = ((y / 72) % 1000) ∧ (0 ≤ vx ∧ vx ≤ 999) := ⟨_, rfl, by omega⟩
      refine s_top vx hv_vx.symm ?_
      refine s_istore [(8, vI vx), (7, vI ky), (6, vI (f (k + 9))), (5, vI k), (0, .ref x0), (1, .ref g0), (2, .ref r0), (3, vI wy), (4, vI y)] C dL_writes_106 (by decide) rfl ?_
      refine s_iload C dL_writes_108 2 rfl ?_
      refine s_if_eq 121 C dL_writes_110 (by decide) (hI.rf _) (fun h_110 => ?_) (fun h_110 => ?_)
      · refine s_iload C dL_writes_121 2 rfl ?_
        refine s_if_ne 130 C dL_writes_123 (by decide) (hI.rf _) (fun h_123 => ?_) (fun h_123 => ?_)
        · exfalso
          omega
        · refine s_iconst C dL_writes_126 ?_
          refine s_goto 131 C dL_writes_127 (by decide) ?_
          refine s_istore [(9, vI 1), (8, vI vx), (7, vI ky), (6, vI (f (k + 9))), (5, vI k), (0, .ref x0), (1, .ref g0), (2, .ref r0), (3, vI wy), (4, vI y)] C dL_writes_131 (by decide) rfl ?_
          refine s_iload C dL_writes_133 0 rfl ?_
          refine s_if_eq 175 C dL_writes_135 (by decide) (by decide) (fun h => absurd h (by decide)) (fun h => ?_)
          refine s_aload_n 0 C dL_writes_138 rfl 5 rfl ?_
          refine s_iload C dL_writes_139 4 rfl ?_
          refine s_iload C dL_writes_141 2 rfl ?_
          refine s_iload C dL_writes_143 1 rfl ?_
          refine s_callVQ (As := [vI k, vI ky, vI vx]) (rest := []) (segs := [[cO x0 6 [.ref (a 0), .ref h0, .ref o0, .ref u0, .ref e8, .ref e9]], stW G a c F, [cO h0 0 [.ref h1, vI ps]], [cQ h1 G.2.1.2.2.2.1 5 Q], stW G (S 0) (cs 0) (Fs 0), stW G (S 1) (cs 1) (Fs 1), stW G (S 2) (cs 2) (Fs 2), stW G (S 3) (cs 3) (Fs 3), stW G (S 4) (cs 4) (Fs 4), [cA g0 G.2.1.1 18 f], [cLg r0 G.2.1.2.2.2.2 64 lr]]) C dL_writes_145 (c_X6_put l G x0 h0 h1 (.ref o0) (.ref u0) (.ref e8) (.ref e9) ps Q S cs Fs p a c F B f P k ky vx (by first | assumption | omega) hI hBB hH (by first | assumption | omega) (by first | assumption | omega) (by first | assumption | omega)) gL_writes_X6_put rfl 3 (by decide +kernel) (by decide) 6 rfl rfl 0 _ rfl rfl [0, 2, 3, 4, 5, 6, 7, 8, 1] [9, 10] 11 (rfl : (11 : Nat) = 11) (by decide +kernel) rfl rfl (Nat.le_of_ble_eq_true rfl) ⟨Nat.zero_le _, Nat.zero_le _⟩ ?_
          intro v0 w0 hq
          obtain ⟨z_145, f2_145, c2_145, F2_145, ps2_145, P2_145, Q2_145, cs2_145, Fs2_145, p2_145, rfl, rfl, hq0_145, hq1_145, hq2_145, hq3_145, hq4_145⟩ := hq
          refine ⟨(fst_f (fst_c rfl (fst_c (fst_k rfl) (fst_c (fst_k rfl) (fst_c stW_fst (fst_c stW_fst (fst_c stW_fst (fst_c stW_fst (fst_c stW_fst (fst_c stW_fst rfl)))))))))), [[cO x0 6 [.ref (a 0), .ref h0, .ref o0, .ref u0, .ref e8, .ref e9]], stW G a c2_145 F2_145, [cO h0 0 [.ref h1, vI ps2_145]], [cQ h1 G.2.1.2.2.2.1 5 Q2_145], stW G (S 0) (cs2_145 0) (Fs2_145 0), stW G (S 1) (cs2_145 1) (Fs2_145 1), stW G (S 2) (cs2_145 2) (Fs2_145 2), stW G (S 3) (cs2_145 3) (Fs2_145 3), stW G (S 4) (cs2_145 4) (Fs2_145 4), [cA g0 G.2.1.1 18 f], [cLg r0 G.2.1.2.2.2.2 64 lr]], (rfl : (11 : Nat) = 11), rfl, Eq.trans (b := ([[cA g0 G.2.1.1 18 f], [cLg r0 G.2.1.2.2.2.2 64 lr]] : List va_W)) rfl rfl, ?_⟩
          show fSt l G X 0 0 148 [(9, vI 1), (8, vI vx), (7, vI ky), (6, vI (f (k + 9))), (5, vI k), (0, .ref x0), (1, .ref g0), (2, .ref r0), (3, vI wy), (4, vI y)] [vI z_145] ([[cO x0 6 [.ref (a 0), .ref h0, .ref o0, .ref u0, .ref e8, .ref e9]], stW G a c2_145 F2_145, [cO h0 0 [.ref h1, vI ps2_145]], [cQ h1 G.2.1.2.2.2.1 5 Q2_145], stW G (S 0) (cs2_145 0) (Fs2_145 0), stW G (S 1) (cs2_145 1) (Fs2_145 1), stW G (S 2) (cs2_145 2) (Fs2_145 2), stW G (S 3) (cs2_145 3) (Fs2_145 3), stW G (S 4) (cs2_145 4) (Fs2_145 4), [cA g0 G.2.1.1 18 f], [cLg r0 G.2.1.2.2.2.2 64 lr]] : List va_W).flatten
          obtain ⟨hE9, hN9⟩ := X_put_no hP hL hq_k hq_ky hq_vx (by omega)
          obtain ⟨hz, hf⟩ := Prod.mk.inj (hq1_145.trans hE9)
          have hz := hz.symm
          have hf := hf.symm
          subst hz
          subst hf
          refine s_ldc (z := -1000002) C (by decide +kernel) dL_writes_148 ?_
          refine s_icmp_ne 179 C dL_writes_150 (by decide) (by decide) (by decide) (fun h => absurd h (by decide)) (fun h => ?_)
          refine s_aload_n 0 C dL_writes_153 rfl 5 rfl ?_
          refine s_iload C dL_writes_154 4 rfl ?_
          refine s_callVQ (As := [vI k]) (rest := []) (segs := [[cO x0 6 [.ref (a 0), .ref h0, .ref o0, .ref u0, .ref e8, .ref e9]], stW G a c2_145 F2_145, [cO h0 0 [.ref h1, vI ps2_145]], [cQ h1 G.2.1.2.2.2.1 5 Q2_145], stW G (S 0) (cs2_145 0) (Fs2_145 0), stW G (S 1) (cs2_145 1) (Fs2_145 1), stW G (S 2) (cs2_145 2) (Fs2_145 2), stW G (S 3) (cs2_145 3) (Fs2_145 3), stW G (S 4) (cs2_145 4) (Fs2_145 4), [cA g0 G.2.1.1 18 f], [cLg r0 G.2.1.2.2.2.2 64 lr]]) C dL_writes_156 (c_X6_commit l G x0 h0 h1 (.ref o0) (.ref u0) (.ref e8) (.ref e9) ps2_145 Q2_145 S cs2_145 Fs2_145 p2_145 a c2_145 F2_145 B f P2_145 k hq0_145 hI hBB hq2_145 (by first | assumption | omega)) gL_writes_X6_commit rfl 1 (by decide +kernel) (by decide) 6 rfl rfl 0 _ rfl rfl [0, 2, 3, 4, 5, 6, 7, 8, 1] [9, 10] 11 (rfl : (11 : Nat) = 11) (by decide +kernel) rfl rfl (Nat.le_of_ble_eq_true rfl) ⟨Nat.zero_le _, Nat.zero_le _⟩ ?_
          intro v0 w0 hq
          obtain ⟨z_156, f2_156, c2_156, F2_156, ps2_156, P2_156, Q2_156, cs2_156, Fs2_156, p2_156, rfl, rfl, hq0_156, hq1_156, hq2_156, hq3_156, hq4_156⟩ := hq
          refine ⟨(fst_f (fst_c rfl (fst_c (fst_k rfl) (fst_c (fst_k rfl) (fst_c stW_fst (fst_c stW_fst (fst_c stW_fst (fst_c stW_fst (fst_c stW_fst (fst_c stW_fst rfl)))))))))), [[cO x0 6 [.ref (a 0), .ref h0, .ref o0, .ref u0, .ref e8, .ref e9]], stW G a c2_156 F2_156, [cO h0 0 [.ref h1, vI ps2_156]], [cQ h1 G.2.1.2.2.2.1 5 Q2_156], stW G (S 0) (cs2_156 0) (Fs2_156 0), stW G (S 1) (cs2_156 1) (Fs2_156 1), stW G (S 2) (cs2_156 2) (Fs2_156 2), stW G (S 3) (cs2_156 3) (Fs2_156 3), stW G (S 4) (cs2_156 4) (Fs2_156 4), [cA g0 G.2.1.1 18 f], [cLg r0 G.2.1.2.2.2.2 64 lr]], (rfl : (11 : Nat) = 11), rfl, Eq.trans (b := ([[cA g0 G.2.1.1 18 f], [cLg r0 G.2.1.2.2.2.2 64 lr]] : List va_W)) rfl rfl, ?_⟩
          show fSt l G X 0 0 159 [(9, vI 1), (8, vI vx), (7, vI ky), (6, vI (f (k + 9))), (5, vI k), (0, .ref x0), (1, .ref g0), (2, .ref r0), (3, vI wy), (4, vI y)] [vI z_156] ([[cO x0 6 [.ref (a 0), .ref h0, .ref o0, .ref u0, .ref e8, .ref e9]], stW G a c2_156 F2_156, [cO h0 0 [.ref h1, vI ps2_156]], [cQ h1 G.2.1.2.2.2.1 5 Q2_156], stW G (S 0) (cs2_156 0) (Fs2_156 0), stW G (S 1) (cs2_156 1) (Fs2_156 1), stW G (S 2) (cs2_156 2) (Fs2_156 2), stW G (S 3) (cs2_156 3) (Fs2_156 3), stW G (S 4) (cs2_156 4) (Fs2_156 4), [cA g0 G.2.1.1 18 f], [cLg r0 G.2.1.2.2.2.2 64 lr]] : List va_W).flatten
          obtain ⟨hE9, hN9⟩ := X_end_no (kd := 1) hP hL hq_k (by omega)
          obtain ⟨hz, hf⟩ := Prod.mk.inj (hq1_156.trans hE9)
          have hz := hz.symm
          have hf := hf.symm
          subst hz
          subst hf
          refine s_ldc (z := -1000002) C (by decide +kernel) dL_writes_159 ?_
          refine s_icmp_ne 179 C dL_writes_161 (by decide) (by decide) (by decide) (fun h => absurd h (by decide)) (fun h => ?_)
          refine s_aload_n 0 C dL_writes_164 rfl 5 rfl ?_
          refine s_iload C dL_writes_165 4 rfl ?_
          refine s_callVQ (As := [vI k]) (rest := []) (segs := [[cO x0 6 [.ref (a 0), .ref h0, .ref o0, .ref u0, .ref e8, .ref e9]], stW G a c2_156 F2_156, [cO h0 0 [.ref h1, vI ps2_156]], [cQ h1 G.2.1.2.2.2.1 5 Q2_156], stW G (S 0) (cs2_156 0) (Fs2_156 0), stW G (S 1) (cs2_156 1) (Fs2_156 1), stW G (S 2) (cs2_156 2) (Fs2_156 2), stW G (S 3) (cs2_156 3) (Fs2_156 3), stW G (S 4) (cs2_156 4) (Fs2_156 4), [cA g0 G.2.1.1 18 f], [cLg r0 G.2.1.2.2.2.2 64 lr]]) C dL_writes_167 (c_X6_abort l G x0 h0 h1 (.ref o0) (.ref u0) (.ref e8) (.ref e9) ps2_156 Q2_156 S cs2_156 Fs2_156 p2_156 a c2_156 F2_156 B f P2_156 k hq0_156 hI hBB hq2_156 (by first | assumption | omega)) gL_writes_X6_abort rfl 1 (by decide +kernel) (by decide) 6 rfl rfl 0 _ rfl rfl [0, 2, 3, 4, 5, 6, 7, 8, 1] [9, 10] 11 (rfl : (11 : Nat) = 11) (by decide +kernel) rfl rfl (Nat.le_of_ble_eq_true rfl) ⟨Nat.zero_le _, Nat.zero_le _⟩ ?_
          intro v0 w0 hq
          obtain ⟨z_167, f2_167, c2_167, F2_167, ps2_167, P2_167, Q2_167, cs2_167, Fs2_167, p2_167, rfl, rfl, hq0_167, hq1_167, hq2_167, hq3_167, hq4_167⟩ := hq
          refine ⟨(fst_f (fst_c rfl (fst_c (fst_k rfl) (fst_c (fst_k rfl) (fst_c stW_fst (fst_c stW_fst (fst_c stW_fst (fst_c stW_fst (fst_c stW_fst (fst_c stW_fst rfl)))))))))), [[cO x0 6 [.ref (a 0), .ref h0, .ref o0, .ref u0, .ref e8, .ref e9]], stW G a c2_167 F2_167, [cO h0 0 [.ref h1, vI ps2_167]], [cQ h1 G.2.1.2.2.2.1 5 Q2_167], stW G (S 0) (cs2_167 0) (Fs2_167 0), stW G (S 1) (cs2_167 1) (Fs2_167 1), stW G (S 2) (cs2_167 2) (Fs2_167 2), stW G (S 3) (cs2_167 3) (Fs2_167 3), stW G (S 4) (cs2_167 4) (Fs2_167 4), [cA g0 G.2.1.1 18 f], [cLg r0 G.2.1.2.2.2.2 64 lr]], (rfl : (11 : Nat) = 11), rfl, Eq.trans (b := ([[cA g0 G.2.1.1 18 f], [cLg r0 G.2.1.2.2.2.2 64 lr]] : List va_W)) rfl rfl, ?_⟩
          show fSt l G X 0 0 170 [(9, vI 1), (8, vI vx), (7, vI ky), (6, vI (f (k + 9))), (5, vI k), (0, .ref x0), (1, .ref g0), (2, .ref r0), (3, vI wy), (4, vI y)] [vI z_167] ([[cO x0 6 [.ref (a 0), .ref h0, .ref o0, .ref u0, .ref e8, .ref e9]], stW G a c2_167 F2_167, [cO h0 0 [.ref h1, vI ps2_167]], [cQ h1 G.2.1.2.2.2.1 5 Q2_167], stW G (S 0) (cs2_167 0) (Fs2_167 0), stW G (S 1) (cs2_167 1) (Fs2_167 1), stW G (S 2) (cs2_167 2) (Fs2_167 2), stW G (S 3) (cs2_167 3) (Fs2_167 3), stW G (S 4) (cs2_167 4) (Fs2_167 4), [cA g0 G.2.1.1 18 f], [cLg r0 G.2.1.2.2.2.2 64 lr]] : List va_W).flatten
          obtain ⟨hE9, hN9⟩ := X_end_no (kd := 2) hP hL hq_k (by omega)
          obtain ⟨hz, hf⟩ := Prod.mk.inj (hq1_167.trans hE9)
          have hz := hz.symm
          have hf := hf.symm
          subst hz
          subst hf
          refine s_ldc (z := -1000002) C (by decide +kernel) dL_writes_170 ?_
          refine s_icmp_ne 179 C dL_writes_172 (by decide) (by decide) (by decide) (fun h => absurd h (by decide)) (fun h => ?_)
          refine s_iconst C dL_writes_175 ?_
          refine s_goto 180 C dL_writes_176 (by decide) ?_
          exact s_zret C E dL_writes_180 rfl ⟨c2_167, F2_167, ps2_167, Q2_167, cs2_167, Fs2_167, p2_167, f, P2_167, lr, rfl, rfl, hq0_167, hN9, (hq2_167.mono (by omega))⟩
      · refine s_aload_n 1 C dL_writes_113 rfl 5 rfl ?_
        refine s_iconst C dL_writes_114 ?_
        refine s_iald C dL_writes_115 75 rfl 0 rfl (by omega) (by omega) (by omega) ?_
        refine s_bipush (z := 60) C dL_writes_116 rfl ?_
        refine s_icmp_le 181 C dL_writes_118 (by decide) (hI.rf _) (by omega) (fun h_118 => ?_) (fun h_118 => ?_)
        · refine s_iload_n 3 C dL_writes_181 rfl 7 rfl ?_
          refine s_bipush (z := 13) C dL_writes_182 rfl ?_
          refine s_icmp_ge 221 C dL_writes_184 (by decide) (by omega) (by omega) (fun h_184 => ?_) (fun h_184 => ?_)
          · refine s_aload_n 1 C dL_writes_221 rfl 5 rfl ?_
            refine s_aload_n 2 C dL_writes_222 rfl 6 rfl ?_
            refine s_iload_n 3 C dL_writes_223 rfl 7 rfl ?_
            refine s_bipush (z := 18) C dL_writes_224 rfl ?_
            refine s_icmp_ge 233 C dL_writes_226 (by decide) (by omega) (by omega) (fun h_226 => ?_) (fun h_226 => ?_)
            · refine s_iconst C dL_writes_233 ?_
              refine s_iconst C dL_writes_234 ?_
              refine s_iconst C dL_writes_235 ?_
              refine s_iload C dL_writes_236 2 rfl ?_
              refine s_callSQ (As := [.ref g0, .ref r0, vI 2, vI 0, vI 0, vI (f (k + 9))]) (rest := []) (segs := [[cO x0 6 [.ref (a 0), .ref h0, .ref o0, .ref u0, .ref e8, .ref e9]], stW G a c F, [cO h0 0 [.ref h1, vI ps]], [cQ h1 G.2.1.2.2.2.1 5 Q], stW G (S 0) (cs 0) (Fs 0), stW G (S 1) (cs 1) (Fs 1), stW G (S 2) (cs 2) (Fs 2), stW G (S 3) (cs 3) (Fs 3), stW G (S 4) (cs 4) (Fs 4), [cA g0 G.2.1.1 18 f], [cLg r0 G.2.1.2.2.2.2 64 lr]]) C dL_writes_238 (c_L_write l G g0 r0 f lr 2 0 0 (f (k + 9)) (by first | assumption | omega) (by first | assumption | omega) (by first | assumption | omega) (by first | assumption | omega) (by first | assumption | omega) (by first | assumption | omega)) gL_writes_L_write rfl 6 (by decide +kernel) (by decide) [9, 10] [0, 1, 2, 3, 4, 5, 6, 7, 8] 11 (rfl : (11 : Nat) = 11) (by decide +kernel) rfl rfl (Nat.le_of_ble_eq_true rfl) ⟨Nat.zero_le _, Nat.zero_le _⟩ ?_
              intro v0 w0 hq
              obtain ⟨rfl, rfl⟩ := hq
              refine ⟨(fst_k (fst_k rfl)), [[cO x0 6 [.ref (a 0), .ref h0, .ref o0, .ref u0, .ref e8, .ref e9]], stW G a c F, [cO h0 0 [.ref h1, vI ps]], [cQ h1 G.2.1.2.2.2.1 5 Q], stW G (S 0) (cs 0) (Fs 0), stW G (S 1) (cs 1) (Fs 1), stW G (S 2) (cs 2) (Fs 2), stW G (S 3) (cs 3) (Fs 3), stW G (S 4) (cs 4) (Fs 4), [cA g0 G.2.1.1 18 (uZ f 0 (f 0 + 1))], [cLg r0 G.2.1.2.2.2.2 64 (uLg lr (f 0 + 1) (wrN 2 0 0 (f (k + 9)) (f 1)))]], (rfl : (11 : Nat) = 11), rfl, Eq.trans (b := ([[cO x0 6 [.ref (a 0), .ref h0, .ref o0, .ref u0, .ref e8, .ref e9]], stW G a c F, [cO h0 0 [.ref h1, vI ps]], [cQ h1 G.2.1.2.2.2.1 5 Q], stW G (S 0) (cs 0) (Fs 0), stW G (S 1) (cs 1) (Fs 1), stW G (S 2) (cs 2) (Fs 2), stW G (S 3) (cs 3) (Fs 3), stW G (S 4) (cs 4) (Fs 4)] : List va_W)) rfl rfl, ?_⟩
              show fSt l G X 0 0 241 [(8, vI vx), (7, vI ky), (6, vI (f (k + 9))), (5, vI k), (0, .ref x0), (1, .ref g0), (2, .ref r0), (3, vI wy), (4, vI y)] [] ([[cO x0 6 [.ref (a 0), .ref h0, .ref o0, .ref u0, .ref e8, .ref e9]], stW G a c F, [cO h0 0 [.ref h1, vI ps]], [cQ h1 G.2.1.2.2.2.1 5 Q], stW G (S 0) (cs 0) (Fs 0), stW G (S 1) (cs 1) (Fs 1), stW G (S 2) (cs 2) (Fs 2), stW G (S 3) (cs 3) (Fs 3), stW G (S 4) (cs 4) (Fs 4), [cA g0 G.2.1.1 18 (uZ f 0 (f 0 + 1))], [cLg r0 G.2.1.2.2.2.2 64 (uLg lr (f 0 + 1) (wrN 2 0 0 (f (k + 9)) (f 1)))]] : List va_W).flatten
              refine s_aload_n 1 C dL_writes_241 rfl 5 rfl ?_
              refine s_bipush (z := 9) C dL_writes_242 rfl ?_
              refine s_iload C dL_writes_244 3 rfl ?_
              refine s_iadd C dL_writes_246 ?_
              refine s_iconst C dL_writes_247 ?_
              refine s_iast ([[cO x0 6 [.ref (a 0), .ref h0, .ref o0, .ref u0, .ref e8, .ref e9]], stW G a c F, [cO h0 0 [.ref h1, vI ps]], [cQ h1 G.2.1.2.2.2.1 5 Q], stW G (S 0) (cs 0) (Fs 0), stW G (S 1) (cs 1) (Fs 1), stW G (S 2) (cs 2) (Fs 2), stW G (S 3) (cs 3) (Fs 3), stW G (S 4) (cs 4) (Fs 4), [cA g0 G.2.1.1 18 (uZ (uZ f 0 (f 0 + 1)) (k + 9) 0)], [cLg r0 G.2.1.2.2.2.2 64 (uLg lr (f 0 + 1) (wrN 2 0 0 (f (k + 9)) (f 1)))]] : List va_W).flatten C dL_writes_248 75 rfl (k + 9) (by omega) (by omega) (by omega) (by omega) rfl ?_
              refine s_iload_n 3 C dL_writes_249 rfl 7 rfl ?_
              refine s_bipush (z := 18) C dL_writes_250 rfl ?_
              refine s_icmp_ge 264 C dL_writes_252 (by decide) (by omega) (by omega) (fun h_252 => ?_) (fun h_252 => ?_)
              · refine s_aload_n 0 C dL_writes_264 rfl 4 rfl ?_
                refine s_iload C dL_writes_265 3 rfl ?_
                refine s_callVQ (As := [vI k]) (rest := []) (segs := [[cO x0 6 [.ref (a 0), .ref h0, .ref o0, .ref u0, .ref e8, .ref e9]], stW G a c F, [cO h0 0 [.ref h1, vI ps]], [cQ h1 G.2.1.2.2.2.1 5 Q], stW G (S 0) (cs 0) (Fs 0), stW G (S 1) (cs 1) (Fs 1), stW G (S 2) (cs 2) (Fs 2), stW G (S 3) (cs 3) (Fs 3), stW G (S 4) (cs 4) (Fs 4), [cA g0 G.2.1.1 18 (uZ (uZ f 0 (f 0 + 1)) (k + 9) 0)], [cLg r0 G.2.1.2.2.2.2 64 (uLg lr (f 0 + 1) (wrN 2 0 0 (f (k + 9)) (f 1)))]]) C dL_writes_267 (c_X6_abort l G x0 h0 h1 (.ref o0) (.ref u0) (.ref e8) (.ref e9) ps Q S cs Fs p a c F B f P k (by first | assumption | omega) hI hBB hH (by first | assumption | omega)) gL_writes_X6_abort rfl 1 (by decide +kernel) (by decide) 6 rfl rfl 0 _ rfl rfl [0, 2, 3, 4, 5, 6, 7, 8, 1] [9, 10] 11 (rfl : (11 : Nat) = 11) (by decide +kernel) rfl rfl (Nat.le_of_ble_eq_true rfl) ⟨Nat.zero_le _, Nat.zero_le _⟩ ?_
                intro v0 w0 hq
                obtain ⟨z_267, f2_267, c2_267, F2_267, ps2_267, P2_267, Q2_267, cs2_267, Fs2_267, p2_267, rfl, rfl, hq0_267, hq1_267, hq2_267, hq3_267, hq4_267⟩ := hq
                refine ⟨(fst_f (fst_c rfl (fst_c (fst_k rfl) (fst_c (fst_k rfl) (fst_c stW_fst (fst_c stW_fst (fst_c stW_fst (fst_c stW_fst (fst_c stW_fst (fst_c stW_fst rfl)))))))))), [[cO x0 6 [.ref (a 0), .ref h0, .ref o0, .ref u0, .ref e8, .ref e9]], stW G a c2_267 F2_267, [cO h0 0 [.ref h1, vI ps2_267]], [cQ h1 G.2.1.2.2.2.1 5 Q2_267], stW G (S 0) (cs2_267 0) (Fs2_267 0), stW G (S 1) (cs2_267 1) (Fs2_267 1), stW G (S 2) (cs2_267 2) (Fs2_267 2), stW G (S 3) (cs2_267 3) (Fs2_267 3), stW G (S 4) (cs2_267 4) (Fs2_267 4), [cA g0 G.2.1.1 18 (uZ (uZ f 0 (f 0 + 1)) (k + 9) 0)], [cLg r0 G.2.1.2.2.2.2 64 (uLg lr (f 0 + 1) (wrN 2 0 0 (f (k + 9)) (f 1)))]], (rfl : (11 : Nat) = 11), rfl, Eq.trans (b := ([[cA g0 G.2.1.1 18 (uZ (uZ f 0 (f 0 + 1)) (k + 9) 0)], [cLg r0 G.2.1.2.2.2.2 64 (uLg lr (f 0 + 1) (wrN 2 0 0 (f (k + 9)) (f 1)))]] : List va_W)) rfl rfl, ?_⟩
                show fSt l G X 0 0 270 [(8, vI vx), (7, vI ky), (6, vI (f (k + 9))), (5, vI k), (0, .ref x0), (1, .ref g0), (2, .ref r0), (3, vI wy), (4, vI y)] [vI z_267] ([[cO x0 6 [.ref (a 0), .ref h0, .ref o0, .ref u0, .ref e8, .ref e9]], stW G a c2_267 F2_267, [cO h0 0 [.ref h1, vI ps2_267]], [cQ h1 G.2.1.2.2.2.1 5 Q2_267], stW G (S 0) (cs2_267 0) (Fs2_267 0), stW G (S 1) (cs2_267 1) (Fs2_267 1), stW G (S 2) (cs2_267 2) (Fs2_267 2), stW G (S 3) (cs2_267 3) (Fs2_267 3), stW G (S 4) (cs2_267 4) (Fs2_267 4), [cA g0 G.2.1.1 18 (uZ (uZ f 0 (f 0 + 1)) (k + 9) 0)], [cLg r0 G.2.1.2.2.2.2 64 (uLg lr (f 0 + 1) (wrN 2 0 0 (f (k + 9)) (f 1)))]] : List va_W).flatten
                obtain ⟨hE9, hN9⟩ := X_end hP hL hq_k (Or.inr rfl) (by omega) (by omega)
                obtain ⟨hz, hf⟩ := Prod.mk.inj (hq1_267.trans hE9)
                have hz := hz.symm
                have hf := hf.symm
                subst hz
                subst hf
                refine s_agr ([[cO x0 6 [.ref (a 0), .ref h0, .ref o0, .ref u0, .ref e8, .ref e9]], stW G a c2_267 F2_267, [cO h0 0 [.ref h1, vI ps2_267]], [cQ h1 G.2.1.2.2.2.1 5 Q2_267], stW G (S 0) (cs2_267 0) (Fs2_267 0), stW G (S 1) (cs2_267 1) (Fs2_267 1), stW G (S 2) (cs2_267 2) (Fs2_267 2), stW G (S 3) (cs2_267 3) (Fs2_267 3), stW G (S 4) (cs2_267 4) (Fs2_267 4), [cA g0 G.2.1.1 18 (sp_write f 2 k (-1000004) (-1000004))], [cLg r0 G.2.1.2.2.2.2 64 (uLg lr (f 0 + 1) (wrN 2 0 0 (f (k + 9)) (f 1)))]] : List va_W).flatten 75 rfl (sp_write f 2 k (-1000004) (-1000004)) (fun j h0 h1 => ?agr) rfl ?_
                case agr =>
                  have hj : j < 18 := (by omega)
                  rw [spw_0 hq_k hn0.1 hj, if_neg (by omega)]
                refine s_aload_n 1 C dL_writes_270 rfl 5 rfl ?_
                refine s_iconst C dL_writes_271 ?_
                refine s_iald C dL_writes_272 75 rfl 0 rfl (by omega) (by omega) (by omega) ?_
                refine s_top (f 0 + 1) ((spw_0 hq_k hn0.1 (by omega)).trans ((uZ_n (by omega)).trans uZ_s)) ?_
                refine s_icmp_ne 280 C dL_writes_273 (by decide) (by omega) (by omega) (fun h => absurd (by omega) h) (fun _ => ?_)
                refine s_iconst C dL_writes_276 ?_
                refine s_goto 281 C dL_writes_277 (by decide) ?_
                exact s_zret C E dL_writes_281 rfl ⟨c2_267, F2_267, ps2_267, Q2_267, cs2_267, Fs2_267, p2_267, (sp_write f 2 k (-1000004) (-1000004)), P2_267, (uLg lr (f 0 + 1) (wrN 2 0 0 (f (k + 9)) (f 1))), rfl, rfl, hq0_267, hN9, (hq2_267.mono (by omega))⟩
              · exfalso
                omega
            · refine s_iconst C dL_writes_229 ?_
              refine s_goto 234 C dL_writes_230 (by decide) ?_
              refine s_iconst C dL_writes_234 ?_
              refine s_iconst C dL_writes_235 ?_
              refine s_iload C dL_writes_236 2 rfl ?_
              refine s_callSQ (As := [.ref g0, .ref r0, vI 1, vI 0, vI 0, vI (f (k + 9))]) (rest := []) (segs := [[cO x0 6 [.ref (a 0), .ref h0, .ref o0, .ref u0, .ref e8, .ref e9]], stW G a c F, [cO h0 0 [.ref h1, vI ps]], [cQ h1 G.2.1.2.2.2.1 5 Q], stW G (S 0) (cs 0) (Fs 0), stW G (S 1) (cs 1) (Fs 1), stW G (S 2) (cs 2) (Fs 2), stW G (S 3) (cs 3) (Fs 3), stW G (S 4) (cs 4) (Fs 4), [cA g0 G.2.1.1 18 f], [cLg r0 G.2.1.2.2.2.2 64 lr]]) C dL_writes_238 (c_L_write l G g0 r0 f lr 1 0 0 (f (k + 9)) (by first | assumption | omega) (by first | assumption | omega) (by first | assumption | omega) (by first | assumption | omega) (by first | assumption | omega) (by first | assumption | omega)) gL_writes_L_write rfl 6 (by decide +kernel) (by decide) [9, 10] [0, 1, 2, 3, 4, 5, 6, 7, 8] 11 (rfl : (11 : Nat) = 11) (by decide +kernel) rfl rfl (Nat.le_of_ble_eq_true rfl) ⟨Nat.zero_le _, Nat.zero_le _⟩ ?_
              intro v0 w0 hq
              obtain ⟨rfl, rfl⟩ := hq
              refine ⟨(fst_k (fst_k rfl)), [[cO x0 6 [.ref (a 0), .ref h0, .ref o0, .ref u0, .ref e8, .ref e9]], stW G a c F, [cO h0 0 [.ref h1, vI ps]], [cQ h1 G.2.1.2.2.2.1 5 Q], stW G (S 0) (cs 0) (Fs 0), stW G (S 1) (cs 1) (Fs 1), stW G (S 2) (cs 2) (Fs 2), stW G (S 3) (cs 3) (Fs 3), stW G (S 4) (cs 4) (Fs 4), [cA g0 G.2.1.1 18 (uZ f 0 (f 0 + 1))], [cLg r0 G.2.1.2.2.2.2 64 (uLg lr (f 0 + 1) (wrN 1 0 0 (f (k + 9)) (f 1)))]], (rfl : (11 : Nat) = 11), rfl, Eq.trans (b := ([[cO x0 6 [.ref (a 0), .ref h0, .ref o0, .ref u0, .ref e8, .ref e9]], stW G a c F, [cO h0 0 [.ref h1, vI ps]], [cQ h1 G.2.1.2.2.2.1 5 Q], stW G (S 0) (cs 0) (Fs 0), stW G (S 1) (cs 1) (Fs 1), stW G (S 2) (cs 2) (Fs 2), stW G (S 3) (cs 3) (Fs 3), stW G (S 4) (cs 4) (Fs 4)] : List va_W)) rfl rfl, ?_⟩
              show fSt l G X 0 0 241 [(8, vI vx), (7, vI ky), (6, vI (f (k + 9))), (5, vI k), (0, .ref x0), (1, .ref g0), (2, .ref r0), (3, vI wy), (4, vI y)] [] ([[cO x0 6 [.ref (a 0), .ref h0, .ref o0, .ref u0, .ref e8, .ref e9]], stW G a c F, [cO h0 0 [.ref h1, vI ps]], [cQ h1 G.2.1.2.2.2.1 5 Q], stW G (S 0) (cs 0) (Fs 0), stW G (S 1) (cs 1) (Fs 1), stW G (S 2) (cs 2) (Fs 2), stW G (S 3) (cs 3) (Fs 3), stW G (S 4) (cs 4) (Fs 4), [cA g0 G.2.1.1 18 (uZ f 0 (f 0 + 1))], [cLg r0 G.2.1.2.2.2.2 64 (uLg lr (f 0 + 1) (wrN 1 0 0 (f (k + 9)) (f 1)))]] : List va_W).flatten
              refine s_aload_n 1 C dL_writes_241 rfl 5 rfl ?_
              refine s_bipush (z := 9) C dL_writes_242 rfl ?_
              refine s_iload C dL_writes_244 3 rfl ?_
              refine s_iadd C dL_writes_246 ?_
              refine s_iconst C dL_writes_247 ?_
              refine s_iast ([[cO x0 6 [.ref (a 0), .ref h0, .ref o0, .ref u0, .ref e8, .ref e9]], stW G a c F, [cO h0 0 [.ref h1, vI ps]], [cQ h1 G.2.1.2.2.2.1 5 Q], stW G (S 0) (cs 0) (Fs 0), stW G (S 1) (cs 1) (Fs 1), stW G (S 2) (cs 2) (Fs 2), stW G (S 3) (cs 3) (Fs 3), stW G (S 4) (cs 4) (Fs 4), [cA g0 G.2.1.1 18 (uZ (uZ f 0 (f 0 + 1)) (k + 9) 0)], [cLg r0 G.2.1.2.2.2.2 64 (uLg lr (f 0 + 1) (wrN 1 0 0 (f (k + 9)) (f 1)))]] : List va_W).flatten C dL_writes_248 75 rfl (k + 9) (by omega) (by omega) (by omega) (by omega) rfl ?_
              refine s_iload_n 3 C dL_writes_249 rfl 7 rfl ?_
              refine s_bipush (z := 18) C dL_writes_250 rfl ?_
              refine s_icmp_ge 264 C dL_writes_252 (by decide) (by omega) (by omega) (fun h_252 => ?_) (fun h_252 => ?_)
              · exfalso
                omega
              · refine s_aload_n 0 C dL_writes_255 rfl 4 rfl ?_
                refine s_iload C dL_writes_256 3 rfl ?_
                refine s_callVQ (As := [vI k]) (rest := []) (segs := [[cO x0 6 [.ref (a 0), .ref h0, .ref o0, .ref u0, .ref e8, .ref e9]], stW G a c F, [cO h0 0 [.ref h1, vI ps]], [cQ h1 G.2.1.2.2.2.1 5 Q], stW G (S 0) (cs 0) (Fs 0), stW G (S 1) (cs 1) (Fs 1), stW G (S 2) (cs 2) (Fs 2), stW G (S 3) (cs 3) (Fs 3), stW G (S 4) (cs 4) (Fs 4), [cA g0 G.2.1.1 18 (uZ (uZ f 0 (f 0 + 1)) (k + 9) 0)], [cLg r0 G.2.1.2.2.2.2 64 (uLg lr (f 0 + 1) (wrN 1 0 0 (f (k + 9)) (f 1)))]]) C dL_writes_258 (c_X6_commit l G x0 h0 h1 (.ref o0) (.ref u0) (.ref e8) (.ref e9) ps Q S cs Fs p a c F B f P k (by first | assumption | omega) hI hBB hH (by first | assumption | omega)) gL_writes_X6_commit rfl 1 (by decide +kernel) (by decide) 6 rfl rfl 0 _ rfl rfl [0, 2, 3, 4, 5, 6, 7, 8, 1] [9, 10] 11 (rfl : (11 : Nat) = 11) (by decide +kernel) rfl rfl (Nat.le_of_ble_eq_true rfl) ⟨Nat.zero_le _, Nat.zero_le _⟩ ?_
                intro v0 w0 hq
                obtain ⟨z_258, f2_258, c2_258, F2_258, ps2_258, P2_258, Q2_258, cs2_258, Fs2_258, p2_258, rfl, rfl, hq0_258, hq1_258, hq2_258, hq3_258, hq4_258⟩ := hq
                refine ⟨(fst_f (fst_c rfl (fst_c (fst_k rfl) (fst_c (fst_k rfl) (fst_c stW_fst (fst_c stW_fst (fst_c stW_fst (fst_c stW_fst (fst_c stW_fst (fst_c stW_fst rfl)))))))))), [[cO x0 6 [.ref (a 0), .ref h0, .ref o0, .ref u0, .ref e8, .ref e9]], stW G a c2_258 F2_258, [cO h0 0 [.ref h1, vI ps2_258]], [cQ h1 G.2.1.2.2.2.1 5 Q2_258], stW G (S 0) (cs2_258 0) (Fs2_258 0), stW G (S 1) (cs2_258 1) (Fs2_258 1), stW G (S 2) (cs2_258 2) (Fs2_258 2), stW G (S 3) (cs2_258 3) (Fs2_258 3), stW G (S 4) (cs2_258 4) (Fs2_258 4), [cA g0 G.2.1.1 18 (uZ (uZ f 0 (f 0 + 1)) (k + 9) 0)], [cLg r0 G.2.1.2.2.2.2 64 (uLg lr (f 0 + 1) (wrN 1 0 0 (f (k + 9)) (f 1)))]], (rfl : (11 : Nat) = 11), rfl, Eq.trans (b := ([[cA g0 G.2.1.1 18 (uZ (uZ f 0 (f 0 + 1)) (k + 9) 0)], [cLg r0 G.2.1.2.2.2.2 64 (uLg lr (f 0 + 1) (wrN 1 0 0 (f (k + 9)) (f 1)))]] : List va_W)) rfl rfl, ?_⟩
                show fSt l G X 0 0 261 [(8, vI vx), (7, vI ky), (6, vI (f (k + 9))), (5, vI k), (0, .ref x0), (1, .ref g0), (2, .ref r0), (3, vI wy), (4, vI y)] [vI z_258] ([[cO x0 6 [.ref (a 0), .ref h0, .ref o0, .ref u0, .ref e8, .ref e9]], stW G a c2_258 F2_258, [cO h0 0 [.ref h1, vI ps2_258]], [cQ h1 G.2.1.2.2.2.1 5 Q2_258], stW G (S 0) (cs2_258 0) (Fs2_258 0), stW G (S 1) (cs2_258 1) (Fs2_258 1), stW G (S 2) (cs2_258 2) (Fs2_258 2), stW G (S 3) (cs2_258 3) (Fs2_258 3), stW G (S 4) (cs2_258 4) (Fs2_258 4), [cA g0 G.2.1.1 18 (uZ (uZ f 0 (f 0 + 1)) (k + 9) 0)], [cLg r0 G.2.1.2.2.2.2 64 (uLg lr (f 0 + 1) (wrN 1 0 0 (f (k + 9)) (f 1)))]] : List va_W).flatten
                obtain ⟨hE9, hN9⟩ := X_end hP hL hq_k (Or.inl rfl) (by omega) (by omega)
                obtain ⟨hz, hf⟩ := Prod.mk.inj (hq1_258.trans hE9)
                have hz := hz.symm
                have hf := hf.symm
                subst hz
                subst hf
                refine s_agr ([[cO x0 6 [.ref (a 0), .ref h0, .ref o0, .ref u0, .ref e8, .ref e9]], stW G a c2_258 F2_258, [cO h0 0 [.ref h1, vI ps2_258]], [cQ h1 G.2.1.2.2.2.1 5 Q2_258], stW G (S 0) (cs2_258 0) (Fs2_258 0), stW G (S 1) (cs2_258 1) (Fs2_258 1), stW G (S 2) (cs2_258 2) (Fs2_258 2), stW G (S 3) (cs2_258 3) (Fs2_258 3), stW G (S 4) (cs2_258 4) (Fs2_258 4), [cA g0 G.2.1.1 18 (sp_write f 1 k (-1000004) (-1000004))], [cLg r0 G.2.1.2.2.2.2 64 (uLg lr (f 0 + 1) (wrN 1 0 0 (f (k + 9)) (f 1)))]] : List va_W).flatten 75 rfl (sp_write f 1 k (-1000004) (-1000004)) (fun j h0 h1 => ?agr) rfl ?_
                case agr =>
                  have hj : j < 18 := (by omega)
                  rw [spw_0 hq_k hn0.1 hj, if_neg (by omega)]
                refine s_goto 270 C dL_writes_261 (by decide) ?_
                refine s_aload_n 1 C dL_writes_270 rfl 5 rfl ?_
                refine s_iconst C dL_writes_271 ?_
                refine s_iald C dL_writes_272 75 rfl 0 rfl (by omega) (by omega) (by omega) ?_
                refine s_top (f 0 + 1) ((spw_0 hq_k hn0.1 (by omega)).trans ((uZ_n (by omega)).trans uZ_s)) ?_
                refine s_icmp_ne 280 C dL_writes_273 (by decide) (by omega) (by omega) (fun h => absurd (by omega) h) (fun _ => ?_)
                refine s_iconst C dL_writes_276 ?_
                refine s_goto 281 C dL_writes_277 (by decide) ?_
                exact s_zret C E dL_writes_281 rfl ⟨c2_258, F2_258, ps2_258, Q2_258, cs2_258, Fs2_258, p2_258, (sp_write f 1 k (-1000004) (-1000004)), P2_258, (uLg lr (f 0 + 1) (wrN 1 0 0 (f (k + 9)) (f 1))), rfl, rfl, hq0_258, hN9, (hq2_258.mono (by omega))⟩
          · refine s_aload_n 1 C dL_writes_187 rfl 5 rfl ?_
            refine s_aload_n 2 C dL_writes_188 rfl 6 rfl ?_
            refine s_iconst C dL_writes_189 ?_
            refine s_iload C dL_writes_190 1 rfl ?_
            refine s_iload C dL_writes_192 0 rfl ?_
            refine s_iload C dL_writes_194 2 rfl ?_
            refine s_callSQ (As := [.ref g0, .ref r0, vI 0, vI ky, vI vx, vI (f (k + 9))]) (rest := []) (segs := [[cO x0 6 [.ref (a 0), .ref h0, .ref o0, .ref u0, .ref e8, .ref e9]], stW G a c F, [cO h0 0 [.ref h1, vI ps]], [cQ h1 G.2.1.2.2.2.1 5 Q], stW G (S 0) (cs 0) (Fs 0), stW G (S 1) (cs 1) (Fs 1), stW G (S 2) (cs 2) (Fs 2), stW G (S 3) (cs 3) (Fs 3), stW G (S 4) (cs 4) (Fs 4), [cA g0 G.2.1.1 18 f], [cLg r0 G.2.1.2.2.2.2 64 lr]]) C dL_writes_196 (c_L_write l G g0 r0 f lr 0 ky vx (f (k + 9)) (by omega) (by first | assumption | omega) (by first | assumption | omega) (by first | assumption | omega) (by omega) (by omega)) gL_writes_L_write rfl 6 (by decide +kernel) (by decide) [9, 10] [0, 1, 2, 3, 4, 5, 6, 7, 8] 11 (rfl : (11 : Nat) = 11) (by decide +kernel) rfl rfl (Nat.le_of_ble_eq_true rfl) ⟨Nat.zero_le _, Nat.zero_le _⟩ ?_
            intro v0 w0 hq
            obtain ⟨rfl, rfl⟩ := hq
            refine ⟨(fst_k (fst_k rfl)), [[cO x0 6 [.ref (a 0), .ref h0, .ref o0, .ref u0, .ref e8, .ref e9]], stW G a c F, [cO h0 0 [.ref h1, vI ps]], [cQ h1 G.2.1.2.2.2.1 5 Q], stW G (S 0) (cs 0) (Fs 0), stW G (S 1) (cs 1) (Fs 1), stW G (S 2) (cs 2) (Fs 2), stW G (S 3) (cs 3) (Fs 3), stW G (S 4) (cs 4) (Fs 4), [cA g0 G.2.1.1 18 (uZ f 0 (f 0 + 1))], [cLg r0 G.2.1.2.2.2.2 64 (uLg lr (f 0 + 1) (wrN 0 ky vx (f (k + 9)) (f 1)))]], (rfl : (11 : Nat) = 11), rfl, Eq.trans (b := ([[cO x0 6 [.ref (a 0), .ref h0, .ref o0, .ref u0, .ref e8, .ref e9]], stW G a c F, [cO h0 0 [.ref h1, vI ps]], [cQ h1 G.2.1.2.2.2.1 5 Q], stW G (S 0) (cs 0) (Fs 0), stW G (S 1) (cs 1) (Fs 1), stW G (S 2) (cs 2) (Fs 2), stW G (S 3) (cs 3) (Fs 3), stW G (S 4) (cs 4) (Fs 4)] : List va_W)) rfl rfl, ?_⟩
            show fSt l G X 0 0 199 [(8, vI vx), (7, vI ky), (6, vI (f (k + 9))), (5, vI k), (0, .ref x0), (1, .ref g0), (2, .ref r0), (3, vI wy), (4, vI y)] [] ([[cO x0 6 [.ref (a 0), .ref h0, .ref o0, .ref u0, .ref e8, .ref e9]], stW G a c F, [cO h0 0 [.ref h1, vI ps]], [cQ h1 G.2.1.2.2.2.1 5 Q], stW G (S 0) (cs 0) (Fs 0), stW G (S 1) (cs 1) (Fs 1), stW G (S 2) (cs 2) (Fs 2), stW G (S 3) (cs 3) (Fs 3), stW G (S 4) (cs 4) (Fs 4), [cA g0 G.2.1.1 18 (uZ f 0 (f 0 + 1))], [cLg r0 G.2.1.2.2.2.2 64 (uLg lr (f 0 + 1) (wrN 0 ky vx (f (k + 9)) (f 1)))]] : List va_W).flatten
            refine s_aload_n 0 C dL_writes_199 rfl 4 rfl ?_
            refine s_iload C dL_writes_200 3 rfl ?_
            refine s_iload C dL_writes_202 1 rfl ?_
            refine s_iload C dL_writes_204 0 rfl ?_
            refine s_callVQ (As := [vI k, vI ky, vI vx]) (rest := []) (segs := [[cO x0 6 [.ref (a 0), .ref h0, .ref o0, .ref u0, .ref e8, .ref e9]], stW G a c F, [cO h0 0 [.ref h1, vI ps]], [cQ h1 G.2.1.2.2.2.1 5 Q], stW G (S 0) (cs 0) (Fs 0), stW G (S 1) (cs 1) (Fs 1), stW G (S 2) (cs 2) (Fs 2), stW G (S 3) (cs 3) (Fs 3), stW G (S 4) (cs 4) (Fs 4), [cA g0 G.2.1.1 18 (uZ f 0 (f 0 + 1))], [cLg r0 G.2.1.2.2.2.2 64 (uLg lr (f 0 + 1) (wrN 0 ky vx (f (k + 9)) (f 1)))]]) C dL_writes_206 (c_X6_put l G x0 h0 h1 (.ref o0) (.ref u0) (.ref e8) (.ref e9) ps Q S cs Fs p a c F B f P k ky vx (by first | assumption | omega) hI hBB hH (by first | assumption | omega) (by first | assumption | omega) (by first | assumption | omega)) gL_writes_X6_put rfl 3 (by decide +kernel) (by decide) 6 rfl rfl 0 _ rfl rfl [0, 2, 3, 4, 5, 6, 7, 8, 1] [9, 10] 11 (rfl : (11 : Nat) = 11) (by decide +kernel) rfl rfl (Nat.le_of_ble_eq_true rfl) ⟨Nat.zero_le _, Nat.zero_le _⟩ ?_
            intro v0 w0 hq
            obtain ⟨z_206, f2_206, c2_206, F2_206, ps2_206, P2_206, Q2_206, cs2_206, Fs2_206, p2_206, rfl, rfl, hq0_206, hq1_206, hq2_206, hq3_206, hq4_206⟩ := hq
            refine ⟨(fst_f (fst_c rfl (fst_c (fst_k rfl) (fst_c (fst_k rfl) (fst_c stW_fst (fst_c stW_fst (fst_c stW_fst (fst_c stW_fst (fst_c stW_fst (fst_c stW_fst rfl)))))))))), [[cO x0 6 [.ref (a 0), .ref h0, .ref o0, .ref u0, .ref e8, .ref e9]], stW G a c2_206 F2_206, [cO h0 0 [.ref h1, vI ps2_206]], [cQ h1 G.2.1.2.2.2.1 5 Q2_206], stW G (S 0) (cs2_206 0) (Fs2_206 0), stW G (S 1) (cs2_206 1) (Fs2_206 1), stW G (S 2) (cs2_206 2) (Fs2_206 2), stW G (S 3) (cs2_206 3) (Fs2_206 3), stW G (S 4) (cs2_206 4) (Fs2_206 4), [cA g0 G.2.1.1 18 (uZ f 0 (f 0 + 1))], [cLg r0 G.2.1.2.2.2.2 64 (uLg lr (f 0 + 1) (wrN 0 ky vx (f (k + 9)) (f 1)))]], (rfl : (11 : Nat) = 11), rfl, Eq.trans (b := ([[cA g0 G.2.1.1 18 (uZ f 0 (f 0 + 1))], [cLg r0 G.2.1.2.2.2.2 64 (uLg lr (f 0 + 1) (wrN 0 ky vx (f (k + 9)) (f 1)))]] : List va_W)) rfl rfl, ?_⟩
            show fSt l G X 0 0 209 [(8, vI vx), (7, vI ky), (6, vI (f (k + 9))), (5, vI k), (0, .ref x0), (1, .ref g0), (2, .ref r0), (3, vI wy), (4, vI y)] [vI z_206] ([[cO x0 6 [.ref (a 0), .ref h0, .ref o0, .ref u0, .ref e8, .ref e9]], stW G a c2_206 F2_206, [cO h0 0 [.ref h1, vI ps2_206]], [cQ h1 G.2.1.2.2.2.1 5 Q2_206], stW G (S 0) (cs2_206 0) (Fs2_206 0), stW G (S 1) (cs2_206 1) (Fs2_206 1), stW G (S 2) (cs2_206 2) (Fs2_206 2), stW G (S 3) (cs2_206 3) (Fs2_206 3), stW G (S 4) (cs2_206 4) (Fs2_206 4), [cA g0 G.2.1.1 18 (uZ f 0 (f 0 + 1))], [cLg r0 G.2.1.2.2.2.2 64 (uLg lr (f 0 + 1) (wrN 0 ky vx (f (k + 9)) (f 1)))]] : List va_W).flatten
            obtain ⟨hE9, hN9⟩ := X_put hP hL hq_k hq_ky hq_vx (by omega) (by omega)
            obtain ⟨hz, hf⟩ := Prod.mk.inj (hq1_206.trans hE9)
            have hz := hz.symm
            have hf := hf.symm
            subst hz
            subst hf
            refine s_agr ([[cO x0 6 [.ref (a 0), .ref h0, .ref o0, .ref u0, .ref e8, .ref e9]], stW G a c2_206 F2_206, [cO h0 0 [.ref h1, vI ps2_206]], [cQ h1 G.2.1.2.2.2.1 5 Q2_206], stW G (S 0) (cs2_206 0) (Fs2_206 0), stW G (S 1) (cs2_206 1) (Fs2_206 1), stW G (S 2) (cs2_206 2) (Fs2_206 2), stW G (S 3) (cs2_206 3) (Fs2_206 3), stW G (S 4) (cs2_206 4) (Fs2_206 4), [cA g0 G.2.1.1 18 (sp_write f 0 k ky vx)], [cLg r0 G.2.1.2.2.2.2 64 (uLg lr (f 0 + 1) (wrN 0 ky vx (f (k + 9)) (f 1)))]] : List va_W).flatten 75 rfl (sp_write f 0 k ky vx) (fun j h0 h1 => ?agr) rfl ?_
            case agr =>
              have hj : j < 18 := (by omega)
              rw [spw_0 hq_k hn0.1 hj, if_pos rfl]
              by_cases hjk : j = k + 9
              · rw [hjk, uZ_s, uZ_n (by omega)]
              · rw [uZ_n hjk]
            refine s_aload_n 1 C dL_writes_209 rfl 5 rfl ?_
            refine s_iconst C dL_writes_210 ?_
            refine s_iald C dL_writes_211 75 rfl 0 rfl (by omega) (by omega) (by omega) ?_
            refine s_top (f 0 + 1) ((spw_0 hq_k hn0.1 (by omega)).trans ((uZ_n (by omega)).trans uZ_s)) ?_
            refine s_icmp_ne 219 C dL_writes_212 (by decide) (by omega) (by omega) (fun h => absurd (by omega) h) (fun _ => ?_)
            refine s_iconst C dL_writes_215 ?_
            refine s_goto 220 C dL_writes_216 (by decide) ?_
            exact s_zret C E dL_writes_220 rfl ⟨c2_206, F2_206, ps2_206, Q2_206, cs2_206, Fs2_206, p2_206, (sp_write f 0 k ky vx), P2_206, (uLg lr (f 0 + 1) (wrN 0 ky vx (f (k + 9)) (f 1))), rfl, rfl, hq0_206, hN9, (hq2_206.mono (by omega))⟩
        · refine s_iload C dL_writes_121 2 rfl ?_
          refine s_if_ne 130 C dL_writes_123 (by decide) (hI.rf _) (fun h_123 => ?_) (fun h_123 => ?_)
          · refine s_iconst C dL_writes_130 ?_
            refine s_istore [(9, vI 0), (8, vI vx), (7, vI ky), (6, vI (f (k + 9))), (5, vI k), (0, .ref x0), (1, .ref g0), (2, .ref r0), (3, vI wy), (4, vI y)] C dL_writes_131 (by decide) rfl ?_
            refine s_iload C dL_writes_133 0 rfl ?_
            refine s_if_eq 175 C dL_writes_135 (by decide) (by decide) (fun h => ?_) (fun h => absurd h (by decide))
            refine s_iconst C dL_writes_175 ?_
            refine s_goto 180 C dL_writes_176 (by decide) ?_
            exact s_zret C E dL_writes_180 rfl ⟨c, F, ps, Q, cs, Fs, p, f, P, lr, rfl, rfl, hR, (NX.rf hP hL), (hH.mono (by omega))⟩
          · exfalso
            omega
  · refine s_iload C dL_writes_20 0 rfl ?_
    refine s_if_le 42 C dL_writes_22 (by decide) (hI.rf _) (fun h_22 => ?_) (fun h_22 => ?_)
    · refine s_aload_n 1 C dL_writes_42 rfl 3 rfl ?_
      refine s_iconst C dL_writes_43 ?_
      refine s_dup2 C dL_writes_44 rfl rfl ?_
      refine s_iald C dL_writes_45 75 rfl 3 rfl (by omega) (by omega) (by omega) ?_
      refine s_iconst C dL_writes_46 ?_
      refine s_iadd C dL_writes_47 ?_
      refine s_iast ([[cO x0 6 [.ref (a 0), .ref h0, .ref o0, .ref u0, .ref e8, .ref e9]], stW G a c F, [cO h0 0 [.ref h1, vI ps]], [cQ h1 G.2.1.2.2.2.1 5 Q], stW G (S 0) (cs 0) (Fs 0), stW G (S 1) (cs 1) (Fs 1), stW G (S 2) (cs 2) (Fs 2), stW G (S 3) (cs 3) (Fs 3), stW G (S 4) (cs 4) (Fs 4), [cA g0 G.2.1.1 18 (uZ f 3 ((f 3) + 1))], [cLg r0 G.2.1.2.2.2.2 64 lr]] : List va_W).flatten C dL_writes_48 75 rfl 3 rfl (by omega) (by omega) (by omega) rfl ?_
      refine s_aload_n 1 C dL_writes_49 rfl 3 rfl ?_
      refine s_bipush (z := 9) C dL_writes_50 rfl ?_
      refine s_iload C dL_writes_52 1 rfl ?_
      refine s_iadd C dL_writes_54 ?_
      refine s_aload_n 1 C dL_writes_55 rfl 3 rfl ?_
      refine s_iconst C dL_writes_56 ?_
      refine s_iald C dL_writes_57 75 rfl 3 rfl (by omega) (by omega) (by omega) ?_
      refine s_top ((f 3) + 1) uZ_s ?_
      refine s_iast ([[cO x0 6 [.ref (a 0), .ref h0, .ref o0, .ref u0, .ref e8, .ref e9]], stW G a c F, [cO h0 0 [.ref h1, vI ps]], [cQ h1 G.2.1.2.2.2.1 5 Q], stW G (S 0) (cs 0) (Fs 0), stW G (S 1) (cs 1) (Fs 1), stW G (S 2) (cs 2) (Fs 2), stW G (S 3) (cs 3) (Fs 3), stW G (S 4) (cs 4) (Fs 4), [cA g0 G.2.1.1 18 (uZ (uZ f 3 ((f 3) + 1)) (k + 9) ((f 3) + 1))], [cLg r0 G.2.1.2.2.2.2 64 lr]] : List va_W).flatten C dL_writes_58 75 rfl (k + 9) (by omega) (by omega) (by omega) (by omega) rfl ?_
      refine s_aload_n 0 C dL_writes_59 rfl 2 rfl ?_
      refine s_iload C dL_writes_60 1 rfl ?_
      refine s_callVQ (As := [vI k]) (rest := []) (segs := [[cO x0 6 [.ref (a 0), .ref h0, .ref o0, .ref u0, .ref e8, .ref e9]], stW G a c F, [cO h0 0 [.ref h1, vI ps]], [cQ h1 G.2.1.2.2.2.1 5 Q], stW G (S 0) (cs 0) (Fs 0), stW G (S 1) (cs 1) (Fs 1), stW G (S 2) (cs 2) (Fs 2), stW G (S 3) (cs 3) (Fs 3), stW G (S 4) (cs 4) (Fs 4), [cA g0 G.2.1.1 18 (uZ (uZ f 3 ((f 3) + 1)) (k + 9) ((f 3) + 1))], [cLg r0 G.2.1.2.2.2.2 64 lr]]) C dL_writes_62 (c_X6_open l G x0 h0 h1 (.ref o0) (.ref u0) (.ref e8) (.ref e9) ps Q S cs Fs p a c F B f P k (by first | assumption | omega) hI hBB hH (by first | assumption | omega)) gL_writes_X6_open rfl 1 (by decide +kernel) (by decide) 6 rfl rfl 0 _ rfl rfl [0, 2, 3, 4, 5, 6, 7, 8, 1] [9, 10] 11 (rfl : (11 : Nat) = 11) (by decide +kernel) rfl rfl (Nat.le_of_ble_eq_true rfl) ⟨Nat.zero_le _, Nat.zero_le _⟩ ?_
      intro v0 w0 hq
      obtain ⟨z_62, f2_62, c2_62, F2_62, ps2_62, P2_62, Q2_62, cs2_62, Fs2_62, p2_62, rfl, rfl, hq0_62, hq1_62, hq2_62, hq3_62, hq4_62⟩ := hq
      refine ⟨(fst_f (fst_c rfl (fst_c (fst_k rfl) (fst_c (fst_k rfl) (fst_c stW_fst (fst_c stW_fst (fst_c stW_fst (fst_c stW_fst (fst_c stW_fst (fst_c stW_fst rfl)))))))))), [[cO x0 6 [.ref (a 0), .ref h0, .ref o0, .ref u0, .ref e8, .ref e9]], stW G a c2_62 F2_62, [cO h0 0 [.ref h1, vI ps2_62]], [cQ h1 G.2.1.2.2.2.1 5 Q2_62], stW G (S 0) (cs2_62 0) (Fs2_62 0), stW G (S 1) (cs2_62 1) (Fs2_62 1), stW G (S 2) (cs2_62 2) (Fs2_62 2), stW G (S 3) (cs2_62 3) (Fs2_62 3), stW G (S 4) (cs2_62 4) (Fs2_62 4), [cA g0 G.2.1.1 18 (uZ (uZ f 3 ((f 3) + 1)) (k + 9) ((f 3) + 1))], [cLg r0 G.2.1.2.2.2.2 64 lr]], (rfl : (11 : Nat) = 11), rfl, Eq.trans (b := ([[cA g0 G.2.1.1 18 (uZ (uZ f 3 ((f 3) + 1)) (k + 9) ((f 3) + 1))], [cLg r0 G.2.1.2.2.2.2 64 lr]] : List va_W)) rfl rfl, ?_⟩
      show fSt l G X 0 0 65 [(6, vI (f (k + 9))), (5, vI k), (0, .ref x0), (1, .ref g0), (2, .ref r0), (3, vI wy), (4, vI y)] [vI z_62] ([[cO x0 6 [.ref (a 0), .ref h0, .ref o0, .ref u0, .ref e8, .ref e9]], stW G a c2_62 F2_62, [cO h0 0 [.ref h1, vI ps2_62]], [cQ h1 G.2.1.2.2.2.1 5 Q2_62], stW G (S 0) (cs2_62 0) (Fs2_62 0), stW G (S 1) (cs2_62 1) (Fs2_62 1), stW G (S 2) (cs2_62 2) (Fs2_62 2), stW G (S 3) (cs2_62 3) (Fs2_62 3), stW G (S 4) (cs2_62 4) (Fs2_62 4), [cA g0 G.2.1.1 18 (uZ (uZ f 3 ((f 3) + 1)) (k + 9) ((f 3) + 1))], [cLg r0 G.2.1.2.2.2.2 64 lr]] : List va_W).flatten
      obtain ⟨hE9, hN9⟩ := X_open hP hL hq_k (by omega)
      obtain ⟨hz, hf⟩ := Prod.mk.inj (hq1_62.trans hE9)
      have hz := hz.symm
      have hf := hf.symm
      subst hz
      subst hf
      refine s_aload_n 1 C dL_writes_65 rfl 3 rfl ?_
      refine s_iconst C dL_writes_66 ?_
      refine s_iald C dL_writes_67 75 rfl 3 rfl (by omega) (by omega) (by omega) ?_
      refine s_top ((uZ f 3 (f 3 + 1)) 3) (uZ_n (by omega)) ?_
      refine s_top ((f 3) + 1) uZ_s ?_
      refine s_icmp_ne 75 C dL_writes_68 (by decide) (by omega) (by omega) (fun h => absurd (by omega) h) (fun _ => ?_)
      refine s_iconst C dL_writes_71 ?_
      refine s_goto 76 C dL_writes_72 (by decide) ?_
      exact s_zret C E dL_writes_76 rfl ⟨c2_62, F2_62, ps2_62, Q2_62, cs2_62, Fs2_62, p2_62, (uZ (uZ f 3 (f 3 + 1)) (k + 9) (f 3 + 1)), P2_62, lr, rfl, rfl, hq0_62, hN9, (hq2_62.mono (by omega))⟩
    · refine s_aload_n 0 C dL_writes_25 rfl 2 rfl ?_
      refine s_iload C dL_writes_26 1 rfl ?_
      refine s_callVQ (As := [vI k]) (rest := []) (segs := [[cO x0 6 [.ref (a 0), .ref h0, .ref o0, .ref u0, .ref e8, .ref e9]], stW G a c F, [cO h0 0 [.ref h1, vI ps]], [cQ h1 G.2.1.2.2.2.1 5 Q], stW G (S 0) (cs 0) (Fs 0), stW G (S 1) (cs 1) (Fs 1), stW G (S 2) (cs 2) (Fs 2), stW G (S 3) (cs 3) (Fs 3), stW G (S 4) (cs 4) (Fs 4), [cA g0 G.2.1.1 18 f], [cLg r0 G.2.1.2.2.2.2 64 lr]]) C dL_writes_28 (c_X6_open l G x0 h0 h1 (.ref o0) (.ref u0) (.ref e8) (.ref e9) ps Q S cs Fs p a c F B f P k (by first | assumption | omega) hI hBB hH (by first | assumption | omega)) gL_writes_X6_open rfl 1 (by decide +kernel) (by decide) 6 rfl rfl 0 _ rfl rfl [0, 2, 3, 4, 5, 6, 7, 8, 1] [9, 10] 11 (rfl : (11 : Nat) = 11) (by decide +kernel) rfl rfl (Nat.le_of_ble_eq_true rfl) ⟨Nat.zero_le _, Nat.zero_le _⟩ ?_
      intro v0 w0 hq
      obtain ⟨z_28, f2_28, c2_28, F2_28, ps2_28, P2_28, Q2_28, cs2_28, Fs2_28, p2_28, rfl, rfl, hq0_28, hq1_28, hq2_28, hq3_28, hq4_28⟩ := hq
      refine ⟨(fst_f (fst_c rfl (fst_c (fst_k rfl) (fst_c (fst_k rfl) (fst_c stW_fst (fst_c stW_fst (fst_c stW_fst (fst_c stW_fst (fst_c stW_fst (fst_c stW_fst rfl)))))))))), [[cO x0 6 [.ref (a 0), .ref h0, .ref o0, .ref u0, .ref e8, .ref e9]], stW G a c2_28 F2_28, [cO h0 0 [.ref h1, vI ps2_28]], [cQ h1 G.2.1.2.2.2.1 5 Q2_28], stW G (S 0) (cs2_28 0) (Fs2_28 0), stW G (S 1) (cs2_28 1) (Fs2_28 1), stW G (S 2) (cs2_28 2) (Fs2_28 2), stW G (S 3) (cs2_28 3) (Fs2_28 3), stW G (S 4) (cs2_28 4) (Fs2_28 4), [cA g0 G.2.1.1 18 f], [cLg r0 G.2.1.2.2.2.2 64 lr]], (rfl : (11 : Nat) = 11), rfl, Eq.trans (b := ([[cA g0 G.2.1.1 18 f], [cLg r0 G.2.1.2.2.2.2 64 lr]] : List va_W)) rfl rfl, ?_⟩
      show fSt l G X 0 0 31 [(6, vI (f (k + 9))), (5, vI k), (0, .ref x0), (1, .ref g0), (2, .ref r0), (3, vI wy), (4, vI y)] [vI z_28] ([[cO x0 6 [.ref (a 0), .ref h0, .ref o0, .ref u0, .ref e8, .ref e9]], stW G a c2_28 F2_28, [cO h0 0 [.ref h1, vI ps2_28]], [cQ h1 G.2.1.2.2.2.1 5 Q2_28], stW G (S 0) (cs2_28 0) (Fs2_28 0), stW G (S 1) (cs2_28 1) (Fs2_28 1), stW G (S 2) (cs2_28 2) (Fs2_28 2), stW G (S 3) (cs2_28 3) (Fs2_28 3), stW G (S 4) (cs2_28 4) (Fs2_28 4), [cA g0 G.2.1.1 18 f], [cLg r0 G.2.1.2.2.2.2 64 lr]] : List va_W).flatten
      obtain ⟨hE9, hN9⟩ := X_open_no hP hL hq_k (by omega)
      obtain ⟨hz, hf⟩ := Prod.mk.inj (hq1_28.trans hE9)
      have hz := hz.symm
      have hf := hf.symm
      subst hz
      subst hf
      refine s_ldc (z := -1000002) C (by decide +kernel) dL_writes_31 ?_
      refine s_icmp_ne 40 C dL_writes_33 (by decide) (by decide) (by decide) (fun h => absurd h (by decide)) (fun h => ?_)
      refine s_iconst C dL_writes_36 ?_
      refine s_goto 41 C dL_writes_37 (by decide) ?_
      exact s_zret C E dL_writes_41 rfl ⟨c2_28, F2_28, ps2_28, Q2_28, cs2_28, Fs2_28, p2_28, f, P2_28, lr, rfl, rfl, hq0_28, hN9, (hq2_28.mono (by omega))⟩

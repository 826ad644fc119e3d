set_option maxHeartbeats 4000000 in
set_option maxRecDepth 100000 in
theorem c_L_areStandbys (l : Launch) (G : fG) (x0 h0 h1 o0 o1 o2 u0 e8 e9 g0 r0 m0 : Nat) (a : Nat → Nat) (c : Nat → Int) (F : Nat → Int → Int) (ps B : Int) (f U0 U1 : Int → Int) (lr lm : Int → Nat) (hR : RSb f c F) (hP : PI B f) (hL : LR f lr lm) : fCt l G yL_areStandbys wsL_areStandbys 7 158 0 0 [.ref x0, .ref g0, .ref r0, .ref m0] ([[cO x0 6 [.ref (a 0), .ref h0, .ref o0, .ref u0, .ref e8, .ref e9]], stW G a c F, [cO h0 0 [.ref h1, vI ps]], [cO o0 2 [.ref o1, vI 0, vI 0, vI 0, .ref o2, vI 0]], [cA e8 G.2.1.1 24 U0], [cA e9 G.2.1.1 24 U1], [cA g0 G.2.1.1 18 f], [cLg r0 G.2.1.2.2.2.2 64 lr], [cLg m0 G.2.1.2.2.2.2 2 lm]] : List va_W).flatten (fun (v0 : Option Value) (w0 : va_W) => ∃ (U2 U3 : Int → Int), v0 = some (vI 1) ∧ w0 = ([[cO x0 6 [.ref (a 0), .ref h0, .ref o0, .ref u0, .ref e8, .ref e9]], stW G a c F, [cO h0 0 [.ref h1, vI ps]], [cO o0 2 [.ref o1, vI 0, vI 0, vI 0, .ref o2, vI 0]], [cA e8 G.2.1.1 24 U2], [cA e9 G.2.1.1 24 U3], [cA g0 G.2.1.1 18 f], [cLg r0 G.2.1.2.2.2.2 64 lr], [cLg m0 G.2.1.2.2.2.2 2 lm]] : List va_W).flatten) := by
  refine fs_met (cc := cL_areStandbys) (nL := 9) (ret := (some .boolean)) (by decide) rfl (Nat.le_of_ble_eq_true rfl) ?_
  intro X C E
  show fSt l G X 0 0 0 [(0, .ref x0), (1, .ref g0), (2, .ref r0), (3, .ref m0)] [] ([[cO x0 6 [.ref (a 0), .ref h0, .ref o0, .ref u0, .ref e8, .ref e9]], stW G a c F, [cO h0 0 [.ref h1, vI ps]], [cO o0 2 [.ref o1, vI 0, vI 0, vI 0, .ref o2, vI 0]], [cA e8 G.2.1.1 24 U0], [cA e9 G.2.1.1 24 U1], [cA g0 G.2.1.1 18 f], [cLg r0 G.2.1.2.2.2.2 64 lr], [cLg m0 G.2.1.2.2.2.2 2 lm]] : List va_W).flatten
  have hI := hP.1
  have hBl := hP.2.1
  have hBB : B ≤ 1073000000 := by omega
  have hn61 := hP.2.2.1
  have ht9 := hP.2.2.2
  have hn0 := hI.n
  have htk := hI.tk
  refine s_iconst C dL_areStandbys_0 ?_
  refine s_istore [(4, vI 1), (0, .ref x0), (1, .ref g0), (2, .ref r0), (3, .ref m0)] C dL_areStandbys_1 (by decide) rfl ?_
  refine s_iconst C dL_areStandbys_3 ?_
  refine s_istore [(5, vI 0), (4, vI 1), (0, .ref x0), (1, .ref g0), (2, .ref r0), (3, .ref m0)] C dL_areStandbys_4 (by decide) rfl ?_
  have loop_6 : ∀ (fuel : Nat) (b : Int) (V0 V1 : Int → Int), (0 ≤ b ∧ b ≤ 2) → (2 - b < (fuel : Int)) → fSt l G X 0 0 6 [(0, .ref x0), (1, .ref g0), (2, .ref r0), (3, .ref m0), (4, vI 1), (5, vI b)] [] ([[cO x0 6 [.ref (a 0), .ref h0, .ref o0, .ref u0, .ref e8, .ref e9]], stW G a c F, [cO h0 0 [.ref h1, vI ps]], [cO o0 2 [.ref o1, vI 0, vI 0, vI 0, .ref o2, vI 0]], [cA e8 G.2.1.1 24 V0], [cA e9 G.2.1.1 24 V1], [cA g0 G.2.1.1 18 f], [cLg r0 G.2.1.2.2.2.2 64 lr], [cLg m0 G.2.1.2.2.2.2 2 lm]] : List va_W).flatten := by
    intro fuel
    induction fuel with
    | zero =>
      intro b V0 V1 hb hm
      exfalso
      omega
    | succ fuel ih_6 =>
      intro b V0 V1 hb hm
      refine s_iload C dL_areStandbys_6 5 rfl ?_
      refine s_iconst C dL_areStandbys_8 ?_
      refine s_icmp_ge 318 C dL_areStandbys_9 (by decide) (by omega) (by omega) (fun h_9 => ?_) (fun h_9 => ?_)
      · refine s_iload C dL_areStandbys_318 4 rfl ?_
        refine s_if_eq 338 C dL_areStandbys_320 (by decide) (by decide) (fun h => absurd h (by decide)) (fun h => ?_)
        refine s_aload_n 0 C dL_areStandbys_323 rfl 0 rfl ?_
        refine s_iconst C dL_areStandbys_324 ?_
        refine s_iconst C dL_areStandbys_325 ?_
        refine s_callVQ (As := [vI 2, vI 0]) (rest := []) (segs := [[cO x0 6 [.ref (a 0), .ref h0, .ref o0, .ref u0, .ref e8, .ref e9]], stW G a c F, [cO h0 0 [.ref h1, vI ps]], [cO o0 2 [.ref o1, vI 0, vI 0, vI 0, .ref o2, vI 0]], [cA e8 G.2.1.1 24 V0], [cA e9 G.2.1.1 24 V1], [cA g0 G.2.1.1 18 f], [cLg r0 G.2.1.2.2.2.2 64 lr], [cLg m0 G.2.1.2.2.2.2 2 lm]]) C dL_areStandbys_326 (w_X6_standbyOf l G x0 h0 e8 e9 (.ref o0) (.ref u0) a c F B f V0 V1 2 0 (by first | assumption | omega) hI hBB (by first | assumption | omega) (by first | assumption | omega)) gL_areStandbys_X6_standbyOf rfl 2 (by decide +kernel) (by decide) 6 rfl rfl 0 _ rfl rfl [0, 4, 5, 1] [2, 3, 6, 7, 8] 9 (rfl : (9 : Nat) = 9) (by decide +kernel) rfl rfl (Nat.le_of_ble_eq_true rfl) ⟨Nat.zero_le _, Nat.zero_le _⟩ ?_
        intro v0 w0 hq
        obtain ⟨U2_326, U3_326, rfl, rfl⟩ := hq
        refine ⟨(fst_f (fst_c rfl (fst_c (fst_k rfl) (fst_c (fst_k rfl) rfl)))), [[cO x0 6 [.ref (a 0), .ref h0, .ref o0, .ref u0, .ref e8, .ref e9]], stW G a c F, [cO h0 0 [.ref h1, vI ps]], [cO o0 2 [.ref o1, vI 0, vI 0, vI 0, .ref o2, vI 0]], [cA e8 G.2.1.1 24 U2_326], [cA e9 G.2.1.1 24 U3_326], [cA g0 G.2.1.1 18 f], [cLg r0 G.2.1.2.2.2.2 64 lr], [cLg m0 G.2.1.2.2.2.2 2 lm]], (rfl : (9 : Nat) = 9), rfl, Eq.trans (b := ([[cO h0 0 [.ref h1, vI ps]], [cO o0 2 [.ref o1, vI 0, vI 0, vI 0, .ref o2, vI 0]], [cA g0 G.2.1.1 18 f], [cLg r0 G.2.1.2.2.2.2 64 lr], [cLg m0 G.2.1.2.2.2.2 2 lm]] : List va_W)) rfl rfl, ?_⟩
        show fSt l G X 0 0 329 [(0, .ref x0), (1, .ref g0), (2, .ref r0), (3, .ref m0), (4, vI 1), (5, vI b)] [vI (sp_stb f 2 0)] ([[cO x0 6 [.ref (a 0), .ref h0, .ref o0, .ref u0, .ref e8, .ref e9]], stW G a c F, [cO h0 0 [.ref h1, vI ps]], [cO o0 2 [.ref o1, vI 0, vI 0, vI 0, .ref o2, vI 0]], [cA e8 G.2.1.1 24 U2_326], [cA e9 G.2.1.1 24 U3_326], [cA g0 G.2.1.1 18 f], [cLg r0 G.2.1.2.2.2.2 64 lr], [cLg m0 G.2.1.2.2.2.2 2 lm]] : List va_W).flatten
        refine s_top (-1000001) (st_bad (by omega)) ?_
        refine s_ldc (z := -1000001) C (by decide +kernel) dL_areStandbys_329 ?_
        refine s_icmp_ne 338 C dL_areStandbys_331 (by decide) (by decide) (by decide) (fun h => absurd h (by decide)) (fun h => ?_)
        refine s_iconst C dL_areStandbys_334 ?_
        refine s_goto 339 C dL_areStandbys_335 (by decide) ?_
        exact s_zret C E dL_areStandbys_339 rfl ⟨U2_326, U3_326, rfl, rfl⟩
      · refine s_iload C dL_areStandbys_12 4 rfl ?_
        refine s_if_eq 318 C dL_areStandbys_14 (by decide) (by decide) (fun h => absurd h (by decide)) (fun h => ?_)
        have hb1 : 0 ≤ b ∧ b ≤ 1 := by omega
        have hSb := hI.S b (by omega) (by omega)
        have e12 : oS f b 0 = f (3 * b + 12) := congrArg f (by omega)
        have e13 : oS f b 1 = f (3 * b + 13) := congrArg f (by omega)
        have e14 : oS f b 2 = f (3 * b + 14) := congrArg f (by omega)
        have hbm := (hL.b hb1).1
        have hmG := mG_in (f := f) (b := b)
        have hmB := mB_in (f := f) (a := f (3 * b + 13) + 1) (z := f 0) (by omega)
        refine s_bipush (z := 12) C dL_areStandbys_17 rfl ?_
        refine s_iconst C dL_areStandbys_19 ?_
        refine s_iload C dL_areStandbys_20 5 rfl ?_
        refine s_imul C dL_areStandbys_22 ?_
        refine s_iadd C dL_areStandbys_23 ?_
        refine s_istore [(6, vI (12 + (3 * b))), (0, .ref x0), (1, .ref g0), (2, .ref r0), (3, .ref m0), (4, vI 1), (5, vI b)] C dL_areStandbys_24 (by decide) rfl ?_
        refine s_ldc (z := -1000004) C (by decide +kernel) dL_areStandbys_26 ?_
        refine s_istore [(7, vI (-1000004)), (6, vI (12 + (3 * b))), (0, .ref x0), (1, .ref g0), (2, .ref r0), (3, .ref m0), (4, vI 1), (5, vI b)] C dL_areStandbys_28 (by decide) rfl ?_
        refine s_bipush (z := 62) C dL_areStandbys_30 rfl ?_
        refine s_istore [(8, vI 62), (7, vI (-1000004)), (6, vI (12 + (3 * b))), (0, .ref x0), (1, .ref g0), (2, .ref r0), (3, .ref m0), (4, vI 1), (5, vI b)] C dL_areStandbys_32 (by decide) rfl ?_
        have loop_34 : ∀ (fuel : Nat) (k lo : Int), (0 ≤ k ∧ k ≤ 62) → (lwF f b k lo) → (k < (fuel : Int)) → fSt l G X 0 0 34 [(0, .ref x0), (1, .ref g0), (2, .ref r0), (3, .ref m0), (4, vI 1), (5, vI b), (6, vI (12 + (3 * b))), (7, vI lo), (8, vI k)] [] ([[cO x0 6 [.ref (a 0), .ref h0, .ref o0, .ref u0, .ref e8, .ref e9]], stW G a c F, [cO h0 0 [.ref h1, vI ps]], [cO o0 2 [.ref o1, vI 0, vI 0, vI 0, .ref o2, vI 0]], [cA e8 G.2.1.1 24 V0], [cA e9 G.2.1.1 24 V1], [cA g0 G.2.1.1 18 f], [cLg r0 G.2.1.2.2.2.2 64 lr], [cLg m0 G.2.1.2.2.2.2 2 lm]] : List va_W).flatten := by
          intro fuel
          induction fuel with
          | zero =>
            intro k lo hk hlo hm
            exfalso
            omega
          | succ fuel ih_34 =>
            intro k lo hk hlo hm
            refine s_iload C dL_areStandbys_34 8 rfl ?_
            refine s_if_le 68 C dL_areStandbys_36 (by decide) (by omega) (fun h_36 => ?_) (fun h_36 => ?_)
            · have hk0 : k = 0 := by omega
              have hlo0 : lwF f b 0 lo := by rw [← hk0]; exact hlo
              have hlo9 : lo = mW f b := hlo0.done (hP.gz hb1)
              have hlor : lo = -1000004 ∨ (1 ≤ lo ∧ lo ≤ 62 ∧ f (3 * b + 13) < lo) := by
                rcases hlo0 with ⟨a1, -⟩ | ⟨a1, a2, -⟩
                · exact Or.inl a1
                · have a4 := hI.G b lo (by omega) (by omega) (by omega) (by omega)
                  exact Or.inr ⟨by omega, by omega, by omega⟩
              refine s_aload_n 0 C dL_areStandbys_68 rfl 0 rfl ?_
              refine s_iload C dL_areStandbys_69 5 rfl ?_
              refine s_iconst C dL_areStandbys_71 ?_
              refine s_callVQ (As := [vI b, vI 0]) (rest := []) (segs := [[cO x0 6 [.ref (a 0), .ref h0, .ref o0, .ref u0, .ref e8, .ref e9]], stW G a c F, [cO h0 0 [.ref h1, vI ps]], [cO o0 2 [.ref o1, vI 0, vI 0, vI 0, .ref o2, vI 0]], [cA e8 G.2.1.1 24 V0], [cA e9 G.2.1.1 24 V1], [cA g0 G.2.1.1 18 f], [cLg r0 G.2.1.2.2.2.2 64 lr], [cLg m0 G.2.1.2.2.2.2 2 lm]]) C dL_areStandbys_72 (w_X6_standbyOf l G x0 h0 e8 e9 (.ref o0) (.ref u0) a c F B f V0 V1 b 0 (by first | assumption | omega) hI hBB (by first | assumption | omega) (by first | assumption | omega)) gL_areStandbys_X6_standbyOf rfl 2 (by decide +kernel) (by decide) 6 rfl rfl 0 _ rfl rfl [0, 4, 5, 1] [2, 3, 6, 7, 8] 9 (rfl : (9 : Nat) = 9) (by decide +kernel) rfl rfl (Nat.le_of_ble_eq_true rfl) ⟨Nat.zero_le _, Nat.zero_le _⟩ ?_
              intro v0 w0 hq
              obtain ⟨U2_72, U3_72, rfl, rfl⟩ := hq
              refine ⟨(fst_f (fst_c rfl (fst_c (fst_k rfl) (fst_c (fst_k rfl) rfl)))), [[cO x0 6 [.ref (a 0), .ref h0, .ref o0, .ref u0, .ref e8, .ref e9]], stW G a c F, [cO h0 0 [.ref h1, vI ps]], [cO o0 2 [.ref o1, vI 0, vI 0, vI 0, .ref o2, vI 0]], [cA e8 G.2.1.1 24 U2_72], [cA e9 G.2.1.1 24 U3_72], [cA g0 G.2.1.1 18 f], [cLg r0 G.2.1.2.2.2.2 64 lr], [cLg m0 G.2.1.2.2.2.2 2 lm]], (rfl : (9 : Nat) = 9), rfl, Eq.trans (b := ([[cO h0 0 [.ref h1, vI ps]], [cO o0 2 [.ref o1, vI 0, vI 0, vI 0, .ref o2, vI 0]], [cA g0 G.2.1.1 18 f], [cLg r0 G.2.1.2.2.2.2 64 lr], [cLg m0 G.2.1.2.2.2.2 2 lm]] : List va_W)) rfl rfl, ?_⟩
              show fSt l G X 0 0 75 [(0, .ref x0), (1, .ref g0), (2, .ref r0), (3, .ref m0), (4, vI 1), (5, vI b), (6, vI (12 + (3 * b))), (7, vI lo), (8, vI k)] [vI (sp_stb f b 0)] ([[cO x0 6 [.ref (a 0), .ref h0, .ref o0, .ref u0, .ref e8, .ref e9]], stW G a c F, [cO h0 0 [.ref h1, vI ps]], [cO o0 2 [.ref o1, vI 0, vI 0, vI 0, .ref o2, vI 0]], [cA e8 G.2.1.1 24 U2_72], [cA e9 G.2.1.1 24 U3_72], [cA g0 G.2.1.1 18 f], [cLg r0 G.2.1.2.2.2.2 64 lr], [cLg m0 G.2.1.2.2.2.2 2 lm]] : List va_W).flatten
              refine s_top (f (3 * b + 12)) (st_0 hb1) ?_
              refine s_aload_n 1 C dL_areStandbys_75 rfl 1 rfl ?_
              refine s_iload C dL_areStandbys_76 6 rfl ?_
              refine s_iald C dL_areStandbys_78 17 rfl (3 * b + 12) (by omega) (by omega) (by omega) (by omega) ?_
              refine s_icmp_ne 248 C dL_areStandbys_79 (by decide) (hI.rf _) (hI.rf _) (fun h => absurd (by omega) h) (fun _ => ?_)
              refine s_aload_n 0 C dL_areStandbys_82 rfl 0 rfl ?_
              refine s_iload C dL_areStandbys_83 5 rfl ?_
              refine s_iconst C dL_areStandbys_85 ?_
              refine s_callVQ (As := [vI b, vI 1]) (rest := []) (segs := [[cO x0 6 [.ref (a 0), .ref h0, .ref o0, .ref u0, .ref e8, .ref e9]], stW G a c F, [cO h0 0 [.ref h1, vI ps]], [cO o0 2 [.ref o1, vI 0, vI 0, vI 0, .ref o2, vI 0]], [cA e8 G.2.1.1 24 U2_72], [cA e9 G.2.1.1 24 U3_72], [cA g0 G.2.1.1 18 f], [cLg r0 G.2.1.2.2.2.2 64 lr], [cLg m0 G.2.1.2.2.2.2 2 lm]]) C dL_areStandbys_86 (w_X6_standbyOf l G x0 h0 e8 e9 (.ref o0) (.ref u0) a c F B f U2_72 U3_72 b 1 (by first | assumption | omega) hI hBB (by first | assumption | omega) (by first | assumption | omega)) gL_areStandbys_X6_standbyOf rfl 2 (by decide +kernel) (by decide) 6 rfl rfl 0 _ rfl rfl [0, 4, 5, 1] [2, 3, 6, 7, 8] 9 (rfl : (9 : Nat) = 9) (by decide +kernel) rfl rfl (Nat.le_of_ble_eq_true rfl) ⟨Nat.zero_le _, Nat.zero_le _⟩ ?_
              intro v0 w0 hq
              obtain ⟨U2_86, U3_86, rfl, rfl⟩ := hq
              refine ⟨(fst_f (fst_c rfl (fst_c (fst_k rfl) (fst_c (fst_k rfl) rfl)))), [[cO x0 6 [.ref (a 0), .ref h0, .ref o0, .ref u0, .ref e8, .ref e9]], stW G a c F, [cO h0 0 [.ref h1, vI ps]], [cO o0 2 [.ref o1, vI 0, vI 0, vI 0, .ref o2, vI 0]], [cA e8 G.2.1.1 24 U2_86], [cA e9 G.2.1.1 24 U3_86], [cA g0 G.2.1.1 18 f], [cLg r0 G.2.1.2.2.2.2 64 lr], [cLg m0 G.2.1.2.2.2.2 2 lm]], (rfl : (9 : Nat) = 9), rfl, Eq.trans (b := ([[cO h0 0 [.ref h1, vI ps]], [cO o0 2 [.ref o1, vI 0, vI 0, vI 0, .ref o2, vI 0]], [cA g0 G.2.1.1 18 f], [cLg r0 G.2.1.2.2.2.2 64 lr], [cLg m0 G.2.1.2.2.2.2 2 lm]] : List va_W)) rfl rfl, ?_⟩
              show fSt l G X 0 0 89 [(0, .ref x0), (1, .ref g0), (2, .ref r0), (3, .ref m0), (4, vI 1), (5, vI b), (6, vI (12 + (3 * b))), (7, vI lo), (8, vI k)] [vI (sp_stb f b 1)] ([[cO x0 6 [.ref (a 0), .ref h0, .ref o0, .ref u0, .ref e8, .ref e9]], stW G a c F, [cO h0 0 [.ref h1, vI ps]], [cO o0 2 [.ref o1, vI 0, vI 0, vI 0, .ref o2, vI 0]], [cA e8 G.2.1.1 24 U2_86], [cA e9 G.2.1.1 24 U3_86], [cA g0 G.2.1.1 18 f], [cLg r0 G.2.1.2.2.2.2 64 lr], [cLg m0 G.2.1.2.2.2.2 2 lm]] : List va_W).flatten
              refine s_top (f (3 * b + 13)) (st_1 hb1) ?_
              refine s_aload_n 1 C dL_areStandbys_89 rfl 1 rfl ?_
              refine s_iload C dL_areStandbys_90 6 rfl ?_
              refine s_iconst C dL_areStandbys_92 ?_
              refine s_iadd C dL_areStandbys_93 ?_
              refine s_iald C dL_areStandbys_94 17 rfl (3 * b + 13) (by omega) (by omega) (by omega) (by omega) ?_
              refine s_icmp_ne 248 C dL_areStandbys_95 (by decide) (hI.rf _) (hI.rf _) (fun h => absurd (by omega) h) (fun _ => ?_)
              refine s_aload_n 0 C dL_areStandbys_98 rfl 0 rfl ?_
              refine s_iload C dL_areStandbys_99 5 rfl ?_
              refine s_iconst C dL_areStandbys_101 ?_
              refine s_callVQ (As := [vI b, vI 2]) (rest := []) (segs := [[cO x0 6 [.ref (a 0), .ref h0, .ref o0, .ref u0, .ref e8, .ref e9]], stW G a c F, [cO h0 0 [.ref h1, vI ps]], [cO o0 2 [.ref o1, vI 0, vI 0, vI 0, .ref o2, vI 0]], [cA e8 G.2.1.1 24 U2_86], [cA e9 G.2.1.1 24 U3_86], [cA g0 G.2.1.1 18 f], [cLg r0 G.2.1.2.2.2.2 64 lr], [cLg m0 G.2.1.2.2.2.2 2 lm]]) C dL_areStandbys_102 (w_X6_standbyOf l G x0 h0 e8 e9 (.ref o0) (.ref u0) a c F B f U2_86 U3_86 b 2 (by first | assumption | omega) hI hBB (by first | assumption | omega) (by first | assumption | omega)) gL_areStandbys_X6_standbyOf rfl 2 (by decide +kernel) (by decide) 6 rfl rfl 0 _ rfl rfl [0, 4, 5, 1] [2, 3, 6, 7, 8] 9 (rfl : (9 : Nat) = 9) (by decide +kernel) rfl rfl (Nat.le_of_ble_eq_true rfl) ⟨Nat.zero_le _, Nat.zero_le _⟩ ?_
              intro v0 w0 hq
              obtain ⟨U2_102, U3_102, rfl, rfl⟩ := hq
              refine ⟨(fst_f (fst_c rfl (fst_c (fst_k rfl) (fst_c (fst_k rfl) rfl)))), [[cO x0 6 [.ref (a 0), .ref h0, .ref o0, .ref u0, .ref e8, .ref e9]], stW G a c F, [cO h0 0 [.ref h1, vI ps]], [cO o0 2 [.ref o1, vI 0, vI 0, vI 0, .ref o2, vI 0]], [cA e8 G.2.1.1 24 U2_102], [cA e9 G.2.1.1 24 U3_102], [cA g0 G.2.1.1 18 f], [cLg r0 G.2.1.2.2.2.2 64 lr], [cLg m0 G.2.1.2.2.2.2 2 lm]], (rfl : (9 : Nat) = 9), rfl, Eq.trans (b := ([[cO h0 0 [.ref h1, vI ps]], [cO o0 2 [.ref o1, vI 0, vI 0, vI 0, .ref o2, vI 0]], [cA g0 G.2.1.1 18 f], [cLg r0 G.2.1.2.2.2.2 64 lr], [cLg m0 G.2.1.2.2.2.2 2 lm]] : List va_W)) rfl rfl, ?_⟩
              show fSt l G X 0 0 105 [(0, .ref x0), (1, .ref g0), (2, .ref r0), (3, .ref m0), (4, vI 1), (5, vI b), (6, vI (12 + (3 * b))), (7, vI lo), (8, vI k)] [vI (sp_stb f b 2)] ([[cO x0 6 [.ref (a 0), .ref h0, .ref o0, .ref u0, .ref e8, .ref e9]], stW G a c F, [cO h0 0 [.ref h1, vI ps]], [cO o0 2 [.ref o1, vI 0, vI 0, vI 0, .ref o2, vI 0]], [cA e8 G.2.1.1 24 U2_102], [cA e9 G.2.1.1 24 U3_102], [cA g0 G.2.1.1 18 f], [cLg r0 G.2.1.2.2.2.2 64 lr], [cLg m0 G.2.1.2.2.2.2 2 lm]] : List va_W).flatten
              refine s_top (mG f b) (st_2 hb1) ?_
              refine s_aload_n 3 C dL_areStandbys_105 rfl 3 rfl ?_
              refine s_iload C dL_areStandbys_106 5 rfl ?_
              refine s_lald C dL_areStandbys_108 19 rfl b rfl (by omega) (by omega) (by omega) ?_
              refine s_callSQ (As := [vLg (lm b)]) (rest := [vI (mG f b)]) (segs := [[cO x0 6 [.ref (a 0), .ref h0, .ref o0, .ref u0, .ref e8, .ref e9]], stW G a c F, [cO h0 0 [.ref h1, vI ps]], [cO o0 2 [.ref o1, vI 0, vI 0, vI 0, .ref o2, vI 0]], [cA e8 G.2.1.1 24 U2_102], [cA e9 G.2.1.1 24 U3_102], [cA g0 G.2.1.1 18 f], [cLg r0 G.2.1.2.2.2.2 64 lr], [cLg m0 G.2.1.2.2.2.2 2 lm]]) C dL_areStandbys_109 (c_L_ones l G (lm b) hbm) gL_areStandbys_L_ones rfl 1 (by decide +kernel) (by decide) [] [0, 1, 2, 3, 4, 5, 6, 7, 8] 9 (rfl : (9 : Nat) = 9) (by decide +kernel) rfl rfl (Nat.le_of_ble_eq_true rfl) ⟨Nat.zero_le _, Nat.zero_le _⟩ ?_
              intro v0 w0 hq
              obtain ⟨rfl, rfl⟩ := hq
              refine ⟨rfl, [[cO x0 6 [.ref (a 0), .ref h0, .ref o0, .ref u0, .ref e8, .ref e9]], stW G a c F, [cO h0 0 [.ref h1, vI ps]], [cO o0 2 [.ref o1, vI 0, vI 0, vI 0, .ref o2, vI 0]], [cA e8 G.2.1.1 24 U2_102], [cA e9 G.2.1.1 24 U3_102], [cA g0 G.2.1.1 18 f], [cLg r0 G.2.1.2.2.2.2 64 lr], [cLg m0 G.2.1.2.2.2.2 2 lm]], (rfl : (9 : Nat) = 9), rfl, Eq.trans (b := ([[cO x0 6 [.ref (a 0), .ref h0, .ref o0, .ref u0, .ref e8, .ref e9]], stW G a c F, [cO h0 0 [.ref h1, vI ps]], [cO o0 2 [.ref o1, vI 0, vI 0, vI 0, .ref o2, vI 0]], [cA e8 G.2.1.1 24 U2_102], [cA e9 G.2.1.1 24 U3_102], [cA g0 G.2.1.1 18 f], [cLg r0 G.2.1.2.2.2.2 64 lr], [cLg m0 G.2.1.2.2.2.2 2 lm]] : List va_W)) rfl rfl, ?_⟩
              show fSt l G X 0 0 112 [(0, .ref x0), (1, .ref g0), (2, .ref r0), (3, .ref m0), (4, vI 1), (5, vI b), (6, vI (12 + (3 * b))), (7, vI lo), (8, vI k)] [vI ((pcN 62 (lm b) : Nat) : Int), vI (mG f b)] ([[cO x0 6 [.ref (a 0), .ref h0, .ref o0, .ref u0, .ref e8, .ref e9]], stW G a c F, [cO h0 0 [.ref h1, vI ps]], [cO o0 2 [.ref o1, vI 0, vI 0, vI 0, .ref o2, vI 0]], [cA e8 G.2.1.1 24 U2_102], [cA e9 G.2.1.1 24 U3_102], [cA g0 G.2.1.1 18 f], [cLg r0 G.2.1.2.2.2.2 64 lr], [cLg m0 G.2.1.2.2.2.2 2 lm]] : List va_W).flatten
              refine s_top (mG f b) (hP.ones hL hb1) ?_
              refine s_icmp_ne 248 C dL_areStandbys_112 (by decide) (by omega) (by omega) (fun h => absurd (by omega) h) (fun _ => ?_)
              refine s_aload_n 0 C dL_areStandbys_115 rfl 0 rfl ?_
              refine s_iload C dL_areStandbys_116 5 rfl ?_
              refine s_iconst C dL_areStandbys_118 ?_
              refine s_callVQ (As := [vI b, vI 3]) (rest := []) (segs := [[cO x0 6 [.ref (a 0), .ref h0, .ref o0, .ref u0, .ref e8, .ref e9]], stW G a c F, [cO h0 0 [.ref h1, vI ps]], [cO o0 2 [.ref o1, vI 0, vI 0, vI 0, .ref o2, vI 0]], [cA e8 G.2.1.1 24 U2_102], [cA e9 G.2.1.1 24 U3_102], [cA g0 G.2.1.1 18 f], [cLg r0 G.2.1.2.2.2.2 64 lr], [cLg m0 G.2.1.2.2.2.2 2 lm]]) C dL_areStandbys_119 (w_X6_standbyOf l G x0 h0 e8 e9 (.ref o0) (.ref u0) a c F B f U2_102 U3_102 b 3 (by first | assumption | omega) hI hBB (by first | assumption | omega) (by first | assumption | omega)) gL_areStandbys_X6_standbyOf rfl 2 (by decide +kernel) (by decide) 6 rfl rfl 0 _ rfl rfl [0, 4, 5, 1] [2, 3, 6, 7, 8] 9 (rfl : (9 : Nat) = 9) (by decide +kernel) rfl rfl (Nat.le_of_ble_eq_true rfl) ⟨Nat.zero_le _, Nat.zero_le _⟩ ?_
              intro v0 w0 hq
              obtain ⟨U2_119, U3_119, rfl, rfl⟩ := hq
              refine ⟨(fst_f (fst_c rfl (fst_c (fst_k rfl) (fst_c (fst_k rfl) rfl)))), [[cO x0 6 [.ref (a 0), .ref h0, .ref o0, .ref u0, .ref e8, .ref e9]], stW G a c F, [cO h0 0 [.ref h1, vI ps]], [cO o0 2 [.ref o1, vI 0, vI 0, vI 0, .ref o2, vI 0]], [cA e8 G.2.1.1 24 U2_119], [cA e9 G.2.1.1 24 U3_119], [cA g0 G.2.1.1 18 f], [cLg r0 G.2.1.2.2.2.2 64 lr], [cLg m0 G.2.1.2.2.2.2 2 lm]], (rfl : (9 : Nat) = 9), rfl, Eq.trans (b := ([[cO h0 0 [.ref h1, vI ps]], [cO o0 2 [.ref o1, vI 0, vI 0, vI 0, .ref o2, vI 0]], [cA g0 G.2.1.1 18 f], [cLg r0 G.2.1.2.2.2.2 64 lr], [cLg m0 G.2.1.2.2.2.2 2 lm]] : List va_W)) rfl rfl, ?_⟩
              show fSt l G X 0 0 122 [(0, .ref x0), (1, .ref g0), (2, .ref r0), (3, .ref m0), (4, vI 1), (5, vI b), (6, vI (12 + (3 * b))), (7, vI lo), (8, vI k)] [vI (sp_stb f b 3)] ([[cO x0 6 [.ref (a 0), .ref h0, .ref o0, .ref u0, .ref e8, .ref e9]], stW G a c F, [cO h0 0 [.ref h1, vI ps]], [cO o0 2 [.ref o1, vI 0, vI 0, vI 0, .ref o2, vI 0]], [cA e8 G.2.1.1 24 U2_119], [cA e9 G.2.1.1 24 U3_119], [cA g0 G.2.1.1 18 f], [cLg r0 G.2.1.2.2.2.2 64 lr], [cLg m0 G.2.1.2.2.2.2 2 lm]] : List va_W).flatten
              refine s_top lo ((st_3 hb1).trans hlo9.symm) ?_
              refine s_iload C dL_areStandbys_122 7 rfl ?_
              refine s_icmp_ne 248 C dL_areStandbys_124 (by decide) (by omega) (by omega) (fun h => absurd (by omega) h) (fun _ => ?_)
              refine s_aload_n 0 C dL_areStandbys_127 rfl 0 rfl ?_
              refine s_iload C dL_areStandbys_128 5 rfl ?_
              refine s_iconst C dL_areStandbys_130 ?_
              refine s_callVQ (As := [vI b, vI 4]) (rest := []) (segs := [[cO x0 6 [.ref (a 0), .ref h0, .ref o0, .ref u0, .ref e8, .ref e9]], stW G a c F, [cO h0 0 [.ref h1, vI ps]], [cO o0 2 [.ref o1, vI 0, vI 0, vI 0, .ref o2, vI 0]], [cA e8 G.2.1.1 24 U2_119], [cA e9 G.2.1.1 24 U3_119], [cA g0 G.2.1.1 18 f], [cLg r0 G.2.1.2.2.2.2 64 lr], [cLg m0 G.2.1.2.2.2.2 2 lm]]) C dL_areStandbys_131 (w_X6_standbyOf l G x0 h0 e8 e9 (.ref o0) (.ref u0) a c F B f U2_119 U3_119 b 4 (by first | assumption | omega) hI hBB (by first | assumption | omega) (by first | assumption | omega)) gL_areStandbys_X6_standbyOf rfl 2 (by decide +kernel) (by decide) 6 rfl rfl 0 _ rfl rfl [0, 4, 5, 1] [2, 3, 6, 7, 8] 9 (rfl : (9 : Nat) = 9) (by decide +kernel) rfl rfl (Nat.le_of_ble_eq_true rfl) ⟨Nat.zero_le _, Nat.zero_le _⟩ ?_
              intro v0 w0 hq
              obtain ⟨U2_131, U3_131, rfl, rfl⟩ := hq
              refine ⟨(fst_f (fst_c rfl (fst_c (fst_k rfl) (fst_c (fst_k rfl) rfl)))), [[cO x0 6 [.ref (a 0), .ref h0, .ref o0, .ref u0, .ref e8, .ref e9]], stW G a c F, [cO h0 0 [.ref h1, vI ps]], [cO o0 2 [.ref o1, vI 0, vI 0, vI 0, .ref o2, vI 0]], [cA e8 G.2.1.1 24 U2_131], [cA e9 G.2.1.1 24 U3_131], [cA g0 G.2.1.1 18 f], [cLg r0 G.2.1.2.2.2.2 64 lr], [cLg m0 G.2.1.2.2.2.2 2 lm]], (rfl : (9 : Nat) = 9), rfl, Eq.trans (b := ([[cO h0 0 [.ref h1, vI ps]], [cO o0 2 [.ref o1, vI 0, vI 0, vI 0, .ref o2, vI 0]], [cA g0 G.2.1.1 18 f], [cLg r0 G.2.1.2.2.2.2 64 lr], [cLg m0 G.2.1.2.2.2.2 2 lm]] : List va_W)) rfl rfl, ?_⟩
              show fSt l G X 0 0 134 [(0, .ref x0), (1, .ref g0), (2, .ref r0), (3, .ref m0), (4, vI 1), (5, vI b), (6, vI (12 + (3 * b))), (7, vI lo), (8, vI k)] [vI (sp_stb f b 4)] ([[cO x0 6 [.ref (a 0), .ref h0, .ref o0, .ref u0, .ref e8, .ref e9]], stW G a c F, [cO h0 0 [.ref h1, vI ps]], [cO o0 2 [.ref o1, vI 0, vI 0, vI 0, .ref o2, vI 0]], [cA e8 G.2.1.1 24 U2_131], [cA e9 G.2.1.1 24 U3_131], [cA g0 G.2.1.1 18 f], [cLg r0 G.2.1.2.2.2.2 64 lr], [cLg m0 G.2.1.2.2.2.2 2 lm]] : List va_W).flatten
              refine s_top (f (3 * b + 14)) (st_4 hb1) ?_
              refine s_aload_n 1 C dL_areStandbys_134 rfl 1 rfl ?_
              refine s_iload C dL_areStandbys_135 6 rfl ?_
              refine s_iconst C dL_areStandbys_137 ?_
              refine s_iadd C dL_areStandbys_138 ?_
              refine s_iald C dL_areStandbys_139 17 rfl (3 * b + 14) (by omega) (by omega) (by omega) (by omega) ?_
              refine s_icmp_ne 248 C dL_areStandbys_140 (by decide) (hI.rf _) (hI.rf _) (fun h => absurd (by omega) h) (fun _ => ?_)
              refine s_aload_n 0 C dL_areStandbys_143 rfl 0 rfl ?_
              refine s_iload C dL_areStandbys_144 5 rfl ?_
              refine s_iconst C dL_areStandbys_146 ?_
              refine s_callVQ (As := [vI b, vI 5]) (rest := []) (segs := [[cO x0 6 [.ref (a 0), .ref h0, .ref o0, .ref u0, .ref e8, .ref e9]], stW G a c F, [cO h0 0 [.ref h1, vI ps]], [cO o0 2 [.ref o1, vI 0, vI 0, vI 0, .ref o2, vI 0]], [cA e8 G.2.1.1 24 U2_131], [cA e9 G.2.1.1 24 U3_131], [cA g0 G.2.1.1 18 f], [cLg r0 G.2.1.2.2.2.2 64 lr], [cLg m0 G.2.1.2.2.2.2 2 lm]]) C dL_areStandbys_147 (w_X6_standbyOf l G x0 h0 e8 e9 (.ref o0) (.ref u0) a c F B f U2_131 U3_131 b 5 (by first | assumption | omega) hI hBB (by first | assumption | omega) (by first | assumption | omega)) gL_areStandbys_X6_standbyOf rfl 2 (by decide +kernel) (by decide) 6 rfl rfl 0 _ rfl rfl [0, 4, 5, 1] [2, 3, 6, 7, 8] 9 (rfl : (9 : Nat) = 9) (by decide +kernel) rfl rfl (Nat.le_of_ble_eq_true rfl) ⟨Nat.zero_le _, Nat.zero_le _⟩ ?_
              intro v0 w0 hq
              obtain ⟨U2_147, U3_147, rfl, rfl⟩ := hq
              refine ⟨(fst_f (fst_c rfl (fst_c (fst_k rfl) (fst_c (fst_k rfl) rfl)))), [[cO x0 6 [.ref (a 0), .ref h0, .ref o0, .ref u0, .ref e8, .ref e9]], stW G a c F, [cO h0 0 [.ref h1, vI ps]], [cO o0 2 [.ref o1, vI 0, vI 0, vI 0, .ref o2, vI 0]], [cA e8 G.2.1.1 24 U2_147], [cA e9 G.2.1.1 24 U3_147], [cA g0 G.2.1.1 18 f], [cLg r0 G.2.1.2.2.2.2 64 lr], [cLg m0 G.2.1.2.2.2.2 2 lm]], (rfl : (9 : Nat) = 9), rfl, Eq.trans (b := ([[cO h0 0 [.ref h1, vI ps]], [cO o0 2 [.ref o1, vI 0, vI 0, vI 0, .ref o2, vI 0]], [cA g0 G.2.1.1 18 f], [cLg r0 G.2.1.2.2.2.2 64 lr], [cLg m0 G.2.1.2.2.2.2 2 lm]] : List va_W)) rfl rfl, ?_⟩
              show fSt l G X 0 0 150 [(0, .ref x0), (1, .ref g0), (2, .ref r0), (3, .ref m0), (4, vI 1), (5, vI b), (6, vI (12 + (3 * b))), (7, vI lo), (8, vI k)] [vI (sp_stb f b 5)] ([[cO x0 6 [.ref (a 0), .ref h0, .ref o0, .ref u0, .ref e8, .ref e9]], stW G a c F, [cO h0 0 [.ref h1, vI ps]], [cO o0 2 [.ref o1, vI 0, vI 0, vI 0, .ref o2, vI 0]], [cA e8 G.2.1.1 24 U2_147], [cA e9 G.2.1.1 24 U3_147], [cA g0 G.2.1.1 18 f], [cLg r0 G.2.1.2.2.2.2 64 lr], [cLg m0 G.2.1.2.2.2.2 2 lm]] : List va_W).flatten
              refine s_top (f 0 - f (3 * b + 13)) (st_5 hb1) ?_
              refine s_aload_n 1 C dL_areStandbys_150 rfl 1 rfl ?_
              refine s_iconst C dL_areStandbys_151 ?_
              refine s_iald C dL_areStandbys_152 17 rfl 0 rfl (by omega) (by omega) (by omega) ?_
              refine s_aload_n 1 C dL_areStandbys_153 rfl 1 rfl ?_
              refine s_iload C dL_areStandbys_154 6 rfl ?_
              refine s_iconst C dL_areStandbys_156 ?_
              refine s_iadd C dL_areStandbys_157 ?_
              refine s_iald C dL_areStandbys_158 17 rfl (3 * b + 13) (by omega) (by omega) (by omega) (by omega) ?_
              refine s_isub C dL_areStandbys_159 ?_
              refine s_icmp_ne 248 C dL_areStandbys_160 (by decide) (by omega) (by omega) (fun h => absurd (by omega) h) (fun _ => ?_)
              refine s_aload_n 0 C dL_areStandbys_163 rfl 0 rfl ?_
              refine s_iload C dL_areStandbys_164 5 rfl ?_
              refine s_bipush (z := 6) C dL_areStandbys_166 rfl ?_
              refine s_callVQ (As := [vI b, vI 6]) (rest := []) (segs := [[cO x0 6 [.ref (a 0), .ref h0, .ref o0, .ref u0, .ref e8, .ref e9]], stW G a c F, [cO h0 0 [.ref h1, vI ps]], [cO o0 2 [.ref o1, vI 0, vI 0, vI 0, .ref o2, vI 0]], [cA e8 G.2.1.1 24 U2_147], [cA e9 G.2.1.1 24 U3_147], [cA g0 G.2.1.1 18 f], [cLg r0 G.2.1.2.2.2.2 64 lr], [cLg m0 G.2.1.2.2.2.2 2 lm]]) C dL_areStandbys_168 (w_X6_standbyOf l G x0 h0 e8 e9 (.ref o0) (.ref u0) a c F B f U2_147 U3_147 b 6 (by first | assumption | omega) hI hBB (by first | assumption | omega) (by first | assumption | omega)) gL_areStandbys_X6_standbyOf rfl 2 (by decide +kernel) (by decide) 6 rfl rfl 0 _ rfl rfl [0, 4, 5, 1] [2, 3, 6, 7, 8] 9 (rfl : (9 : Nat) = 9) (by decide +kernel) rfl rfl (Nat.le_of_ble_eq_true rfl) ⟨Nat.zero_le _, Nat.zero_le _⟩ ?_
              intro v0 w0 hq
              obtain ⟨U2_168, U3_168, rfl, rfl⟩ := hq
              refine ⟨(fst_f (fst_c rfl (fst_c (fst_k rfl) (fst_c (fst_k rfl) rfl)))), [[cO x0 6 [.ref (a 0), .ref h0, .ref o0, .ref u0, .ref e8, .ref e9]], stW G a c F, [cO h0 0 [.ref h1, vI ps]], [cO o0 2 [.ref o1, vI 0, vI 0, vI 0, .ref o2, vI 0]], [cA e8 G.2.1.1 24 U2_168], [cA e9 G.2.1.1 24 U3_168], [cA g0 G.2.1.1 18 f], [cLg r0 G.2.1.2.2.2.2 64 lr], [cLg m0 G.2.1.2.2.2.2 2 lm]], (rfl : (9 : Nat) = 9), rfl, Eq.trans (b := ([[cO h0 0 [.ref h1, vI ps]], [cO o0 2 [.ref o1, vI 0, vI 0, vI 0, .ref o2, vI 0]], [cA g0 G.2.1.1 18 f], [cLg r0 G.2.1.2.2.2.2 64 lr], [cLg m0 G.2.1.2.2.2.2 2 lm]] : List va_W)) rfl rfl, ?_⟩
              show fSt l G X 0 0 171 [(0, .ref x0), (1, .ref g0), (2, .ref r0), (3, .ref m0), (4, vI 1), (5, vI b), (6, vI (12 + (3 * b))), (7, vI lo), (8, vI k)] [vI (sp_stb f b 6)] ([[cO x0 6 [.ref (a 0), .ref h0, .ref o0, .ref u0, .ref e8, .ref e9]], stW G a c F, [cO h0 0 [.ref h1, vI ps]], [cO o0 2 [.ref o1, vI 0, vI 0, vI 0, .ref o2, vI 0]], [cA e8 G.2.1.1 24 U2_168], [cA e9 G.2.1.1 24 U3_168], [cA g0 G.2.1.1 18 f], [cLg r0 G.2.1.2.2.2.2 64 lr], [cLg m0 G.2.1.2.2.2.2 2 lm]] : List va_W).flatten
              refine s_top (mB f (f (3 * b + 13) + 1) (f 0)) (st_6 hb1) ?_
              refine s_aload_n 2 C dL_areStandbys_171 rfl 2 rfl ?_
              refine s_aload_n 1 C dL_areStandbys_172 rfl 1 rfl ?_
              refine s_iload C dL_areStandbys_173 6 rfl ?_
              refine s_iconst C dL_areStandbys_175 ?_
              refine s_iadd C dL_areStandbys_176 ?_
              refine s_iald C dL_areStandbys_177 17 rfl (3 * b + 13) (by omega) (by omega) (by omega) (by omega) ?_
              refine s_aload_n 1 C dL_areStandbys_178 rfl 1 rfl ?_
              refine s_iconst C dL_areStandbys_179 ?_
              refine s_iald C dL_areStandbys_180 17 rfl 0 rfl (by omega) (by omega) (by omega) ?_
              refine s_callSQ (As := [.ref r0, vI (f (3 * b + 13)), vI (f 0)]) (rest := [vI (mB f (f (3 * b + 13) + 1) (f 0))]) (segs := [[cO x0 6 [.ref (a 0), .ref h0, .ref o0, .ref u0, .ref e8, .ref e9]], stW G a c F, [cO h0 0 [.ref h1, vI ps]], [cO o0 2 [.ref o1, vI 0, vI 0, vI 0, .ref o2, vI 0]], [cA e8 G.2.1.1 24 U2_168], [cA e9 G.2.1.1 24 U3_168], [cA g0 G.2.1.1 18 f], [cLg r0 G.2.1.2.2.2.2 64 lr], [cLg m0 G.2.1.2.2.2.2 2 lm]]) C dL_areStandbys_181 (c_L_commits l G r0 lr f B (f (3 * b + 13)) (f 0) hP hL.1 (by first | assumption | omega) (by first | assumption | omega)) gL_areStandbys_L_commits rfl 3 (by decide +kernel) (by decide) [7] [0, 1, 2, 3, 4, 5, 6, 8] 9 (rfl : (9 : Nat) = 9) (by decide +kernel) rfl rfl (Nat.le_of_ble_eq_true rfl) ⟨Nat.zero_le _, Nat.zero_le _⟩ ?_
              intro v0 w0 hq
              obtain ⟨rfl, rfl⟩ := hq
              refine ⟨rfl, [[cO x0 6 [.ref (a 0), .ref h0, .ref o0, .ref u0, .ref e8, .ref e9]], stW G a c F, [cO h0 0 [.ref h1, vI ps]], [cO o0 2 [.ref o1, vI 0, vI 0, vI 0, .ref o2, vI 0]], [cA e8 G.2.1.1 24 U2_168], [cA e9 G.2.1.1 24 U3_168], [cA g0 G.2.1.1 18 f], [cLg r0 G.2.1.2.2.2.2 64 lr], [cLg m0 G.2.1.2.2.2.2 2 lm]], (rfl : (9 : Nat) = 9), rfl, Eq.trans (b := ([[cO x0 6 [.ref (a 0), .ref h0, .ref o0, .ref u0, .ref e8, .ref e9]], stW G a c F, [cO h0 0 [.ref h1, vI ps]], [cO o0 2 [.ref o1, vI 0, vI 0, vI 0, .ref o2, vI 0]], [cA e8 G.2.1.1 24 U2_168], [cA e9 G.2.1.1 24 U3_168], [cA g0 G.2.1.1 18 f], [cLg m0 G.2.1.2.2.2.2 2 lm]] : List va_W)) rfl rfl, ?_⟩
              show fSt l G X 0 0 184 [(0, .ref x0), (1, .ref g0), (2, .ref r0), (3, .ref m0), (4, vI 1), (5, vI b), (6, vI (12 + (3 * b))), (7, vI lo), (8, vI k)] [vI (mB f ((f (3 * b + 13)) + 1) (f 0)), vI (mB f (f (3 * b + 13) + 1) (f 0))] ([[cO x0 6 [.ref (a 0), .ref h0, .ref o0, .ref u0, .ref e8, .ref e9]], stW G a c F, [cO h0 0 [.ref h1, vI ps]], [cO o0 2 [.ref o1, vI 0, vI 0, vI 0, .ref o2, vI 0]], [cA e8 G.2.1.1 24 U2_168], [cA e9 G.2.1.1 24 U3_168], [cA g0 G.2.1.1 18 f], [cLg r0 G.2.1.2.2.2.2 64 lr], [cLg m0 G.2.1.2.2.2.2 2 lm]] : List va_W).flatten
              refine s_icmp_ne 248 C dL_areStandbys_184 (by decide) (by omega) (by omega) (fun h_184 => ?_) (fun h_184 => ?_)
              · exfalso
                omega
              · refine s_aload_n 0 C dL_areStandbys_187 rfl 0 rfl ?_
                refine s_iload C dL_areStandbys_188 5 rfl ?_
                refine s_bipush (z := 7) C dL_areStandbys_190 rfl ?_
                refine s_callVQ (As := [vI b, vI 7]) (rest := []) (segs := [[cO x0 6 [.ref (a 0), .ref h0, .ref o0, .ref u0, .ref e8, .ref e9]], stW G a c F, [cO h0 0 [.ref h1, vI ps]], [cO o0 2 [.ref o1, vI 0, vI 0, vI 0, .ref o2, vI 0]], [cA e8 G.2.1.1 24 U2_168], [cA e9 G.2.1.1 24 U3_168], [cA g0 G.2.1.1 18 f], [cLg r0 G.2.1.2.2.2.2 64 lr], [cLg m0 G.2.1.2.2.2.2 2 lm]]) C dL_areStandbys_192 (w_X6_standbyOf l G x0 h0 e8 e9 (.ref o0) (.ref u0) a c F B f U2_168 U3_168 b 7 (by first | assumption | omega) hI hBB (by first | assumption | omega) (by first | assumption | omega)) gL_areStandbys_X6_standbyOf rfl 2 (by decide +kernel) (by decide) 6 rfl rfl 0 _ rfl rfl [0, 4, 5, 1] [2, 3, 6, 7, 8] 9 (rfl : (9 : Nat) = 9) (by decide +kernel) rfl rfl (Nat.le_of_ble_eq_true rfl) ⟨Nat.zero_le _, Nat.zero_le _⟩ ?_
                intro v0 w0 hq
                obtain ⟨U2_192, U3_192, rfl, rfl⟩ := hq
                refine ⟨(fst_f (fst_c rfl (fst_c (fst_k rfl) (fst_c (fst_k rfl) rfl)))), [[cO x0 6 [.ref (a 0), .ref h0, .ref o0, .ref u0, .ref e8, .ref e9]], stW G a c F, [cO h0 0 [.ref h1, vI ps]], [cO o0 2 [.ref o1, vI 0, vI 0, vI 0, .ref o2, vI 0]], [cA e8 G.2.1.1 24 U2_192], [cA e9 G.2.1.1 24 U3_192], [cA g0 G.2.1.1 18 f], [cLg r0 G.2.1.2.2.2.2 64 lr], [cLg m0 G.2.1.2.2.2.2 2 lm]], (rfl : (9 : Nat) = 9), rfl, Eq.trans (b := ([[cO h0 0 [.ref h1, vI ps]], [cO o0 2 [.ref o1, vI 0, vI 0, vI 0, .ref o2, vI 0]], [cA g0 G.2.1.1 18 f], [cLg r0 G.2.1.2.2.2.2 64 lr], [cLg m0 G.2.1.2.2.2.2 2 lm]] : List va_W)) rfl rfl, ?_⟩
                show fSt l G X 0 0 195 [(0, .ref x0), (1, .ref g0), (2, .ref r0), (3, .ref m0), (4, vI 1), (5, vI b), (6, vI (12 + (3 * b))), (7, vI lo), (8, vI k)] [vI (sp_stb f b 7)] ([[cO x0 6 [.ref (a 0), .ref h0, .ref o0, .ref u0, .ref e8, .ref e9]], stW G a c F, [cO h0 0 [.ref h1, vI ps]], [cO o0 2 [.ref o1, vI 0, vI 0, vI 0, .ref o2, vI 0]], [cA e8 G.2.1.1 24 U2_192], [cA e9 G.2.1.1 24 U3_192], [cA g0 G.2.1.1 18 f], [cLg r0 G.2.1.2.2.2.2 64 lr], [cLg m0 G.2.1.2.2.2.2 2 lm]] : List va_W).flatten
                refine s_aload_n 1 C dL_areStandbys_195 rfl 1 rfl ?_
                refine s_iload C dL_areStandbys_196 6 rfl ?_
                refine s_iconst C dL_areStandbys_198 ?_
                refine s_iadd C dL_areStandbys_199 ?_
                refine s_iald C dL_areStandbys_200 17 rfl (3 * b + 13) (by omega) (by omega) (by omega) (by omega) ?_
                refine s_aload_n 1 C dL_areStandbys_201 rfl 1 rfl ?_
                refine s_iconst C dL_areStandbys_202 ?_
                refine s_iald C dL_areStandbys_203 17 rfl 0 rfl (by omega) (by omega) (by omega) ?_
                refine s_icmp_ne 212 C dL_areStandbys_204 (by decide) (hI.rf _) (hI.rf _) (fun h_204 => ?_) (fun h_204 => ?_)
                · refine s_aload_n 1 C dL_areStandbys_212 rfl 1 rfl ?_
                  refine s_iconst C dL_areStandbys_213 ?_
                  refine s_iald C dL_areStandbys_214 17 rfl 1 rfl (by omega) (by omega) (by omega) ?_
                  refine s_aload_n 2 C dL_areStandbys_215 rfl 2 rfl ?_
                  refine s_aload_n 1 C dL_areStandbys_216 rfl 1 rfl ?_
                  refine s_iload C dL_areStandbys_217 6 rfl ?_
                  refine s_iconst C dL_areStandbys_219 ?_
                  refine s_iadd C dL_areStandbys_220 ?_
                  refine s_iald C dL_areStandbys_221 17 rfl (3 * b + 13) (by omega) (by omega) (by omega) (by omega) ?_
                  refine s_iconst C dL_areStandbys_222 ?_
                  refine s_iadd C dL_areStandbys_223 ?_
                  refine s_callSQ (As := [.ref r0, vI ((f (3 * b + 13)) + 1)]) (rest := [vI (f 1), vI (sp_stb f b 7)]) (segs := [[cO x0 6 [.ref (a 0), .ref h0, .ref o0, .ref u0, .ref e8, .ref e9]], stW G a c F, [cO h0 0 [.ref h1, vI ps]], [cO o0 2 [.ref o1, vI 0, vI 0, vI 0, .ref o2, vI 0]], [cA e8 G.2.1.1 24 U2_192], [cA e9 G.2.1.1 24 U3_192], [cA g0 G.2.1.1 18 f], [cLg r0 G.2.1.2.2.2.2 64 lr], [cLg m0 G.2.1.2.2.2.2 2 lm]]) C dL_areStandbys_224 (c_L_at l G r0 lr ((f (3 * b + 13)) + 1) (by first | assumption | omega) (rk_lt hP hL.1 (by omega) (by omega))) gL_areStandbys_L_at rfl 2 (by decide +kernel) (by decide) [7] [0, 1, 2, 3, 4, 5, 6, 8] 9 (rfl : (9 : Nat) = 9) (by decide +kernel) rfl rfl (Nat.le_of_ble_eq_true rfl) ⟨Nat.zero_le _, Nat.zero_le _⟩ ?_
                  intro v0 w0 hq
                  obtain ⟨rfl, rfl⟩ := hq
                  refine ⟨rfl, [[cO x0 6 [.ref (a 0), .ref h0, .ref o0, .ref u0, .ref e8, .ref e9]], stW G a c F, [cO h0 0 [.ref h1, vI ps]], [cO o0 2 [.ref o1, vI 0, vI 0, vI 0, .ref o2, vI 0]], [cA e8 G.2.1.1 24 U2_192], [cA e9 G.2.1.1 24 U3_192], [cA g0 G.2.1.1 18 f], [cLg r0 G.2.1.2.2.2.2 64 lr], [cLg m0 G.2.1.2.2.2.2 2 lm]], (rfl : (9 : Nat) = 9), rfl, Eq.trans (b := ([[cO x0 6 [.ref (a 0), .ref h0, .ref o0, .ref u0, .ref e8, .ref e9]], stW G a c F, [cO h0 0 [.ref h1, vI ps]], [cO o0 2 [.ref o1, vI 0, vI 0, vI 0, .ref o2, vI 0]], [cA e8 G.2.1.1 24 U2_192], [cA e9 G.2.1.1 24 U3_192], [cA g0 G.2.1.1 18 f], [cLg m0 G.2.1.2.2.2.2 2 lm]] : List va_W)) rfl rfl, ?_⟩
                  show fSt l G X 0 0 227 [(0, .ref x0), (1, .ref g0), (2, .ref r0), (3, .ref m0), (4, vI 1), (5, vI b), (6, vI (12 + (3 * b))), (7, vI lo), (8, vI k)] [vI (((lr ((f (3 * b + 13)) + 1)) / 128000000 : Nat) : Int), vI (f 1), vI (sp_stb f b 7)] ([[cO x0 6 [.ref (a 0), .ref h0, .ref o0, .ref u0, .ref e8, .ref e9]], stW G a c F, [cO h0 0 [.ref h1, vI ps]], [cO o0 2 [.ref o1, vI 0, vI 0, vI 0, .ref o2, vI 0]], [cA e8 G.2.1.1 24 U2_192], [cA e9 G.2.1.1 24 U3_192], [cA g0 G.2.1.1 18 f], [cLg r0 G.2.1.2.2.2.2 64 lr], [cLg m0 G.2.1.2.2.2.2 2 lm]] : List va_W).flatten
                  refine s_top (oR f (f (3 * b + 13) + 1) 4) (rk_a hP hL.1 (by omega) (by omega)) ?_
                  have hRk := hI.R (f (3 * b + 13) + 1) (by omega) (by omega)
                  refine s_isub C dL_areStandbys_227 ?_
                  have h7 := st_7 (f := f) hb1
                  refine s_icmp_ne 248 C dL_areStandbys_228 (by decide) (by omega) (by omega) (fun h_228 => ?_) (fun h_228 => ?_)
                  · exfalso
                    omega
                  · refine s_aload_n 0 C dL_areStandbys_231 rfl 0 rfl ?_
                    refine s_iload C dL_areStandbys_232 5 rfl ?_
                    refine s_bipush (z := 9) C dL_areStandbys_234 rfl ?_
                    refine s_callVQ (As := [vI b, vI 9]) (rest := []) (segs := [[cO x0 6 [.ref (a 0), .ref h0, .ref o0, .ref u0, .ref e8, .ref e9]], stW G a c F, [cO h0 0 [.ref h1, vI ps]], [cO o0 2 [.ref o1, vI 0, vI 0, vI 0, .ref o2, vI 0]], [cA e8 G.2.1.1 24 U2_192], [cA e9 G.2.1.1 24 U3_192], [cA g0 G.2.1.1 18 f], [cLg r0 G.2.1.2.2.2.2 64 lr], [cLg m0 G.2.1.2.2.2.2 2 lm]]) C dL_areStandbys_236 (w_X6_standbyOf l G x0 h0 e8 e9 (.ref o0) (.ref u0) a c F B f U2_192 U3_192 b 9 (by first | assumption | omega) hI hBB (by first | assumption | omega) (by first | assumption | omega)) gL_areStandbys_X6_standbyOf rfl 2 (by decide +kernel) (by decide) 6 rfl rfl 0 _ rfl rfl [0, 4, 5, 1] [2, 3, 6, 7, 8] 9 (rfl : (9 : Nat) = 9) (by decide +kernel) rfl rfl (Nat.le_of_ble_eq_true rfl) ⟨Nat.zero_le _, Nat.zero_le _⟩ ?_
                    intro v0 w0 hq
                    obtain ⟨U2_236, U3_236, rfl, rfl⟩ := hq
                    refine ⟨(fst_f (fst_c rfl (fst_c (fst_k rfl) (fst_c (fst_k rfl) rfl)))), [[cO x0 6 [.ref (a 0), .ref h0, .ref o0, .ref u0, .ref e8, .ref e9]], stW G a c F, [cO h0 0 [.ref h1, vI ps]], [cO o0 2 [.ref o1, vI 0, vI 0, vI 0, .ref o2, vI 0]], [cA e8 G.2.1.1 24 U2_236], [cA e9 G.2.1.1 24 U3_236], [cA g0 G.2.1.1 18 f], [cLg r0 G.2.1.2.2.2.2 64 lr], [cLg m0 G.2.1.2.2.2.2 2 lm]], (rfl : (9 : Nat) = 9), rfl, Eq.trans (b := ([[cO h0 0 [.ref h1, vI ps]], [cO o0 2 [.ref o1, vI 0, vI 0, vI 0, .ref o2, vI 0]], [cA g0 G.2.1.1 18 f], [cLg r0 G.2.1.2.2.2.2 64 lr], [cLg m0 G.2.1.2.2.2.2 2 lm]] : List va_W)) rfl rfl, ?_⟩
                    show fSt l G X 0 0 239 [(0, .ref x0), (1, .ref g0), (2, .ref r0), (3, .ref m0), (4, vI 1), (5, vI b), (6, vI (12 + (3 * b))), (7, vI lo), (8, vI k)] [vI (sp_stb f b 9)] ([[cO x0 6 [.ref (a 0), .ref h0, .ref o0, .ref u0, .ref e8, .ref e9]], stW G a c F, [cO h0 0 [.ref h1, vI ps]], [cO o0 2 [.ref o1, vI 0, vI 0, vI 0, .ref o2, vI 0]], [cA e8 G.2.1.1 24 U2_236], [cA e9 G.2.1.1 24 U3_236], [cA g0 G.2.1.1 18 f], [cLg r0 G.2.1.2.2.2.2 64 lr], [cLg m0 G.2.1.2.2.2.2 2 lm]] : List va_W).flatten
                    refine s_top (-1000001) (st_bad (by omega)) ?_
                    refine s_ldc (z := -1000001) C (by decide +kernel) dL_areStandbys_239 ?_
                    refine s_icmp_ne 248 C dL_areStandbys_241 (by decide) (by decide) (by decide) (fun h => absurd h (by decide)) (fun h => ?_)
                    refine s_iconst C dL_areStandbys_244 ?_
                    refine s_goto 249 C dL_areStandbys_245 (by decide) ?_
                    refine s_istore [(4, vI 1), (0, .ref x0), (1, .ref g0), (2, .ref r0), (3, .ref m0), (5, vI b), (6, vI (12 + (3 * b))), (7, vI lo), (8, vI k)] C dL_areStandbys_249 (by decide) rfl ?_
                    refine s_iload C dL_areStandbys_251 0 rfl ?_
                    refine s_if_eq 309 C dL_areStandbys_253 (by decide) (by decide) (fun h => absurd h (by decide)) (fun h => ?_)
                    refine s_aload_n 0 C dL_areStandbys_256 rfl 1 rfl ?_
                    refine s_iload C dL_areStandbys_257 5 rfl ?_
                    refine s_iconst C dL_areStandbys_259 ?_
                    refine s_callVQ (As := [vI b, vI 1]) (rest := []) (segs := [[cO x0 6 [.ref (a 0), .ref h0, .ref o0, .ref u0, .ref e8, .ref e9]], stW G a c F, [cO h0 0 [.ref h1, vI ps]], [cO o0 2 [.ref o1, vI 0, vI 0, vI 0, .ref o2, vI 0]], [cA e8 G.2.1.1 24 U2_236], [cA e9 G.2.1.1 24 U3_236], [cA g0 G.2.1.1 18 f], [cLg r0 G.2.1.2.2.2.2 64 lr], [cLg m0 G.2.1.2.2.2.2 2 lm]]) C dL_areStandbys_260 (w_X6_standbyOf l G x0 h0 e8 e9 (.ref o0) (.ref u0) a c F B f U2_236 U3_236 b 1 (by first | assumption | omega) hI hBB (by first | assumption | omega) (by first | assumption | omega)) gL_areStandbys_X6_standbyOf rfl 2 (by decide +kernel) (by decide) 6 rfl rfl 0 _ rfl rfl [0, 4, 5, 1] [2, 3, 6, 7, 8] 9 (rfl : (9 : Nat) = 9) (by decide +kernel) rfl rfl (Nat.le_of_ble_eq_true rfl) ⟨Nat.zero_le _, Nat.zero_le _⟩ ?_
                    intro v0 w0 hq
                    obtain ⟨U2_260, U3_260, rfl, rfl⟩ := hq
                    refine ⟨(fst_f (fst_c rfl (fst_c (fst_k rfl) (fst_c (fst_k rfl) rfl)))), [[cO x0 6 [.ref (a 0), .ref h0, .ref o0, .ref u0, .ref e8, .ref e9]], stW G a c F, [cO h0 0 [.ref h1, vI ps]], [cO o0 2 [.ref o1, vI 0, vI 0, vI 0, .ref o2, vI 0]], [cA e8 G.2.1.1 24 U2_260], [cA e9 G.2.1.1 24 U3_260], [cA g0 G.2.1.1 18 f], [cLg r0 G.2.1.2.2.2.2 64 lr], [cLg m0 G.2.1.2.2.2.2 2 lm]], (rfl : (9 : Nat) = 9), rfl, Eq.trans (b := ([[cO h0 0 [.ref h1, vI ps]], [cO o0 2 [.ref o1, vI 0, vI 0, vI 0, .ref o2, vI 0]], [cA g0 G.2.1.1 18 f], [cLg r0 G.2.1.2.2.2.2 64 lr], [cLg m0 G.2.1.2.2.2.2 2 lm]] : List va_W)) rfl rfl, ?_⟩
                    show fSt l G X 0 0 263 [(4, vI 1), (0, .ref x0), (1, .ref g0), (2, .ref r0), (3, .ref m0), (5, vI b), (6, vI (12 + (3 * b))), (7, vI lo), (8, vI k)] [vI (sp_stb f b 1)] ([[cO x0 6 [.ref (a 0), .ref h0, .ref o0, .ref u0, .ref e8, .ref e9]], stW G a c F, [cO h0 0 [.ref h1, vI ps]], [cO o0 2 [.ref o1, vI 0, vI 0, vI 0, .ref o2, vI 0]], [cA e8 G.2.1.1 24 U2_260], [cA e9 G.2.1.1 24 U3_260], [cA g0 G.2.1.1 18 f], [cLg r0 G.2.1.2.2.2.2 64 lr], [cLg m0 G.2.1.2.2.2.2 2 lm]] : List va_W).flatten
                    refine s_top (f (3 * b + 13)) (st_1 hb1) ?_
                    refine s_aload_n 0 C dL_areStandbys_263 rfl 1 rfl ?_
                    refine s_iload C dL_areStandbys_264 5 rfl ?_
                    refine s_iconst C dL_areStandbys_266 ?_
                    refine s_callVQ (As := [vI b, vI 0]) (rest := [vI (f (3 * b + 13))]) (segs := [[cO x0 6 [.ref (a 0), .ref h0, .ref o0, .ref u0, .ref e8, .ref e9]], stW G a c F, [cO h0 0 [.ref h1, vI ps]], [cO o0 2 [.ref o1, vI 0, vI 0, vI 0, .ref o2, vI 0]], [cA e8 G.2.1.1 24 U2_260], [cA e9 G.2.1.1 24 U3_260], [cA g0 G.2.1.1 18 f], [cLg r0 G.2.1.2.2.2.2 64 lr], [cLg m0 G.2.1.2.2.2.2 2 lm]]) C dL_areStandbys_267 (w_X6_standbyOf l G x0 h0 e8 e9 (.ref o0) (.ref u0) a c F B f U2_260 U3_260 b 0 (by first | assumption | omega) hI hBB (by first | assumption | omega) (by first | assumption | omega)) gL_areStandbys_X6_standbyOf rfl 2 (by decide +kernel) (by decide) 6 rfl rfl 0 _ rfl rfl [0, 4, 5, 1] [2, 3, 6, 7, 8] 9 (rfl : (9 : Nat) = 9) (by decide +kernel) rfl rfl (Nat.le_of_ble_eq_true rfl) ⟨Nat.zero_le _, Nat.zero_le _⟩ ?_
                    intro v0 w0 hq
                    obtain ⟨U2_267, U3_267, rfl, rfl⟩ := hq
                    refine ⟨(fst_f (fst_c rfl (fst_c (fst_k rfl) (fst_c (fst_k rfl) rfl)))), [[cO x0 6 [.ref (a 0), .ref h0, .ref o0, .ref u0, .ref e8, .ref e9]], stW G a c F, [cO h0 0 [.ref h1, vI ps]], [cO o0 2 [.ref o1, vI 0, vI 0, vI 0, .ref o2, vI 0]], [cA e8 G.2.1.1 24 U2_267], [cA e9 G.2.1.1 24 U3_267], [cA g0 G.2.1.1 18 f], [cLg r0 G.2.1.2.2.2.2 64 lr], [cLg m0 G.2.1.2.2.2.2 2 lm]], (rfl : (9 : Nat) = 9), rfl, Eq.trans (b := ([[cO h0 0 [.ref h1, vI ps]], [cO o0 2 [.ref o1, vI 0, vI 0, vI 0, .ref o2, vI 0]], [cA g0 G.2.1.1 18 f], [cLg r0 G.2.1.2.2.2.2 64 lr], [cLg m0 G.2.1.2.2.2.2 2 lm]] : List va_W)) rfl rfl, ?_⟩
                    show fSt l G X 0 0 270 [(4, vI 1), (0, .ref x0), (1, .ref g0), (2, .ref r0), (3, .ref m0), (5, vI b), (6, vI (12 + (3 * b))), (7, vI lo), (8, vI k)] [vI (sp_stb f b 0), vI (f (3 * b + 13))] ([[cO x0 6 [.ref (a 0), .ref h0, .ref o0, .ref u0, .ref e8, .ref e9]], stW G a c F, [cO h0 0 [.ref h1, vI ps]], [cO o0 2 [.ref o1, vI 0, vI 0, vI 0, .ref o2, vI 0]], [cA e8 G.2.1.1 24 U2_267], [cA e9 G.2.1.1 24 U3_267], [cA g0 G.2.1.1 18 f], [cLg r0 G.2.1.2.2.2.2 64 lr], [cLg m0 G.2.1.2.2.2.2 2 lm]] : List va_W).flatten
                    refine s_top (f (3 * b + 12)) (st_0 hb1) ?_
                    refine s_icmp_gt 309 C dL_areStandbys_270 (by decide) (hI.rf _) (hI.rf _) (fun h_270 => ?_) (fun h_270 => ?_)
                    · exfalso
                      omega
                    · refine s_aload_n 0 C dL_areStandbys_273 rfl 1 rfl ?_
                      refine s_iload C dL_areStandbys_274 5 rfl ?_
                      refine s_iconst C dL_areStandbys_276 ?_
                      refine s_callVQ (As := [vI b, vI 0]) (rest := []) (segs := [[cO x0 6 [.ref (a 0), .ref h0, .ref o0, .ref u0, .ref e8, .ref e9]], stW G a c F, [cO h0 0 [.ref h1, vI ps]], [cO o0 2 [.ref o1, vI 0, vI 0, vI 0, .ref o2, vI 0]], [cA e8 G.2.1.1 24 U2_267], [cA e9 G.2.1.1 24 U3_267], [cA g0 G.2.1.1 18 f], [cLg r0 G.2.1.2.2.2.2 64 lr], [cLg m0 G.2.1.2.2.2.2 2 lm]]) C dL_areStandbys_277 (w_X6_standbyOf l G x0 h0 e8 e9 (.ref o0) (.ref u0) a c F B f U2_267 U3_267 b 0 (by first | assumption | omega) hI hBB (by first | assumption | omega) (by first | assumption | omega)) gL_areStandbys_X6_standbyOf rfl 2 (by decide +kernel) (by decide) 6 rfl rfl 0 _ rfl rfl [0, 4, 5, 1] [2, 3, 6, 7, 8] 9 (rfl : (9 : Nat) = 9) (by decide +kernel) rfl rfl (Nat.le_of_ble_eq_true rfl) ⟨Nat.zero_le _, Nat.zero_le _⟩ ?_
                      intro v0 w0 hq
                      obtain ⟨U2_277, U3_277, rfl, rfl⟩ := hq
                      refine ⟨(fst_f (fst_c rfl (fst_c (fst_k rfl) (fst_c (fst_k rfl) rfl)))), [[cO x0 6 [.ref (a 0), .ref h0, .ref o0, .ref u0, .ref e8, .ref e9]], stW G a c F, [cO h0 0 [.ref h1, vI ps]], [cO o0 2 [.ref o1, vI 0, vI 0, vI 0, .ref o2, vI 0]], [cA e8 G.2.1.1 24 U2_277], [cA e9 G.2.1.1 24 U3_277], [cA g0 G.2.1.1 18 f], [cLg r0 G.2.1.2.2.2.2 64 lr], [cLg m0 G.2.1.2.2.2.2 2 lm]], (rfl : (9 : Nat) = 9), rfl, Eq.trans (b := ([[cO h0 0 [.ref h1, vI ps]], [cO o0 2 [.ref o1, vI 0, vI 0, vI 0, .ref o2, vI 0]], [cA g0 G.2.1.1 18 f], [cLg r0 G.2.1.2.2.2.2 64 lr], [cLg m0 G.2.1.2.2.2.2 2 lm]] : List va_W)) rfl rfl, ?_⟩
                      show fSt l G X 0 0 280 [(4, vI 1), (0, .ref x0), (1, .ref g0), (2, .ref r0), (3, .ref m0), (5, vI b), (6, vI (12 + (3 * b))), (7, vI lo), (8, vI k)] [vI (sp_stb f b 0)] ([[cO x0 6 [.ref (a 0), .ref h0, .ref o0, .ref u0, .ref e8, .ref e9]], stW G a c F, [cO h0 0 [.ref h1, vI ps]], [cO o0 2 [.ref o1, vI 0, vI 0, vI 0, .ref o2, vI 0]], [cA e8 G.2.1.1 24 U2_277], [cA e9 G.2.1.1 24 U3_277], [cA g0 G.2.1.1 18 f], [cLg r0 G.2.1.2.2.2.2 64 lr], [cLg m0 G.2.1.2.2.2.2 2 lm]] : List va_W).flatten
                      refine s_top (f (3 * b + 12)) (st_0 hb1) ?_
                      refine s_aload_n 0 C dL_areStandbys_280 rfl 1 rfl ?_
                      refine s_iconst C dL_areStandbys_281 ?_
                      refine s_callVQ (As := [vI 0]) (rest := [vI (f (3 * b + 12))]) (segs := [[cO x0 6 [.ref (a 0), .ref h0, .ref o0, .ref u0, .ref e8, .ref e9]], stW G a c F, [cO h0 0 [.ref h1, vI ps]], [cO o0 2 [.ref o1, vI 0, vI 0, vI 0, .ref o2, vI 0]], [cA e8 G.2.1.1 24 U2_277], [cA e9 G.2.1.1 24 U3_277], [cA g0 G.2.1.1 18 f], [cLg r0 G.2.1.2.2.2.2 64 lr], [cLg m0 G.2.1.2.2.2.2 2 lm]]) C dL_areStandbys_282 (c_X6_count l G x0 h0 h1 o0 o1 o2 (.ref u0) (.ref e8) (.ref e9) a c F B ps 0 0 0 0 f 0 (by first | assumption | omega) hI hBB (by first | assumption | omega)) gL_areStandbys_X6_count rfl 1 (by decide +kernel) (by decide) 6 rfl rfl 0 _ rfl rfl [0, 2, 3, 1] [4, 5, 6, 7, 8] 9 (rfl : (9 : Nat) = 9) (by decide +kernel) rfl rfl (Nat.le_of_ble_eq_true rfl) ⟨Nat.zero_le _, Nat.zero_le _⟩ ?_
                      intro v0 w0 hq
                      obtain ⟨rfl, rfl⟩ := hq
                      refine ⟨rfl, [[cO x0 6 [.ref (a 0), .ref h0, .ref o0, .ref u0, .ref e8, .ref e9]], stW G a c F, [cO h0 0 [.ref h1, vI ps]], [cO o0 2 [.ref o1, vI 0, vI 0, vI 0, .ref o2, vI 0]], [cA e8 G.2.1.1 24 U2_277], [cA e9 G.2.1.1 24 U3_277], [cA g0 G.2.1.1 18 f], [cLg r0 G.2.1.2.2.2.2 64 lr], [cLg m0 G.2.1.2.2.2.2 2 lm]], (rfl : (9 : Nat) = 9), rfl, Eq.trans (b := ([[cA e8 G.2.1.1 24 U2_277], [cA e9 G.2.1.1 24 U3_277], [cA g0 G.2.1.1 18 f], [cLg r0 G.2.1.2.2.2.2 64 lr], [cLg m0 G.2.1.2.2.2.2 2 lm]] : List va_W)) rfl rfl, ?_⟩
                      show fSt l G X 0 0 285 [(4, vI 1), (0, .ref x0), (1, .ref g0), (2, .ref r0), (3, .ref m0), (5, vI b), (6, vI (12 + (3 * b))), (7, vI lo), (8, vI k)] [vI (sp_count f ps 0 0), vI (f (3 * b + 12))] ([[cO x0 6 [.ref (a 0), .ref h0, .ref o0, .ref u0, .ref e8, .ref e9]], stW G a c F, [cO h0 0 [.ref h1, vI ps]], [cO o0 2 [.ref o1, vI 0, vI 0, vI 0, .ref o2, vI 0]], [cA e8 G.2.1.1 24 U2_277], [cA e9 G.2.1.1 24 U3_277], [cA g0 G.2.1.1 18 f], [cLg r0 G.2.1.2.2.2.2 64 lr], [cLg m0 G.2.1.2.2.2.2 2 lm]] : List va_W).flatten
                      refine s_top (f 0) (ct_03 (by omega)) ?_
                      refine s_icmp_gt 309 C dL_areStandbys_285 (by decide) (hI.rf _) (hI.rf _) (fun h_285 => ?_) (fun h_285 => ?_)
                      · exfalso
                        omega
                      · refine s_iload C dL_areStandbys_288 7 rfl ?_
                        refine s_if_lt 305 C dL_areStandbys_290 (by decide) (by omega) (fun h_290 => ?_) (fun h_290 => ?_)
                        · refine s_iconst C dL_areStandbys_305 ?_
                          refine s_goto 310 C dL_areStandbys_306 (by decide) ?_
                          refine s_istore [(4, vI 1), (0, .ref x0), (1, .ref g0), (2, .ref r0), (3, .ref m0), (5, vI b), (6, vI (12 + (3 * b))), (7, vI lo), (8, vI k)] C dL_areStandbys_310 (by decide) rfl ?_
                          refine s_iinc [(5, vI (b + 1)), (4, vI 1), (0, .ref x0), (1, .ref g0), (2, .ref r0), (3, .ref m0), (6, vI (12 + (3 * b))), (7, vI lo), (8, vI k)] C dL_areStandbys_312 5 rfl (by decide) rfl ?_
                          refine s_goto 6 C dL_areStandbys_315 (by decide) ?_
                          refine s_lv [(0, .ref x0), (1, .ref g0), (2, .ref r0), (3, .ref m0), (4, vI 1), (5, vI (b + 1))] [2, 3, 4, 5, 1, 0] rfl ?_
                          exact ih_6 (b + 1) U2_277 U3_277 (by omega) (by omega)
                        · refine s_aload_n 0 C dL_areStandbys_293 rfl 1 rfl ?_
                          refine s_iload C dL_areStandbys_294 5 rfl ?_
                          refine s_iconst C dL_areStandbys_296 ?_
                          refine s_callVQ (As := [vI b, vI 1]) (rest := []) (segs := [[cO x0 6 [.ref (a 0), .ref h0, .ref o0, .ref u0, .ref e8, .ref e9]], stW G a c F, [cO h0 0 [.ref h1, vI ps]], [cO o0 2 [.ref o1, vI 0, vI 0, vI 0, .ref o2, vI 0]], [cA e8 G.2.1.1 24 U2_277], [cA e9 G.2.1.1 24 U3_277], [cA g0 G.2.1.1 18 f], [cLg r0 G.2.1.2.2.2.2 64 lr], [cLg m0 G.2.1.2.2.2.2 2 lm]]) C dL_areStandbys_297 (w_X6_standbyOf l G x0 h0 e8 e9 (.ref o0) (.ref u0) a c F B f U2_277 U3_277 b 1 (by first | assumption | omega) hI hBB (by first | assumption | omega) (by first | assumption | omega)) gL_areStandbys_X6_standbyOf rfl 2 (by decide +kernel) (by decide) 6 rfl rfl 0 _ rfl rfl [0, 4, 5, 1] [2, 3, 6, 7, 8] 9 (rfl : (9 : Nat) = 9) (by decide +kernel) rfl rfl (Nat.le_of_ble_eq_true rfl) ⟨Nat.zero_le _, Nat.zero_le _⟩ ?_
                          intro v0 w0 hq
                          obtain ⟨U2_297, U3_297, rfl, rfl⟩ := hq
                          refine ⟨(fst_f (fst_c rfl (fst_c (fst_k rfl) (fst_c (fst_k rfl) rfl)))), [[cO x0 6 [.ref (a 0), .ref h0, .ref o0, .ref u0, .ref e8, .ref e9]], stW G a c F, [cO h0 0 [.ref h1, vI ps]], [cO o0 2 [.ref o1, vI 0, vI 0, vI 0, .ref o2, vI 0]], [cA e8 G.2.1.1 24 U2_297], [cA e9 G.2.1.1 24 U3_297], [cA g0 G.2.1.1 18 f], [cLg r0 G.2.1.2.2.2.2 64 lr], [cLg m0 G.2.1.2.2.2.2 2 lm]], (rfl : (9 : Nat) = 9), rfl, Eq.trans (b := ([[cO h0 0 [.ref h1, vI ps]], [cO o0 2 [.ref o1, vI 0, vI 0, vI 0, .ref o2, vI 0]], [cA g0 G.2.1.1 18 f], [cLg r0 G.2.1.2.2.2.2 64 lr], [cLg m0 G.2.1.2.2.2.2 2 lm]] : List va_W)) rfl rfl, ?_⟩
                          show fSt l G X 0 0 300 [(4, vI 1), (0, .ref x0), (1, .ref g0), (2, .ref r0), (3, .ref m0), (5, vI b), (6, vI (12 + (3 * b))), (7, vI lo), (8, vI k)] [vI (sp_stb f b 1)] ([[cO x0 6 [.ref (a 0), .ref h0, .ref o0, .ref u0, .ref e8, .ref e9]], stW G a c F, [cO h0 0 [.ref h1, vI ps]], [cO o0 2 [.ref o1, vI 0, vI 0, vI 0, .ref o2, vI 0]], [cA e8 G.2.1.1 24 U2_297], [cA e9 G.2.1.1 24 U3_297], [cA g0 G.2.1.1 18 f], [cLg r0 G.2.1.2.2.2.2 64 lr], [cLg m0 G.2.1.2.2.2.2 2 lm]] : List va_W).flatten
                          refine s_top (f (3 * b + 13)) (st_1 hb1) ?_
                          refine s_iload C dL_areStandbys_300 7 rfl ?_
                          refine s_icmp_ge 309 C dL_areStandbys_302 (by decide) (hI.rf _) (by omega) (fun h_302 => ?_) (fun h_302 => ?_)
                          · exfalso
                            omega
                          · refine s_iconst C dL_areStandbys_305 ?_
                            refine s_goto 310 C dL_areStandbys_306 (by decide) ?_
                            refine s_istore [(4, vI 1), (0, .ref x0), (1, .ref g0), (2, .ref r0), (3, .ref m0), (5, vI b), (6, vI (12 + (3 * b))), (7, vI lo), (8, vI k)] C dL_areStandbys_310 (by decide) rfl ?_
                            refine s_iinc [(5, vI (b + 1)), (4, vI 1), (0, .ref x0), (1, .ref g0), (2, .ref r0), (3, .ref m0), (6, vI (12 + (3 * b))), (7, vI lo), (8, vI k)] C dL_areStandbys_312 5 rfl (by decide) rfl ?_
                            refine s_goto 6 C dL_areStandbys_315 (by decide) ?_
                            refine s_lv [(0, .ref x0), (1, .ref g0), (2, .ref r0), (3, .ref m0), (4, vI 1), (5, vI (b + 1))] [2, 3, 4, 5, 1, 0] rfl ?_
                            exact ih_6 (b + 1) U2_297 U3_297 (by omega) (by omega)
                · refine s_ldc (z := -1000004) C (by decide +kernel) dL_areStandbys_207 ?_
                  refine s_goto 228 C dL_areStandbys_209 (by decide) ?_
                  have h7 := st_7 (f := f) hb1
                  refine s_icmp_ne 248 C dL_areStandbys_228 (by decide) (by omega) (by omega) (fun h_228 => ?_) (fun h_228 => ?_)
                  · exfalso
                    omega
                  · refine s_aload_n 0 C dL_areStandbys_231 rfl 0 rfl ?_
                    refine s_iload C dL_areStandbys_232 5 rfl ?_
                    refine s_bipush (z := 9) C dL_areStandbys_234 rfl ?_
                    refine s_callVQ (As := [vI b, vI 9]) (rest := []) (segs := [[cO x0 6 [.ref (a 0), .ref h0, .ref o0, .ref u0, .ref e8, .ref e9]], stW G a c F, [cO h0 0 [.ref h1, vI ps]], [cO o0 2 [.ref o1, vI 0, vI 0, vI 0, .ref o2, vI 0]], [cA e8 G.2.1.1 24 U2_192], [cA e9 G.2.1.1 24 U3_192], [cA g0 G.2.1.1 18 f], [cLg r0 G.2.1.2.2.2.2 64 lr], [cLg m0 G.2.1.2.2.2.2 2 lm]]) C dL_areStandbys_236 (w_X6_standbyOf l G x0 h0 e8 e9 (.ref o0) (.ref u0) a c F B f U2_192 U3_192 b 9 (by first | assumption | omega) hI hBB (by first | assumption | omega) (by first | assumption | omega)) gL_areStandbys_X6_standbyOf rfl 2 (by decide +kernel) (by decide) 6 rfl rfl 0 _ rfl rfl [0, 4, 5, 1] [2, 3, 6, 7, 8] 9 (rfl : (9 : Nat) = 9) (by decide +kernel) rfl rfl (Nat.le_of_ble_eq_true rfl) ⟨Nat.zero_le _, Nat.zero_le _⟩ ?_
                    intro v0 w0 hq
                    obtain ⟨U2_236, U3_236, rfl, rfl⟩ := hq
                    refine ⟨(fst_f (fst_c rfl (fst_c (fst_k rfl) (fst_c (fst_k rfl) rfl)))), [[cO x0 6 [.ref (a 0), .ref h0, .ref o0, .ref u0, .ref e8, .ref e9]], stW G a c F, [cO h0 0 [.ref h1, vI ps]], [cO o0 2 [.ref o1, vI 0, vI 0, vI 0, .ref o2, vI 0]], [cA e8 G.2.1.1 24 U2_236], [cA e9 G.2.1.1 24 U3_236], [cA g0 G.2.1.1 18 f], [cLg r0 G.2.1.2.2.2.2 64 lr], [cLg m0 G.2.1.2.2.2.2 2 lm]], (rfl : (9 : Nat) = 9), rfl, Eq.trans (b := ([[cO h0 0 [.ref h1, vI ps]], [cO o0 2 [.ref o1, vI 0, vI 0, vI 0, .ref o2, vI 0]], [cA g0 G.2.1.1 18 f], [cLg r0 G.2.1.2.2.2.2 64 lr], [cLg m0 G.2.1.2.2.2.2 2 lm]] : List va_W)) rfl rfl, ?_⟩
                    show fSt l G X 0 0 239 [(0, .ref x0), (1, .ref g0), (2, .ref r0), (3, .ref m0), (4, vI 1), (5, vI b), (6, vI (12 + (3 * b))), (7, vI lo), (8, vI k)] [vI (sp_stb f b 9)] ([[cO x0 6 [.ref (a 0), .ref h0, .ref o0, .ref u0, .ref e8, .ref e9]], stW G a c F, [cO h0 0 [.ref h1, vI ps]], [cO o0 2 [.ref o1, vI 0, vI 0, vI 0, .ref o2, vI 0]], [cA e8 G.2.1.1 24 U2_236], [cA e9 G.2.1.1 24 U3_236], [cA g0 G.2.1.1 18 f], [cLg r0 G.2.1.2.2.2.2 64 lr], [cLg m0 G.2.1.2.2.2.2 2 lm]] : List va_W).flatten
                    refine s_top (-1000001) (st_bad (by omega)) ?_
                    refine s_ldc (z := -1000001) C (by decide +kernel) dL_areStandbys_239 ?_
                    refine s_icmp_ne 248 C dL_areStandbys_241 (by decide) (by decide) (by decide) (fun h => absurd h (by decide)) (fun h => ?_)
                    refine s_iconst C dL_areStandbys_244 ?_
                    refine s_goto 249 C dL_areStandbys_245 (by decide) ?_
                    refine s_istore [(4, vI 1), (0, .ref x0), (1, .ref g0), (2, .ref r0), (3, .ref m0), (5, vI b), (6, vI (12 + (3 * b))), (7, vI lo), (8, vI k)] C dL_areStandbys_249 (by decide) rfl ?_
                    refine s_iload C dL_areStandbys_251 0 rfl ?_
                    refine s_if_eq 309 C dL_areStandbys_253 (by decide) (by decide) (fun h => absurd h (by decide)) (fun h => ?_)
                    refine s_aload_n 0 C dL_areStandbys_256 rfl 1 rfl ?_
                    refine s_iload C dL_areStandbys_257 5 rfl ?_
                    refine s_iconst C dL_areStandbys_259 ?_
                    refine s_callVQ (As := [vI b, vI 1]) (rest := []) (segs := [[cO x0 6 [.ref (a 0), .ref h0, .ref o0, .ref u0, .ref e8, .ref e9]], stW G a c F, [cO h0 0 [.ref h1, vI ps]], [cO o0 2 [.ref o1, vI 0, vI 0, vI 0, .ref o2, vI 0]], [cA e8 G.2.1.1 24 U2_236], [cA e9 G.2.1.1 24 U3_236], [cA g0 G.2.1.1 18 f], [cLg r0 G.2.1.2.2.2.2 64 lr], [cLg m0 G.2.1.2.2.2.2 2 lm]]) C dL_areStandbys_260 (w_X6_standbyOf l G x0 h0 e8 e9 (.ref o0) (.ref u0) a c F B f U2_236 U3_236 b 1 (by first | assumption | omega) hI hBB (by first | assumption | omega) (by first | assumption | omega)) gL_areStandbys_X6_standbyOf rfl 2 (by decide +kernel) (by decide) 6 rfl rfl 0 _ rfl rfl [0, 4, 5, 1] [2, 3, 6, 7, 8] 9 (rfl : (9 : Nat) = 9) (by decide +kernel) rfl rfl (Nat.le_of_ble_eq_true rfl) ⟨Nat.zero_le _, Nat.zero_le _⟩ ?_
                    intro v0 w0 hq
                    obtain ⟨U2_260, U3_260, rfl, rfl⟩ := hq
                    refine ⟨(fst_f (fst_c rfl (fst_c (fst_k rfl) (fst_c (fst_k rfl) rfl)))), [[cO x0 6 [.ref (a 0), .ref h0, .ref o0, .ref u0, .ref e8, .ref e9]], stW G a c F, [cO h0 0 [.ref h1, vI ps]], [cO o0 2 [.ref o1, vI 0, vI 0, vI 0, .ref o2, vI 0]], [cA e8 G.2.1.1 24 U2_260], [cA e9 G.2.1.1 24 U3_260], [cA g0 G.2.1.1 18 f], [cLg r0 G.2.1.2.2.2.2 64 lr], [cLg m0 G.2.1.2.2.2.2 2 lm]], (rfl : (9 : Nat) = 9), rfl, Eq.trans (b := ([[cO h0 0 [.ref h1, vI ps]], [cO o0 2 [.ref o1, vI 0, vI 0, vI 0, .ref o2, vI 0]], [cA g0 G.2.1.1 18 f], [cLg r0 G.2.1.2.2.2.2 64 lr], [cLg m0 G.2.1.2.2.2.2 2 lm]] : List va_W)) rfl rfl, ?_⟩
                    show fSt l G X 0 0 263 [(4, vI 1), (0, .ref x0), (1, .ref g0), (2, .ref r0), (3, .ref m0), (5, vI b), (6, vI (12 + (3 * b))), (7, vI lo), (8, vI k)] [vI (sp_stb f b 1)] ([[cO x0 6 [.ref (a 0), .ref h0, .ref o0, .ref u0, .ref e8, .ref e9]], stW G a c F, [cO h0 0 [.ref h1, vI ps]], [cO o0 2 [.ref o1, vI 0, vI 0, vI 0, .ref o2, vI 0]], [cA e8 G.2.1.1 24 U2_260], [cA e9 G.2.1.1 24 U3_260], [cA g0 G.2.1.1 18 f], [cLg r0 G.2.1.2.2.2.2 64 lr], [cLg m0 G.2.1.2.2.2.2 2 lm]] : List va_W).flatten
                    refine s_top (f (3 * b + 13)) (st_1 hb1) ?_
                    refine s_aload_n 0 C dL_areStandbys_263 rfl 1 rfl ?_
                    refine s_iload C dL_areStandbys_264 5 rfl ?_
                    refine s_iconst C dL_areStandbys_266 ?_
                    refine s_callVQ (As := [vI b, vI 0]) (rest := [vI (f (3 * b + 13))]) (segs := [[cO x0 6 [.ref (a 0), .ref h0, .ref o0, .ref u0, .ref e8, .ref e9]], stW G a c F, [cO h0 0 [.ref h1, vI ps]], [cO o0 2 [.ref o1, vI 0, vI 0, vI 0, .ref o2, vI 0]], [cA e8 G.2.1.1 24 U2_260], [cA e9 G.2.1.1 24 U3_260], [cA g0 G.2.1.1 18 f], [cLg r0 G.2.1.2.2.2.2 64 lr], [cLg m0 G.2.1.2.2.2.2 2 lm]]) C dL_areStandbys_267 (w_X6_standbyOf l G x0 h0 e8 e9 (.ref o0) (.ref u0) a c F B f U2_260 U3_260 b 0 (by first | assumption | omega) hI hBB (by first | assumption | omega) (by first | assumption | omega)) gL_areStandbys_X6_standbyOf rfl 2 (by decide +kernel) (by decide) 6 rfl rfl 0 _ rfl rfl [0, 4, 5, 1] [2, 3, 6, 7, 8] 9 (rfl : (9 : Nat) = 9) (by decide +kernel) rfl rfl (Nat.le_of_ble_eq_true rfl) ⟨Nat.zero_le _, Nat.zero_le _⟩ ?_
                    intro v0 w0 hq
                    obtain ⟨U2_267, U3_267, rfl, rfl⟩ := hq
                    refine ⟨(fst_f (fst_c rfl (fst_c (fst_k rfl) (fst_c (fst_k rfl) rfl)))), [[cO x0 6 [.ref (a 0), .ref h0, .ref o0, .ref u0, .ref e8, .ref e9]], stW G a c F, [cO h0 0 [.ref h1, vI ps]], [cO o0 2 [.ref o1, vI 0, vI 0, vI 0, .ref o2, vI 0]], [cA e8 G.2.1.1 24 U2_267], [cA e9 G.2.1.1 24 U3_267], [cA g0 G.2.1.1 18 f], [cLg r0 G.2.1.2.2.2.2 64 lr], [cLg m0 G.2.1.2.2.2.2 2 lm]], (rfl : (9 : Nat) = 9), rfl, Eq.trans (b := ([[cO h0 0 [.ref h1, vI ps]], [cO o0 2 [.ref o1, vI 0, vI 0, vI 0, .ref o2, vI 0]], [cA g0 G.2.1.1 18 f], [cLg r0 G.2.1.2.2.2.2 64 lr], [cLg m0 G.2.1.2.2.2.2 2 lm]] : List va_W)) rfl rfl, ?_⟩
                    show fSt l G X 0 0 270 [(4, vI 1), (0, .ref x0), (1, .ref g0), (2, .ref r0), (3, .ref m0), (5, vI b), (6, vI (12 + (3 * b))), (7, vI lo), (8, vI k)] [vI (sp_stb f b 0), vI (f (3 * b + 13))] ([[cO x0 6 [.ref (a 0), .ref h0, .ref o0, .ref u0, .ref e8, .ref e9]], stW G a c F, [cO h0 0 [.ref h1, vI ps]], [cO o0 2 [.ref o1, vI 0, vI 0, vI 0, .ref o2, vI 0]], [cA e8 G.2.1.1 24 U2_267], [cA e9 G.2.1.1 24 U3_267], [cA g0 G.2.1.1 18 f], [cLg r0 G.2.1.2.2.2.2 64 lr], [cLg m0 G.2.1.2.2.2.2 2 lm]] : List va_W).flatten
                    refine s_top (f (3 * b + 12)) (st_0 hb1) ?_
                    refine s_icmp_gt 309 C dL_areStandbys_270 (by decide) (hI.rf _) (hI.rf _) (fun h_270 => ?_) (fun h_270 => ?_)
                    · exfalso
                      omega
                    · refine s_aload_n 0 C dL_areStandbys_273 rfl 1 rfl ?_
                      refine s_iload C dL_areStandbys_274 5 rfl ?_
                      refine s_iconst C dL_areStandbys_276 ?_
                      refine s_callVQ (As := [vI b, vI 0]) (rest := []) (segs := [[cO x0 6 [.ref (a 0), .ref h0, .ref o0, .ref u0, .ref e8, .ref e9]], stW G a c F, [cO h0 0 [.ref h1, vI ps]], [cO o0 2 [.ref o1, vI 0, vI 0, vI 0, .ref o2, vI 0]], [cA e8 G.2.1.1 24 U2_267], [cA e9 G.2.1.1 24 U3_267], [cA g0 G.2.1.1 18 f], [cLg r0 G.2.1.2.2.2.2 64 lr], [cLg m0 G.2.1.2.2.2.2 2 lm]]) C dL_areStandbys_277 (w_X6_standbyOf l G x0 h0 e8 e9 (.ref o0) (.ref u0) a c F B f U2_267 U3_267 b 0 (by first | assumption | omega) hI hBB (by first | assumption | omega) (by first | assumption | omega)) gL_areStandbys_X6_standbyOf rfl 2 (by decide +kernel) (by decide) 6 rfl rfl 0 _ rfl rfl [0, 4, 5, 1] [2, 3, 6, 7, 8] 9 (rfl : (9 : Nat) = 9) (by decide +kernel) rfl rfl (Nat.le_of_ble_eq_true rfl) ⟨Nat.zero_le _, Nat.zero_le _⟩ ?_
                      intro v0 w0 hq
                      obtain ⟨U2_277, U3_277, rfl, rfl⟩ := hq
                      refine ⟨(fst_f (fst_c rfl (fst_c (fst_k rfl) (fst_c (fst_k rfl) rfl)))), [[cO x0 6 [.ref (a 0), .ref h0, .ref o0, .ref u0, .ref e8, .ref e9]], stW G a c F, [cO h0 0 [.ref h1, vI ps]], [cO o0 2 [.ref o1, vI 0, vI 0, vI 0, .ref o2, vI 0]], [cA e8 G.2.1.1 24 U2_277], [cA e9 G.2.1.1 24 U3_277], [cA g0 G.2.1.1 18 f], [cLg r0 G.2.1.2.2.2.2 64 lr], [cLg m0 G.2.1.2.2.2.2 2 lm]], (rfl : (9 : Nat) = 9), rfl, Eq.trans (b := ([[cO h0 0 [.ref h1, vI ps]], [cO o0 2 [.ref o1, vI 0, vI 0, vI 0, .ref o2, vI 0]], [cA g0 G.2.1.1 18 f], [cLg r0 G.2.1.2.2.2.2 64 lr], [cLg m0 G.2.1.2.2.2.2 2 lm]] : List va_W)) rfl rfl, ?_⟩
                      show fSt l G X 0 0 280 [(4, vI 1), (0, .ref x0), (1, .ref g0), (2, .ref r0), (3, .ref m0), (5, vI b), (6, vI (12 + (3 * b))), (7, vI lo), (8, vI k)] [vI (sp_stb f b 0)] ([[cO x0 6 [.ref (a 0), .ref h0, .ref o0, .ref u0, .ref e8, .ref e9]], stW G a c F, [cO h0 0 [.ref h1, vI ps]], [cO o0 2 [.ref o1, vI 0, vI 0, vI 0, .ref o2, vI 0]], [cA e8 G.2.1.1 24 U2_277], [cA e9 G.2.1.1 24 U3_277], [cA g0 G.2.1.1 18 f], [cLg r0 G.2.1.2.2.2.2 64 lr], [cLg m0 G.2.1.2.2.2.2 2 lm]] : List va_W).flatten
                      refine s_top (f (3 * b + 12)) (st_0 hb1) ?_
                      refine s_aload_n 0 C dL_areStandbys_280 rfl 1 rfl ?_
                      refine s_iconst C dL_areStandbys_281 ?_
                      refine s_callVQ (As := [vI 0]) (rest := [vI (f (3 * b + 12))]) (segs := [[cO x0 6 [.ref (a 0), .ref h0, .ref o0, .ref u0, .ref e8, .ref e9]], stW G a c F, [cO h0 0 [.ref h1, vI ps]], [cO o0 2 [.ref o1, vI 0, vI 0, vI 0, .ref o2, vI 0]], [cA e8 G.2.1.1 24 U2_277], [cA e9 G.2.1.1 24 U3_277], [cA g0 G.2.1.1 18 f], [cLg r0 G.2.1.2.2.2.2 64 lr], [cLg m0 G.2.1.2.2.2.2 2 lm]]) C dL_areStandbys_282 (c_X6_count l G x0 h0 h1 o0 o1 o2 (.ref u0) (.ref e8) (.ref e9) a c F B ps 0 0 0 0 f 0 (by first | assumption | omega) hI hBB (by first | assumption | omega)) gL_areStandbys_X6_count rfl 1 (by decide +kernel) (by decide) 6 rfl rfl 0 _ rfl rfl [0, 2, 3, 1] [4, 5, 6, 7, 8] 9 (rfl : (9 : Nat) = 9) (by decide +kernel) rfl rfl (Nat.le_of_ble_eq_true rfl) ⟨Nat.zero_le _, Nat.zero_le _⟩ ?_
                      intro v0 w0 hq
                      obtain ⟨rfl, rfl⟩ := hq
                      refine ⟨rfl, [[cO x0 6 [.ref (a 0), .ref h0, .ref o0, .ref u0, .ref e8, .ref e9]], stW G a c F, [cO h0 0 [.ref h1, vI ps]], [cO o0 2 [.ref o1, vI 0, vI 0, vI 0, .ref o2, vI 0]], [cA e8 G.2.1.1 24 U2_277], [cA e9 G.2.1.1 24 U3_277], [cA g0 G.2.1.1 18 f], [cLg r0 G.2.1.2.2.2.2 64 lr], [cLg m0 G.2.1.2.2.2.2 2 lm]], (rfl : (9 : Nat) = 9), rfl, Eq.trans (b := ([[cA e8 G.2.1.1 24 U2_277], [cA e9 G.2.1.1 24 U3_277], [cA g0 G.2.1.1 18 f], [cLg r0 G.2.1.2.2.2.2 64 lr], [cLg m0 G.2.1.2.2.2.2 2 lm]] : List va_W)) rfl rfl, ?_⟩
                      show fSt l G X 0 0 285 [(4, vI 1), (0, .ref x0), (1, .ref g0), (2, .ref r0), (3, .ref m0), (5, vI b), (6, vI (12 + (3 * b))), (7, vI lo), (8, vI k)] [vI (sp_count f ps 0 0), vI (f (3 * b + 12))] ([[cO x0 6 [.ref (a 0), .ref h0, .ref o0, .ref u0, .ref e8, .ref e9]], stW G a c F, [cO h0 0 [.ref h1, vI ps]], [cO o0 2 [.ref o1, vI 0, vI 0, vI 0, .ref o2, vI 0]], [cA e8 G.2.1.1 24 U2_277], [cA e9 G.2.1.1 24 U3_277], [cA g0 G.2.1.1 18 f], [cLg r0 G.2.1.2.2.2.2 64 lr], [cLg m0 G.2.1.2.2.2.2 2 lm]] : List va_W).flatten
                      refine s_top (f 0) (ct_03 (by omega)) ?_
                      refine s_icmp_gt 309 C dL_areStandbys_285 (by decide) (hI.rf _) (hI.rf _) (fun h_285 => ?_) (fun h_285 => ?_)
                      · exfalso
                        omega
                      · refine s_iload C dL_areStandbys_288 7 rfl ?_
                        refine s_if_lt 305 C dL_areStandbys_290 (by decide) (by omega) (fun h_290 => ?_) (fun h_290 => ?_)
                        · refine s_iconst C dL_areStandbys_305 ?_
                          refine s_goto 310 C dL_areStandbys_306 (by decide) ?_
                          refine s_istore [(4, vI 1), (0, .ref x0), (1, .ref g0), (2, .ref r0), (3, .ref m0), (5, vI b), (6, vI (12 + (3 * b))), (7, vI lo), (8, vI k)] C dL_areStandbys_310 (by decide) rfl ?_
                          refine s_iinc [(5, vI (b + 1)), (4, vI 1), (0, .ref x0), (1, .ref g0), (2, .ref r0), (3, .ref m0), (6, vI (12 + (3 * b))), (7, vI lo), (8, vI k)] C dL_areStandbys_312 5 rfl (by decide) rfl ?_
                          refine s_goto 6 C dL_areStandbys_315 (by decide) ?_
                          refine s_lv [(0, .ref x0), (1, .ref g0), (2, .ref r0), (3, .ref m0), (4, vI 1), (5, vI (b + 1))] [2, 3, 4, 5, 1, 0] rfl ?_
                          exact ih_6 (b + 1) U2_277 U3_277 (by omega) (by omega)
                        · refine s_aload_n 0 C dL_areStandbys_293 rfl 1 rfl ?_
                          refine s_iload C dL_areStandbys_294 5 rfl ?_
                          refine s_iconst C dL_areStandbys_296 ?_
                          refine s_callVQ (As := [vI b, vI 1]) (rest := []) (segs := [[cO x0 6 [.ref (a 0), .ref h0, .ref o0, .ref u0, .ref e8, .ref e9]], stW G a c F, [cO h0 0 [.ref h1, vI ps]], [cO o0 2 [.ref o1, vI 0, vI 0, vI 0, .ref o2, vI 0]], [cA e8 G.2.1.1 24 U2_277], [cA e9 G.2.1.1 24 U3_277], [cA g0 G.2.1.1 18 f], [cLg r0 G.2.1.2.2.2.2 64 lr], [cLg m0 G.2.1.2.2.2.2 2 lm]]) C dL_areStandbys_297 (w_X6_standbyOf l G x0 h0 e8 e9 (.ref o0) (.ref u0) a c F B f U2_277 U3_277 b 1 (by first | assumption | omega) hI hBB (by first | assumption | omega) (by first | assumption | omega)) gL_areStandbys_X6_standbyOf rfl 2 (by decide +kernel) (by decide) 6 rfl rfl 0 _ rfl rfl [0, 4, 5, 1] [2, 3, 6, 7, 8] 9 (rfl : (9 : Nat) = 9) (by decide +kernel) rfl rfl (Nat.le_of_ble_eq_true rfl) ⟨Nat.zero_le _, Nat.zero_le _⟩ ?_
                          intro v0 w0 hq
                          obtain ⟨U2_297, U3_297, rfl, rfl⟩ := hq
                          refine ⟨(fst_f (fst_c rfl (fst_c (fst_k rfl) (fst_c (fst_k rfl) rfl)))), [[cO x0 6 [.ref (a 0), .ref h0, .ref o0, .ref u0, .ref e8, .ref e9]], stW G a c F, [cO h0 0 [.ref h1, vI ps]], [cO o0 2 [.ref o1, vI 0, vI 0, vI 0, .ref o2, vI 0]], [cA e8 G.2.1.1 24 U2_297], [cA e9 G.2.1.1 24 U3_297], [cA g0 G.2.1.1 18 f], [cLg r0 G.2.1.2.2.2.2 64 lr], [cLg m0 G.2.1.2.2.2.2 2 lm]], (rfl : (9 : Nat) = 9), rfl, Eq.trans (b := ([[cO h0 0 [.ref h1, vI ps]], [cO o0 2 [.ref o1, vI 0, vI 0, vI 0, .ref o2, vI 0]], [cA g0 G.2.1.1 18 f], [cLg r0 G.2.1.2.2.2.2 64 lr], [cLg m0 G.2.1.2.2.2.2 2 lm]] : List va_W)) rfl rfl, ?_⟩
                          show fSt l G X 0 0 300 [(4, vI 1), (0, .ref x0), (1, .ref g0), (2, .ref r0), (3, .ref m0), (5, vI b), (6, vI (12 + (3 * b))), (7, vI lo), (8, vI k)] [vI (sp_stb f b 1)] ([[cO x0 6 [.ref (a 0), .ref h0, .ref o0, .ref u0, .ref e8, .ref e9]], stW G a c F, [cO h0 0 [.ref h1, vI ps]], [cO o0 2 [.ref o1, vI 0, vI 0, vI 0, .ref o2, vI 0]], [cA e8 G.2.1.1 24 U2_297], [cA e9 G.2.1.1 24 U3_297], [cA g0 G.2.1.1 18 f], [cLg r0 G.2.1.2.2.2.2 64 lr], [cLg m0 G.2.1.2.2.2.2 2 lm]] : List va_W).flatten
                          refine s_top (f (3 * b + 13)) (st_1 hb1) ?_
                          refine s_iload C dL_areStandbys_300 7 rfl ?_
                          refine s_icmp_ge 309 C dL_areStandbys_302 (by decide) (hI.rf _) (by omega) (fun h_302 => ?_) (fun h_302 => ?_)
                          · exfalso
                            omega
                          · refine s_iconst C dL_areStandbys_305 ?_
                            refine s_goto 310 C dL_areStandbys_306 (by decide) ?_
                            refine s_istore [(4, vI 1), (0, .ref x0), (1, .ref g0), (2, .ref r0), (3, .ref m0), (5, vI b), (6, vI (12 + (3 * b))), (7, vI lo), (8, vI k)] C dL_areStandbys_310 (by decide) rfl ?_
                            refine s_iinc [(5, vI (b + 1)), (4, vI 1), (0, .ref x0), (1, .ref g0), (2, .ref r0), (3, .ref m0), (6, vI (12 + (3 * b))), (7, vI lo), (8, vI k)] C dL_areStandbys_312 5 rfl (by decide) rfl ?_
                            refine s_goto 6 C dL_areStandbys_315 (by decide) ?_
                            refine s_lv [(0, .ref x0), (1, .ref g0), (2, .ref r0), (3, .ref m0), (4, vI 1), (5, vI (b + 1))] [2, 3, 4, 5, 1, 0] rfl ?_
                            exact ih_6 (b + 1) U2_297 U3_297 (by omega) (by omega)
            · have hbit := hP.bit hL hb1 (k := k) (by omega) (by omega)
              have hdv : lm b / 2 ^ (k : Int).toNat ≤ lm b := Nat.div_le_self _ _
              refine s_aload_n 3 C dL_areStandbys_39 rfl 3 rfl ?_
              refine s_iload C dL_areStandbys_40 5 rfl ?_
              refine s_lald C dL_areStandbys_42 19 rfl b rfl (by omega) (by omega) (by omega) ?_
              refine s_iload C dL_areStandbys_43 8 rfl ?_
              refine s_lshr C dL_areStandbys_45 hbm (by omega) ?_
              refine s_lconst (v := 1) C dL_areStandbys_46 rfl ?_
              refine s_land1 C dL_areStandbys_47 (by omega) ?_
              refine s_lconst (v := 1) C dL_areStandbys_48 rfl ?_
              refine s_lcmp C dL_areStandbys_49 (by omega) (by omega) ?_
              refine s_if_ne 58 C dL_areStandbys_50 (by decide) lcZ_rg (fun h_50 => ?_) (fun h_50 => ?_)
              · have h_50 := mt lcZ_0.mpr h_50
                refine s_iload C dL_areStandbys_58 7 rfl ?_
                refine s_istore [(7, vI lo), (0, .ref x0), (1, .ref g0), (2, .ref r0), (3, .ref m0), (4, vI 1), (5, vI b), (6, vI (12 + (3 * b))), (8, vI k)] C dL_areStandbys_60 (by decide) rfl ?_
                refine s_iinc [(8, vI (k + (-1))), (7, vI lo), (0, .ref x0), (1, .ref g0), (2, .ref r0), (3, .ref m0), (4, vI 1), (5, vI b), (6, vI (12 + (3 * b)))] C dL_areStandbys_62 8 rfl (by decide) rfl ?_
                refine s_goto 34 C dL_areStandbys_65 (by decide) ?_
                refine s_lv [(0, .ref x0), (1, .ref g0), (2, .ref r0), (3, .ref m0), (4, vI 1), (5, vI b), (6, vI (12 + (3 * b))), (7, vI lo), (8, vI (k + (-1)))] [2, 3, 4, 5, 6, 7, 8, 1, 0] rfl ?_
                exact ih_34 (k + (-1)) lo (by omega) (hlo.miss (by omega) (by omega)) (by omega)
              · have h_50 := lcZ_0.mp h_50
                refine s_iload C dL_areStandbys_53 8 rfl ?_
                refine s_goto 60 C dL_areStandbys_55 (by decide) ?_
                refine s_istore [(7, vI k), (0, .ref x0), (1, .ref g0), (2, .ref r0), (3, .ref m0), (4, vI 1), (5, vI b), (6, vI (12 + (3 * b))), (8, vI k)] C dL_areStandbys_60 (by decide) rfl ?_
                refine s_iinc [(8, vI (k + (-1))), (7, vI k), (0, .ref x0), (1, .ref g0), (2, .ref r0), (3, .ref m0), (4, vI 1), (5, vI b), (6, vI (12 + (3 * b)))] C dL_areStandbys_62 8 rfl (by decide) rfl ?_
                refine s_goto 34 C dL_areStandbys_65 (by decide) ?_
                refine s_lv [(0, .ref x0), (1, .ref g0), (2, .ref r0), (3, .ref m0), (4, vI 1), (5, vI b), (6, vI (12 + (3 * b))), (7, vI k), (8, vI (k + (-1)))] [2, 3, 4, 5, 6, 7, 8, 1, 0] rfl ?_
                exact ih_34 (k + (-1)) k (by omega) (hlo.hit (by omega) (by omega)) (by omega)
        refine s_lv [(0, .ref x0), (1, .ref g0), (2, .ref r0), (3, .ref m0), (4, vI 1), (5, vI b), (6, vI (12 + (3 * b))), (7, vI (-1000004)), (8, vI 62)] [3, 4, 5, 6, 7, 8, 2, 1, 0] rfl ?_
        exact loop_34 (62 + 1 : Int).toNat 62 (-1000004) (by omega) (Or.inl ⟨rfl, fun j j0 j1 => by omega⟩) (by omega)
  refine s_lv [(0, .ref x0), (1, .ref g0), (2, .ref r0), (3, .ref m0), (4, vI 1), (5, vI 0)] [2, 3, 4, 5, 1, 0] rfl ?_
  exact loop_6 (2 - 0 + 1 : Int).toNat 0 U0 U1 (by omega) (by omega)

set_option maxHeartbeats 4000000 in
set_option maxRecDepth 100000 in
theorem c_L_areRecords (l : Launch) (G : fG) (x0 h0 h1 o0 o1 o2 u0 e8 e9 g0 r0 : Nat) (a : Nat → Nat) (c : Nat → Int) (F : Nat → Int → Int) (ps B : Int) (f : Int → Int) (lr lm : Int → Nat) (hR : RSb f c F) (hP : PI B f) (hL : LR f lr lm) : fCt l G yL_areRecords wsL_areRecords 5 110 0 0 [.ref x0, .ref g0, .ref r0] ([[cO x0 6 [.ref (a 0), .ref h0, .ref o0, .ref u0, .ref e8, .ref e9]], stW G a c F, [cA g0 G.2.1.1 18 f], [cLg r0 G.2.1.2.2.2.2 64 lr]] : List va_W).flatten (fun (v0 : Option Value) (w0 : va_W) => v0 = some (vI 1) ∧ w0 = ([[cO x0 6 [.ref (a 0), .ref h0, .ref o0, .ref u0, .ref e8, .ref e9]], stW G a c F, [cA g0 G.2.1.1 18 f], [cLg r0 G.2.1.2.2.2.2 64 lr]] : List va_W).flatten) := by
  refine fs_met (cc := cL_areRecords) (nL := 7) (ret := (some .boolean)) (by decide) rfl (Nat.le_of_ble_eq_true rfl) ?_
  intro X C E
  show fSt l G X 0 0 0 [(0, .ref x0), (1, .ref g0), (2, .ref r0)] [] ([[cO x0 6 [.ref (a 0), .ref h0, .ref o0, .ref u0, .ref e8, .ref e9]], stW G a c F, [cA g0 G.2.1.1 18 f], [cLg r0 G.2.1.2.2.2.2 64 lr]] : List va_W).flatten
  have hI := hP.1
  have hBl := hP.2.1
  have hBB : B ≤ 1073000000 := by omega
  have hn61 := hP.2.2.1
  have ht9 := hP.2.2.2
  have hn0 := hI.n
  have htk := hI.tk
  refine s_aload_n 0 C dL_areRecords_0 rfl 0 rfl ?_
  refine s_iconst C dL_areRecords_1 ?_
  refine s_iconst C dL_areRecords_2 ?_
  refine s_callVQ (As := [vI 0, vI 0]) (rest := []) (segs := [[cO x0 6 [.ref (a 0), .ref h0, .ref o0, .ref u0, .ref e8, .ref e9]], stW G a c F, [cA g0 G.2.1.1 18 f], [cLg r0 G.2.1.2.2.2.2 64 lr]]) C dL_areRecords_3 (c_X6_recordOf l G x0 h0 (.ref o0) (.ref u0) (.ref e8) (.ref e9) a c F B f 0 0 (by first | assumption | omega) hI hBB (by first | assumption | omega) (by first | assumption | omega)) gL_areRecords_X6_recordOf rfl 2 (by decide +kernel) (by decide) 6 rfl rfl 0 _ rfl rfl [0, 1] [2, 3] 4 (rfl : (4 : Nat) = 4) (by decide +kernel) rfl rfl (Nat.le_of_ble_eq_true rfl) ⟨Nat.zero_le _, Nat.zero_le _⟩ ?_
  intro v0 w0 hq
  obtain ⟨rfl, rfl⟩ := hq
  refine ⟨rfl, [[cO x0 6 [.ref (a 0), .ref h0, .ref o0, .ref u0, .ref e8, .ref e9]], stW G a c F, [cA g0 G.2.1.1 18 f], [cLg r0 G.2.1.2.2.2.2 64 lr]], (rfl : (4 : Nat) = 4), rfl, Eq.trans (b := ([[cA g0 G.2.1.1 18 f], [cLg r0 G.2.1.2.2.2.2 64 lr]] : List va_W)) rfl rfl, ?_⟩
  show fSt l G X 0 0 6 [(0, .ref x0), (1, .ref g0), (2, .ref r0)] [vI (sp_rec f 0 0)] ([[cO x0 6 [.ref (a 0), .ref h0, .ref o0, .ref u0, .ref e8, .ref e9]], stW G a c F, [cA g0 G.2.1.1 18 f], [cLg r0 G.2.1.2.2.2.2 64 lr]] : List va_W).flatten
  refine s_top (-1000001) (rc_bad (by omega)) ?_
  refine s_ldc (z := -1000001) C (by decide +kernel) dL_areRecords_6 ?_
  refine s_icmp_ne 41 C dL_areRecords_8 (by decide) (by decide) (by decide) (fun h => absurd h (by decide)) (fun h => ?_)
  refine s_aload_n 0 C dL_areRecords_11 rfl 0 rfl ?_
  refine s_aload_n 1 C dL_areRecords_12 rfl 1 rfl ?_
  refine s_iconst C dL_areRecords_13 ?_
  refine s_iald C dL_areRecords_14 13 rfl 0 rfl (by omega) (by omega) (by omega) ?_
  refine s_iconst C dL_areRecords_15 ?_
  refine s_iadd C dL_areRecords_16 ?_
  refine s_iconst C dL_areRecords_17 ?_
  refine s_callVQ (As := [vI ((f 0) + 1), vI 0]) (rest := []) (segs := [[cO x0 6 [.ref (a 0), .ref h0, .ref o0, .ref u0, .ref e8, .ref e9]], stW G a c F, [cA g0 G.2.1.1 18 f], [cLg r0 G.2.1.2.2.2.2 64 lr]]) C dL_areRecords_18 (c_X6_recordOf l G x0 h0 (.ref o0) (.ref u0) (.ref e8) (.ref e9) a c F B f ((f 0) + 1) 0 (by first | assumption | omega) hI hBB (by first | assumption | omega) (by first | assumption | omega)) gL_areRecords_X6_recordOf rfl 2 (by decide +kernel) (by decide) 6 rfl rfl 0 _ rfl rfl [0, 1] [2, 3] 4 (rfl : (4 : Nat) = 4) (by decide +kernel) rfl rfl (Nat.le_of_ble_eq_true rfl) ⟨Nat.zero_le _, Nat.zero_le _⟩ ?_
  intro v0 w0 hq
  obtain ⟨rfl, rfl⟩ := hq
  refine ⟨rfl, [[cO x0 6 [.ref (a 0), .ref h0, .ref o0, .ref u0, .ref e8, .ref e9]], stW G a c F, [cA g0 G.2.1.1 18 f], [cLg r0 G.2.1.2.2.2.2 64 lr]], (rfl : (4 : Nat) = 4), rfl, Eq.trans (b := ([[cA g0 G.2.1.1 18 f], [cLg r0 G.2.1.2.2.2.2 64 lr]] : List va_W)) rfl rfl, ?_⟩
  show fSt l G X 0 0 21 [(0, .ref x0), (1, .ref g0), (2, .ref r0)] [vI (sp_rec f ((f 0) + 1) 0)] ([[cO x0 6 [.ref (a 0), .ref h0, .ref o0, .ref u0, .ref e8, .ref e9]], stW G a c F, [cA g0 G.2.1.1 18 f], [cLg r0 G.2.1.2.2.2.2 64 lr]] : List va_W).flatten
  refine s_top (-1000004) (rc_out (by omega) (by omega)) ?_
  refine s_ldc (z := -1000004) C (by decide +kernel) dL_areRecords_21 ?_
  refine s_icmp_ne 41 C dL_areRecords_23 (by decide) (by decide) (by decide) (fun h => absurd h (by decide)) (fun h => ?_)
  refine s_aload_n 0 C dL_areRecords_26 rfl 0 rfl ?_
  refine s_iconst C dL_areRecords_27 ?_
  refine s_iconst C dL_areRecords_28 ?_
  refine s_callVQ (As := [vI 1, vI 5]) (rest := []) (segs := [[cO x0 6 [.ref (a 0), .ref h0, .ref o0, .ref u0, .ref e8, .ref e9]], stW G a c F, [cA g0 G.2.1.1 18 f], [cLg r0 G.2.1.2.2.2.2 64 lr]]) C dL_areRecords_29 (c_X6_recordOf l G x0 h0 (.ref o0) (.ref u0) (.ref e8) (.ref e9) a c F B f 1 5 (by first | assumption | omega) hI hBB (by first | assumption | omega) (by first | assumption | omega)) gL_areRecords_X6_recordOf rfl 2 (by decide +kernel) (by decide) 6 rfl rfl 0 _ rfl rfl [0, 1] [2, 3] 4 (rfl : (4 : Nat) = 4) (by decide +kernel) rfl rfl (Nat.le_of_ble_eq_true rfl) ⟨Nat.zero_le _, Nat.zero_le _⟩ ?_
  intro v0 w0 hq
  obtain ⟨rfl, rfl⟩ := hq
  refine ⟨rfl, [[cO x0 6 [.ref (a 0), .ref h0, .ref o0, .ref u0, .ref e8, .ref e9]], stW G a c F, [cA g0 G.2.1.1 18 f], [cLg r0 G.2.1.2.2.2.2 64 lr]], (rfl : (4 : Nat) = 4), rfl, Eq.trans (b := ([[cA g0 G.2.1.1 18 f], [cLg r0 G.2.1.2.2.2.2 64 lr]] : List va_W)) rfl rfl, ?_⟩
  show fSt l G X 0 0 32 [(0, .ref x0), (1, .ref g0), (2, .ref r0)] [vI (sp_rec f 1 5)] ([[cO x0 6 [.ref (a 0), .ref h0, .ref o0, .ref u0, .ref e8, .ref e9]], stW G a c F, [cA g0 G.2.1.1 18 f], [cLg r0 G.2.1.2.2.2.2 64 lr]] : List va_W).flatten
  refine s_top (-1000001) (rc_bad (by omega)) ?_
  refine s_ldc (z := -1000001) C (by decide +kernel) dL_areRecords_32 ?_
  refine s_icmp_ne 41 C dL_areRecords_34 (by decide) (by decide) (by decide) (fun h => absurd h (by decide)) (fun h => ?_)
  refine s_iconst C dL_areRecords_37 ?_
  refine s_goto 42 C dL_areRecords_38 (by decide) ?_
  refine s_istore_n 3 [(3, vI 1), (0, .ref x0), (1, .ref g0), (2, .ref r0)] C dL_areRecords_42 rfl (by decide) rfl ?_
  refine s_iconst C dL_areRecords_43 ?_
  refine s_istore [(4, vI 1), (3, vI 1), (0, .ref x0), (1, .ref g0), (2, .ref r0)] C dL_areRecords_44 (by decide) rfl ?_
  have loop_46 : ∀ (fuel : Nat) (k : Int), (1 ≤ k ∧ k ≤ f 0 + 1) → (f 0 + 1 - k < (fuel : Int)) → fSt l G X 0 0 46 [(0, .ref x0), (1, .ref g0), (2, .ref r0), (3, vI 1), (4, vI k)] [] ([[cO x0 6 [.ref (a 0), .ref h0, .ref o0, .ref u0, .ref e8, .ref e9]], stW G a c F, [cA g0 G.2.1.1 18 f], [cLg r0 G.2.1.2.2.2.2 64 lr]] : List va_W).flatten := by
    intro fuel
    induction fuel with
    | zero =>
      intro k hk hm
      exfalso
      omega
    | succ fuel ih_46 =>
      intro k hk hm
      refine s_iload C dL_areRecords_46 4 rfl ?_
      refine s_aload_n 1 C dL_areRecords_48 rfl 1 rfl ?_
      refine s_iconst C dL_areRecords_49 ?_
      refine s_iald C dL_areRecords_50 13 rfl 0 rfl (by omega) (by omega) (by omega) ?_
      refine s_icmp_gt 186 C dL_areRecords_51 (by decide) (by omega) (hI.rf _) (fun h_51 => ?_) (fun h_51 => ?_)
      · refine s_iconst C dL_areRecords_186 ?_
        refine s_istore [(4, vI 0), (0, .ref x0), (1, .ref g0), (2, .ref r0), (3, vI 1)] C dL_areRecords_187 (by decide) rfl ?_
        have loop_189 : ∀ (fuel : Nat) (k : Int), (0 ≤ k ∧ k ≤ 3) → (3 - k < (fuel : Int)) → fSt l G X 0 0 189 [(0, .ref x0), (1, .ref g0), (2, .ref r0), (3, vI 1), (4, vI k)] [] ([[cO x0 6 [.ref (a 0), .ref h0, .ref o0, .ref u0, .ref e8, .ref e9]], stW G a c F, [cA g0 G.2.1.1 18 f], [cLg r0 G.2.1.2.2.2.2 64 lr]] : List va_W).flatten := by
          intro fuel
          induction fuel with
          | zero =>
            intro k hk hm
            exfalso
            omega
          | succ fuel ih_189 =>
            intro k hk hm
            refine s_iload C dL_areRecords_189 4 rfl ?_
            refine s_iconst C dL_areRecords_191 ?_
            refine s_icmp_ge 337 C dL_areRecords_192 (by decide) (by omega) (by omega) (fun h_192 => ?_) (fun h_192 => ?_)
            · refine s_iload_n 3 C dL_areRecords_337 rfl 3 rfl ?_
              exact s_zret C E dL_areRecords_338 rfl ⟨rfl, rfl⟩
            · have hk2 : 0 ≤ k ∧ k ≤ 2 := by omega
              have hsl := hI.sl k (by omega) (by omega)
              refine s_iload_n 3 C dL_areRecords_195 rfl 3 rfl ?_
              refine s_if_eq 337 C dL_areRecords_196 (by decide) (by decide) (fun h => absurd h (by decide)) (fun h => ?_)
              refine s_iconst C dL_areRecords_199 ?_
              refine s_istore [(5, vI 0), (0, .ref x0), (1, .ref g0), (2, .ref r0), (3, vI 1), (4, vI k)] C dL_areRecords_200 (by decide) rfl ?_
              refine s_iconst C dL_areRecords_202 ?_
              refine s_istore [(6, vI 1), (5, vI 0), (0, .ref x0), (1, .ref g0), (2, .ref r0), (3, vI 1), (4, vI k)] C dL_areRecords_203 (by decide) rfl ?_
              have loop_205 : ∀ (fuel : Nat) (i n : Int), (1 ≤ i ∧ i ≤ f 0 + 1) → (n = cnt (fun r => decide (oR f r 0 = 0) && decide (oR f r 1 = f (k + 9))) 1 (i - 1).toNat) → (f 0 + 1 - i < (fuel : Int)) → fSt l G X 0 0 205 [(0, .ref x0), (1, .ref g0), (2, .ref r0), (3, vI 1), (4, vI k), (5, vI n), (6, vI i)] [] ([[cO x0 6 [.ref (a 0), .ref h0, .ref o0, .ref u0, .ref e8, .ref e9]], stW G a c F, [cA g0 G.2.1.1 18 f], [cLg r0 G.2.1.2.2.2.2 64 lr]] : List va_W).flatten := by
                intro fuel
                induction fuel with
                | zero =>
                  intro i n hi hc hm
                  exfalso
                  omega
                | succ fuel ih_205 =>
                  intro i n hi hc hm
                  refine s_iload C dL_areRecords_205 6 rfl ?_
                  refine s_aload_n 1 C dL_areRecords_207 rfl 1 rfl ?_
                  refine s_iconst C dL_areRecords_208 ?_
                  refine s_iald C dL_areRecords_209 13 rfl 0 rfl (by omega) (by omega) (by omega) ?_
                  refine s_icmp_gt 254 C dL_areRecords_210 (by decide) (by omega) (hI.rf _) (fun h_210 => ?_) (fun h_210 => ?_)
                  · have hn9 : n = mO f (f (k + 9)) := by rw [hc, mO, show (i - 1).toNat = (f 0).toNat by omega]
                    have hn8 := mO_rg (f := f) (t := f (k + 9)) hn0
                    have hs0 := sl_0 (f := f) hk2
                    have hs1 := sl_1 (f := f) hk2
                    refine s_aload_n 0 C dL_areRecords_254 rfl 0 rfl ?_
                    refine s_iload C dL_areRecords_255 4 rfl ?_
                    refine s_iconst C dL_areRecords_257 ?_
                    refine s_callVQ (As := [vI k, vI 0]) (rest := []) (segs := [[cO x0 6 [.ref (a 0), .ref h0, .ref o0, .ref u0, .ref e8, .ref e9]], stW G a c F, [cA g0 G.2.1.1 18 f], [cLg r0 G.2.1.2.2.2.2 64 lr]]) C dL_areRecords_258 (c_X6_slotOf l G x0 h0 (.ref o0) (.ref u0) (.ref e8) (.ref e9) a c F B f k 0 (by first | assumption | omega) hI hBB (by first | assumption | omega) (by first | assumption | omega)) gL_areRecords_X6_slotOf rfl 2 (by decide +kernel) (by decide) 6 rfl rfl 0 _ rfl rfl [0, 1] [2, 3] 4 (rfl : (4 : Nat) = 4) (by decide +kernel) rfl rfl (Nat.le_of_ble_eq_true rfl) ⟨Nat.zero_le _, Nat.zero_le _⟩ ?_
                    intro v0 w0 hq
                    obtain ⟨rfl, rfl⟩ := hq
                    refine ⟨rfl, [[cO x0 6 [.ref (a 0), .ref h0, .ref o0, .ref u0, .ref e8, .ref e9]], stW G a c F, [cA g0 G.2.1.1 18 f], [cLg r0 G.2.1.2.2.2.2 64 lr]], (rfl : (4 : Nat) = 4), rfl, Eq.trans (b := ([[cA g0 G.2.1.1 18 f], [cLg r0 G.2.1.2.2.2.2 64 lr]] : List va_W)) rfl rfl, ?_⟩
                    show fSt l G X 0 0 261 [(0, .ref x0), (1, .ref g0), (2, .ref r0), (3, vI 1), (4, vI k), (5, vI n), (6, vI i)] [vI (sp_slot f k 0)] ([[cO x0 6 [.ref (a 0), .ref h0, .ref o0, .ref u0, .ref e8, .ref e9]], stW G a c F, [cA g0 G.2.1.1 18 f], [cLg r0 G.2.1.2.2.2.2 64 lr]] : List va_W).flatten
                    refine s_aload_n 1 C dL_areRecords_261 rfl 1 rfl ?_
                    refine s_bipush (z := 9) C dL_areRecords_262 rfl ?_
                    refine s_iload C dL_areRecords_264 4 rfl ?_
                    refine s_iadd C dL_areRecords_266 ?_
                    refine s_iald C dL_areRecords_267 13 rfl (k + 9) (by omega) (by omega) (by omega) (by omega) ?_
                    refine s_if_ne 276 C dL_areRecords_268 (by decide) (hI.rf _) (fun h_268 => ?_) (fun h_268 => ?_)
                    · refine s_aload_n 1 C dL_areRecords_276 rfl 1 rfl ?_
                      refine s_bipush (z := 9) C dL_areRecords_277 rfl ?_
                      refine s_iload C dL_areRecords_279 4 rfl ?_
                      refine s_iadd C dL_areRecords_281 ?_
                      refine s_iald C dL_areRecords_282 13 rfl (k + 9) (by omega) (by omega) (by omega) (by omega) ?_
                      refine s_icmp_ne 329 C dL_areRecords_283 (by decide) (by omega) (hI.rf _) (fun h_283 => ?_) (fun h_283 => ?_)
                      · exfalso
                        omega
                      · refine s_aload_n 0 C dL_areRecords_286 rfl 0 rfl ?_
                        refine s_iload C dL_areRecords_287 4 rfl ?_
                        refine s_iconst C dL_areRecords_289 ?_
                        refine s_callVQ (As := [vI k, vI 1]) (rest := []) (segs := [[cO x0 6 [.ref (a 0), .ref h0, .ref o0, .ref u0, .ref e8, .ref e9]], stW G a c F, [cA g0 G.2.1.1 18 f], [cLg r0 G.2.1.2.2.2.2 64 lr]]) C dL_areRecords_290 (c_X6_slotOf l G x0 h0 (.ref o0) (.ref u0) (.ref e8) (.ref e9) a c F B f k 1 (by first | assumption | omega) hI hBB (by first | assumption | omega) (by first | assumption | omega)) gL_areRecords_X6_slotOf rfl 2 (by decide +kernel) (by decide) 6 rfl rfl 0 _ rfl rfl [0, 1] [2, 3] 4 (rfl : (4 : Nat) = 4) (by decide +kernel) rfl rfl (Nat.le_of_ble_eq_true rfl) ⟨Nat.zero_le _, Nat.zero_le _⟩ ?_
                        intro v0 w0 hq
                        obtain ⟨rfl, rfl⟩ := hq
                        refine ⟨rfl, [[cO x0 6 [.ref (a 0), .ref h0, .ref o0, .ref u0, .ref e8, .ref e9]], stW G a c F, [cA g0 G.2.1.1 18 f], [cLg r0 G.2.1.2.2.2.2 64 lr]], (rfl : (4 : Nat) = 4), rfl, Eq.trans (b := ([[cA g0 G.2.1.1 18 f], [cLg r0 G.2.1.2.2.2.2 64 lr]] : List va_W)) rfl rfl, ?_⟩
                        show fSt l G X 0 0 293 [(0, .ref x0), (1, .ref g0), (2, .ref r0), (3, vI 1), (4, vI k), (5, vI n), (6, vI i)] [vI (sp_slot f k 1)] ([[cO x0 6 [.ref (a 0), .ref h0, .ref o0, .ref u0, .ref e8, .ref e9]], stW G a c F, [cA g0 G.2.1.1 18 f], [cLg r0 G.2.1.2.2.2.2 64 lr]] : List va_W).flatten
                        refine s_aload_n 1 C dL_areRecords_293 rfl 1 rfl ?_
                        refine s_bipush (z := 9) C dL_areRecords_294 rfl ?_
                        refine s_iload C dL_areRecords_296 4 rfl ?_
                        refine s_iadd C dL_areRecords_298 ?_
                        refine s_iald C dL_areRecords_299 13 rfl (k + 9) (by omega) (by omega) (by omega) (by omega) ?_
                        refine s_if_ne 308 C dL_areRecords_300 (by decide) (hI.rf _) (fun h_300 => ?_) (fun h_300 => ?_)
                        · refine s_iload C dL_areRecords_308 5 rfl ?_
                          refine s_icmp_ne 329 C dL_areRecords_310 (by decide) (by omega) (by omega) (fun h_310 => ?_) (fun h_310 => ?_)
                          · exfalso
                            omega
                          · refine s_aload_n 0 C dL_areRecords_313 rfl 0 rfl ?_
                            refine s_iload C dL_areRecords_314 4 rfl ?_
                            refine s_iconst C dL_areRecords_316 ?_
                            refine s_callVQ (As := [vI k, vI 2]) (rest := []) (segs := [[cO x0 6 [.ref (a 0), .ref h0, .ref o0, .ref u0, .ref e8, .ref e9]], stW G a c F, [cA g0 G.2.1.1 18 f], [cLg r0 G.2.1.2.2.2.2 64 lr]]) C dL_areRecords_317 (c_X6_slotOf l G x0 h0 (.ref o0) (.ref u0) (.ref e8) (.ref e9) a c F B f k 2 (by first | assumption | omega) hI hBB (by first | assumption | omega) (by first | assumption | omega)) gL_areRecords_X6_slotOf rfl 2 (by decide +kernel) (by decide) 6 rfl rfl 0 _ rfl rfl [0, 1] [2, 3] 4 (rfl : (4 : Nat) = 4) (by decide +kernel) rfl rfl (Nat.le_of_ble_eq_true rfl) ⟨Nat.zero_le _, Nat.zero_le _⟩ ?_
                            intro v0 w0 hq
                            obtain ⟨rfl, rfl⟩ := hq
                            refine ⟨rfl, [[cO x0 6 [.ref (a 0), .ref h0, .ref o0, .ref u0, .ref e8, .ref e9]], stW G a c F, [cA g0 G.2.1.1 18 f], [cLg r0 G.2.1.2.2.2.2 64 lr]], (rfl : (4 : Nat) = 4), rfl, Eq.trans (b := ([[cA g0 G.2.1.1 18 f], [cLg r0 G.2.1.2.2.2.2 64 lr]] : List va_W)) rfl rfl, ?_⟩
                            show fSt l G X 0 0 320 [(0, .ref x0), (1, .ref g0), (2, .ref r0), (3, vI 1), (4, vI k), (5, vI n), (6, vI i)] [vI (sp_slot f k 2)] ([[cO x0 6 [.ref (a 0), .ref h0, .ref o0, .ref u0, .ref e8, .ref e9]], stW G a c F, [cA g0 G.2.1.1 18 f], [cLg r0 G.2.1.2.2.2.2 64 lr]] : List va_W).flatten
                            refine s_top (-1000001) (sl_bad (by omega)) ?_
                            refine s_ldc (z := -1000001) C (by decide +kernel) dL_areRecords_320 ?_
                            refine s_icmp_ne 329 C dL_areRecords_322 (by decide) (by decide) (by decide) (fun h => absurd h (by decide)) (fun h => ?_)
                            refine s_iconst C dL_areRecords_325 ?_
                            refine s_goto 330 C dL_areRecords_326 (by decide) ?_
                            refine s_istore_n 3 [(3, vI 1), (0, .ref x0), (1, .ref g0), (2, .ref r0), (4, vI k), (5, vI n), (6, vI i)] C dL_areRecords_330 rfl (by decide) rfl ?_
                            refine s_iinc [(4, vI (k + 1)), (3, vI 1), (0, .ref x0), (1, .ref g0), (2, .ref r0), (5, vI n), (6, vI i)] C dL_areRecords_331 4 rfl (by decide) rfl ?_
                            refine s_goto 189 C dL_areRecords_334 (by decide) ?_
                            refine s_lv [(0, .ref x0), (1, .ref g0), (2, .ref r0), (3, vI 1), (4, vI (k + 1))] [2, 3, 4, 1, 0] rfl ?_
                            exact ih_189 (k + 1) (by omega) (by omega)
                        · refine s_ldc (z := -1000004) C (by decide +kernel) dL_areRecords_303 ?_
                          refine s_goto 310 C dL_areRecords_305 (by decide) ?_
                          refine s_icmp_ne 329 C dL_areRecords_310 (by decide) (by omega) (by omega) (fun h_310 => ?_) (fun h_310 => ?_)
                          · exfalso
                            omega
                          · refine s_aload_n 0 C dL_areRecords_313 rfl 0 rfl ?_
                            refine s_iload C dL_areRecords_314 4 rfl ?_
                            refine s_iconst C dL_areRecords_316 ?_
                            refine s_callVQ (As := [vI k, vI 2]) (rest := []) (segs := [[cO x0 6 [.ref (a 0), .ref h0, .ref o0, .ref u0, .ref e8, .ref e9]], stW G a c F, [cA g0 G.2.1.1 18 f], [cLg r0 G.2.1.2.2.2.2 64 lr]]) C dL_areRecords_317 (c_X6_slotOf l G x0 h0 (.ref o0) (.ref u0) (.ref e8) (.ref e9) a c F B f k 2 (by first | assumption | omega) hI hBB (by first | assumption | omega) (by first | assumption | omega)) gL_areRecords_X6_slotOf rfl 2 (by decide +kernel) (by decide) 6 rfl rfl 0 _ rfl rfl [0, 1] [2, 3] 4 (rfl : (4 : Nat) = 4) (by decide +kernel) rfl rfl (Nat.le_of_ble_eq_true rfl) ⟨Nat.zero_le _, Nat.zero_le _⟩ ?_
                            intro v0 w0 hq
                            obtain ⟨rfl, rfl⟩ := hq
                            refine ⟨rfl, [[cO x0 6 [.ref (a 0), .ref h0, .ref o0, .ref u0, .ref e8, .ref e9]], stW G a c F, [cA g0 G.2.1.1 18 f], [cLg r0 G.2.1.2.2.2.2 64 lr]], (rfl : (4 : Nat) = 4), rfl, Eq.trans (b := ([[cA g0 G.2.1.1 18 f], [cLg r0 G.2.1.2.2.2.2 64 lr]] : List va_W)) rfl rfl, ?_⟩
                            show fSt l G X 0 0 320 [(0, .ref x0), (1, .ref g0), (2, .ref r0), (3, vI 1), (4, vI k), (5, vI n), (6, vI i)] [vI (sp_slot f k 2)] ([[cO x0 6 [.ref (a 0), .ref h0, .ref o0, .ref u0, .ref e8, .ref e9]], stW G a c F, [cA g0 G.2.1.1 18 f], [cLg r0 G.2.1.2.2.2.2 64 lr]] : List va_W).flatten
                            refine s_top (-1000001) (sl_bad (by omega)) ?_
                            refine s_ldc (z := -1000001) C (by decide +kernel) dL_areRecords_320 ?_
                            refine s_icmp_ne 329 C dL_areRecords_322 (by decide) (by decide) (by decide) (fun h => absurd h (by decide)) (fun h => ?_)
                            refine s_iconst C dL_areRecords_325 ?_
                            refine s_goto 330 C dL_areRecords_326 (by decide) ?_
                            refine s_istore_n 3 [(3, vI 1), (0, .ref x0), (1, .ref g0), (2, .ref r0), (4, vI k), (5, vI n), (6, vI i)] C dL_areRecords_330 rfl (by decide) rfl ?_
                            refine s_iinc [(4, vI (k + 1)), (3, vI 1), (0, .ref x0), (1, .ref g0), (2, .ref r0), (5, vI n), (6, vI i)] C dL_areRecords_331 4 rfl (by decide) rfl ?_
                            refine s_goto 189 C dL_areRecords_334 (by decide) ?_
                            refine s_lv [(0, .ref x0), (1, .ref g0), (2, .ref r0), (3, vI 1), (4, vI (k + 1))] [2, 3, 4, 1, 0] rfl ?_
                            exact ih_189 (k + 1) (by omega) (by omega)
                    · refine s_ldc (z := -1000004) C (by decide +kernel) dL_areRecords_271 ?_
                      refine s_goto 283 C dL_areRecords_273 (by decide) ?_
                      refine s_icmp_ne 329 C dL_areRecords_283 (by decide) (by omega) (by omega) (fun h_283 => ?_) (fun h_283 => ?_)
                      · exfalso
                        omega
                      · refine s_aload_n 0 C dL_areRecords_286 rfl 0 rfl ?_
                        refine s_iload C dL_areRecords_287 4 rfl ?_
                        refine s_iconst C dL_areRecords_289 ?_
                        refine s_callVQ (As := [vI k, vI 1]) (rest := []) (segs := [[cO x0 6 [.ref (a 0), .ref h0, .ref o0, .ref u0, .ref e8, .ref e9]], stW G a c F, [cA g0 G.2.1.1 18 f], [cLg r0 G.2.1.2.2.2.2 64 lr]]) C dL_areRecords_290 (c_X6_slotOf l G x0 h0 (.ref o0) (.ref u0) (.ref e8) (.ref e9) a c F B f k 1 (by first | assumption | omega) hI hBB (by first | assumption | omega) (by first | assumption | omega)) gL_areRecords_X6_slotOf rfl 2 (by decide +kernel) (by decide) 6 rfl rfl 0 _ rfl rfl [0, 1] [2, 3] 4 (rfl : (4 : Nat) = 4) (by decide +kernel) rfl rfl (Nat.le_of_ble_eq_true rfl) ⟨Nat.zero_le _, Nat.zero_le _⟩ ?_
                        intro v0 w0 hq
                        obtain ⟨rfl, rfl⟩ := hq
                        refine ⟨rfl, [[cO x0 6 [.ref (a 0), .ref h0, .ref o0, .ref u0, .ref e8, .ref e9]], stW G a c F, [cA g0 G.2.1.1 18 f], [cLg r0 G.2.1.2.2.2.2 64 lr]], (rfl : (4 : Nat) = 4), rfl, Eq.trans (b := ([[cA g0 G.2.1.1 18 f], [cLg r0 G.2.1.2.2.2.2 64 lr]] : List va_W)) rfl rfl, ?_⟩
                        show fSt l G X 0 0 293 [(0, .ref x0), (1, .ref g0), (2, .ref r0), (3, vI 1), (4, vI k), (5, vI n), (6, vI i)] [vI (sp_slot f k 1)] ([[cO x0 6 [.ref (a 0), .ref h0, .ref o0, .ref u0, .ref e8, .ref e9]], stW G a c F, [cA g0 G.2.1.1 18 f], [cLg r0 G.2.1.2.2.2.2 64 lr]] : List va_W).flatten
                        refine s_aload_n 1 C dL_areRecords_293 rfl 1 rfl ?_
                        refine s_bipush (z := 9) C dL_areRecords_294 rfl ?_
                        refine s_iload C dL_areRecords_296 4 rfl ?_
                        refine s_iadd C dL_areRecords_298 ?_
                        refine s_iald C dL_areRecords_299 13 rfl (k + 9) (by omega) (by omega) (by omega) (by omega) ?_
                        refine s_if_ne 308 C dL_areRecords_300 (by decide) (hI.rf _) (fun h_300 => ?_) (fun h_300 => ?_)
                        · refine s_iload C dL_areRecords_308 5 rfl ?_
                          refine s_icmp_ne 329 C dL_areRecords_310 (by decide) (by omega) (by omega) (fun h_310 => ?_) (fun h_310 => ?_)
                          · exfalso
                            omega
                          · refine s_aload_n 0 C dL_areRecords_313 rfl 0 rfl ?_
                            refine s_iload C dL_areRecords_314 4 rfl ?_
                            refine s_iconst C dL_areRecords_316 ?_
                            refine s_callVQ (As := [vI k, vI 2]) (rest := []) (segs := [[cO x0 6 [.ref (a 0), .ref h0, .ref o0, .ref u0, .ref e8, .ref e9]], stW G a c F, [cA g0 G.2.1.1 18 f], [cLg r0 G.2.1.2.2.2.2 64 lr]]) C dL_areRecords_317 (c_X6_slotOf l G x0 h0 (.ref o0) (.ref u0) (.ref e8) (.ref e9) a c F B f k 2 (by first | assumption | omega) hI hBB (by first | assumption | omega) (by first | assumption | omega)) gL_areRecords_X6_slotOf rfl 2 (by decide +kernel) (by decide) 6 rfl rfl 0 _ rfl rfl [0, 1] [2, 3] 4 (rfl : (4 : Nat) = 4) (by decide +kernel) rfl rfl (Nat.le_of_ble_eq_true rfl) ⟨Nat.zero_le _, Nat.zero_le _⟩ ?_
                            intro v0 w0 hq
                            obtain ⟨rfl, rfl⟩ := hq
                            refine ⟨rfl, [[cO x0 6 [.ref (a 0), .ref h0, .ref o0, .ref u0, .ref e8, .ref e9]], stW G a c F, [cA g0 G.2.1.1 18 f], [cLg r0 G.2.1.2.2.2.2 64 lr]], (rfl : (4 : Nat) = 4), rfl, Eq.trans (b := ([[cA g0 G.2.1.1 18 f], [cLg r0 G.2.1.2.2.2.2 64 lr]] : List va_W)) rfl rfl, ?_⟩
                            show fSt l G X 0 0 320 [(0, .ref x0), (1, .ref g0), (2, .ref r0), (3, vI 1), (4, vI k), (5, vI n), (6, vI i)] [vI (sp_slot f k 2)] ([[cO x0 6 [.ref (a 0), .ref h0, .ref o0, .ref u0, .ref e8, .ref e9]], stW G a c F, [cA g0 G.2.1.1 18 f], [cLg r0 G.2.1.2.2.2.2 64 lr]] : List va_W).flatten
                            refine s_top (-1000001) (sl_bad (by omega)) ?_
                            refine s_ldc (z := -1000001) C (by decide +kernel) dL_areRecords_320 ?_
                            refine s_icmp_ne 329 C dL_areRecords_322 (by decide) (by decide) (by decide) (fun h => absurd h (by decide)) (fun h => ?_)
                            refine s_iconst C dL_areRecords_325 ?_
                            refine s_goto 330 C dL_areRecords_326 (by decide) ?_
                            refine s_istore_n 3 [(3, vI 1), (0, .ref x0), (1, .ref g0), (2, .ref r0), (4, vI k), (5, vI n), (6, vI i)] C dL_areRecords_330 rfl (by decide) rfl ?_
                            refine s_iinc [(4, vI (k + 1)), (3, vI 1), (0, .ref x0), (1, .ref g0), (2, .ref r0), (5, vI n), (6, vI i)] C dL_areRecords_331 4 rfl (by decide) rfl ?_
                            refine s_goto 189 C dL_areRecords_334 (by decide) ?_
                            refine s_lv [(0, .ref x0), (1, .ref g0), (2, .ref r0), (3, vI 1), (4, vI (k + 1))] [2, 3, 4, 1, 0] rfl ?_
                            exact ih_189 (k + 1) (by omega) (by omega)
                        · refine s_ldc (z := -1000004) C (by decide +kernel) dL_areRecords_303 ?_
                          refine s_goto 310 C dL_areRecords_305 (by decide) ?_
                          refine s_icmp_ne 329 C dL_areRecords_310 (by decide) (by omega) (by omega) (fun h_310 => ?_) (fun h_310 => ?_)
                          · exfalso
                            omega
                          · refine s_aload_n 0 C dL_areRecords_313 rfl 0 rfl ?_
                            refine s_iload C dL_areRecords_314 4 rfl ?_
                            refine s_iconst C dL_areRecords_316 ?_
                            refine s_callVQ (As := [vI k, vI 2]) (rest := []) (segs := [[cO x0 6 [.ref (a 0), .ref h0, .ref o0, .ref u0, .ref e8, .ref e9]], stW G a c F, [cA g0 G.2.1.1 18 f], [cLg r0 G.2.1.2.2.2.2 64 lr]]) C dL_areRecords_317 (c_X6_slotOf l G x0 h0 (.ref o0) (.ref u0) (.ref e8) (.ref e9) a c F B f k 2 (by first | assumption | omega) hI hBB (by first | assumption | omega) (by first | assumption | omega)) gL_areRecords_X6_slotOf rfl 2 (by decide +kernel) (by decide) 6 rfl rfl 0 _ rfl rfl [0, 1] [2, 3] 4 (rfl : (4 : Nat) = 4) (by decide +kernel) rfl rfl (Nat.le_of_ble_eq_true rfl) ⟨Nat.zero_le _, Nat.zero_le _⟩ ?_
                            intro v0 w0 hq
                            obtain ⟨rfl, rfl⟩ := hq
                            refine ⟨rfl, [[cO x0 6 [.ref (a 0), .ref h0, .ref o0, .ref u0, .ref e8, .ref e9]], stW G a c F, [cA g0 G.2.1.1 18 f], [cLg r0 G.2.1.2.2.2.2 64 lr]], (rfl : (4 : Nat) = 4), rfl, Eq.trans (b := ([[cA g0 G.2.1.1 18 f], [cLg r0 G.2.1.2.2.2.2 64 lr]] : List va_W)) rfl rfl, ?_⟩
                            show fSt l G X 0 0 320 [(0, .ref x0), (1, .ref g0), (2, .ref r0), (3, vI 1), (4, vI k), (5, vI n), (6, vI i)] [vI (sp_slot f k 2)] ([[cO x0 6 [.ref (a 0), .ref h0, .ref o0, .ref u0, .ref e8, .ref e9]], stW G a c F, [cA g0 G.2.1.1 18 f], [cLg r0 G.2.1.2.2.2.2 64 lr]] : List va_W).flatten
                            refine s_top (-1000001) (sl_bad (by omega)) ?_
                            refine s_ldc (z := -1000001) C (by decide +kernel) dL_areRecords_320 ?_
                            refine s_icmp_ne 329 C dL_areRecords_322 (by decide) (by decide) (by decide) (fun h => absurd h (by decide)) (fun h => ?_)
                            refine s_iconst C dL_areRecords_325 ?_
                            refine s_goto 330 C dL_areRecords_326 (by decide) ?_
                            refine s_istore_n 3 [(3, vI 1), (0, .ref x0), (1, .ref g0), (2, .ref r0), (4, vI k), (5, vI n), (6, vI i)] C dL_areRecords_330 rfl (by decide) rfl ?_
                            refine s_iinc [(4, vI (k + 1)), (3, vI 1), (0, .ref x0), (1, .ref g0), (2, .ref r0), (5, vI n), (6, vI i)] C dL_areRecords_331 4 rfl (by decide) rfl ?_
                            refine s_goto 189 C dL_areRecords_334 (by decide) ?_
                            refine s_lv [(0, .ref x0), (1, .ref g0), (2, .ref r0), (3, vI 1), (4, vI (k + 1))] [2, 3, 4, 1, 0] rfl ?_
                            exact ih_189 (k + 1) (by omega) (by omega)
                  · have hRi := hI.R i (by omega) (by omega)
                    have hl8 := rk_lt hP hL.1 (k := i) (by omega) (by omega)
                    refine s_iload C dL_areRecords_213 5 rfl ?_
                    refine s_aload_n 2 C dL_areRecords_215 rfl 2 rfl ?_
                    refine s_iload C dL_areRecords_216 6 rfl ?_
                    refine s_callSQ (As := [.ref r0, vI i]) (rest := [vI n]) (segs := [[cO x0 6 [.ref (a 0), .ref h0, .ref o0, .ref u0, .ref e8, .ref e9]], stW G a c F, [cA g0 G.2.1.1 18 f], [cLg r0 G.2.1.2.2.2.2 64 lr]]) C dL_areRecords_218 (c_L_kind l G r0 lr i (by first | assumption | omega) hl8) gL_areRecords_L_kind rfl 2 (by decide +kernel) (by decide) [3] [0, 1, 2] 4 (rfl : (4 : Nat) = 4) (by decide +kernel) rfl rfl (Nat.le_of_ble_eq_true rfl) ⟨Nat.zero_le _, Nat.zero_le _⟩ ?_
                    intro v0 w0 hq
                    obtain ⟨rfl, rfl⟩ := hq
                    refine ⟨rfl, [[cO x0 6 [.ref (a 0), .ref h0, .ref o0, .ref u0, .ref e8, .ref e9]], stW G a c F, [cA g0 G.2.1.1 18 f], [cLg r0 G.2.1.2.2.2.2 64 lr]], (rfl : (4 : Nat) = 4), rfl, Eq.trans (b := ([[cO x0 6 [.ref (a 0), .ref h0, .ref o0, .ref u0, .ref e8, .ref e9]], stW G a c F, [cA g0 G.2.1.1 18 f]] : List va_W)) rfl rfl, ?_⟩
                    show fSt l G X 0 0 221 [(0, .ref x0), (1, .ref g0), (2, .ref r0), (3, vI 1), (4, vI k), (5, vI n), (6, vI i)] [vI (((lr i) % 4 : Nat) : Int), vI n] ([[cO x0 6 [.ref (a 0), .ref h0, .ref o0, .ref u0, .ref e8, .ref e9]], stW G a c F, [cA g0 G.2.1.1 18 f], [cLg r0 G.2.1.2.2.2.2 64 lr]] : List va_W).flatten
                    refine s_top (oR f i 0) (rk_kd hP hL.1 (by omega) (by omega)) ?_
                    refine s_if_ne 244 C dL_areRecords_221 (by decide) (by omega) (fun h_221 => ?_) (fun h_221 => ?_)
                    · refine s_iconst C dL_areRecords_244 ?_
                      refine s_iadd C dL_areRecords_245 ?_
                      refine s_istore [(5, vI (n + 0)), (0, .ref x0), (1, .ref g0), (2, .ref r0), (3, vI 1), (4, vI k), (6, vI i)] C dL_areRecords_246 (by decide) rfl ?_
                      refine s_iinc [(6, vI (i + 1)), (5, vI (n + 0)), (0, .ref x0), (1, .ref g0), (2, .ref r0), (3, vI 1), (4, vI k)] C dL_areRecords_248 6 rfl (by decide) rfl ?_
                      refine s_goto 205 C dL_areRecords_251 (by decide) ?_
                      refine s_lv [(0, .ref x0), (1, .ref g0), (2, .ref r0), (3, vI 1), (4, vI k), (5, vI (n + 0)), (6, vI (i + 1))] [2, 3, 4, 5, 6, 1, 0] rfl ?_
                      exact ih_205 (i + 1) (n + 0) (by omega) (cnt_nx (by omega) hc (Or.inr ⟨(by simp only [Bool.and_eq_true, decide_eq_true_eq]; omega), by omega⟩)) (by omega)
                    · refine s_aload_n 2 C dL_areRecords_224 rfl 2 rfl ?_
                      refine s_iload C dL_areRecords_225 6 rfl ?_
                      refine s_callSQ (As := [.ref r0, vI i]) (rest := [vI n]) (segs := [[cO x0 6 [.ref (a 0), .ref h0, .ref o0, .ref u0, .ref e8, .ref e9]], stW G a c F, [cA g0 G.2.1.1 18 f], [cLg r0 G.2.1.2.2.2.2 64 lr]]) C dL_areRecords_227 (c_L_by l G r0 lr i (by first | assumption | omega) hl8) gL_areRecords_L_by rfl 2 (by decide +kernel) (by decide) [3] [0, 1, 2] 4 (rfl : (4 : Nat) = 4) (by decide +kernel) rfl rfl (Nat.le_of_ble_eq_true rfl) ⟨Nat.zero_le _, Nat.zero_le _⟩ ?_
                      intro v0 w0 hq
                      obtain ⟨rfl, rfl⟩ := hq
                      refine ⟨rfl, [[cO x0 6 [.ref (a 0), .ref h0, .ref o0, .ref u0, .ref e8, .ref e9]], stW G a c F, [cA g0 G.2.1.1 18 f], [cLg r0 G.2.1.2.2.2.2 64 lr]], (rfl : (4 : Nat) = 4), rfl, Eq.trans (b := ([[cO x0 6 [.ref (a 0), .ref h0, .ref o0, .ref u0, .ref e8, .ref e9]], stW G a c F, [cA g0 G.2.1.1 18 f]] : List va_W)) rfl rfl, ?_⟩
                      show fSt l G X 0 0 230 [(0, .ref x0), (1, .ref g0), (2, .ref r0), (3, vI 1), (4, vI k), (5, vI n), (6, vI i)] [vI ((((lr i) / 128000) % 1000 : Nat) : Int), vI n] ([[cO x0 6 [.ref (a 0), .ref h0, .ref o0, .ref u0, .ref e8, .ref e9]], stW G a c F, [cA g0 G.2.1.1 18 f], [cLg r0 G.2.1.2.2.2.2 64 lr]] : List va_W).flatten
                      refine s_top (oR f i 1) (rk_t hP hL.1 (by omega) (by omega)) ?_
                      refine s_aload_n 1 C dL_areRecords_230 rfl 1 rfl ?_
                      refine s_bipush (z := 9) C dL_areRecords_231 rfl ?_
                      refine s_iload C dL_areRecords_233 4 rfl ?_
                      refine s_iadd C dL_areRecords_235 ?_
                      refine s_iald C dL_areRecords_236 13 rfl (k + 9) (by omega) (by omega) (by omega) (by omega) ?_
                      refine s_icmp_ne 244 C dL_areRecords_237 (by decide) (by omega) (hI.rf _) (fun h_237 => ?_) (fun h_237 => ?_)
                      · refine s_iconst C dL_areRecords_244 ?_
                        refine s_iadd C dL_areRecords_245 ?_
                        refine s_istore [(5, vI (n + 0)), (0, .ref x0), (1, .ref g0), (2, .ref r0), (3, vI 1), (4, vI k), (6, vI i)] C dL_areRecords_246 (by decide) rfl ?_
                        refine s_iinc [(6, vI (i + 1)), (5, vI (n + 0)), (0, .ref x0), (1, .ref g0), (2, .ref r0), (3, vI 1), (4, vI k)] C dL_areRecords_248 6 rfl (by decide) rfl ?_
                        refine s_goto 205 C dL_areRecords_251 (by decide) ?_
                        refine s_lv [(0, .ref x0), (1, .ref g0), (2, .ref r0), (3, vI 1), (4, vI k), (5, vI (n + 0)), (6, vI (i + 1))] [2, 3, 4, 5, 6, 1, 0] rfl ?_
                        exact ih_205 (i + 1) (n + 0) (by omega) (cnt_nx (by omega) hc (Or.inr ⟨(by simp only [Bool.and_eq_true, decide_eq_true_eq]; omega), by omega⟩)) (by omega)
                      · refine s_iconst C dL_areRecords_240 ?_
                        refine s_goto 245 C dL_areRecords_241 (by decide) ?_
                        refine s_iadd C dL_areRecords_245 ?_
                        refine s_istore [(5, vI (n + 1)), (0, .ref x0), (1, .ref g0), (2, .ref r0), (3, vI 1), (4, vI k), (6, vI i)] C dL_areRecords_246 (by decide) rfl ?_
                        refine s_iinc [(6, vI (i + 1)), (5, vI (n + 1)), (0, .ref x0), (1, .ref g0), (2, .ref r0), (3, vI 1), (4, vI k)] C dL_areRecords_248 6 rfl (by decide) rfl ?_
                        refine s_goto 205 C dL_areRecords_251 (by decide) ?_
                        refine s_lv [(0, .ref x0), (1, .ref g0), (2, .ref r0), (3, vI 1), (4, vI k), (5, vI (n + 1)), (6, vI (i + 1))] [2, 3, 4, 5, 6, 1, 0] rfl ?_
                        exact ih_205 (i + 1) (n + 1) (by omega) (cnt_nx (by omega) hc (Or.inl ⟨(by simp only [Bool.and_eq_true, decide_eq_true_eq]; omega), by omega⟩)) (by omega)
              refine s_lv [(0, .ref x0), (1, .ref g0), (2, .ref r0), (3, vI 1), (4, vI k), (5, vI 0), (6, vI 1)] [2, 3, 4, 5, 6, 1, 0] rfl ?_
              exact loop_205 (f 0 + 1 - 1 + 1 : Int).toNat 1 0 (by omega) rfl (by omega)
        refine s_lv [(0, .ref x0), (1, .ref g0), (2, .ref r0), (3, vI 1), (4, vI 0)] [1, 2, 3, 4, 0] rfl ?_
        exact loop_189 (3 - 0 + 1 : Int).toNat 0 (by omega) (by omega)
      · refine s_iload_n 3 C dL_areRecords_54 rfl 3 rfl ?_
        refine s_if_eq 186 C dL_areRecords_55 (by decide) (by decide) (fun h => absurd h (by decide)) (fun h => ?_)
        have hRk := hI.R k (by omega) (by omega)
        have hl9 := rk_lt hP hL.1 (k := k) (by omega) (by omega)
        refine s_aload_n 2 C dL_areRecords_58 rfl 2 rfl ?_
        refine s_iload C dL_areRecords_59 4 rfl ?_
        refine s_callSQ (As := [.ref r0, vI k]) (rest := []) (segs := [[cO x0 6 [.ref (a 0), .ref h0, .ref o0, .ref u0, .ref e8, .ref e9]], stW G a c F, [cA g0 G.2.1.1 18 f], [cLg r0 G.2.1.2.2.2.2 64 lr]]) C dL_areRecords_61 (c_L_kind l G r0 lr k (by first | assumption | omega) hl9) gL_areRecords_L_kind rfl 2 (by decide +kernel) (by decide) [3] [0, 1, 2] 4 (rfl : (4 : Nat) = 4) (by decide +kernel) rfl rfl (Nat.le_of_ble_eq_true rfl) ⟨Nat.zero_le _, Nat.zero_le _⟩ ?_
        intro v0 w0 hq
        obtain ⟨rfl, rfl⟩ := hq
        refine ⟨rfl, [[cO x0 6 [.ref (a 0), .ref h0, .ref o0, .ref u0, .ref e8, .ref e9]], stW G a c F, [cA g0 G.2.1.1 18 f], [cLg r0 G.2.1.2.2.2.2 64 lr]], (rfl : (4 : Nat) = 4), rfl, Eq.trans (b := ([[cO x0 6 [.ref (a 0), .ref h0, .ref o0, .ref u0, .ref e8, .ref e9]], stW G a c F, [cA g0 G.2.1.1 18 f]] : List va_W)) rfl rfl, ?_⟩
        show fSt l G X 0 0 64 [(0, .ref x0), (1, .ref g0), (2, .ref r0), (3, vI 1), (4, vI k)] [vI (((lr k) % 4 : Nat) : Int)] ([[cO x0 6 [.ref (a 0), .ref h0, .ref o0, .ref u0, .ref e8, .ref e9]], stW G a c F, [cA g0 G.2.1.1 18 f], [cLg r0 G.2.1.2.2.2.2 64 lr]] : List va_W).flatten
        refine s_top (oR f k 0) (rk_kd hP hL.1 (by omega) (by omega)) ?_
        refine s_if_ne 71 C dL_areRecords_64 (by decide) (by omega) (fun h_64 => ?_) (fun h_64 => ?_)
        · refine s_iconst C dL_areRecords_71 ?_
          refine s_istore [(5, vI 0), (0, .ref x0), (1, .ref g0), (2, .ref r0), (3, vI 1), (4, vI k)] C dL_areRecords_72 (by decide) rfl ?_
          refine s_aload_n 0 C dL_areRecords_74 rfl 1 rfl ?_
          refine s_iload C dL_areRecords_75 5 rfl ?_
          refine s_iconst C dL_areRecords_77 ?_
          refine s_callVQ (As := [vI k, vI 0]) (rest := []) (segs := [[cO x0 6 [.ref (a 0), .ref h0, .ref o0, .ref u0, .ref e8, .ref e9]], stW G a c F, [cA g0 G.2.1.1 18 f], [cLg r0 G.2.1.2.2.2.2 64 lr]]) C dL_areRecords_78 (c_X6_recordOf l G x0 h0 (.ref o0) (.ref u0) (.ref e8) (.ref e9) a c F B f k 0 (by first | assumption | omega) hI hBB (by first | assumption | omega) (by first | assumption | omega)) gL_areRecords_X6_recordOf rfl 2 (by decide +kernel) (by decide) 6 rfl rfl 0 _ rfl rfl [0, 1] [2, 3] 4 (rfl : (4 : Nat) = 4) (by decide +kernel) rfl rfl (Nat.le_of_ble_eq_true rfl) ⟨Nat.zero_le _, Nat.zero_le _⟩ ?_
          intro v0 w0 hq
          obtain ⟨rfl, rfl⟩ := hq
          refine ⟨rfl, [[cO x0 6 [.ref (a 0), .ref h0, .ref o0, .ref u0, .ref e8, .ref e9]], stW G a c F, [cA g0 G.2.1.1 18 f], [cLg r0 G.2.1.2.2.2.2 64 lr]], (rfl : (4 : Nat) = 4), rfl, Eq.trans (b := ([[cA g0 G.2.1.1 18 f], [cLg r0 G.2.1.2.2.2.2 64 lr]] : List va_W)) rfl rfl, ?_⟩
          show fSt l G X 0 0 81 [(5, vI 0), (0, .ref x0), (1, .ref g0), (2, .ref r0), (3, vI 1), (4, vI k)] [vI (sp_rec f k 0)] ([[cO x0 6 [.ref (a 0), .ref h0, .ref o0, .ref u0, .ref e8, .ref e9]], stW G a c F, [cA g0 G.2.1.1 18 f], [cLg r0 G.2.1.2.2.2.2 64 lr]] : List va_W).flatten
          refine s_top (oR f k 0) (rc_in (by omega) (by omega)) ?_
          refine s_aload_n 2 C dL_areRecords_81 rfl 3 rfl ?_
          refine s_iload C dL_areRecords_82 5 rfl ?_
          refine s_callSQ (As := [.ref r0, vI k]) (rest := [vI (oR f k 0)]) (segs := [[cO x0 6 [.ref (a 0), .ref h0, .ref o0, .ref u0, .ref e8, .ref e9]], stW G a c F, [cA g0 G.2.1.1 18 f], [cLg r0 G.2.1.2.2.2.2 64 lr]]) C dL_areRecords_84 (c_L_kind l G r0 lr k (by first | assumption | omega) hl9) gL_areRecords_L_kind rfl 2 (by decide +kernel) (by decide) [3] [0, 1, 2] 4 (rfl : (4 : Nat) = 4) (by decide +kernel) rfl rfl (Nat.le_of_ble_eq_true rfl) ⟨Nat.zero_le _, Nat.zero_le _⟩ ?_
          intro v0 w0 hq
          obtain ⟨rfl, rfl⟩ := hq
          refine ⟨rfl, [[cO x0 6 [.ref (a 0), .ref h0, .ref o0, .ref u0, .ref e8, .ref e9]], stW G a c F, [cA g0 G.2.1.1 18 f], [cLg r0 G.2.1.2.2.2.2 64 lr]], (rfl : (4 : Nat) = 4), rfl, Eq.trans (b := ([[cO x0 6 [.ref (a 0), .ref h0, .ref o0, .ref u0, .ref e8, .ref e9]], stW G a c F, [cA g0 G.2.1.1 18 f]] : List va_W)) rfl rfl, ?_⟩
          show fSt l G X 0 0 87 [(5, vI 0), (0, .ref x0), (1, .ref g0), (2, .ref r0), (3, vI 1), (4, vI k)] [vI (((lr k) % 4 : Nat) : Int), vI (oR f k 0)] ([[cO x0 6 [.ref (a 0), .ref h0, .ref o0, .ref u0, .ref e8, .ref e9]], stW G a c F, [cA g0 G.2.1.1 18 f], [cLg r0 G.2.1.2.2.2.2 64 lr]] : List va_W).flatten
          refine s_top (oR f k 0) (rk_kd hP hL.1 (by omega) (by omega)) ?_
          refine s_icmp_ne 178 C dL_areRecords_87 (by decide) (by omega) (by omega) (fun h => absurd (by omega) h) (fun _ => ?_)
          refine s_aload_n 0 C dL_areRecords_90 rfl 1 rfl ?_
          refine s_iload C dL_areRecords_91 5 rfl ?_
          refine s_iconst C dL_areRecords_93 ?_
          refine s_callVQ (As := [vI k, vI 1]) (rest := []) (segs := [[cO x0 6 [.ref (a 0), .ref h0, .ref o0, .ref u0, .ref e8, .ref e9]], stW G a c F, [cA g0 G.2.1.1 18 f], [cLg r0 G.2.1.2.2.2.2 64 lr]]) C dL_areRecords_94 (c_X6_recordOf l G x0 h0 (.ref o0) (.ref u0) (.ref e8) (.ref e9) a c F B f k 1 (by first | assumption | omega) hI hBB (by first | assumption | omega) (by first | assumption | omega)) gL_areRecords_X6_recordOf rfl 2 (by decide +kernel) (by decide) 6 rfl rfl 0 _ rfl rfl [0, 1] [2, 3] 4 (rfl : (4 : Nat) = 4) (by decide +kernel) rfl rfl (Nat.le_of_ble_eq_true rfl) ⟨Nat.zero_le _, Nat.zero_le _⟩ ?_
          intro v0 w0 hq
          obtain ⟨rfl, rfl⟩ := hq
          refine ⟨rfl, [[cO x0 6 [.ref (a 0), .ref h0, .ref o0, .ref u0, .ref e8, .ref e9]], stW G a c F, [cA g0 G.2.1.1 18 f], [cLg r0 G.2.1.2.2.2.2 64 lr]], (rfl : (4 : Nat) = 4), rfl, Eq.trans (b := ([[cA g0 G.2.1.1 18 f], [cLg r0 G.2.1.2.2.2.2 64 lr]] : List va_W)) rfl rfl, ?_⟩
          show fSt l G X 0 0 97 [(5, vI 0), (0, .ref x0), (1, .ref g0), (2, .ref r0), (3, vI 1), (4, vI k)] [vI (sp_rec f k 1)] ([[cO x0 6 [.ref (a 0), .ref h0, .ref o0, .ref u0, .ref e8, .ref e9]], stW G a c F, [cA g0 G.2.1.1 18 f], [cLg r0 G.2.1.2.2.2.2 64 lr]] : List va_W).flatten
          refine s_top (oR f k 1) (rc_in (by omega) (by omega)) ?_
          refine s_aload_n 2 C dL_areRecords_97 rfl 3 rfl ?_
          refine s_iload C dL_areRecords_98 5 rfl ?_
          refine s_callSQ (As := [.ref r0, vI k]) (rest := [vI (oR f k 1)]) (segs := [[cO x0 6 [.ref (a 0), .ref h0, .ref o0, .ref u0, .ref e8, .ref e9]], stW G a c F, [cA g0 G.2.1.1 18 f], [cLg r0 G.2.1.2.2.2.2 64 lr]]) C dL_areRecords_100 (c_L_by l G r0 lr k (by first | assumption | omega) hl9) gL_areRecords_L_by rfl 2 (by decide +kernel) (by decide) [3] [0, 1, 2] 4 (rfl : (4 : Nat) = 4) (by decide +kernel) rfl rfl (Nat.le_of_ble_eq_true rfl) ⟨Nat.zero_le _, Nat.zero_le _⟩ ?_
          intro v0 w0 hq
          obtain ⟨rfl, rfl⟩ := hq
          refine ⟨rfl, [[cO x0 6 [.ref (a 0), .ref h0, .ref o0, .ref u0, .ref e8, .ref e9]], stW G a c F, [cA g0 G.2.1.1 18 f], [cLg r0 G.2.1.2.2.2.2 64 lr]], (rfl : (4 : Nat) = 4), rfl, Eq.trans (b := ([[cO x0 6 [.ref (a 0), .ref h0, .ref o0, .ref u0, .ref e8, .ref e9]], stW G a c F, [cA g0 G.2.1.1 18 f]] : List va_W)) rfl rfl, ?_⟩
          show fSt l G X 0 0 103 [(5, vI 0), (0, .ref x0), (1, .ref g0), (2, .ref r0), (3, vI 1), (4, vI k)] [vI ((((lr k) / 128000) % 1000 : Nat) : Int), vI (oR f k 1)] ([[cO x0 6 [.ref (a 0), .ref h0, .ref o0, .ref u0, .ref e8, .ref e9]], stW G a c F, [cA g0 G.2.1.1 18 f], [cLg r0 G.2.1.2.2.2.2 64 lr]] : List va_W).flatten
          refine s_top (oR f k 1) (rk_t hP hL.1 (by omega) (by omega)) ?_
          refine s_icmp_ne 178 C dL_areRecords_103 (by decide) (by omega) (by omega) (fun h => absurd (by omega) h) (fun _ => ?_)
          refine s_aload_n 0 C dL_areRecords_106 rfl 1 rfl ?_
          refine s_iload C dL_areRecords_107 5 rfl ?_
          refine s_iconst C dL_areRecords_109 ?_
          refine s_callVQ (As := [vI k, vI 2]) (rest := []) (segs := [[cO x0 6 [.ref (a 0), .ref h0, .ref o0, .ref u0, .ref e8, .ref e9]], stW G a c F, [cA g0 G.2.1.1 18 f], [cLg r0 G.2.1.2.2.2.2 64 lr]]) C dL_areRecords_110 (c_X6_recordOf l G x0 h0 (.ref o0) (.ref u0) (.ref e8) (.ref e9) a c F B f k 2 (by first | assumption | omega) hI hBB (by first | assumption | omega) (by first | assumption | omega)) gL_areRecords_X6_recordOf rfl 2 (by decide +kernel) (by decide) 6 rfl rfl 0 _ rfl rfl [0, 1] [2, 3] 4 (rfl : (4 : Nat) = 4) (by decide +kernel) rfl rfl (Nat.le_of_ble_eq_true rfl) ⟨Nat.zero_le _, Nat.zero_le _⟩ ?_
          intro v0 w0 hq
          obtain ⟨rfl, rfl⟩ := hq
          refine ⟨rfl, [[cO x0 6 [.ref (a 0), .ref h0, .ref o0, .ref u0, .ref e8, .ref e9]], stW G a c F, [cA g0 G.2.1.1 18 f], [cLg r0 G.2.1.2.2.2.2 64 lr]], (rfl : (4 : Nat) = 4), rfl, Eq.trans (b := ([[cA g0 G.2.1.1 18 f], [cLg r0 G.2.1.2.2.2.2 64 lr]] : List va_W)) rfl rfl, ?_⟩
          show fSt l G X 0 0 113 [(5, vI 0), (0, .ref x0), (1, .ref g0), (2, .ref r0), (3, vI 1), (4, vI k)] [vI (sp_rec f k 2)] ([[cO x0 6 [.ref (a 0), .ref h0, .ref o0, .ref u0, .ref e8, .ref e9]], stW G a c F, [cA g0 G.2.1.1 18 f], [cLg r0 G.2.1.2.2.2.2 64 lr]] : List va_W).flatten
          refine s_top (oR f k 2) (rc_in (by omega) (by omega)) ?_
          refine s_iload C dL_areRecords_113 0 rfl ?_
          refine s_if_eq 127 C dL_areRecords_115 (by decide) (by decide) (fun h => ?_) (fun h => absurd h (by decide))
          have hRe := hI.Re k (by omega) (by omega) (by omega)
          refine s_ldc (z := -1000004) C (by decide +kernel) dL_areRecords_127 ?_
          refine s_icmp_ne 178 C dL_areRecords_129 (by decide) (by omega) (by omega) (fun h_129 => ?_) (fun h_129 => ?_)
          · exfalso
            omega
          · refine s_aload_n 0 C dL_areRecords_132 rfl 1 rfl ?_
            refine s_iload C dL_areRecords_133 5 rfl ?_
            refine s_iconst C dL_areRecords_135 ?_
            refine s_callVQ (As := [vI k, vI 3]) (rest := []) (segs := [[cO x0 6 [.ref (a 0), .ref h0, .ref o0, .ref u0, .ref e8, .ref e9]], stW G a c F, [cA g0 G.2.1.1 18 f], [cLg r0 G.2.1.2.2.2.2 64 lr]]) C dL_areRecords_136 (c_X6_recordOf l G x0 h0 (.ref o0) (.ref u0) (.ref e8) (.ref e9) a c F B f k 3 (by first | assumption | omega) hI hBB (by first | assumption | omega) (by first | assumption | omega)) gL_areRecords_X6_recordOf rfl 2 (by decide +kernel) (by decide) 6 rfl rfl 0 _ rfl rfl [0, 1] [2, 3] 4 (rfl : (4 : Nat) = 4) (by decide +kernel) rfl rfl (Nat.le_of_ble_eq_true rfl) ⟨Nat.zero_le _, Nat.zero_le _⟩ ?_
            intro v0 w0 hq
            obtain ⟨rfl, rfl⟩ := hq
            refine ⟨rfl, [[cO x0 6 [.ref (a 0), .ref h0, .ref o0, .ref u0, .ref e8, .ref e9]], stW G a c F, [cA g0 G.2.1.1 18 f], [cLg r0 G.2.1.2.2.2.2 64 lr]], (rfl : (4 : Nat) = 4), rfl, Eq.trans (b := ([[cA g0 G.2.1.1 18 f], [cLg r0 G.2.1.2.2.2.2 64 lr]] : List va_W)) rfl rfl, ?_⟩
            show fSt l G X 0 0 139 [(5, vI 0), (0, .ref x0), (1, .ref g0), (2, .ref r0), (3, vI 1), (4, vI k)] [vI (sp_rec f k 3)] ([[cO x0 6 [.ref (a 0), .ref h0, .ref o0, .ref u0, .ref e8, .ref e9]], stW G a c F, [cA g0 G.2.1.1 18 f], [cLg r0 G.2.1.2.2.2.2 64 lr]] : List va_W).flatten
            refine s_top (oR f k 3) (rc_in (by omega) (by omega)) ?_
            refine s_iload C dL_areRecords_139 0 rfl ?_
            refine s_if_eq 153 C dL_areRecords_141 (by decide) (by decide) (fun h => ?_) (fun h => absurd h (by decide))
            refine s_ldc (z := -1000004) C (by decide +kernel) dL_areRecords_153 ?_
            refine s_icmp_ne 178 C dL_areRecords_155 (by decide) (by omega) (by omega) (fun h_155 => ?_) (fun h_155 => ?_)
            · exfalso
              omega
            · refine s_aload_n 0 C dL_areRecords_158 rfl 1 rfl ?_
              refine s_iload C dL_areRecords_159 5 rfl ?_
              refine s_iconst C dL_areRecords_161 ?_
              refine s_callVQ (As := [vI k, vI 4]) (rest := []) (segs := [[cO x0 6 [.ref (a 0), .ref h0, .ref o0, .ref u0, .ref e8, .ref e9]], stW G a c F, [cA g0 G.2.1.1 18 f], [cLg r0 G.2.1.2.2.2.2 64 lr]]) C dL_areRecords_162 (c_X6_recordOf l G x0 h0 (.ref o0) (.ref u0) (.ref e8) (.ref e9) a c F B f k 4 (by first | assumption | omega) hI hBB (by first | assumption | omega) (by first | assumption | omega)) gL_areRecords_X6_recordOf rfl 2 (by decide +kernel) (by decide) 6 rfl rfl 0 _ rfl rfl [0, 1] [2, 3] 4 (rfl : (4 : Nat) = 4) (by decide +kernel) rfl rfl (Nat.le_of_ble_eq_true rfl) ⟨Nat.zero_le _, Nat.zero_le _⟩ ?_
              intro v0 w0 hq
              obtain ⟨rfl, rfl⟩ := hq
              refine ⟨rfl, [[cO x0 6 [.ref (a 0), .ref h0, .ref o0, .ref u0, .ref e8, .ref e9]], stW G a c F, [cA g0 G.2.1.1 18 f], [cLg r0 G.2.1.2.2.2.2 64 lr]], (rfl : (4 : Nat) = 4), rfl, Eq.trans (b := ([[cA g0 G.2.1.1 18 f], [cLg r0 G.2.1.2.2.2.2 64 lr]] : List va_W)) rfl rfl, ?_⟩
              show fSt l G X 0 0 165 [(5, vI 0), (0, .ref x0), (1, .ref g0), (2, .ref r0), (3, vI 1), (4, vI k)] [vI (sp_rec f k 4)] ([[cO x0 6 [.ref (a 0), .ref h0, .ref o0, .ref u0, .ref e8, .ref e9]], stW G a c F, [cA g0 G.2.1.1 18 f], [cLg r0 G.2.1.2.2.2.2 64 lr]] : List va_W).flatten
              refine s_top (oR f k 4) (rc_in (by omega) (by omega)) ?_
              refine s_aload_n 2 C dL_areRecords_165 rfl 3 rfl ?_
              refine s_iload C dL_areRecords_166 5 rfl ?_
              refine s_callSQ (As := [.ref r0, vI k]) (rest := [vI (oR f k 4)]) (segs := [[cO x0 6 [.ref (a 0), .ref h0, .ref o0, .ref u0, .ref e8, .ref e9]], stW G a c F, [cA g0 G.2.1.1 18 f], [cLg r0 G.2.1.2.2.2.2 64 lr]]) C dL_areRecords_168 (c_L_at l G r0 lr k (by first | assumption | omega) hl9) gL_areRecords_L_at rfl 2 (by decide +kernel) (by decide) [3] [0, 1, 2] 4 (rfl : (4 : Nat) = 4) (by decide +kernel) rfl rfl (Nat.le_of_ble_eq_true rfl) ⟨Nat.zero_le _, Nat.zero_le _⟩ ?_
              intro v0 w0 hq
              obtain ⟨rfl, rfl⟩ := hq
              refine ⟨rfl, [[cO x0 6 [.ref (a 0), .ref h0, .ref o0, .ref u0, .ref e8, .ref e9]], stW G a c F, [cA g0 G.2.1.1 18 f], [cLg r0 G.2.1.2.2.2.2 64 lr]], (rfl : (4 : Nat) = 4), rfl, Eq.trans (b := ([[cO x0 6 [.ref (a 0), .ref h0, .ref o0, .ref u0, .ref e8, .ref e9]], stW G a c F, [cA g0 G.2.1.1 18 f]] : List va_W)) rfl rfl, ?_⟩
              show fSt l G X 0 0 171 [(5, vI 0), (0, .ref x0), (1, .ref g0), (2, .ref r0), (3, vI 1), (4, vI k)] [vI (((lr k) / 128000000 : Nat) : Int), vI (oR f k 4)] ([[cO x0 6 [.ref (a 0), .ref h0, .ref o0, .ref u0, .ref e8, .ref e9]], stW G a c F, [cA g0 G.2.1.1 18 f], [cLg r0 G.2.1.2.2.2.2 64 lr]] : List va_W).flatten
              refine s_top (oR f k 4) (rk_a hP hL.1 (by omega) (by omega)) ?_
              refine s_icmp_ne 178 C dL_areRecords_171 (by decide) (by omega) (by omega) (fun h => absurd (by omega) h) (fun _ => ?_)
              refine s_iconst C dL_areRecords_174 ?_
              refine s_goto 179 C dL_areRecords_175 (by decide) ?_
              refine s_istore_n 3 [(3, vI 1), (5, vI 0), (0, .ref x0), (1, .ref g0), (2, .ref r0), (4, vI k)] C dL_areRecords_179 rfl (by decide) rfl ?_
              refine s_iinc [(4, vI (k + 1)), (3, vI 1), (5, vI 0), (0, .ref x0), (1, .ref g0), (2, .ref r0)] C dL_areRecords_180 5 rfl (by decide) rfl ?_
              refine s_goto 46 C dL_areRecords_183 (by decide) ?_
              refine s_lv [(0, .ref x0), (1, .ref g0), (2, .ref r0), (3, vI 1), (4, vI (k + 1))] [3, 4, 5, 1, 0] rfl ?_
              exact ih_46 (k + 1) (by omega) (by omega)
        · refine s_iconst C dL_areRecords_67 ?_
          refine s_goto 72 C dL_areRecords_68 (by decide) ?_
          refine s_istore [(5, vI 1), (0, .ref x0), (1, .ref g0), (2, .ref r0), (3, vI 1), (4, vI k)] C dL_areRecords_72 (by decide) rfl ?_
          refine s_aload_n 0 C dL_areRecords_74 rfl 1 rfl ?_
          refine s_iload C dL_areRecords_75 5 rfl ?_
          refine s_iconst C dL_areRecords_77 ?_
          refine s_callVQ (As := [vI k, vI 0]) (rest := []) (segs := [[cO x0 6 [.ref (a 0), .ref h0, .ref o0, .ref u0, .ref e8, .ref e9]], stW G a c F, [cA g0 G.2.1.1 18 f], [cLg r0 G.2.1.2.2.2.2 64 lr]]) C dL_areRecords_78 (c_X6_recordOf l G x0 h0 (.ref o0) (.ref u0) (.ref e8) (.ref e9) a c F B f k 0 (by first | assumption | omega) hI hBB (by first | assumption | omega) (by first | assumption | omega)) gL_areRecords_X6_recordOf rfl 2 (by decide +kernel) (by decide) 6 rfl rfl 0 _ rfl rfl [0, 1] [2, 3] 4 (rfl : (4 : Nat) = 4) (by decide +kernel) rfl rfl (Nat.le_of_ble_eq_true rfl) ⟨Nat.zero_le _, Nat.zero_le _⟩ ?_
          intro v0 w0 hq
          obtain ⟨rfl, rfl⟩ := hq
          refine ⟨rfl, [[cO x0 6 [.ref (a 0), .ref h0, .ref o0, .ref u0, .ref e8, .ref e9]], stW G a c F, [cA g0 G.2.1.1 18 f], [cLg r0 G.2.1.2.2.2.2 64 lr]], (rfl : (4 : Nat) = 4), rfl, Eq.trans (b := ([[cA g0 G.2.1.1 18 f], [cLg r0 G.2.1.2.2.2.2 64 lr]] : List va_W)) rfl rfl, ?_⟩
          show fSt l G X 0 0 81 [(5, vI 1), (0, .ref x0), (1, .ref g0), (2, .ref r0), (3, vI 1), (4, vI k)] [vI (sp_rec f k 0)] ([[cO x0 6 [.ref (a 0), .ref h0, .ref o0, .ref u0, .ref e8, .ref e9]], stW G a c F, [cA g0 G.2.1.1 18 f], [cLg r0 G.2.1.2.2.2.2 64 lr]] : List va_W).flatten
          refine s_top (oR f k 0) (rc_in (by omega) (by omega)) ?_
          refine s_aload_n 2 C dL_areRecords_81 rfl 3 rfl ?_
          refine s_iload C dL_areRecords_82 5 rfl ?_
          refine s_callSQ (As := [.ref r0, vI k]) (rest := [vI (oR f k 0)]) (segs := [[cO x0 6 [.ref (a 0), .ref h0, .ref o0, .ref u0, .ref e8, .ref e9]], stW G a c F, [cA g0 G.2.1.1 18 f], [cLg r0 G.2.1.2.2.2.2 64 lr]]) C dL_areRecords_84 (c_L_kind l G r0 lr k (by first | assumption | omega) hl9) gL_areRecords_L_kind rfl 2 (by decide +kernel) (by decide) [3] [0, 1, 2] 4 (rfl : (4 : Nat) = 4) (by decide +kernel) rfl rfl (Nat.le_of_ble_eq_true rfl) ⟨Nat.zero_le _, Nat.zero_le _⟩ ?_
          intro v0 w0 hq
          obtain ⟨rfl, rfl⟩ := hq
          refine ⟨rfl, [[cO x0 6 [.ref (a 0), .ref h0, .ref o0, .ref u0, .ref e8, .ref e9]], stW G a c F, [cA g0 G.2.1.1 18 f], [cLg r0 G.2.1.2.2.2.2 64 lr]], (rfl : (4 : Nat) = 4), rfl, Eq.trans (b := ([[cO x0 6 [.ref (a 0), .ref h0, .ref o0, .ref u0, .ref e8, .ref e9]], stW G a c F, [cA g0 G.2.1.1 18 f]] : List va_W)) rfl rfl, ?_⟩
          show fSt l G X 0 0 87 [(5, vI 1), (0, .ref x0), (1, .ref g0), (2, .ref r0), (3, vI 1), (4, vI k)] [vI (((lr k) % 4 : Nat) : Int), vI (oR f k 0)] ([[cO x0 6 [.ref (a 0), .ref h0, .ref o0, .ref u0, .ref e8, .ref e9]], stW G a c F, [cA g0 G.2.1.1 18 f], [cLg r0 G.2.1.2.2.2.2 64 lr]] : List va_W).flatten
          refine s_top (oR f k 0) (rk_kd hP hL.1 (by omega) (by omega)) ?_
          refine s_icmp_ne 178 C dL_areRecords_87 (by decide) (by omega) (by omega) (fun h => absurd (by omega) h) (fun _ => ?_)
          refine s_aload_n 0 C dL_areRecords_90 rfl 1 rfl ?_
          refine s_iload C dL_areRecords_91 5 rfl ?_
          refine s_iconst C dL_areRecords_93 ?_
          refine s_callVQ (As := [vI k, vI 1]) (rest := []) (segs := [[cO x0 6 [.ref (a 0), .ref h0, .ref o0, .ref u0, .ref e8, .ref e9]], stW G a c F, [cA g0 G.2.1.1 18 f], [cLg r0 G.2.1.2.2.2.2 64 lr]]) C dL_areRecords_94 (c_X6_recordOf l G x0 h0 (.ref o0) (.ref u0) (.ref e8) (.ref e9) a c F B f k 1 (by first | assumption | omega) hI hBB (by first | assumption | omega) (by first | assumption | omega)) gL_areRecords_X6_recordOf rfl 2 (by decide +kernel) (by decide) 6 rfl rfl 0 _ rfl rfl [0, 1] [2, 3] 4 (rfl : (4 : Nat) = 4) (by decide +kernel) rfl rfl (Nat.le_of_ble_eq_true rfl) ⟨Nat.zero_le _, Nat.zero_le _⟩ ?_
          intro v0 w0 hq
          obtain ⟨rfl, rfl⟩ := hq
          refine ⟨rfl, [[cO x0 6 [.ref (a 0), .ref h0, .ref o0, .ref u0, .ref e8, .ref e9]], stW G a c F, [cA g0 G.2.1.1 18 f], [cLg r0 G.2.1.2.2.2.2 64 lr]], (rfl : (4 : Nat) = 4), rfl, Eq.trans (b := ([[cA g0 G.2.1.1 18 f], [cLg r0 G.2.1.2.2.2.2 64 lr]] : List va_W)) rfl rfl, ?_⟩
          show fSt l G X 0 0 97 [(5, vI 1), (0, .ref x0), (1, .ref g0), (2, .ref r0), (3, vI 1), (4, vI k)] [vI (sp_rec f k 1)] ([[cO x0 6 [.ref (a 0), .ref h0, .ref o0, .ref u0, .ref e8, .ref e9]], stW G a c F, [cA g0 G.2.1.1 18 f], [cLg r0 G.2.1.2.2.2.2 64 lr]] : List va_W).flatten
          refine s_top (oR f k 1) (rc_in (by omega) (by omega)) ?_
          refine s_aload_n 2 C dL_areRecords_97 rfl 3 rfl ?_
          refine s_iload C dL_areRecords_98 5 rfl ?_
          refine s_callSQ (As := [.ref r0, vI k]) (rest := [vI (oR f k 1)]) (segs := [[cO x0 6 [.ref (a 0), .ref h0, .ref o0, .ref u0, .ref e8, .ref e9]], stW G a c F, [cA g0 G.2.1.1 18 f], [cLg r0 G.2.1.2.2.2.2 64 lr]]) C dL_areRecords_100 (c_L_by l G r0 lr k (by first | assumption | omega) hl9) gL_areRecords_L_by rfl 2 (by decide +kernel) (by decide) [3] [0, 1, 2] 4 (rfl : (4 : Nat) = 4) (by decide +kernel) rfl rfl (Nat.le_of_ble_eq_true rfl) ⟨Nat.zero_le _, Nat.zero_le _⟩ ?_
          intro v0 w0 hq
          obtain ⟨rfl, rfl⟩ := hq
          refine ⟨rfl, [[cO x0 6 [.ref (a 0), .ref h0, .ref o0, .ref u0, .ref e8, .ref e9]], stW G a c F, [cA g0 G.2.1.1 18 f], [cLg r0 G.2.1.2.2.2.2 64 lr]], (rfl : (4 : Nat) = 4), rfl, Eq.trans (b := ([[cO x0 6 [.ref (a 0), .ref h0, .ref o0, .ref u0, .ref e8, .ref e9]], stW G a c F, [cA g0 G.2.1.1 18 f]] : List va_W)) rfl rfl, ?_⟩
          show fSt l G X 0 0 103 [(5, vI 1), (0, .ref x0), (1, .ref g0), (2, .ref r0), (3, vI 1), (4, vI k)] [vI ((((lr k) / 128000) % 1000 : Nat) : Int), vI (oR f k 1)] ([[cO x0 6 [.ref (a 0), .ref h0, .ref o0, .ref u0, .ref e8, .ref e9]], stW G a c F, [cA g0 G.2.1.1 18 f], [cLg r0 G.2.1.2.2.2.2 64 lr]] : List va_W).flatten
          refine s_top (oR f k 1) (rk_t hP hL.1 (by omega) (by omega)) ?_
          refine s_icmp_ne 178 C dL_areRecords_103 (by decide) (by omega) (by omega) (fun h => absurd (by omega) h) (fun _ => ?_)
          refine s_aload_n 0 C dL_areRecords_106 rfl 1 rfl ?_
          refine s_iload C dL_areRecords_107 5 rfl ?_
          refine s_iconst C dL_areRecords_109 ?_
          refine s_callVQ (As := [vI k, vI 2]) (rest := []) (segs := [[cO x0 6 [.ref (a 0), .ref h0, .ref o0, .ref u0, .ref e8, .ref e9]], stW G a c F, [cA g0 G.2.1.1 18 f], [cLg r0 G.2.1.2.2.2.2 64 lr]]) C dL_areRecords_110 (c_X6_recordOf l G x0 h0 (.ref o0) (.ref u0) (.ref e8) (.ref e9) a c F B f k 2 (by first | assumption | omega) hI hBB (by first | assumption | omega) (by first | assumption | omega)) gL_areRecords_X6_recordOf rfl 2 (by decide +kernel) (by decide) 6 rfl rfl 0 _ rfl rfl [0, 1] [2, 3] 4 (rfl : (4 : Nat) = 4) (by decide +kernel) rfl rfl (Nat.le_of_ble_eq_true rfl) ⟨Nat.zero_le _, Nat.zero_le _⟩ ?_
          intro v0 w0 hq
          obtain ⟨rfl, rfl⟩ := hq
          refine ⟨rfl, [[cO x0 6 [.ref (a 0), .ref h0, .ref o0, .ref u0, .ref e8, .ref e9]], stW G a c F, [cA g0 G.2.1.1 18 f], [cLg r0 G.2.1.2.2.2.2 64 lr]], (rfl : (4 : Nat) = 4), rfl, Eq.trans (b := ([[cA g0 G.2.1.1 18 f], [cLg r0 G.2.1.2.2.2.2 64 lr]] : List va_W)) rfl rfl, ?_⟩
          show fSt l G X 0 0 113 [(5, vI 1), (0, .ref x0), (1, .ref g0), (2, .ref r0), (3, vI 1), (4, vI k)] [vI (sp_rec f k 2)] ([[cO x0 6 [.ref (a 0), .ref h0, .ref o0, .ref u0, .ref e8, .ref e9]], stW G a c F, [cA g0 G.2.1.1 18 f], [cLg r0 G.2.1.2.2.2.2 64 lr]] : List va_W).flatten
          refine s_top (oR f k 2) (rc_in (by omega) (by omega)) ?_
          refine s_iload C dL_areRecords_113 0 rfl ?_
          refine s_if_eq 127 C dL_areRecords_115 (by decide) (by decide) (fun h => absurd h (by decide)) (fun h => ?_)
          have hRp := hI.Rp k (by omega) (by omega) (by omega)
          refine s_aload_n 2 C dL_areRecords_118 rfl 3 rfl ?_
          refine s_iload C dL_areRecords_119 5 rfl ?_
          refine s_callSQ (As := [.ref r0, vI k]) (rest := [vI (oR f k 2)]) (segs := [[cO x0 6 [.ref (a 0), .ref h0, .ref o0, .ref u0, .ref e8, .ref e9]], stW G a c F, [cA g0 G.2.1.1 18 f], [cLg r0 G.2.1.2.2.2.2 64 lr]]) C dL_areRecords_121 (c_L_key l G r0 lr k (by first | assumption | omega) hl9) gL_areRecords_L_key rfl 2 (by decide +kernel) (by decide) [3] [0, 1, 2] 4 (rfl : (4 : Nat) = 4) (by decide +kernel) rfl rfl (Nat.le_of_ble_eq_true rfl) ⟨Nat.zero_le _, Nat.zero_le _⟩ ?_
          intro v0 w0 hq
          obtain ⟨rfl, rfl⟩ := hq
          refine ⟨rfl, [[cO x0 6 [.ref (a 0), .ref h0, .ref o0, .ref u0, .ref e8, .ref e9]], stW G a c F, [cA g0 G.2.1.1 18 f], [cLg r0 G.2.1.2.2.2.2 64 lr]], (rfl : (4 : Nat) = 4), rfl, Eq.trans (b := ([[cO x0 6 [.ref (a 0), .ref h0, .ref o0, .ref u0, .ref e8, .ref e9]], stW G a c F, [cA g0 G.2.1.1 18 f]] : List va_W)) rfl rfl, ?_⟩
          show fSt l G X 0 0 124 [(5, vI 1), (0, .ref x0), (1, .ref g0), (2, .ref r0), (3, vI 1), (4, vI k)] [vI ((((lr k) / 4) % 32 : Nat) : Int), vI (oR f k 2)] ([[cO x0 6 [.ref (a 0), .ref h0, .ref o0, .ref u0, .ref e8, .ref e9]], stW G a c F, [cA g0 G.2.1.1 18 f], [cLg r0 G.2.1.2.2.2.2 64 lr]] : List va_W).flatten
          refine s_top (oR f k 2) ((rk_y hP hL.1 (by omega) (by omega)).trans (if_pos (by omega))) ?_
          refine s_goto 129 C dL_areRecords_124 (by decide) ?_
          refine s_icmp_ne 178 C dL_areRecords_129 (by decide) (by omega) (by omega) (fun h => absurd (by omega) h) (fun _ => ?_)
          refine s_aload_n 0 C dL_areRecords_132 rfl 1 rfl ?_
          refine s_iload C dL_areRecords_133 5 rfl ?_
          refine s_iconst C dL_areRecords_135 ?_
          refine s_callVQ (As := [vI k, vI 3]) (rest := []) (segs := [[cO x0 6 [.ref (a 0), .ref h0, .ref o0, .ref u0, .ref e8, .ref e9]], stW G a c F, [cA g0 G.2.1.1 18 f], [cLg r0 G.2.1.2.2.2.2 64 lr]]) C dL_areRecords_136 (c_X6_recordOf l G x0 h0 (.ref o0) (.ref u0) (.ref e8) (.ref e9) a c F B f k 3 (by first | assumption | omega) hI hBB (by first | assumption | omega) (by first | assumption | omega)) gL_areRecords_X6_recordOf rfl 2 (by decide +kernel) (by decide) 6 rfl rfl 0 _ rfl rfl [0, 1] [2, 3] 4 (rfl : (4 : Nat) = 4) (by decide +kernel) rfl rfl (Nat.le_of_ble_eq_true rfl) ⟨Nat.zero_le _, Nat.zero_le _⟩ ?_
          intro v0 w0 hq
          obtain ⟨rfl, rfl⟩ := hq
          refine ⟨rfl, [[cO x0 6 [.ref (a 0), .ref h0, .ref o0, .ref u0, .ref e8, .ref e9]], stW G a c F, [cA g0 G.2.1.1 18 f], [cLg r0 G.2.1.2.2.2.2 64 lr]], (rfl : (4 : Nat) = 4), rfl, Eq.trans (b := ([[cA g0 G.2.1.1 18 f], [cLg r0 G.2.1.2.2.2.2 64 lr]] : List va_W)) rfl rfl, ?_⟩
          show fSt l G X 0 0 139 [(5, vI 1), (0, .ref x0), (1, .ref g0), (2, .ref r0), (3, vI 1), (4, vI k)] [vI (sp_rec f k 3)] ([[cO x0 6 [.ref (a 0), .ref h0, .ref o0, .ref u0, .ref e8, .ref e9]], stW G a c F, [cA g0 G.2.1.1 18 f], [cLg r0 G.2.1.2.2.2.2 64 lr]] : List va_W).flatten
          refine s_top (oR f k 3) (rc_in (by omega) (by omega)) ?_
          refine s_iload C dL_areRecords_139 0 rfl ?_
          refine s_if_eq 153 C dL_areRecords_141 (by decide) (by decide) (fun h => absurd h (by decide)) (fun h => ?_)
          refine s_aload_n 2 C dL_areRecords_144 rfl 3 rfl ?_
          refine s_iload C dL_areRecords_145 5 rfl ?_
          refine s_callSQ (As := [.ref r0, vI k]) (rest := [vI (oR f k 3)]) (segs := [[cO x0 6 [.ref (a 0), .ref h0, .ref o0, .ref u0, .ref e8, .ref e9]], stW G a c F, [cA g0 G.2.1.1 18 f], [cLg r0 G.2.1.2.2.2.2 64 lr]]) C dL_areRecords_147 (c_L_value l G r0 lr k (by first | assumption | omega) hl9) gL_areRecords_L_value rfl 2 (by decide +kernel) (by decide) [3] [0, 1, 2] 4 (rfl : (4 : Nat) = 4) (by decide +kernel) rfl rfl (Nat.le_of_ble_eq_true rfl) ⟨Nat.zero_le _, Nat.zero_le _⟩ ?_
          intro v0 w0 hq
          obtain ⟨rfl, rfl⟩ := hq
          refine ⟨rfl, [[cO x0 6 [.ref (a 0), .ref h0, .ref o0, .ref u0, .ref e8, .ref e9]], stW G a c F, [cA g0 G.2.1.1 18 f], [cLg r0 G.2.1.2.2.2.2 64 lr]], (rfl : (4 : Nat) = 4), rfl, Eq.trans (b := ([[cO x0 6 [.ref (a 0), .ref h0, .ref o0, .ref u0, .ref e8, .ref e9]], stW G a c F, [cA g0 G.2.1.1 18 f]] : List va_W)) rfl rfl, ?_⟩
          show fSt l G X 0 0 150 [(5, vI 1), (0, .ref x0), (1, .ref g0), (2, .ref r0), (3, vI 1), (4, vI k)] [vI ((((lr k) / 128) % 1000 : Nat) : Int), vI (oR f k 3)] ([[cO x0 6 [.ref (a 0), .ref h0, .ref o0, .ref u0, .ref e8, .ref e9]], stW G a c F, [cA g0 G.2.1.1 18 f], [cLg r0 G.2.1.2.2.2.2 64 lr]] : List va_W).flatten
          refine s_top (oR f k 3) ((rk_x hP hL.1 (by omega) (by omega)).trans (if_pos (by omega))) ?_
          refine s_goto 155 C dL_areRecords_150 (by decide) ?_
          refine s_icmp_ne 178 C dL_areRecords_155 (by decide) (by omega) (by omega) (fun h => absurd (by omega) h) (fun _ => ?_)
          refine s_aload_n 0 C dL_areRecords_158 rfl 1 rfl ?_
          refine s_iload C dL_areRecords_159 5 rfl ?_
          refine s_iconst C dL_areRecords_161 ?_
          refine s_callVQ (As := [vI k, vI 4]) (rest := []) (segs := [[cO x0 6 [.ref (a 0), .ref h0, .ref o0, .ref u0, .ref e8, .ref e9]], stW G a c F, [cA g0 G.2.1.1 18 f], [cLg r0 G.2.1.2.2.2.2 64 lr]]) C dL_areRecords_162 (c_X6_recordOf l G x0 h0 (.ref o0) (.ref u0) (.ref e8) (.ref e9) a c F B f k 4 (by first | assumption | omega) hI hBB (by first | assumption | omega) (by first | assumption | omega)) gL_areRecords_X6_recordOf rfl 2 (by decide +kernel) (by decide) 6 rfl rfl 0 _ rfl rfl [0, 1] [2, 3] 4 (rfl : (4 : Nat) = 4) (by decide +kernel) rfl rfl (Nat.le_of_ble_eq_true rfl) ⟨Nat.zero_le _, Nat.zero_le _⟩ ?_
          intro v0 w0 hq
          obtain ⟨rfl, rfl⟩ := hq
          refine ⟨rfl, [[cO x0 6 [.ref (a 0), .ref h0, .ref o0, .ref u0, .ref e8, .ref e9]], stW G a c F, [cA g0 G.2.1.1 18 f], [cLg r0 G.2.1.2.2.2.2 64 lr]], (rfl : (4 : Nat) = 4), rfl, Eq.trans (b := ([[cA g0 G.2.1.1 18 f], [cLg r0 G.2.1.2.2.2.2 64 lr]] : List va_W)) rfl rfl, ?_⟩
          show fSt l G X 0 0 165 [(5, vI 1), (0, .ref x0), (1, .ref g0), (2, .ref r0), (3, vI 1), (4, vI k)] [vI (sp_rec f k 4)] ([[cO x0 6 [.ref (a 0), .ref h0, .ref o0, .ref u0, .ref e8, .ref e9]], stW G a c F, [cA g0 G.2.1.1 18 f], [cLg r0 G.2.1.2.2.2.2 64 lr]] : List va_W).flatten
          refine s_top (oR f k 4) (rc_in (by omega) (by omega)) ?_
          refine s_aload_n 2 C dL_areRecords_165 rfl 3 rfl ?_
          refine s_iload C dL_areRecords_166 5 rfl ?_
          refine s_callSQ (As := [.ref r0, vI k]) (rest := [vI (oR f k 4)]) (segs := [[cO x0 6 [.ref (a 0), .ref h0, .ref o0, .ref u0, .ref e8, .ref e9]], stW G a c F, [cA g0 G.2.1.1 18 f], [cLg r0 G.2.1.2.2.2.2 64 lr]]) C dL_areRecords_168 (c_L_at l G r0 lr k (by first | assumption | omega) hl9) gL_areRecords_L_at rfl 2 (by decide +kernel) (by decide) [3] [0, 1, 2] 4 (rfl : (4 : Nat) = 4) (by decide +kernel) rfl rfl (Nat.le_of_ble_eq_true rfl) ⟨Nat.zero_le _, Nat.zero_le _⟩ ?_
          intro v0 w0 hq
          obtain ⟨rfl, rfl⟩ := hq
          refine ⟨rfl, [[cO x0 6 [.ref (a 0), .ref h0, .ref o0, .ref u0, .ref e8, .ref e9]], stW G a c F, [cA g0 G.2.1.1 18 f], [cLg r0 G.2.1.2.2.2.2 64 lr]], (rfl : (4 : Nat) = 4), rfl, Eq.trans (b := ([[cO x0 6 [.ref (a 0), .ref h0, .ref o0, .ref u0, .ref e8, .ref e9]], stW G a c F, [cA g0 G.2.1.1 18 f]] : List va_W)) rfl rfl, ?_⟩
          show fSt l G X 0 0 171 [(5, vI 1), (0, .ref x0), (1, .ref g0), (2, .ref r0), (3, vI 1), (4, vI k)] [vI (((lr k) / 128000000 : Nat) : Int), vI (oR f k 4)] ([[cO x0 6 [.ref (a 0), .ref h0, .ref o0, .ref u0, .ref e8, .ref e9]], stW G a c F, [cA g0 G.2.1.1 18 f], [cLg r0 G.2.1.2.2.2.2 64 lr]] : List va_W).flatten
          refine s_top (oR f k 4) (rk_a hP hL.1 (by omega) (by omega)) ?_
          refine s_icmp_ne 178 C dL_areRecords_171 (by decide) (by omega) (by omega) (fun h => absurd (by omega) h) (fun _ => ?_)
          refine s_iconst C dL_areRecords_174 ?_
          refine s_goto 179 C dL_areRecords_175 (by decide) ?_
          refine s_istore_n 3 [(3, vI 1), (5, vI 1), (0, .ref x0), (1, .ref g0), (2, .ref r0), (4, vI k)] C dL_areRecords_179 rfl (by decide) rfl ?_
          refine s_iinc [(4, vI (k + 1)), (3, vI 1), (5, vI 1), (0, .ref x0), (1, .ref g0), (2, .ref r0)] C dL_areRecords_180 5 rfl (by decide) rfl ?_
          refine s_goto 46 C dL_areRecords_183 (by decide) ?_
          refine s_lv [(0, .ref x0), (1, .ref g0), (2, .ref r0), (3, vI 1), (4, vI (k + 1))] [3, 4, 5, 1, 0] rfl ?_
          exact ih_46 (k + 1) (by omega) (by omega)
  refine s_lv [(0, .ref x0), (1, .ref g0), (2, .ref r0), (3, vI 1), (4, vI 1)] [2, 3, 4, 1, 0] rfl ?_
  exact loop_46 (f 0 + 1 - 1 + 1 : Int).toNat 1 (by omega) (by omega)

set_option maxHeartbeats 4000000 in
set_option maxRecDepth 100000 in
theorem c_L_isSo (l : Launch) (G : fG) (x0 h0 h1 o0 o1 o2 u0 e8 e9 g0 r0 m0 : Nat) (a : Nat → Nat) (c : Nat → Int) (F : Nat → Int → Int) (ps B : Int) (f U0 U1 : Int → Int) (lr lm : Int → Nat) (hR : RSb f c F) (hP : PI B f) (hL : LR f lr lm) : fCt l G yL_isSo wsL_isSo 8 186 0 0 [.ref x0, .ref g0, .ref r0, .ref m0] ([[cO x0 6 [.ref (a 0), .ref h0, .ref o0, .ref u0, .ref e8, .ref e9]], stW G a c F, [cO h0 0 [.ref h1, vI ps]], [cO o0 2 [.ref o1, vI 0, vI 0, vI 0, .ref o2, vI 0]], [cA e8 G.2.1.1 24 U0], [cA e9 G.2.1.1 24 U1], [cA g0 G.2.1.1 18 f], [cLg r0 G.2.1.2.2.2.2 64 lr], [cLg m0 G.2.1.2.2.2.2 2 lm]] : List va_W).flatten (fun (v0 : Option Value) (w0 : va_W) => ∃ (U2 U3 : Int → Int), v0 = some (vI 1) ∧ w0 = ([[cO x0 6 [.ref (a 0), .ref h0, .ref o0, .ref u0, .ref e8, .ref e9]], stW G a c F, [cO h0 0 [.ref h1, vI ps]], [cO o0 2 [.ref o1, vI 0, vI 0, vI 0, .ref o2, vI 0]], [cA e8 G.2.1.1 24 U2], [cA e9 G.2.1.1 24 U3], [cA g0 G.2.1.1 18 f], [cLg r0 G.2.1.2.2.2.2 64 lr], [cLg m0 G.2.1.2.2.2.2 2 lm]] : List va_W).flatten) := by
  refine fs_met (cc := cL_isSo) (nL := 6) (ret := (some .boolean)) (by decide) rfl (Nat.le_of_ble_eq_true rfl) ?_
  intro X C E
  show fSt l G X 0 0 0 [(0, .ref x0), (1, .ref g0), (2, .ref r0), (3, .ref m0)] [] ([[cO x0 6 [.ref (a 0), .ref h0, .ref o0, .ref u0, .ref e8, .ref e9]], stW G a c F, [cO h0 0 [.ref h1, vI ps]], [cO o0 2 [.ref o1, vI 0, vI 0, vI 0, .ref o2, vI 0]], [cA e8 G.2.1.1 24 U0], [cA e9 G.2.1.1 24 U1], [cA g0 G.2.1.1 18 f], [cLg r0 G.2.1.2.2.2.2 64 lr], [cLg m0 G.2.1.2.2.2.2 2 lm]] : List va_W).flatten
  have hI := hP.1
  have hBl := hP.2.1
  have hBB : B ≤ 1073000000 := by omega
  have hn61 := hP.2.2.1
  have ht9 := hP.2.2.2
  have hn0 := hI.n
  have htk := hI.tk
  have hmB := mB_in (f := f) (a := 0 + 1) (z := f 0) (by omega)
  refine s_aload_n 0 C dL_isSo_0 rfl 0 rfl ?_
  refine s_aload_n 1 C dL_isSo_1 rfl 1 rfl ?_
  refine s_aload_n 2 C dL_isSo_2 rfl 2 rfl ?_
  refine s_aload_n 3 C dL_isSo_3 rfl 3 rfl ?_
  refine s_callSQ (As := [.ref x0, .ref g0, .ref r0, .ref m0]) (rest := []) (segs := [[cO x0 6 [.ref (a 0), .ref h0, .ref o0, .ref u0, .ref e8, .ref e9]], stW G a c F, [cO h0 0 [.ref h1, vI ps]], [cO o0 2 [.ref o1, vI 0, vI 0, vI 0, .ref o2, vI 0]], [cA e8 G.2.1.1 24 U0], [cA e9 G.2.1.1 24 U1], [cA g0 G.2.1.1 18 f], [cLg r0 G.2.1.2.2.2.2 64 lr], [cLg m0 G.2.1.2.2.2.2 2 lm]]) C dL_isSo_4 (c_L_areStandbys l G x0 h0 h1 o0 o1 o2 u0 e8 e9 g0 r0 m0 a c F ps B f U0 U1 lr lm (by first | assumption | omega) (by first | assumption | omega) (by first | assumption | omega)) gL_isSo_L_areStandbys rfl 4 (by decide +kernel) (by decide) [0, 1, 2, 3, 4, 5, 6, 7, 8] [] 9 (rfl : (9 : Nat) = 9) (by decide +kernel) rfl rfl (Nat.le_of_ble_eq_true rfl) ⟨Nat.zero_le _, Nat.zero_le _⟩ ?_
  intro v0 w0 hq
  obtain ⟨U2_4, U3_4, rfl, rfl⟩ := hq
  refine ⟨(fst_f (fst_c rfl (fst_c rfl (fst_c rfl (fst_c rfl (fst_c (fst_k rfl) (fst_c (fst_k rfl) rfl))))))), [[cO x0 6 [.ref (a 0), .ref h0, .ref o0, .ref u0, .ref e8, .ref e9]], stW G a c F, [cO h0 0 [.ref h1, vI ps]], [cO o0 2 [.ref o1, vI 0, vI 0, vI 0, .ref o2, vI 0]], [cA e8 G.2.1.1 24 U2_4], [cA e9 G.2.1.1 24 U3_4], [cA g0 G.2.1.1 18 f], [cLg r0 G.2.1.2.2.2.2 64 lr], [cLg m0 G.2.1.2.2.2.2 2 lm]], (rfl : (9 : Nat) = 9), rfl, Eq.trans (b := ([] : List va_W)) rfl rfl, ?_⟩
  show fSt l G X 0 0 7 [(0, .ref x0), (1, .ref g0), (2, .ref r0), (3, .ref m0)] [vI 1] ([[cO x0 6 [.ref (a 0), .ref h0, .ref o0, .ref u0, .ref e8, .ref e9]], stW G a c F, [cO h0 0 [.ref h1, vI ps]], [cO o0 2 [.ref o1, vI 0, vI 0, vI 0, .ref o2, vI 0]], [cA e8 G.2.1.1 24 U2_4], [cA e9 G.2.1.1 24 U3_4], [cA g0 G.2.1.1 18 f], [cLg r0 G.2.1.2.2.2.2 64 lr], [cLg m0 G.2.1.2.2.2.2 2 lm]] : List va_W).flatten
  refine s_if_eq 23 C dL_isSo_7 (by decide) (by decide) (fun h => absurd h (by decide)) (fun h => ?_)
  refine s_aload_n 0 C dL_isSo_10 rfl 0 rfl ?_
  refine s_aload_n 1 C dL_isSo_11 rfl 1 rfl ?_
  refine s_aload_n 2 C dL_isSo_12 rfl 2 rfl ?_
  refine s_callSQ (As := [.ref x0, .ref g0, .ref r0]) (rest := []) (segs := [[cO x0 6 [.ref (a 0), .ref h0, .ref o0, .ref u0, .ref e8, .ref e9]], stW G a c F, [cO h0 0 [.ref h1, vI ps]], [cO o0 2 [.ref o1, vI 0, vI 0, vI 0, .ref o2, vI 0]], [cA e8 G.2.1.1 24 U2_4], [cA e9 G.2.1.1 24 U3_4], [cA g0 G.2.1.1 18 f], [cLg r0 G.2.1.2.2.2.2 64 lr], [cLg m0 G.2.1.2.2.2.2 2 lm]]) C dL_isSo_13 (c_L_areRecords l G x0 h0 h1 o0 o1 o2 u0 e8 e9 g0 r0 a c F ps B f lr lm (by first | assumption | omega) (by first | assumption | omega) (by first | assumption | omega)) gL_isSo_L_areRecords rfl 3 (by decide +kernel) (by decide) [0, 1, 6, 7] [2, 3, 4, 5, 8] 9 (rfl : (9 : Nat) = 9) (by decide +kernel) rfl rfl (Nat.le_of_ble_eq_true rfl) ⟨Nat.zero_le _, Nat.zero_le _⟩ ?_
  intro v0 w0 hq
  obtain ⟨rfl, rfl⟩ := hq
  refine ⟨rfl, [[cO x0 6 [.ref (a 0), .ref h0, .ref o0, .ref u0, .ref e8, .ref e9]], stW G a c F, [cO h0 0 [.ref h1, vI ps]], [cO o0 2 [.ref o1, vI 0, vI 0, vI 0, .ref o2, vI 0]], [cA e8 G.2.1.1 24 U2_4], [cA e9 G.2.1.1 24 U3_4], [cA g0 G.2.1.1 18 f], [cLg r0 G.2.1.2.2.2.2 64 lr], [cLg m0 G.2.1.2.2.2.2 2 lm]], (rfl : (9 : Nat) = 9), rfl, Eq.trans (b := ([[cO h0 0 [.ref h1, vI ps]], [cO o0 2 [.ref o1, vI 0, vI 0, vI 0, .ref o2, vI 0]], [cA e8 G.2.1.1 24 U2_4], [cA e9 G.2.1.1 24 U3_4], [cLg m0 G.2.1.2.2.2.2 2 lm]] : List va_W)) rfl rfl, ?_⟩
  show fSt l G X 0 0 16 [(0, .ref x0), (1, .ref g0), (2, .ref r0), (3, .ref m0)] [vI 1] ([[cO x0 6 [.ref (a 0), .ref h0, .ref o0, .ref u0, .ref e8, .ref e9]], stW G a c F, [cO h0 0 [.ref h1, vI ps]], [cO o0 2 [.ref o1, vI 0, vI 0, vI 0, .ref o2, vI 0]], [cA e8 G.2.1.1 24 U2_4], [cA e9 G.2.1.1 24 U3_4], [cA g0 G.2.1.1 18 f], [cLg r0 G.2.1.2.2.2.2 64 lr], [cLg m0 G.2.1.2.2.2.2 2 lm]] : List va_W).flatten
  refine s_if_eq 23 C dL_isSo_16 (by decide) (by decide) (fun h => absurd h (by decide)) (fun h => ?_)
  refine s_iconst C dL_isSo_19 ?_
  refine s_goto 24 C dL_isSo_20 (by decide) ?_
  refine s_istore [(4, vI 1), (0, .ref x0), (1, .ref g0), (2, .ref r0), (3, .ref m0)] C dL_isSo_24 (by decide) rfl ?_
  refine s_iconst C dL_isSo_26 ?_
  refine s_istore [(5, vI 0), (4, vI 1), (0, .ref x0), (1, .ref g0), (2, .ref r0), (3, .ref m0)] C dL_isSo_27 (by decide) rfl ?_
  refine s_iload C dL_isSo_29 0 rfl ?_
  refine s_iconst C dL_isSo_31 ?_
  refine s_icmp_ge 66 C dL_isSo_32 (by decide) (by decide) (by decide) (fun h => absurd h (by decide)) (fun h => ?_)
  refine s_iload C dL_isSo_35 1 rfl ?_
  refine s_if_eq 66 C dL_isSo_37 (by decide) (by decide) (fun h => absurd h (by decide)) (fun h => ?_)
  refine s_aload_n 0 C dL_isSo_40 rfl 2 rfl ?_
  refine s_iload C dL_isSo_41 0 rfl ?_
  refine s_callVQ (As := [vI 0]) (rest := []) (segs := [[cO x0 6 [.ref (a 0), .ref h0, .ref o0, .ref u0, .ref e8, .ref e9]], stW G a c F, [cO h0 0 [.ref h1, vI ps]], [cO o0 2 [.ref o1, vI 0, vI 0, vI 0, .ref o2, vI 0]], [cA e8 G.2.1.1 24 U2_4], [cA e9 G.2.1.1 24 U3_4], [cA g0 G.2.1.1 18 f], [cLg r0 G.2.1.2.2.2.2 64 lr], [cLg m0 G.2.1.2.2.2.2 2 lm]]) C dL_isSo_43 (c_X6_count l G x0 h0 h1 o0 o1 o2 (.ref u0) (.ref e8) (.ref e9) a c F B ps 0 0 0 0 f 0 (by first | assumption | omega) hI hBB (by first | assumption | omega)) gL_isSo_X6_count rfl 1 (by decide +kernel) (by decide) 6 rfl rfl 0 _ rfl rfl [0, 2, 3, 1] [4, 5, 6, 7, 8] 9 (rfl : (9 : Nat) = 9) (by decide +kernel) rfl rfl (Nat.le_of_ble_eq_true rfl) ⟨Nat.zero_le _, Nat.zero_le _⟩ ?_
  intro v0 w0 hq
  obtain ⟨rfl, rfl⟩ := hq
  refine ⟨rfl, [[cO x0 6 [.ref (a 0), .ref h0, .ref o0, .ref u0, .ref e8, .ref e9]], stW G a c F, [cO h0 0 [.ref h1, vI ps]], [cO o0 2 [.ref o1, vI 0, vI 0, vI 0, .ref o2, vI 0]], [cA e8 G.2.1.1 24 U2_4], [cA e9 G.2.1.1 24 U3_4], [cA g0 G.2.1.1 18 f], [cLg r0 G.2.1.2.2.2.2 64 lr], [cLg m0 G.2.1.2.2.2.2 2 lm]], (rfl : (9 : Nat) = 9), rfl, Eq.trans (b := ([[cA e8 G.2.1.1 24 U2_4], [cA e9 G.2.1.1 24 U3_4], [cA g0 G.2.1.1 18 f], [cLg r0 G.2.1.2.2.2.2 64 lr], [cLg m0 G.2.1.2.2.2.2 2 lm]] : List va_W)) rfl rfl, ?_⟩
  show fSt l G X 0 0 46 [(5, vI 0), (4, vI 1), (0, .ref x0), (1, .ref g0), (2, .ref r0), (3, .ref m0)] [vI (sp_count f ps 0 0)] ([[cO x0 6 [.ref (a 0), .ref h0, .ref o0, .ref u0, .ref e8, .ref e9]], stW G a c F, [cO h0 0 [.ref h1, vI ps]], [cO o0 2 [.ref o1, vI 0, vI 0, vI 0, .ref o2, vI 0]], [cA e8 G.2.1.1 24 U2_4], [cA e9 G.2.1.1 24 U3_4], [cA g0 G.2.1.1 18 f], [cLg r0 G.2.1.2.2.2.2 64 lr], [cLg m0 G.2.1.2.2.2.2 2 lm]] : List va_W).flatten
  refine s_top (f 0) (ct_03 (by omega)) ?_
  refine s_aload_n 1 C dL_isSo_46 rfl 3 rfl ?_
  refine s_iload C dL_isSo_47 0 rfl ?_
  refine s_iald C dL_isSo_49 17 rfl 0 rfl (by omega) (by omega) (by omega) ?_
  refine s_icmp_ne 57 C dL_isSo_50 (by decide) (hI.rf _) (hI.rf _) (fun h => absurd (by omega) h) (fun _ => ?_)
  refine s_iconst C dL_isSo_53 ?_
  refine s_goto 58 C dL_isSo_54 (by decide) ?_
  refine s_istore [(4, vI 1), (5, vI 0), (0, .ref x0), (1, .ref g0), (2, .ref r0), (3, .ref m0)] C dL_isSo_58 (by decide) rfl ?_
  refine s_iinc [(5, vI (0 + 1)), (4, vI 1), (0, .ref x0), (1, .ref g0), (2, .ref r0), (3, .ref m0)] C dL_isSo_60 1 rfl (by decide) rfl ?_
  refine s_goto 29 C dL_isSo_63 (by decide) ?_
  refine s_iload C dL_isSo_29 0 rfl ?_
  refine s_iconst C dL_isSo_31 ?_
  refine s_icmp_ge 66 C dL_isSo_32 (by decide) (by decide) (by decide) (fun h => absurd h (by decide)) (fun h => ?_)
  refine s_iload C dL_isSo_35 1 rfl ?_
  refine s_if_eq 66 C dL_isSo_37 (by decide) (by decide) (fun h => absurd h (by decide)) (fun h => ?_)
  refine s_aload_n 0 C dL_isSo_40 rfl 2 rfl ?_
  refine s_iload C dL_isSo_41 0 rfl ?_
  refine s_callVQ (As := [vI 1]) (rest := []) (segs := [[cO x0 6 [.ref (a 0), .ref h0, .ref o0, .ref u0, .ref e8, .ref e9]], stW G a c F, [cO h0 0 [.ref h1, vI ps]], [cO o0 2 [.ref o1, vI 0, vI 0, vI 0, .ref o2, vI 0]], [cA e8 G.2.1.1 24 U2_4], [cA e9 G.2.1.1 24 U3_4], [cA g0 G.2.1.1 18 f], [cLg r0 G.2.1.2.2.2.2 64 lr], [cLg m0 G.2.1.2.2.2.2 2 lm]]) C dL_isSo_43 (c_X6_count l G x0 h0 h1 o0 o1 o2 (.ref u0) (.ref e8) (.ref e9) a c F B ps 0 0 0 0 f 1 (by first | assumption | omega) hI hBB (by first | assumption | omega)) gL_isSo_X6_count rfl 1 (by decide +kernel) (by decide) 6 rfl rfl 0 _ rfl rfl [0, 2, 3, 1] [4, 5, 6, 7, 8] 9 (rfl : (9 : Nat) = 9) (by decide +kernel) rfl rfl (Nat.le_of_ble_eq_true rfl) ⟨Nat.zero_le _, Nat.zero_le _⟩ ?_
  intro v0 w0 hq
  obtain ⟨rfl, rfl⟩ := hq
  refine ⟨rfl, [[cO x0 6 [.ref (a 0), .ref h0, .ref o0, .ref u0, .ref e8, .ref e9]], stW G a c F, [cO h0 0 [.ref h1, vI ps]], [cO o0 2 [.ref o1, vI 0, vI 0, vI 0, .ref o2, vI 0]], [cA e8 G.2.1.1 24 U2_4], [cA e9 G.2.1.1 24 U3_4], [cA g0 G.2.1.1 18 f], [cLg r0 G.2.1.2.2.2.2 64 lr], [cLg m0 G.2.1.2.2.2.2 2 lm]], (rfl : (9 : Nat) = 9), rfl, Eq.trans (b := ([[cA e8 G.2.1.1 24 U2_4], [cA e9 G.2.1.1 24 U3_4], [cA g0 G.2.1.1 18 f], [cLg r0 G.2.1.2.2.2.2 64 lr], [cLg m0 G.2.1.2.2.2.2 2 lm]] : List va_W)) rfl rfl, ?_⟩
  show fSt l G X 0 0 46 [(5, vI 1), (4, vI 1), (0, .ref x0), (1, .ref g0), (2, .ref r0), (3, .ref m0)] [vI (sp_count f ps 0 1)] ([[cO x0 6 [.ref (a 0), .ref h0, .ref o0, .ref u0, .ref e8, .ref e9]], stW G a c F, [cO h0 0 [.ref h1, vI ps]], [cO o0 2 [.ref o1, vI 0, vI 0, vI 0, .ref o2, vI 0]], [cA e8 G.2.1.1 24 U2_4], [cA e9 G.2.1.1 24 U3_4], [cA g0 G.2.1.1 18 f], [cLg r0 G.2.1.2.2.2.2 64 lr], [cLg m0 G.2.1.2.2.2.2 2 lm]] : List va_W).flatten
  refine s_top (f 1) (ct_03 (by omega)) ?_
  refine s_aload_n 1 C dL_isSo_46 rfl 3 rfl ?_
  refine s_iload C dL_isSo_47 0 rfl ?_
  refine s_iald C dL_isSo_49 17 rfl 1 rfl (by omega) (by omega) (by omega) ?_
  refine s_icmp_ne 57 C dL_isSo_50 (by decide) (hI.rf _) (hI.rf _) (fun h => absurd (by omega) h) (fun _ => ?_)
  refine s_iconst C dL_isSo_53 ?_
  refine s_goto 58 C dL_isSo_54 (by decide) ?_
  refine s_istore [(4, vI 1), (5, vI 1), (0, .ref x0), (1, .ref g0), (2, .ref r0), (3, .ref m0)] C dL_isSo_58 (by decide) rfl ?_
  refine s_iinc [(5, vI (1 + 1)), (4, vI 1), (0, .ref x0), (1, .ref g0), (2, .ref r0), (3, .ref m0)] C dL_isSo_60 1 rfl (by decide) rfl ?_
  refine s_goto 29 C dL_isSo_63 (by decide) ?_
  refine s_iload C dL_isSo_29 0 rfl ?_
  refine s_iconst C dL_isSo_31 ?_
  refine s_icmp_ge 66 C dL_isSo_32 (by decide) (by decide) (by decide) (fun h => absurd h (by decide)) (fun h => ?_)
  refine s_iload C dL_isSo_35 1 rfl ?_
  refine s_if_eq 66 C dL_isSo_37 (by decide) (by decide) (fun h => absurd h (by decide)) (fun h => ?_)
  refine s_aload_n 0 C dL_isSo_40 rfl 2 rfl ?_
  refine s_iload C dL_isSo_41 0 rfl ?_
  refine s_callVQ (As := [vI 2]) (rest := []) (segs := [[cO x0 6 [.ref (a 0), .ref h0, .ref o0, .ref u0, .ref e8, .ref e9]], stW G a c F, [cO h0 0 [.ref h1, vI ps]], [cO o0 2 [.ref o1, vI 0, vI 0, vI 0, .ref o2, vI 0]], [cA e8 G.2.1.1 24 U2_4], [cA e9 G.2.1.1 24 U3_4], [cA g0 G.2.1.1 18 f], [cLg r0 G.2.1.2.2.2.2 64 lr], [cLg m0 G.2.1.2.2.2.2 2 lm]]) C dL_isSo_43 (c_X6_count l G x0 h0 h1 o0 o1 o2 (.ref u0) (.ref e8) (.ref e9) a c F B ps 0 0 0 0 f 2 (by first | assumption | omega) hI hBB (by first | assumption | omega)) gL_isSo_X6_count rfl 1 (by decide +kernel) (by decide) 6 rfl rfl 0 _ rfl rfl [0, 2, 3, 1] [4, 5, 6, 7, 8] 9 (rfl : (9 : Nat) = 9) (by decide +kernel) rfl rfl (Nat.le_of_ble_eq_true rfl) ⟨Nat.zero_le _, Nat.zero_le _⟩ ?_
  intro v0 w0 hq
  obtain ⟨rfl, rfl⟩ := hq
  refine ⟨rfl, [[cO x0 6 [.ref (a 0), .ref h0, .ref o0, .ref u0, .ref e8, .ref e9]], stW G a c F, [cO h0 0 [.ref h1, vI ps]], [cO o0 2 [.ref o1, vI 0, vI 0, vI 0, .ref o2, vI 0]], [cA e8 G.2.1.1 24 U2_4], [cA e9 G.2.1.1 24 U3_4], [cA g0 G.2.1.1 18 f], [cLg r0 G.2.1.2.2.2.2 64 lr], [cLg m0 G.2.1.2.2.2.2 2 lm]], (rfl : (9 : Nat) = 9), rfl, Eq.trans (b := ([[cA e8 G.2.1.1 24 U2_4], [cA e9 G.2.1.1 24 U3_4], [cA g0 G.2.1.1 18 f], [cLg r0 G.2.1.2.2.2.2 64 lr], [cLg m0 G.2.1.2.2.2.2 2 lm]] : List va_W)) rfl rfl, ?_⟩
  show fSt l G X 0 0 46 [(5, vI 2), (4, vI 1), (0, .ref x0), (1, .ref g0), (2, .ref r0), (3, .ref m0)] [vI (sp_count f ps 0 2)] ([[cO x0 6 [.ref (a 0), .ref h0, .ref o0, .ref u0, .ref e8, .ref e9]], stW G a c F, [cO h0 0 [.ref h1, vI ps]], [cO o0 2 [.ref o1, vI 0, vI 0, vI 0, .ref o2, vI 0]], [cA e8 G.2.1.1 24 U2_4], [cA e9 G.2.1.1 24 U3_4], [cA g0 G.2.1.1 18 f], [cLg r0 G.2.1.2.2.2.2 64 lr], [cLg m0 G.2.1.2.2.2.2 2 lm]] : List va_W).flatten
  refine s_top (f 2) (ct_03 (by omega)) ?_
  refine s_aload_n 1 C dL_isSo_46 rfl 3 rfl ?_
  refine s_iload C dL_isSo_47 0 rfl ?_
  refine s_iald C dL_isSo_49 17 rfl 2 rfl (by omega) (by omega) (by omega) ?_
  refine s_icmp_ne 57 C dL_isSo_50 (by decide) (hI.rf _) (hI.rf _) (fun h => absurd (by omega) h) (fun _ => ?_)
  refine s_iconst C dL_isSo_53 ?_
  refine s_goto 58 C dL_isSo_54 (by decide) ?_
  refine s_istore [(4, vI 1), (5, vI 2), (0, .ref x0), (1, .ref g0), (2, .ref r0), (3, .ref m0)] C dL_isSo_58 (by decide) rfl ?_
  refine s_iinc [(5, vI (2 + 1)), (4, vI 1), (0, .ref x0), (1, .ref g0), (2, .ref r0), (3, .ref m0)] C dL_isSo_60 1 rfl (by decide) rfl ?_
  refine s_goto 29 C dL_isSo_63 (by decide) ?_
  refine s_iload C dL_isSo_29 0 rfl ?_
  refine s_iconst C dL_isSo_31 ?_
  refine s_icmp_ge 66 C dL_isSo_32 (by decide) (by decide) (by decide) (fun h => absurd h (by decide)) (fun h => ?_)
  refine s_iload C dL_isSo_35 1 rfl ?_
  refine s_if_eq 66 C dL_isSo_37 (by decide) (by decide) (fun h => absurd h (by decide)) (fun h => ?_)
  refine s_aload_n 0 C dL_isSo_40 rfl 2 rfl ?_
  refine s_iload C dL_isSo_41 0 rfl ?_
  refine s_callVQ (As := [vI 3]) (rest := []) (segs := [[cO x0 6 [.ref (a 0), .ref h0, .ref o0, .ref u0, .ref e8, .ref e9]], stW G a c F, [cO h0 0 [.ref h1, vI ps]], [cO o0 2 [.ref o1, vI 0, vI 0, vI 0, .ref o2, vI 0]], [cA e8 G.2.1.1 24 U2_4], [cA e9 G.2.1.1 24 U3_4], [cA g0 G.2.1.1 18 f], [cLg r0 G.2.1.2.2.2.2 64 lr], [cLg m0 G.2.1.2.2.2.2 2 lm]]) C dL_isSo_43 (c_X6_count l G x0 h0 h1 o0 o1 o2 (.ref u0) (.ref e8) (.ref e9) a c F B ps 0 0 0 0 f 3 (by first | assumption | omega) hI hBB (by first | assumption | omega)) gL_isSo_X6_count rfl 1 (by decide +kernel) (by decide) 6 rfl rfl 0 _ rfl rfl [0, 2, 3, 1] [4, 5, 6, 7, 8] 9 (rfl : (9 : Nat) = 9) (by decide +kernel) rfl rfl (Nat.le_of_ble_eq_true rfl) ⟨Nat.zero_le _, Nat.zero_le _⟩ ?_
  intro v0 w0 hq
  obtain ⟨rfl, rfl⟩ := hq
  refine ⟨rfl, [[cO x0 6 [.ref (a 0), .ref h0, .ref o0, .ref u0, .ref e8, .ref e9]], stW G a c F, [cO h0 0 [.ref h1, vI ps]], [cO o0 2 [.ref o1, vI 0, vI 0, vI 0, .ref o2, vI 0]], [cA e8 G.2.1.1 24 U2_4], [cA e9 G.2.1.1 24 U3_4], [cA g0 G.2.1.1 18 f], [cLg r0 G.2.1.2.2.2.2 64 lr], [cLg m0 G.2.1.2.2.2.2 2 lm]], (rfl : (9 : Nat) = 9), rfl, Eq.trans (b := ([[cA e8 G.2.1.1 24 U2_4], [cA e9 G.2.1.1 24 U3_4], [cA g0 G.2.1.1 18 f], [cLg r0 G.2.1.2.2.2.2 64 lr], [cLg m0 G.2.1.2.2.2.2 2 lm]] : List va_W)) rfl rfl, ?_⟩
  show fSt l G X 0 0 46 [(5, vI 3), (4, vI 1), (0, .ref x0), (1, .ref g0), (2, .ref r0), (3, .ref m0)] [vI (sp_count f ps 0 3)] ([[cO x0 6 [.ref (a 0), .ref h0, .ref o0, .ref u0, .ref e8, .ref e9]], stW G a c F, [cO h0 0 [.ref h1, vI ps]], [cO o0 2 [.ref o1, vI 0, vI 0, vI 0, .ref o2, vI 0]], [cA e8 G.2.1.1 24 U2_4], [cA e9 G.2.1.1 24 U3_4], [cA g0 G.2.1.1 18 f], [cLg r0 G.2.1.2.2.2.2 64 lr], [cLg m0 G.2.1.2.2.2.2 2 lm]] : List va_W).flatten
  refine s_top (f 3) (ct_03 (by omega)) ?_
  refine s_aload_n 1 C dL_isSo_46 rfl 3 rfl ?_
  refine s_iload C dL_isSo_47 0 rfl ?_
  refine s_iald C dL_isSo_49 17 rfl 3 rfl (by omega) (by omega) (by omega) ?_
  refine s_icmp_ne 57 C dL_isSo_50 (by decide) (hI.rf _) (hI.rf _) (fun h => absurd (by omega) h) (fun _ => ?_)
  refine s_iconst C dL_isSo_53 ?_
  refine s_goto 58 C dL_isSo_54 (by decide) ?_
  refine s_istore [(4, vI 1), (5, vI 3), (0, .ref x0), (1, .ref g0), (2, .ref r0), (3, .ref m0)] C dL_isSo_58 (by decide) rfl ?_
  refine s_iinc [(5, vI (3 + 1)), (4, vI 1), (0, .ref x0), (1, .ref g0), (2, .ref r0), (3, .ref m0)] C dL_isSo_60 1 rfl (by decide) rfl ?_
  refine s_goto 29 C dL_isSo_63 (by decide) ?_
  refine s_iload C dL_isSo_29 0 rfl ?_
  refine s_iconst C dL_isSo_31 ?_
  refine s_icmp_ge 66 C dL_isSo_32 (by decide) (by decide) (by decide) (fun h => ?_) (fun h => absurd h (by decide))
  refine s_iload C dL_isSo_66 1 rfl ?_
  refine s_if_eq 162 C dL_isSo_68 (by decide) (by decide) (fun h => absurd h (by decide)) (fun h => ?_)
  refine s_aload_n 0 C dL_isSo_71 rfl 2 rfl ?_
  refine s_iconst C dL_isSo_72 ?_
  refine s_callVQ (As := [vI 4]) (rest := []) (segs := [[cO x0 6 [.ref (a 0), .ref h0, .ref o0, .ref u0, .ref e8, .ref e9]], stW G a c F, [cO h0 0 [.ref h1, vI ps]], [cO o0 2 [.ref o1, vI 0, vI 0, vI 0, .ref o2, vI 0]], [cA e8 G.2.1.1 24 U2_4], [cA e9 G.2.1.1 24 U3_4], [cA g0 G.2.1.1 18 f], [cLg r0 G.2.1.2.2.2.2 64 lr], [cLg m0 G.2.1.2.2.2.2 2 lm]]) C dL_isSo_73 (c_X6_count l G x0 h0 h1 o0 o1 o2 (.ref u0) (.ref e8) (.ref e9) a c F B ps 0 0 0 0 f 4 (by first | assumption | omega) hI hBB (by first | assumption | omega)) gL_isSo_X6_count rfl 1 (by decide +kernel) (by decide) 6 rfl rfl 0 _ rfl rfl [0, 2, 3, 1] [4, 5, 6, 7, 8] 9 (rfl : (9 : Nat) = 9) (by decide +kernel) rfl rfl (Nat.le_of_ble_eq_true rfl) ⟨Nat.zero_le _, Nat.zero_le _⟩ ?_
  intro v0 w0 hq
  obtain ⟨rfl, rfl⟩ := hq
  refine ⟨rfl, [[cO x0 6 [.ref (a 0), .ref h0, .ref o0, .ref u0, .ref e8, .ref e9]], stW G a c F, [cO h0 0 [.ref h1, vI ps]], [cO o0 2 [.ref o1, vI 0, vI 0, vI 0, .ref o2, vI 0]], [cA e8 G.2.1.1 24 U2_4], [cA e9 G.2.1.1 24 U3_4], [cA g0 G.2.1.1 18 f], [cLg r0 G.2.1.2.2.2.2 64 lr], [cLg m0 G.2.1.2.2.2.2 2 lm]], (rfl : (9 : Nat) = 9), rfl, Eq.trans (b := ([[cA e8 G.2.1.1 24 U2_4], [cA e9 G.2.1.1 24 U3_4], [cA g0 G.2.1.1 18 f], [cLg r0 G.2.1.2.2.2.2 64 lr], [cLg m0 G.2.1.2.2.2.2 2 lm]] : List va_W)) rfl rfl, ?_⟩
  show fSt l G X 0 0 76 [(5, vI 4), (4, vI 1), (0, .ref x0), (1, .ref g0), (2, .ref r0), (3, .ref m0)] [vI (sp_count f ps 0 4)] ([[cO x0 6 [.ref (a 0), .ref h0, .ref o0, .ref u0, .ref e8, .ref e9]], stW G a c F, [cO h0 0 [.ref h1, vI ps]], [cO o0 2 [.ref o1, vI 0, vI 0, vI 0, .ref o2, vI 0]], [cA e8 G.2.1.1 24 U2_4], [cA e9 G.2.1.1 24 U3_4], [cA g0 G.2.1.1 18 f], [cLg r0 G.2.1.2.2.2.2 64 lr], [cLg m0 G.2.1.2.2.2.2 2 lm]] : List va_W).flatten
  refine s_top (mB f (0 + 1) (f 0)) ct_4 ?_
  refine s_aload_n 2 C dL_isSo_76 rfl 4 rfl ?_
  refine s_iconst C dL_isSo_77 ?_
  refine s_aload_n 1 C dL_isSo_78 rfl 3 rfl ?_
  refine s_iconst C dL_isSo_79 ?_
  refine s_iald C dL_isSo_80 17 rfl 0 rfl (by omega) (by omega) (by omega) ?_
  refine s_callSQ (As := [.ref r0, vI 0, vI (f 0)]) (rest := [vI (mB f (0 + 1) (f 0))]) (segs := [[cO x0 6 [.ref (a 0), .ref h0, .ref o0, .ref u0, .ref e8, .ref e9]], stW G a c F, [cO h0 0 [.ref h1, vI ps]], [cO o0 2 [.ref o1, vI 0, vI 0, vI 0, .ref o2, vI 0]], [cA e8 G.2.1.1 24 U2_4], [cA e9 G.2.1.1 24 U3_4], [cA g0 G.2.1.1 18 f], [cLg r0 G.2.1.2.2.2.2 64 lr], [cLg m0 G.2.1.2.2.2.2 2 lm]]) C dL_isSo_81 (c_L_commits l G r0 lr f B 0 (f 0) hP hL.1 (by first | assumption | omega) (by first | assumption | omega)) gL_isSo_L_commits rfl 3 (by decide +kernel) (by decide) [7] [0, 1, 2, 3, 4, 5, 6, 8] 9 (rfl : (9 : Nat) = 9) (by decide +kernel) rfl rfl (Nat.le_of_ble_eq_true rfl) ⟨Nat.zero_le _, Nat.zero_le _⟩ ?_
  intro v0 w0 hq
  obtain ⟨rfl, rfl⟩ := hq
  refine ⟨rfl, [[cO x0 6 [.ref (a 0), .ref h0, .ref o0, .ref u0, .ref e8, .ref e9]], stW G a c F, [cO h0 0 [.ref h1, vI ps]], [cO o0 2 [.ref o1, vI 0, vI 0, vI 0, .ref o2, vI 0]], [cA e8 G.2.1.1 24 U2_4], [cA e9 G.2.1.1 24 U3_4], [cA g0 G.2.1.1 18 f], [cLg r0 G.2.1.2.2.2.2 64 lr], [cLg m0 G.2.1.2.2.2.2 2 lm]], (rfl : (9 : Nat) = 9), rfl, Eq.trans (b := ([[cO x0 6 [.ref (a 0), .ref h0, .ref o0, .ref u0, .ref e8, .ref e9]], stW G a c F, [cO h0 0 [.ref h1, vI ps]], [cO o0 2 [.ref o1, vI 0, vI 0, vI 0, .ref o2, vI 0]], [cA e8 G.2.1.1 24 U2_4], [cA e9 G.2.1.1 24 U3_4], [cA g0 G.2.1.1 18 f], [cLg m0 G.2.1.2.2.2.2 2 lm]] : List va_W)) rfl rfl, ?_⟩
  show fSt l G X 0 0 84 [(5, vI 4), (4, vI 1), (0, .ref x0), (1, .ref g0), (2, .ref r0), (3, .ref m0)] [vI (mB f (0 + 1) (f 0)), vI (mB f (0 + 1) (f 0))] ([[cO x0 6 [.ref (a 0), .ref h0, .ref o0, .ref u0, .ref e8, .ref e9]], stW G a c F, [cO h0 0 [.ref h1, vI ps]], [cO o0 2 [.ref o1, vI 0, vI 0, vI 0, .ref o2, vI 0]], [cA e8 G.2.1.1 24 U2_4], [cA e9 G.2.1.1 24 U3_4], [cA g0 G.2.1.1 18 f], [cLg r0 G.2.1.2.2.2.2 64 lr], [cLg m0 G.2.1.2.2.2.2 2 lm]] : List va_W).flatten
  refine s_icmp_ne 162 C dL_isSo_84 (by decide) (by omega) (by omega) (fun h => absurd (by omega) h) (fun _ => ?_)
  refine s_aload_n 0 C dL_isSo_87 rfl 2 rfl ?_
  refine s_iconst C dL_isSo_88 ?_
  refine s_callVQ (As := [vI 5]) (rest := []) (segs := [[cO x0 6 [.ref (a 0), .ref h0, .ref o0, .ref u0, .ref e8, .ref e9]], stW G a c F, [cO h0 0 [.ref h1, vI ps]], [cO o0 2 [.ref o1, vI 0, vI 0, vI 0, .ref o2, vI 0]], [cA e8 G.2.1.1 24 U2_4], [cA e9 G.2.1.1 24 U3_4], [cA g0 G.2.1.1 18 f], [cLg r0 G.2.1.2.2.2.2 64 lr], [cLg m0 G.2.1.2.2.2.2 2 lm]]) C dL_isSo_89 (c_X6_count l G x0 h0 h1 o0 o1 o2 (.ref u0) (.ref e8) (.ref e9) a c F B ps 0 0 0 0 f 5 (by first | assumption | omega) hI hBB (by first | assumption | omega)) gL_isSo_X6_count rfl 1 (by decide +kernel) (by decide) 6 rfl rfl 0 _ rfl rfl [0, 2, 3, 1] [4, 5, 6, 7, 8] 9 (rfl : (9 : Nat) = 9) (by decide +kernel) rfl rfl (Nat.le_of_ble_eq_true rfl) ⟨Nat.zero_le _, Nat.zero_le _⟩ ?_
  intro v0 w0 hq
  obtain ⟨rfl, rfl⟩ := hq
  refine ⟨rfl, [[cO x0 6 [.ref (a 0), .ref h0, .ref o0, .ref u0, .ref e8, .ref e9]], stW G a c F, [cO h0 0 [.ref h1, vI ps]], [cO o0 2 [.ref o1, vI 0, vI 0, vI 0, .ref o2, vI 0]], [cA e8 G.2.1.1 24 U2_4], [cA e9 G.2.1.1 24 U3_4], [cA g0 G.2.1.1 18 f], [cLg r0 G.2.1.2.2.2.2 64 lr], [cLg m0 G.2.1.2.2.2.2 2 lm]], (rfl : (9 : Nat) = 9), rfl, Eq.trans (b := ([[cA e8 G.2.1.1 24 U2_4], [cA e9 G.2.1.1 24 U3_4], [cA g0 G.2.1.1 18 f], [cLg r0 G.2.1.2.2.2.2 64 lr], [cLg m0 G.2.1.2.2.2.2 2 lm]] : List va_W)) rfl rfl, ?_⟩
  show fSt l G X 0 0 92 [(5, vI 4), (4, vI 1), (0, .ref x0), (1, .ref g0), (2, .ref r0), (3, .ref m0)] [vI (sp_count f ps 0 5)] ([[cO x0 6 [.ref (a 0), .ref h0, .ref o0, .ref u0, .ref e8, .ref e9]], stW G a c F, [cO h0 0 [.ref h1, vI ps]], [cO o0 2 [.ref o1, vI 0, vI 0, vI 0, .ref o2, vI 0]], [cA e8 G.2.1.1 24 U2_4], [cA e9 G.2.1.1 24 U3_4], [cA g0 G.2.1.1 18 f], [cLg r0 G.2.1.2.2.2.2 64 lr], [cLg m0 G.2.1.2.2.2.2 2 lm]] : List va_W).flatten
  refine s_top (f 4) ct_5 ?_
  refine s_aload_n 1 C dL_isSo_92 rfl 3 rfl ?_
  refine s_iconst C dL_isSo_93 ?_
  refine s_iald C dL_isSo_94 17 rfl 4 rfl (by omega) (by omega) (by omega) ?_
  refine s_icmp_ne 162 C dL_isSo_95 (by decide) (hI.rf _) (hI.rf _) (fun h => absurd (by omega) h) (fun _ => ?_)
  refine s_aload_n 0 C dL_isSo_98 rfl 2 rfl ?_
  refine s_bipush (z := 6) C dL_isSo_99 rfl ?_
  refine s_callVQ (As := [vI 6]) (rest := []) (segs := [[cO x0 6 [.ref (a 0), .ref h0, .ref o0, .ref u0, .ref e8, .ref e9]], stW G a c F, [cO h0 0 [.ref h1, vI ps]], [cO o0 2 [.ref o1, vI 0, vI 0, vI 0, .ref o2, vI 0]], [cA e8 G.2.1.1 24 U2_4], [cA e9 G.2.1.1 24 U3_4], [cA g0 G.2.1.1 18 f], [cLg r0 G.2.1.2.2.2.2 64 lr], [cLg m0 G.2.1.2.2.2.2 2 lm]]) C dL_isSo_101 (c_X6_count l G x0 h0 h1 o0 o1 o2 (.ref u0) (.ref e8) (.ref e9) a c F B ps 0 0 0 0 f 6 (by first | assumption | omega) hI hBB (by first | assumption | omega)) gL_isSo_X6_count rfl 1 (by decide +kernel) (by decide) 6 rfl rfl 0 _ rfl rfl [0, 2, 3, 1] [4, 5, 6, 7, 8] 9 (rfl : (9 : Nat) = 9) (by decide +kernel) rfl rfl (Nat.le_of_ble_eq_true rfl) ⟨Nat.zero_le _, Nat.zero_le _⟩ ?_
  intro v0 w0 hq
  obtain ⟨rfl, rfl⟩ := hq
  refine ⟨rfl, [[cO x0 6 [.ref (a 0), .ref h0, .ref o0, .ref u0, .ref e8, .ref e9]], stW G a c F, [cO h0 0 [.ref h1, vI ps]], [cO o0 2 [.ref o1, vI 0, vI 0, vI 0, .ref o2, vI 0]], [cA e8 G.2.1.1 24 U2_4], [cA e9 G.2.1.1 24 U3_4], [cA g0 G.2.1.1 18 f], [cLg r0 G.2.1.2.2.2.2 64 lr], [cLg m0 G.2.1.2.2.2.2 2 lm]], (rfl : (9 : Nat) = 9), rfl, Eq.trans (b := ([[cA e8 G.2.1.1 24 U2_4], [cA e9 G.2.1.1 24 U3_4], [cA g0 G.2.1.1 18 f], [cLg r0 G.2.1.2.2.2.2 64 lr], [cLg m0 G.2.1.2.2.2.2 2 lm]] : List va_W)) rfl rfl, ?_⟩
  show fSt l G X 0 0 104 [(5, vI 4), (4, vI 1), (0, .ref x0), (1, .ref g0), (2, .ref r0), (3, .ref m0)] [vI (sp_count f ps 0 6)] ([[cO x0 6 [.ref (a 0), .ref h0, .ref o0, .ref u0, .ref e8, .ref e9]], stW G a c F, [cO h0 0 [.ref h1, vI ps]], [cO o0 2 [.ref o1, vI 0, vI 0, vI 0, .ref o2, vI 0]], [cA e8 G.2.1.1 24 U2_4], [cA e9 G.2.1.1 24 U3_4], [cA g0 G.2.1.1 18 f], [cLg r0 G.2.1.2.2.2.2 64 lr], [cLg m0 G.2.1.2.2.2.2 2 lm]] : List va_W).flatten
  refine s_top (f 5) ct_6 ?_
  refine s_aload_n 1 C dL_isSo_104 rfl 3 rfl ?_
  refine s_iconst C dL_isSo_105 ?_
  refine s_iald C dL_isSo_106 17 rfl 5 rfl (by omega) (by omega) (by omega) ?_
  refine s_icmp_ne 162 C dL_isSo_107 (by decide) (hI.rf _) (hI.rf _) (fun h => absurd (by omega) h) (fun _ => ?_)
  refine s_aload_n 0 C dL_isSo_110 rfl 2 rfl ?_
  refine s_bipush (z := 7) C dL_isSo_111 rfl ?_
  refine s_callVQ (As := [vI 7]) (rest := []) (segs := [[cO x0 6 [.ref (a 0), .ref h0, .ref o0, .ref u0, .ref e8, .ref e9]], stW G a c F, [cO h0 0 [.ref h1, vI ps]], [cO o0 2 [.ref o1, vI 0, vI 0, vI 0, .ref o2, vI 0]], [cA e8 G.2.1.1 24 U2_4], [cA e9 G.2.1.1 24 U3_4], [cA g0 G.2.1.1 18 f], [cLg r0 G.2.1.2.2.2.2 64 lr], [cLg m0 G.2.1.2.2.2.2 2 lm]]) C dL_isSo_113 (c_X6_count l G x0 h0 h1 o0 o1 o2 (.ref u0) (.ref e8) (.ref e9) a c F B ps 0 0 0 0 f 7 (by first | assumption | omega) hI hBB (by first | assumption | omega)) gL_isSo_X6_count rfl 1 (by decide +kernel) (by decide) 6 rfl rfl 0 _ rfl rfl [0, 2, 3, 1] [4, 5, 6, 7, 8] 9 (rfl : (9 : Nat) = 9) (by decide +kernel) rfl rfl (Nat.le_of_ble_eq_true rfl) ⟨Nat.zero_le _, Nat.zero_le _⟩ ?_
  intro v0 w0 hq
  obtain ⟨rfl, rfl⟩ := hq
  refine ⟨rfl, [[cO x0 6 [.ref (a 0), .ref h0, .ref o0, .ref u0, .ref e8, .ref e9]], stW G a c F, [cO h0 0 [.ref h1, vI ps]], [cO o0 2 [.ref o1, vI 0, vI 0, vI 0, .ref o2, vI 0]], [cA e8 G.2.1.1 24 U2_4], [cA e9 G.2.1.1 24 U3_4], [cA g0 G.2.1.1 18 f], [cLg r0 G.2.1.2.2.2.2 64 lr], [cLg m0 G.2.1.2.2.2.2 2 lm]], (rfl : (9 : Nat) = 9), rfl, Eq.trans (b := ([[cA e8 G.2.1.1 24 U2_4], [cA e9 G.2.1.1 24 U3_4], [cA g0 G.2.1.1 18 f], [cLg r0 G.2.1.2.2.2.2 64 lr], [cLg m0 G.2.1.2.2.2.2 2 lm]] : List va_W)) rfl rfl, ?_⟩
  show fSt l G X 0 0 116 [(5, vI 4), (4, vI 1), (0, .ref x0), (1, .ref g0), (2, .ref r0), (3, .ref m0)] [vI (sp_count f ps 0 7)] ([[cO x0 6 [.ref (a 0), .ref h0, .ref o0, .ref u0, .ref e8, .ref e9]], stW G a c F, [cO h0 0 [.ref h1, vI ps]], [cO o0 2 [.ref o1, vI 0, vI 0, vI 0, .ref o2, vI 0]], [cA e8 G.2.1.1 24 U2_4], [cA e9 G.2.1.1 24 U3_4], [cA g0 G.2.1.1 18 f], [cLg r0 G.2.1.2.2.2.2 64 lr], [cLg m0 G.2.1.2.2.2.2 2 lm]] : List va_W).flatten
  refine s_top (f 6) ct_7 ?_
  refine s_aload_n 1 C dL_isSo_116 rfl 3 rfl ?_
  refine s_bipush (z := 6) C dL_isSo_117 rfl ?_
  refine s_iald C dL_isSo_119 17 rfl 6 rfl (by omega) (by omega) (by omega) ?_
  refine s_icmp_ne 162 C dL_isSo_120 (by decide) (hI.rf _) (hI.rf _) (fun h => absurd (by omega) h) (fun _ => ?_)
  refine s_aload_n 0 C dL_isSo_123 rfl 2 rfl ?_
  refine s_bipush (z := 9) C dL_isSo_124 rfl ?_
  refine s_callVQ (As := [vI 9]) (rest := []) (segs := [[cO x0 6 [.ref (a 0), .ref h0, .ref o0, .ref u0, .ref e8, .ref e9]], stW G a c F, [cO h0 0 [.ref h1, vI ps]], [cO o0 2 [.ref o1, vI 0, vI 0, vI 0, .ref o2, vI 0]], [cA e8 G.2.1.1 24 U2_4], [cA e9 G.2.1.1 24 U3_4], [cA g0 G.2.1.1 18 f], [cLg r0 G.2.1.2.2.2.2 64 lr], [cLg m0 G.2.1.2.2.2.2 2 lm]]) C dL_isSo_126 (c_X6_count l G x0 h0 h1 o0 o1 o2 (.ref u0) (.ref e8) (.ref e9) a c F B ps 0 0 0 0 f 9 (by first | assumption | omega) hI hBB (by first | assumption | omega)) gL_isSo_X6_count rfl 1 (by decide +kernel) (by decide) 6 rfl rfl 0 _ rfl rfl [0, 2, 3, 1] [4, 5, 6, 7, 8] 9 (rfl : (9 : Nat) = 9) (by decide +kernel) rfl rfl (Nat.le_of_ble_eq_true rfl) ⟨Nat.zero_le _, Nat.zero_le _⟩ ?_
  intro v0 w0 hq
  obtain ⟨rfl, rfl⟩ := hq
  refine ⟨rfl, [[cO x0 6 [.ref (a 0), .ref h0, .ref o0, .ref u0, .ref e8, .ref e9]], stW G a c F, [cO h0 0 [.ref h1, vI ps]], [cO o0 2 [.ref o1, vI 0, vI 0, vI 0, .ref o2, vI 0]], [cA e8 G.2.1.1 24 U2_4], [cA e9 G.2.1.1 24 U3_4], [cA g0 G.2.1.1 18 f], [cLg r0 G.2.1.2.2.2.2 64 lr], [cLg m0 G.2.1.2.2.2.2 2 lm]], (rfl : (9 : Nat) = 9), rfl, Eq.trans (b := ([[cA e8 G.2.1.1 24 U2_4], [cA e9 G.2.1.1 24 U3_4], [cA g0 G.2.1.1 18 f], [cLg r0 G.2.1.2.2.2.2 64 lr], [cLg m0 G.2.1.2.2.2.2 2 lm]] : List va_W)) rfl rfl, ?_⟩
  show fSt l G X 0 0 129 [(5, vI 4), (4, vI 1), (0, .ref x0), (1, .ref g0), (2, .ref r0), (3, .ref m0)] [vI (sp_count f ps 0 9)] ([[cO x0 6 [.ref (a 0), .ref h0, .ref o0, .ref u0, .ref e8, .ref e9]], stW G a c F, [cO h0 0 [.ref h1, vI ps]], [cO o0 2 [.ref o1, vI 0, vI 0, vI 0, .ref o2, vI 0]], [cA e8 G.2.1.1 24 U2_4], [cA e9 G.2.1.1 24 U3_4], [cA g0 G.2.1.1 18 f], [cLg r0 G.2.1.2.2.2.2 64 lr], [cLg m0 G.2.1.2.2.2.2 2 lm]] : List va_W).flatten
  refine s_top 0 ct_9 ?_
  refine s_if_ne 162 C dL_isSo_129 (by decide) (by decide) (fun h => absurd h (by decide)) (fun h => ?_)
  refine s_aload_n 0 C dL_isSo_132 rfl 2 rfl ?_
  refine s_bipush (z := 20) C dL_isSo_133 rfl ?_
  refine s_callVQ (As := [vI 20]) (rest := []) (segs := [[cO x0 6 [.ref (a 0), .ref h0, .ref o0, .ref u0, .ref e8, .ref e9]], stW G a c F, [cO h0 0 [.ref h1, vI ps]], [cO o0 2 [.ref o1, vI 0, vI 0, vI 0, .ref o2, vI 0]], [cA e8 G.2.1.1 24 U2_4], [cA e9 G.2.1.1 24 U3_4], [cA g0 G.2.1.1 18 f], [cLg r0 G.2.1.2.2.2.2 64 lr], [cLg m0 G.2.1.2.2.2.2 2 lm]]) C dL_isSo_135 (c_X6_count l G x0 h0 h1 o0 o1 o2 (.ref u0) (.ref e8) (.ref e9) a c F B ps 0 0 0 0 f 20 (by first | assumption | omega) hI hBB (by first | assumption | omega)) gL_isSo_X6_count rfl 1 (by decide +kernel) (by decide) 6 rfl rfl 0 _ rfl rfl [0, 2, 3, 1] [4, 5, 6, 7, 8] 9 (rfl : (9 : Nat) = 9) (by decide +kernel) rfl rfl (Nat.le_of_ble_eq_true rfl) ⟨Nat.zero_le _, Nat.zero_le _⟩ ?_
  intro v0 w0 hq
  obtain ⟨rfl, rfl⟩ := hq
  refine ⟨rfl, [[cO x0 6 [.ref (a 0), .ref h0, .ref o0, .ref u0, .ref e8, .ref e9]], stW G a c F, [cO h0 0 [.ref h1, vI ps]], [cO o0 2 [.ref o1, vI 0, vI 0, vI 0, .ref o2, vI 0]], [cA e8 G.2.1.1 24 U2_4], [cA e9 G.2.1.1 24 U3_4], [cA g0 G.2.1.1 18 f], [cLg r0 G.2.1.2.2.2.2 64 lr], [cLg m0 G.2.1.2.2.2.2 2 lm]], (rfl : (9 : Nat) = 9), rfl, Eq.trans (b := ([[cA e8 G.2.1.1 24 U2_4], [cA e9 G.2.1.1 24 U3_4], [cA g0 G.2.1.1 18 f], [cLg r0 G.2.1.2.2.2.2 64 lr], [cLg m0 G.2.1.2.2.2.2 2 lm]] : List va_W)) rfl rfl, ?_⟩
  show fSt l G X 0 0 138 [(5, vI 4), (4, vI 1), (0, .ref x0), (1, .ref g0), (2, .ref r0), (3, .ref m0)] [vI (sp_count f ps 0 20)] ([[cO x0 6 [.ref (a 0), .ref h0, .ref o0, .ref u0, .ref e8, .ref e9]], stW G a c F, [cO h0 0 [.ref h1, vI ps]], [cO o0 2 [.ref o1, vI 0, vI 0, vI 0, .ref o2, vI 0]], [cA e8 G.2.1.1 24 U2_4], [cA e9 G.2.1.1 24 U3_4], [cA g0 G.2.1.1 18 f], [cLg r0 G.2.1.2.2.2.2 64 lr], [cLg m0 G.2.1.2.2.2.2 2 lm]] : List va_W).flatten
  refine s_top (f 7) ct_20 ?_
  refine s_aload_n 1 C dL_isSo_138 rfl 3 rfl ?_
  refine s_bipush (z := 7) C dL_isSo_139 rfl ?_
  refine s_iald C dL_isSo_141 17 rfl 7 rfl (by omega) (by omega) (by omega) ?_
  refine s_icmp_ne 162 C dL_isSo_142 (by decide) (hI.rf _) (hI.rf _) (fun h => absurd (by omega) h) (fun _ => ?_)
  refine s_aload_n 0 C dL_isSo_145 rfl 2 rfl ?_
  refine s_bipush (z := 21) C dL_isSo_146 rfl ?_
  refine s_callVQ (As := [vI 21]) (rest := []) (segs := [[cO x0 6 [.ref (a 0), .ref h0, .ref o0, .ref u0, .ref e8, .ref e9]], stW G a c F, [cO h0 0 [.ref h1, vI ps]], [cO o0 2 [.ref o1, vI 0, vI 0, vI 0, .ref o2, vI 0]], [cA e8 G.2.1.1 24 U2_4], [cA e9 G.2.1.1 24 U3_4], [cA g0 G.2.1.1 18 f], [cLg r0 G.2.1.2.2.2.2 64 lr], [cLg m0 G.2.1.2.2.2.2 2 lm]]) C dL_isSo_148 (c_X6_count l G x0 h0 h1 o0 o1 o2 (.ref u0) (.ref e8) (.ref e9) a c F B ps 0 0 0 0 f 21 (by first | assumption | omega) hI hBB (by first | assumption | omega)) gL_isSo_X6_count rfl 1 (by decide +kernel) (by decide) 6 rfl rfl 0 _ rfl rfl [0, 2, 3, 1] [4, 5, 6, 7, 8] 9 (rfl : (9 : Nat) = 9) (by decide +kernel) rfl rfl (Nat.le_of_ble_eq_true rfl) ⟨Nat.zero_le _, Nat.zero_le _⟩ ?_
  intro v0 w0 hq
  obtain ⟨rfl, rfl⟩ := hq
  refine ⟨rfl, [[cO x0 6 [.ref (a 0), .ref h0, .ref o0, .ref u0, .ref e8, .ref e9]], stW G a c F, [cO h0 0 [.ref h1, vI ps]], [cO o0 2 [.ref o1, vI 0, vI 0, vI 0, .ref o2, vI 0]], [cA e8 G.2.1.1 24 U2_4], [cA e9 G.2.1.1 24 U3_4], [cA g0 G.2.1.1 18 f], [cLg r0 G.2.1.2.2.2.2 64 lr], [cLg m0 G.2.1.2.2.2.2 2 lm]], (rfl : (9 : Nat) = 9), rfl, Eq.trans (b := ([[cA e8 G.2.1.1 24 U2_4], [cA e9 G.2.1.1 24 U3_4], [cA g0 G.2.1.1 18 f], [cLg r0 G.2.1.2.2.2.2 64 lr], [cLg m0 G.2.1.2.2.2.2 2 lm]] : List va_W)) rfl rfl, ?_⟩
  show fSt l G X 0 0 151 [(5, vI 4), (4, vI 1), (0, .ref x0), (1, .ref g0), (2, .ref r0), (3, .ref m0)] [vI (sp_count f ps 0 21)] ([[cO x0 6 [.ref (a 0), .ref h0, .ref o0, .ref u0, .ref e8, .ref e9]], stW G a c F, [cO h0 0 [.ref h1, vI ps]], [cO o0 2 [.ref o1, vI 0, vI 0, vI 0, .ref o2, vI 0]], [cA e8 G.2.1.1 24 U2_4], [cA e9 G.2.1.1 24 U3_4], [cA g0 G.2.1.1 18 f], [cLg r0 G.2.1.2.2.2.2 64 lr], [cLg m0 G.2.1.2.2.2.2 2 lm]] : List va_W).flatten
  refine s_top (f 8) ct_21 ?_
  refine s_aload_n 1 C dL_isSo_151 rfl 3 rfl ?_
  refine s_bipush (z := 8) C dL_isSo_152 rfl ?_
  refine s_iald C dL_isSo_154 17 rfl 8 rfl (by omega) (by omega) (by omega) ?_
  refine s_icmp_ne 162 C dL_isSo_155 (by decide) (hI.rf _) (hI.rf _) (fun h => absurd (by omega) h) (fun _ => ?_)
  refine s_iconst C dL_isSo_158 ?_
  refine s_goto 163 C dL_isSo_159 (by decide) ?_
  exact s_zret C E dL_isSo_163 rfl ⟨U2_4, U3_4, rfl, rfl⟩

set_option maxHeartbeats 4000000 in
set_option maxRecDepth 100000 in
theorem c_L_acts (l : Launch) (G : fG) (x0 h0 h1 o0 u0 e8 e9 g0 r0 m0 : Nat) (a : Nat → Nat) (S : Nat → Nat → Nat) (c : Nat → Int) (F : Nat → Int → Int) (ps : Int) (Q : Nat → Option Nat) (cs : Nat → Nat → Int) (Fs : Nat → Nat → Int → Int) (p : Nat → Nat) (B : Int) (f P : Int → Int) (lr lm : Int → Nat) (zz : Int) (hR : RSb f c F) (hP : PI B f) (hH : HRel B P ps S Q p cs Fs) (hL : LR f lr lm) : fCt l G yL_acts wsL_acts 6 156 0 0 [.ref x0, .ref g0, .ref r0, .ref m0, vI zz] ([[cO x0 6 [.ref (a 0), .ref h0, .ref o0, .ref u0, .ref e8, .ref e9]], stW G a c F, [cO h0 0 [.ref h1, vI ps]], [cQ h1 G.2.1.2.2.2.1 5 Q], stW G (S 0) (cs 0) (Fs 0), stW G (S 1) (cs 1) (Fs 1), stW G (S 2) (cs 2) (Fs 2), stW G (S 3) (cs 3) (Fs 3), stW G (S 4) (cs 4) (Fs 4), [cA g0 G.2.1.1 18 f], [cLg r0 G.2.1.2.2.2.2 64 lr], [cLg m0 G.2.1.2.2.2.2 2 lm]] : List va_W).flatten (fun (v0 : Option Value) (w0 : va_W) => ∃ (c2 : Nat → Int) (F2 : Nat → Int → Int) (ps2 : Int) (Q2 : Nat → Option Nat) (cs2 : Nat → Nat → Int) (Fs2 : Nat → Nat → Int → Int) (p2 : Nat → Nat) (f2 P2 : Int → Int) (lr2 lm2 : Int → Nat), v0 = some (vI 1) ∧ w0 = ([[cO x0 6 [.ref (a 0), .ref h0, .ref o0, .ref u0, .ref e8, .ref e9]], stW G a c2 F2, [cO h0 0 [.ref h1, vI ps2]], [cQ h1 G.2.1.2.2.2.1 5 Q2], stW G (S 0) (cs2 0) (Fs2 0), stW G (S 1) (cs2 1) (Fs2 1), stW G (S 2) (cs2 2) (Fs2 2), stW G (S 3) (cs2 3) (Fs2 3), stW G (S 4) (cs2 4) (Fs2 4), [cA g0 G.2.1.1 18 f2], [cLg r0 G.2.1.2.2.2.2 64 lr2], [cLg m0 G.2.1.2.2.2.2 2 lm2]] : List va_W).flatten ∧ (RSb f2 c2 F2) ∧ (NX B f f2 lr2 lm2) ∧ (HRel (B + 300) P2 ps2 S Q2 p2 cs2 Fs2)) := by
  refine fs_met (cc := cL_acts) (nL := 15) (ret := (some .boolean)) (by decide) rfl (Nat.le_of_ble_eq_true rfl) ?_
  intro X C E
  show fSt l G X 0 0 0 [(0, .ref x0), (1, .ref g0), (2, .ref r0), (3, .ref m0), (4, vI zz)] [] ([[cO x0 6 [.ref (a 0), .ref h0, .ref o0, .ref u0, .ref e8, .ref e9]], stW G a c F, [cO h0 0 [.ref h1, vI ps]], [cQ h1 G.2.1.2.2.2.1 5 Q], stW G (S 0) (cs 0) (Fs 0), stW G (S 1) (cs 1) (Fs 1), stW G (S 2) (cs 2) (Fs 2), stW G (S 3) (cs 3) (Fs 3), stW G (S 4) (cs 4) (Fs 4), [cA g0 G.2.1.1 18 f], [cLg r0 G.2.1.2.2.2.2 64 lr], [cLg m0 G.2.1.2.2.2.2 2 lm]] : List va_W).flatten
  have hI := hP.1
  have hBl := hP.2.1
  have hBB : B ≤ 1073000000 := by omega
  have hn61 := hP.2.2.1
  have ht9 := hP.2.2.2
  have hn0 := hI.n
  have htk := hI.tk
  have hT := hI.TI (by omega)
  refine s_iload C dL_acts_0 4 rfl ?_
  refine s_iconst C dL_acts_2 ?_
  refine s_ishrA C dL_acts_3 (fun z3 hz3 => ?_)
  refine s_ldc (z := 10000000) C (by decide +kernel) dL_acts_4 ?_
  refine s_callSQ (As := [vI z3, vI 10000000]) (rest := []) (segs := [[cO x0 6 [.ref (a 0), .ref h0, .ref o0, .ref u0, .ref e8, .ref e9]], stW G a c F, [cO h0 0 [.ref h1, vI ps]], [cQ h1 G.2.1.2.2.2.1 5 Q], stW G (S 0) (cs 0) (Fs 0), stW G (S 1) (cs 1) (Fs 1), stW G (S 2) (cs 2) (Fs 2), stW G (S 3) (cs 3) (Fs 3), stW G (S 4) (cs 4) (Fs 4), [cA g0 G.2.1.1 18 f], [cLg r0 G.2.1.2.2.2.2 64 lr], [cLg m0 G.2.1.2.2.2.2 2 lm]]) C dL_acts_6 (c_L_low l G z3 10000000 (by first | assumption | omega)) gL_acts_L_low rfl 2 (by decide +kernel) (by decide) [] [0, 1, 2, 3, 4, 5, 6, 7, 8, 9, 10, 11] 12 (rfl : (12 : Nat) = 12) (by decide +kernel) rfl rfl (Nat.le_of_ble_eq_true rfl) ⟨Nat.zero_le _, Nat.zero_le _⟩ ?_
  intro v0 w0 hq
  obtain ⟨z_6, rfl, rfl, hq0_6⟩ := hq
  refine ⟨rfl, [[cO x0 6 [.ref (a 0), .ref h0, .ref o0, .ref u0, .ref e8, .ref e9]], stW G a c F, [cO h0 0 [.ref h1, vI ps]], [cQ h1 G.2.1.2.2.2.1 5 Q], stW G (S 0) (cs 0) (Fs 0), stW G (S 1) (cs 1) (Fs 1), stW G (S 2) (cs 2) (Fs 2), stW G (S 3) (cs 3) (Fs 3), stW G (S 4) (cs 4) (Fs 4), [cA g0 G.2.1.1 18 f], [cLg r0 G.2.1.2.2.2.2 64 lr], [cLg m0 G.2.1.2.2.2.2 2 lm]], (rfl : (12 : Nat) = 12), rfl, Eq.trans (b := ([[cO x0 6 [.ref (a 0), .ref h0, .ref o0, .ref u0, .ref e8, .ref e9]], stW G a c F, [cO h0 0 [.ref h1, vI ps]], [cQ h1 G.2.1.2.2.2.1 5 Q], stW G (S 0) (cs 0) (Fs 0), stW G (S 1) (cs 1) (Fs 1), stW G (S 2) (cs 2) (Fs 2), stW G (S 3) (cs 3) (Fs 3), stW G (S 4) (cs 4) (Fs 4), [cA g0 G.2.1.1 18 f], [cLg r0 G.2.1.2.2.2.2 64 lr], [cLg m0 G.2.1.2.2.2.2 2 lm]] : List va_W)) rfl rfl, ?_⟩
  show fSt l G X 0 0 9 [(0, .ref x0), (1, .ref g0), (2, .ref r0), (3, .ref m0), (4, vI zz)] [vI z_6] ([[cO x0 6 [.ref (a 0), .ref h0, .ref o0, .ref u0, .ref e8, .ref e9]], stW G a c F, [cO h0 0 [.ref h1, vI ps]], [cQ h1 G.2.1.2.2.2.1 5 Q], stW G (S 0) (cs 0) (Fs 0), stW G (S 1) (cs 1) (Fs 1), stW G (S 2) (cs 2) (Fs 2), stW G (S 3) (cs 3) (Fs 3), stW G (S 4) (cs 4) (Fs 4), [cA g0 G.2.1.1 18 f], [cLg r0 G.2.1.2.2.2.2 64 lr], [cLg m0 G.2.1.2.2.2.2 2 lm]] : List va_W).flatten
  have hq_y := hq0_6
  obtain ⟨y, hv_y⟩ : ∃ y : Int, y = z_6 := ⟨_, rfl⟩
  rw [← hv_y] at hq_y
  refine s_top y hv_y.symm ?_
  refine s_istore [(5, vI y), (0, .ref x0), (1, .ref g0), (2, .ref r0), (3, .ref m0), (4, vI zz)] C dL_acts_9 (by decide) rfl ?_
  refine s_iload C dL_acts_11 5 rfl ?_
  refine s_bipush (z := 32) C dL_acts_13 rfl ?_
  refine s_callSQ (As := [vI zz, vI 32]) (rest := []) (segs := [[cO x0 6 [.ref (a 0), .ref h0, .ref o0, .ref u0, .ref e8, .ref e9]], stW G a c F, [cO h0 0 [.ref h1, vI ps]], [cQ h1 G.2.1.2.2.2.1 5 Q], stW G (S 0) (cs 0) (Fs 0), stW G (S 1) (cs 1) (Fs 1), stW G (S 2) (cs 2) (Fs 2), stW G (S 3) (cs 3) (Fs 3), stW G (S 4) (cs 4) (Fs 4), [cA g0 G.2.1.1 18 f], [cLg r0 G.2.1.2.2.2.2 64 lr], [cLg m0 G.2.1.2.2.2.2 2 lm]]) C dL_acts_15 (c_L_low l G zz 32 (by first | assumption | omega)) gL_acts_L_low rfl 2 (by decide +kernel) (by decide) [] [0, 1, 2, 3, 4, 5, 6, 7, 8, 9, 10, 11] 12 (rfl : (12 : Nat) = 12) (by decide +kernel) rfl rfl (Nat.le_of_ble_eq_true rfl) ⟨Nat.zero_le _, Nat.zero_le _⟩ ?_
  intro v0 w0 hq
  obtain ⟨z_15, rfl, rfl, hq0_15⟩ := hq
  refine ⟨rfl, [[cO x0 6 [.ref (a 0), .ref h0, .ref o0, .ref u0, .ref e8, .ref e9]], stW G a c F, [cO h0 0 [.ref h1, vI ps]], [cQ h1 G.2.1.2.2.2.1 5 Q], stW G (S 0) (cs 0) (Fs 0), stW G (S 1) (cs 1) (Fs 1), stW G (S 2) (cs 2) (Fs 2), stW G (S 3) (cs 3) (Fs 3), stW G (S 4) (cs 4) (Fs 4), [cA g0 G.2.1.1 18 f], [cLg r0 G.2.1.2.2.2.2 64 lr], [cLg m0 G.2.1.2.2.2.2 2 lm]], (rfl : (12 : Nat) = 12), rfl, Eq.trans (b := ([[cO x0 6 [.ref (a 0), .ref h0, .ref o0, .ref u0, .ref e8, .ref e9]], stW G a c F, [cO h0 0 [.ref h1, vI ps]], [cQ h1 G.2.1.2.2.2.1 5 Q], stW G (S 0) (cs 0) (Fs 0), stW G (S 1) (cs 1) (Fs 1), stW G (S 2) (cs 2) (Fs 2), stW G (S 3) (cs 3) (Fs 3), stW G (S 4) (cs 4) (Fs 4), [cA g0 G.2.1.1 18 f], [cLg r0 G.2.1.2.2.2.2 64 lr], [cLg m0 G.2.1.2.2.2.2 2 lm]] : List va_W)) rfl rfl, ?_⟩
  show fSt l G X 0 0 18 [(5, vI y), (0, .ref x0), (1, .ref g0), (2, .ref r0), (3, .ref m0), (4, vI zz)] [vI z_15] ([[cO x0 6 [.ref (a 0), .ref h0, .ref o0, .ref u0, .ref e8, .ref e9]], stW G a c F, [cO h0 0 [.ref h1, vI ps]], [cQ h1 G.2.1.2.2.2.1 5 Q], stW G (S 0) (cs 0) (Fs 0), stW G (S 1) (cs 1) (Fs 1), stW G (S 2) (cs 2) (Fs 2), stW G (S 3) (cs 3) (Fs 3), stW G (S 4) (cs 4) (Fs 4), [cA g0 G.2.1.1 18 f], [cLg r0 G.2.1.2.2.2.2 64 lr], [cLg m0 G.2.1.2.2.2.2 2 lm]] : List va_W).flatten
  have hq_way := hq0_15
  obtain ⟨way, hv_way⟩ : ∃ way : Int, way = z_15 := ⟨_, rfl⟩
  rw [← hv_way] at hq_way
  refine s_top way hv_way.symm ?_
  refine s_istore [(6, vI way), (5, vI y), (0, .ref x0), (1, .ref g0), (2, .ref r0), (3, .ref m0), (4, vI zz)] C dL_acts_18 (by decide) rfl ?_
  refine s_iload C dL_acts_20 1 rfl ?_
  refine s_iconst C dL_acts_22 ?_
  refine s_irem C dL_acts_23 (by omega) (by omega) ?_
  obtain ⟨b, hv_b, hq_b⟩ : ∃ b : Int, b = (y % 2) ∧ (0 ≤ b ∧ b ≤ 1) := ⟨_, rfl, by omega⟩
  refine s_top b hv_b.symm ?_
  refine s_istore [(7, vI b), (6, vI way), (5, vI y), (0, .ref x0), (1, .ref g0), (2, .ref r0), (3, .ref m0), (4, vI zz)] C dL_acts_24 (by decide) rfl ?_
  refine s_bipush (z := 12) C dL_acts_26 rfl ?_
  refine s_iconst C dL_acts_28 ?_
  refine s_iload C dL_acts_29 0 rfl ?_
  refine s_imul C dL_acts_31 ?_
  refine s_iadd C dL_acts_32 ?_
  refine s_istore [(8, vI (12 + (3 * b))), (7, vI b), (6, vI way), (5, vI y), (0, .ref x0), (1, .ref g0), (2, .ref r0), (3, .ref m0), (4, vI zz)] C dL_acts_33 (by decide) rfl ?_
  refine s_aload_n 1 C dL_acts_35 rfl 5 rfl ?_
  refine s_iload C dL_acts_36 0 rfl ?_
  refine s_iconst C dL_acts_38 ?_
  refine s_iadd C dL_acts_39 ?_
  refine s_iald C dL_acts_40 75 rfl (3 * b + 14) (by omega) (by omega) (by omega) (by omega) ?_
  refine s_iconst C dL_acts_41 ?_
  refine s_icmp_ne 49 C dL_acts_42 (by decide) (hI.rf _) (by omega) (fun h_42 => ?_) (fun h_42 => ?_)
  · refine s_iconst C dL_acts_49 ?_
    refine s_istore [(9, vI 0), (8, vI (12 + (3 * b))), (7, vI b), (6, vI way), (5, vI y), (0, .ref x0), (1, .ref g0), (2, .ref r0), (3, .ref m0), (4, vI zz)] C dL_acts_50 (by decide) rfl ?_
    have hSb := hI.S b (by omega) (by omega)
    have e12 : oS f b 0 = f (3 * b + 12) := congrArg f (by omega)
    have e13 : oS f b 1 = f (3 * b + 13) := congrArg f (by omega)
    have e14 : oS f b 2 = f (3 * b + 14) := congrArg f (by omega)
    have hbm := (hL.b hq_b).1
    refine s_iload C dL_acts_52 3 rfl ?_
    refine s_bipush (z := 19) C dL_acts_54 rfl ?_
    refine s_icmp_ge 70 C dL_acts_56 (by decide) (by omega) (by omega) (fun h_56 => ?_) (fun h_56 => ?_)
    · refine s_iload C dL_acts_70 3 rfl ?_
      refine s_bipush (z := 23) C dL_acts_72 rfl ?_
      refine s_icmp_ge 180 C dL_acts_74 (by decide) (by omega) (by omega) (fun h_74 => ?_) (fun h_74 => ?_)
      · refine s_iload C dL_acts_180 3 rfl ?_
        refine s_bipush (z := 25) C dL_acts_182 rfl ?_
        refine s_icmp_ge 325 C dL_acts_184 (by decide) (by omega) (by omega) (fun h_184 => ?_) (fun h_184 => ?_)
        · refine s_iload C dL_acts_325 3 rfl ?_
          refine s_bipush (z := 25) C dL_acts_327 rfl ?_
          refine s_icmp_ne 385 C dL_acts_329 (by decide) (by omega) (by omega) (fun h_329 => ?_) (fun h_329 => ?_)
          · refine s_iload C dL_acts_385 3 rfl ?_
            refine s_bipush (z := 29) C dL_acts_387 rfl ?_
            refine s_icmp_ge 526 C dL_acts_389 (by decide) (by omega) (by omega) (fun h_389 => ?_) (fun h_389 => ?_)
            · refine s_iload C dL_acts_526 3 rfl ?_
              refine s_bipush (z := 29) C dL_acts_528 rfl ?_
              refine s_icmp_ne 582 C dL_acts_530 (by decide) (by omega) (by omega) (fun h_530 => ?_) (fun h_530 => ?_)
              · refine s_iload C dL_acts_582 3 rfl ?_
                refine s_bipush (z := 30) C dL_acts_584 rfl ?_
                refine s_icmp_ne 649 C dL_acts_586 (by decide) (by omega) (by omega) (fun h_586 => ?_) (fun h_586 => ?_)
                · refine s_iload C dL_acts_649 4 rfl ?_
                  refine s_iconst C dL_acts_651 ?_
                  refine s_irem C dL_acts_652 (by omega) (by omega) ?_
                  obtain ⟨wh, hv_wh, hq_wh⟩ : ∃ wh : Int, wh = (y % 2) ∧ (0 ≤ wh ∧ wh ≤ 1) := ⟨_, rfl, by omega⟩
                  refine s_top wh hv_wh.symm ?_
                  refine s_istore [(10, vI wh), (9, vI 0), (8, vI (12 + (3 * b))), (7, vI b), (6, vI way), (5, vI y), (0, .ref x0), (1, .ref g0), (2, .ref r0), (3, .ref m0), (4, vI zz)] C dL_acts_653 (by decide) rfl ?_
                  refine s_aload_n 1 C dL_acts_655 rfl 7 rfl ?_
                  refine s_bipush (z := 7) C dL_acts_656 rfl ?_
                  refine s_iload C dL_acts_658 0 rfl ?_
                  refine s_iadd C dL_acts_660 ?_
                  refine s_iald C dL_acts_661 75 rfl (wh + 7) (by omega) (by omega) (by omega) (by omega) ?_
                  refine s_istore [(11, vI (f (wh + 7))), (10, vI wh), (9, vI 0), (8, vI (12 + (3 * b))), (7, vI b), (6, vI way), (5, vI y), (0, .ref x0), (1, .ref g0), (2, .ref r0), (3, .ref m0), (4, vI zz)] C dL_acts_662 (by decide) rfl ?_
                  refine s_aload_n 1 C dL_acts_664 rfl 8 rfl ?_
                  refine s_bipush (z := 7) C dL_acts_665 rfl ?_
                  refine s_iload C dL_acts_667 1 rfl ?_
                  refine s_iadd C dL_acts_669 ?_
                  refine s_iload C dL_acts_670 1 rfl ?_
                  refine s_if_ne 687 C dL_acts_672 (by decide) (by omega) (fun h_672 => ?_) (fun h_672 => ?_)
                  · refine s_iload C dL_acts_687 6 rfl ?_
                    refine s_iconst C dL_acts_689 ?_
                    refine s_idiv C dL_acts_690 (by omega) (by omega) ?_
                    refine s_iload C dL_acts_691 6 rfl ?_
                    refine s_iconst C dL_acts_693 ?_
                    refine s_irem C dL_acts_694 (by omega) (by omega) ?_
                    refine s_if_ne 703 C dL_acts_695 (by decide) (by omega) (fun h_695 => ?_) (fun h_695 => ?_)
                    · refine s_iconst C dL_acts_703 ?_
                      refine s_irem C dL_acts_704 (by omega) (by omega) ?_
                      obtain ⟨nv, hv_nv, hq_nv⟩ : ∃ nv : Int, nv = ((y / 2) % 4) ∧ (1 - wh ≤ nv ∧ nv ≤ 20) := ⟨_, rfl, by omega⟩
                      refine s_top nv hv_nv.symm ?_
                      refine s_iast ([[cO x0 6 [.ref (a 0), .ref h0, .ref o0, .ref u0, .ref e8, .ref e9]], stW G a c F, [cO h0 0 [.ref h1, vI ps]], [cQ h1 G.2.1.2.2.2.1 5 Q], stW G (S 0) (cs 0) (Fs 0), stW G (S 1) (cs 1) (Fs 1), stW G (S 2) (cs 2) (Fs 2), stW G (S 3) (cs 3) (Fs 3), stW G (S 4) (cs 4) (Fs 4), [cA g0 G.2.1.1 18 (uZ f (wh + 7) nv)], [cLg r0 G.2.1.2.2.2.2 64 lr], [cLg m0 G.2.1.2.2.2.2 2 lm]] : List va_W).flatten C dL_acts_705 75 rfl (wh + 7) (by omega) (by omega) (by omega) (by omega) rfl ?_
                      refine s_aload_n 0 C dL_acts_706 rfl 7 rfl ?_
                      refine s_iload C dL_acts_707 1 rfl ?_
                      refine s_aload_n 1 C dL_acts_709 rfl 8 rfl ?_
                      refine s_bipush (z := 7) C dL_acts_710 rfl ?_
                      refine s_iload C dL_acts_712 1 rfl ?_
                      refine s_iadd C dL_acts_714 ?_
                      refine s_iald C dL_acts_715 75 rfl (wh + 7) (by omega) (by omega) (by omega) (by omega) ?_
                      refine s_top nv uZ_s ?_
                      refine s_callVQ (As := [vI wh, vI nv]) (rest := []) (segs := [[cO x0 6 [.ref (a 0), .ref h0, .ref o0, .ref u0, .ref e8, .ref e9]], stW G a c F, [cO h0 0 [.ref h1, vI ps]], [cQ h1 G.2.1.2.2.2.1 5 Q], stW G (S 0) (cs 0) (Fs 0), stW G (S 1) (cs 1) (Fs 1), stW G (S 2) (cs 2) (Fs 2), stW G (S 3) (cs 3) (Fs 3), stW G (S 4) (cs 4) (Fs 4), [cA g0 G.2.1.1 18 (uZ f (wh + 7) nv)], [cLg r0 G.2.1.2.2.2.2 64 lr], [cLg m0 G.2.1.2.2.2.2 2 lm]]) C dL_acts_716 (c_X6_set l G x0 h0 h1 (.ref o0) (.ref u0) (.ref e8) (.ref e9) ps Q S cs Fs p a c F B f P wh nv (by first | assumption | omega) hI hBB hH (by first | assumption | omega) (by first | assumption | omega)) gL_acts_X6_set rfl 2 (by decide +kernel) (by decide) 6 rfl rfl 0 _ rfl rfl [0, 2, 3, 4, 5, 6, 7, 8, 1] [9, 10, 11] 12 (rfl : (12 : Nat) = 12) (by decide +kernel) rfl rfl (Nat.le_of_ble_eq_true rfl) ⟨Nat.zero_le _, Nat.zero_le _⟩ ?_
                      intro v0 w0 hq
                      obtain ⟨z_716, f2_716, c2_716, F2_716, ps2_716, P2_716, Q2_716, cs2_716, Fs2_716, p2_716, rfl, rfl, hq0_716, hq1_716, hq2_716, hq3_716, hq4_716⟩ := hq
                      refine ⟨(fst_f (fst_c rfl (fst_c (fst_k rfl) (fst_c (fst_k rfl) (fst_c stW_fst (fst_c stW_fst (fst_c stW_fst (fst_c stW_fst (fst_c stW_fst (fst_c stW_fst rfl)))))))))), [[cO x0 6 [.ref (a 0), .ref h0, .ref o0, .ref u0, .ref e8, .ref e9]], stW G a c2_716 F2_716, [cO h0 0 [.ref h1, vI ps2_716]], [cQ h1 G.2.1.2.2.2.1 5 Q2_716], stW G (S 0) (cs2_716 0) (Fs2_716 0), stW G (S 1) (cs2_716 1) (Fs2_716 1), stW G (S 2) (cs2_716 2) (Fs2_716 2), stW G (S 3) (cs2_716 3) (Fs2_716 3), stW G (S 4) (cs2_716 4) (Fs2_716 4), [cA g0 G.2.1.1 18 (uZ f (wh + 7) nv)], [cLg r0 G.2.1.2.2.2.2 64 lr], [cLg m0 G.2.1.2.2.2.2 2 lm]], (rfl : (12 : Nat) = 12), rfl, Eq.trans (b := ([[cA g0 G.2.1.1 18 (uZ f (wh + 7) nv)], [cLg r0 G.2.1.2.2.2.2 64 lr], [cLg m0 G.2.1.2.2.2.2 2 lm]] : List va_W)) rfl rfl, ?_⟩
                      show fSt l G X 0 0 719 [(11, vI (f (wh + 7))), (10, vI wh), (9, vI 0), (8, vI (12 + (3 * b))), (7, vI b), (6, vI way), (5, vI y), (0, .ref x0), (1, .ref g0), (2, .ref r0), (3, .ref m0), (4, vI zz)] [vI z_716] ([[cO x0 6 [.ref (a 0), .ref h0, .ref o0, .ref u0, .ref e8, .ref e9]], stW G a c2_716 F2_716, [cO h0 0 [.ref h1, vI ps2_716]], [cQ h1 G.2.1.2.2.2.1 5 Q2_716], stW G (S 0) (cs2_716 0) (Fs2_716 0), stW G (S 1) (cs2_716 1) (Fs2_716 1), stW G (S 2) (cs2_716 2) (Fs2_716 2), stW G (S 3) (cs2_716 3) (Fs2_716 3), stW G (S 4) (cs2_716 4) (Fs2_716 4), [cA g0 G.2.1.1 18 (uZ f (wh + 7) nv)], [cLg r0 G.2.1.2.2.2.2 64 lr], [cLg m0 G.2.1.2.2.2.2 2 lm]] : List va_W).flatten
                      obtain ⟨hE9, hN9⟩ := X_set hP hL hq_wh hq_nv
                      obtain ⟨hz, hf⟩ := Prod.mk.inj (hq1_716.trans hE9)
                      have hz := hz.symm
                      have hf := hf.symm
                      subst hz
                      subst hf
                      refine s_iload C dL_acts_719 0 rfl ?_
                      refine s_icmp_ne 728 C dL_acts_721 (by decide) (hI.rf _) (hI.rf _) (fun h => absurd (by omega) h) (fun _ => ?_)
                      refine s_iconst C dL_acts_724 ?_
                      refine s_goto 729 C dL_acts_725 (by decide) ?_
                      exact s_zret C E dL_acts_729 rfl ⟨c2_716, F2_716, ps2_716, Q2_716, cs2_716, Fs2_716, p2_716, (uZ f (wh + 7) nv), P2_716, lr, lm, rfl, rfl, hq0_716, hN9, (hq2_716.mono (by omega))⟩
                    · refine s_bipush (z := 21) C dL_acts_698 rfl ?_
                      refine s_goto 704 C dL_acts_700 (by decide) ?_
                      refine s_irem C dL_acts_704 (by omega) (by omega) ?_
                      obtain ⟨nv, hv_nv, hq_nv⟩ : ∃ nv : Int, nv = ((y / 2) % 21) ∧ (1 - wh ≤ nv ∧ nv ≤ 20) := ⟨_, rfl, by omega⟩
                      refine s_top nv hv_nv.symm ?_
                      refine s_iast ([[cO x0 6 [.ref (a 0), .ref h0, .ref o0, .ref u0, .ref e8, .ref e9]], stW G a c F, [cO h0 0 [.ref h1, vI ps]], [cQ h1 G.2.1.2.2.2.1 5 Q], stW G (S 0) (cs 0) (Fs 0), stW G (S 1) (cs 1) (Fs 1), stW G (S 2) (cs 2) (Fs 2), stW G (S 3) (cs 3) (Fs 3), stW G (S 4) (cs 4) (Fs 4), [cA g0 G.2.1.1 18 (uZ f (wh + 7) nv)], [cLg r0 G.2.1.2.2.2.2 64 lr], [cLg m0 G.2.1.2.2.2.2 2 lm]] : List va_W).flatten C dL_acts_705 75 rfl (wh + 7) (by omega) (by omega) (by omega) (by omega) rfl ?_
                      refine s_aload_n 0 C dL_acts_706 rfl 7 rfl ?_
                      refine s_iload C dL_acts_707 1 rfl ?_
                      refine s_aload_n 1 C dL_acts_709 rfl 8 rfl ?_
                      refine s_bipush (z := 7) C dL_acts_710 rfl ?_
                      refine s_iload C dL_acts_712 1 rfl ?_
                      refine s_iadd C dL_acts_714 ?_
                      refine s_iald C dL_acts_715 75 rfl (wh + 7) (by omega) (by omega) (by omega) (by omega) ?_
                      refine s_top nv uZ_s ?_
                      refine s_callVQ (As := [vI wh, vI nv]) (rest := []) (segs := [[cO x0 6 [.ref (a 0), .ref h0, .ref o0, .ref u0, .ref e8, .ref e9]], stW G a c F, [cO h0 0 [.ref h1, vI ps]], [cQ h1 G.2.1.2.2.2.1 5 Q], stW G (S 0) (cs 0) (Fs 0), stW G (S 1) (cs 1) (Fs 1), stW G (S 2) (cs 2) (Fs 2), stW G (S 3) (cs 3) (Fs 3), stW G (S 4) (cs 4) (Fs 4), [cA g0 G.2.1.1 18 (uZ f (wh + 7) nv)], [cLg r0 G.2.1.2.2.2.2 64 lr], [cLg m0 G.2.1.2.2.2.2 2 lm]]) C dL_acts_716 (c_X6_set l G x0 h0 h1 (.ref o0) (.ref u0) (.ref e8) (.ref e9) ps Q S cs Fs p a c F B f P wh nv (by first | assumption | omega) hI hBB hH (by first | assumption | omega) (by first | assumption | omega)) gL_acts_X6_set rfl 2 (by decide +kernel) (by decide) 6 rfl rfl 0 _ rfl rfl [0, 2, 3, 4, 5, 6, 7, 8, 1] [9, 10, 11] 12 (rfl : (12 : Nat) = 12) (by decide +kernel) rfl rfl (Nat.le_of_ble_eq_true rfl) ⟨Nat.zero_le _, Nat.zero_le _⟩ ?_
                      intro v0 w0 hq
                      obtain ⟨z_716, f2_716, c2_716, F2_716, ps2_716, P2_716, Q2_716, cs2_716, Fs2_716, p2_716, rfl, rfl, hq0_716, hq1_716, hq2_716, hq3_716, hq4_716⟩ := hq
                      refine ⟨(fst_f (fst_c rfl (fst_c (fst_k rfl) (fst_c (fst_k rfl) (fst_c stW_fst (fst_c stW_fst (fst_c stW_fst (fst_c stW_fst (fst_c stW_fst (fst_c stW_fst rfl)))))))))), [[cO x0 6 [.ref (a 0), .ref h0, .ref o0, .ref u0, .ref e8, .ref e9]], stW G a c2_716 F2_716, [cO h0 0 [.ref h1, vI ps2_716]], [cQ h1 G.2.1.2.2.2.1 5 Q2_716], stW G (S 0) (cs2_716 0) (Fs2_716 0), stW G (S 1) (cs2_716 1) (Fs2_716 1), stW G (S 2) (cs2_716 2) (Fs2_716 2), stW G (S 3) (cs2_716 3) (Fs2_716 3), stW G (S 4) (cs2_716 4) (Fs2_716 4), [cA g0 G.2.1.1 18 (uZ f (wh + 7) nv)], [cLg r0 G.2.1.2.2.2.2 64 lr], [cLg m0 G.2.1.2.2.2.2 2 lm]], (rfl : (12 : Nat) = 12), rfl, Eq.trans (b := ([[cA g0 G.2.1.1 18 (uZ f (wh + 7) nv)], [cLg r0 G.2.1.2.2.2.2 64 lr], [cLg m0 G.2.1.2.2.2.2 2 lm]] : List va_W)) rfl rfl, ?_⟩
                      show fSt l G X 0 0 719 [(11, vI (f (wh + 7))), (10, vI wh), (9, vI 0), (8, vI (12 + (3 * b))), (7, vI b), (6, vI way), (5, vI y), (0, .ref x0), (1, .ref g0), (2, .ref r0), (3, .ref m0), (4, vI zz)] [vI z_716] ([[cO x0 6 [.ref (a 0), .ref h0, .ref o0, .ref u0, .ref e8, .ref e9]], stW G a c2_716 F2_716, [cO h0 0 [.ref h1, vI ps2_716]], [cQ h1 G.2.1.2.2.2.1 5 Q2_716], stW G (S 0) (cs2_716 0) (Fs2_716 0), stW G (S 1) (cs2_716 1) (Fs2_716 1), stW G (S 2) (cs2_716 2) (Fs2_716 2), stW G (S 3) (cs2_716 3) (Fs2_716 3), stW G (S 4) (cs2_716 4) (Fs2_716 4), [cA g0 G.2.1.1 18 (uZ f (wh + 7) nv)], [cLg r0 G.2.1.2.2.2.2 64 lr], [cLg m0 G.2.1.2.2.2.2 2 lm]] : List va_W).flatten
                      obtain ⟨hE9, hN9⟩ := X_set hP hL hq_wh hq_nv
                      obtain ⟨hz, hf⟩ := Prod.mk.inj (hq1_716.trans hE9)
                      have hz := hz.symm
                      have hf := hf.symm
                      subst hz
                      subst hf
                      refine s_iload C dL_acts_719 0 rfl ?_
                      refine s_icmp_ne 728 C dL_acts_721 (by decide) (hI.rf _) (hI.rf _) (fun h => absurd (by omega) h) (fun _ => ?_)
                      refine s_iconst C dL_acts_724 ?_
                      refine s_goto 729 C dL_acts_725 (by decide) ?_
                      exact s_zret C E dL_acts_729 rfl ⟨c2_716, F2_716, ps2_716, Q2_716, cs2_716, Fs2_716, p2_716, (uZ f (wh + 7) nv), P2_716, lr, lm, rfl, rfl, hq0_716, hN9, (hq2_716.mono (by omega))⟩
                  · refine s_iconst C dL_acts_675 ?_
                    refine s_iload C dL_acts_676 6 rfl ?_
                    refine s_iconst C dL_acts_678 ?_
                    refine s_idiv C dL_acts_679 (by omega) (by omega) ?_
                    refine s_bipush (z := 20) C dL_acts_680 rfl ?_
                    refine s_irem C dL_acts_682 (by omega) (by omega) ?_
                    refine s_iadd C dL_acts_683 ?_
                    refine s_goto 705 C dL_acts_684 (by decide) ?_
                    obtain ⟨nv, hv_nv, hq_nv⟩ : ∃ nv : Int, nv = 1 + ((y / 2) % 20) ∧ (1 - wh ≤ nv ∧ nv ≤ 20) := ⟨_, rfl, by omega⟩
                    refine s_top nv hv_nv.symm ?_
                    refine s_iast ([[cO x0 6 [.ref (a 0), .ref h0, .ref o0, .ref u0, .ref e8, .ref e9]], stW G a c F, [cO h0 0 [.ref h1, vI ps]], [cQ h1 G.2.1.2.2.2.1 5 Q], stW G (S 0) (cs 0) (Fs 0), stW G (S 1) (cs 1) (Fs 1), stW G (S 2) (cs 2) (Fs 2), stW G (S 3) (cs 3) (Fs 3), stW G (S 4) (cs 4) (Fs 4), [cA g0 G.2.1.1 18 (uZ f (wh + 7) nv)], [cLg r0 G.2.1.2.2.2.2 64 lr], [cLg m0 G.2.1.2.2.2.2 2 lm]] : List va_W).flatten C dL_acts_705 75 rfl (wh + 7) (by omega) (by omega) (by omega) (by omega) rfl ?_
                    refine s_aload_n 0 C dL_acts_706 rfl 7 rfl ?_
                    refine s_iload C dL_acts_707 1 rfl ?_
                    refine s_aload_n 1 C dL_acts_709 rfl 8 rfl ?_
                    refine s_bipush (z := 7) C dL_acts_710 rfl ?_
                    refine s_iload C dL_acts_712 1 rfl ?_
                    refine s_iadd C dL_acts_714 ?_
                    refine s_iald C dL_acts_715 75 rfl (wh + 7) (by omega) (by omega) (by omega) (by omega) ?_
                    refine s_top nv uZ_s ?_
                    refine s_callVQ (As := [vI wh, vI nv]) (rest := []) (segs := [[cO x0 6 [.ref (a 0), .ref h0, .ref o0, .ref u0, .ref e8, .ref e9]], stW G a c F, [cO h0 0 [.ref h1, vI ps]], [cQ h1 G.2.1.2.2.2.1 5 Q], stW G (S 0) (cs 0) (Fs 0), stW G (S 1) (cs 1) (Fs 1), stW G (S 2) (cs 2) (Fs 2), stW G (S 3) (cs 3) (Fs 3), stW G (S 4) (cs 4) (Fs 4), [cA g0 G.2.1.1 18 (uZ f (wh + 7) nv)], [cLg r0 G.2.1.2.2.2.2 64 lr], [cLg m0 G.2.1.2.2.2.2 2 lm]]) C dL_acts_716 (c_X6_set l G x0 h0 h1 (.ref o0) (.ref u0) (.ref e8) (.ref e9) ps Q S cs Fs p a c F B f P wh nv (by first | assumption | omega) hI hBB hH (by first | assumption | omega) (by first | assumption | omega)) gL_acts_X6_set rfl 2 (by decide +kernel) (by decide) 6 rfl rfl 0 _ rfl rfl [0, 2, 3, 4, 5, 6, 7, 8, 1] [9, 10, 11] 12 (rfl : (12 : Nat) = 12) (by decide +kernel) rfl rfl (Nat.le_of_ble_eq_true rfl) ⟨Nat.zero_le _, Nat.zero_le _⟩ ?_
                    intro v0 w0 hq
                    obtain ⟨z_716, f2_716, c2_716, F2_716, ps2_716, P2_716, Q2_716, cs2_716, Fs2_716, p2_716, rfl, rfl, hq0_716, hq1_716, hq2_716, hq3_716, hq4_716⟩ := hq
                    refine ⟨(fst_f (fst_c rfl (fst_c (fst_k rfl) (fst_c (fst_k rfl) (fst_c stW_fst (fst_c stW_fst (fst_c stW_fst (fst_c stW_fst (fst_c stW_fst (fst_c stW_fst rfl)))))))))), [[cO x0 6 [.ref (a 0), .ref h0, .ref o0, .ref u0, .ref e8, .ref e9]], stW G a c2_716 F2_716, [cO h0 0 [.ref h1, vI ps2_716]], [cQ h1 G.2.1.2.2.2.1 5 Q2_716], stW G (S 0) (cs2_716 0) (Fs2_716 0), stW G (S 1) (cs2_716 1) (Fs2_716 1), stW G (S 2) (cs2_716 2) (Fs2_716 2), stW G (S 3) (cs2_716 3) (Fs2_716 3), stW G (S 4) (cs2_716 4) (Fs2_716 4), [cA g0 G.2.1.1 18 (uZ f (wh + 7) nv)], [cLg r0 G.2.1.2.2.2.2 64 lr], [cLg m0 G.2.1.2.2.2.2 2 lm]], (rfl : (12 : Nat) = 12), rfl, Eq.trans (b := ([[cA g0 G.2.1.1 18 (uZ f (wh + 7) nv)], [cLg r0 G.2.1.2.2.2.2 64 lr], [cLg m0 G.2.1.2.2.2.2 2 lm]] : List va_W)) rfl rfl, ?_⟩
                    show fSt l G X 0 0 719 [(11, vI (f (wh + 7))), (10, vI wh), (9, vI 0), (8, vI (12 + (3 * b))), (7, vI b), (6, vI way), (5, vI y), (0, .ref x0), (1, .ref g0), (2, .ref r0), (3, .ref m0), (4, vI zz)] [vI z_716] ([[cO x0 6 [.ref (a 0), .ref h0, .ref o0, .ref u0, .ref e8, .ref e9]], stW G a c2_716 F2_716, [cO h0 0 [.ref h1, vI ps2_716]], [cQ h1 G.2.1.2.2.2.1 5 Q2_716], stW G (S 0) (cs2_716 0) (Fs2_716 0), stW G (S 1) (cs2_716 1) (Fs2_716 1), stW G (S 2) (cs2_716 2) (Fs2_716 2), stW G (S 3) (cs2_716 3) (Fs2_716 3), stW G (S 4) (cs2_716 4) (Fs2_716 4), [cA g0 G.2.1.1 18 (uZ f (wh + 7) nv)], [cLg r0 G.2.1.2.2.2.2 64 lr], [cLg m0 G.2.1.2.2.2.2 2 lm]] : List va_W).flatten
                    obtain ⟨hE9, hN9⟩ := X_set hP hL hq_wh hq_nv
                    obtain ⟨hz, hf⟩ := Prod.mk.inj (hq1_716.trans hE9)
                    have hz := hz.symm
                    have hf := hf.symm
                    subst hz
                    subst hf
                    refine s_iload C dL_acts_719 0 rfl ?_
                    refine s_icmp_ne 728 C dL_acts_721 (by decide) (hI.rf _) (hI.rf _) (fun h => absurd (by omega) h) (fun _ => ?_)
                    refine s_iconst C dL_acts_724 ?_
                    refine s_goto 729 C dL_acts_725 (by decide) ?_
                    exact s_zret C E dL_acts_729 rfl ⟨c2_716, F2_716, ps2_716, Q2_716, cs2_716, Fs2_716, p2_716, (uZ f (wh + 7) nv), P2_716, lr, lm, rfl, rfl, hq0_716, hN9, (hq2_716.mono (by omega))⟩
                · refine s_iload C dL_acts_589 0 rfl ?_
                  refine s_if_ne 603 C dL_acts_591 (by decide) (by decide) (fun h => absurd h (by decide)) (fun h => ?_)
                  refine s_iload C dL_acts_594 4 rfl ?_
                  refine s_iconst C dL_acts_596 ?_
                  refine s_irem C dL_acts_597 (by omega) (by omega) ?_
                  refine s_if_le 603 C dL_acts_598 (by decide) (by omega) (fun h_598 => ?_) (fun h_598 => ?_)
                  · refine s_aload_n 1 C dL_acts_603 rfl 6 rfl ?_
                    refine s_iload C dL_acts_604 1 rfl ?_
                    refine s_aload_n 1 C dL_acts_606 rfl 6 rfl ?_
                    refine s_iconst C dL_acts_607 ?_
                    refine s_iald C dL_acts_608 75 rfl 0 rfl (by omega) (by omega) (by omega) ?_
                    refine s_iast ([[cO x0 6 [.ref (a 0), .ref h0, .ref o0, .ref u0, .ref e8, .ref e9]], stW G a c F, [cO h0 0 [.ref h1, vI ps]], [cQ h1 G.2.1.2.2.2.1 5 Q], stW G (S 0) (cs 0) (Fs 0), stW G (S 1) (cs 1) (Fs 1), stW G (S 2) (cs 2) (Fs 2), stW G (S 3) (cs 3) (Fs 3), stW G (S 4) (cs 4) (Fs 4), [cA g0 G.2.1.1 18 (uZ f (3 * b + 12) (f 0))], [cLg r0 G.2.1.2.2.2.2 64 lr], [cLg m0 G.2.1.2.2.2.2 2 lm]] : List va_W).flatten C dL_acts_609 75 rfl (3 * b + 12) (by omega) (by omega) (by omega) (by omega) rfl ?_
                    refine s_aload_n 1 C dL_acts_610 rfl 6 rfl ?_
                    refine s_iload C dL_acts_611 1 rfl ?_
                    refine s_iconst C dL_acts_613 ?_
                    refine s_iadd C dL_acts_614 ?_
                    refine s_aload_n 1 C dL_acts_615 rfl 6 rfl ?_
                    refine s_iconst C dL_acts_616 ?_
                    refine s_iald C dL_acts_617 75 rfl 0 rfl (by omega) (by omega) (by omega) ?_
                    refine s_top (f 0) (uZ_n (by omega)) ?_
                    refine s_iast ([[cO x0 6 [.ref (a 0), .ref h0, .ref o0, .ref u0, .ref e8, .ref e9]], stW G a c F, [cO h0 0 [.ref h1, vI ps]], [cQ h1 G.2.1.2.2.2.1 5 Q], stW G (S 0) (cs 0) (Fs 0), stW G (S 1) (cs 1) (Fs 1), stW G (S 2) (cs 2) (Fs 2), stW G (S 3) (cs 3) (Fs 3), stW G (S 4) (cs 4) (Fs 4), [cA g0 G.2.1.1 18 (uZ (uZ f (3 * b + 12) (f 0)) (3 * b + 13) (f 0))], [cLg r0 G.2.1.2.2.2.2 64 lr], [cLg m0 G.2.1.2.2.2.2 2 lm]] : List va_W).flatten C dL_acts_618 75 rfl (3 * b + 13) (by omega) (by omega) (by omega) (by omega) rfl ?_
                    refine s_aload_n 1 C dL_acts_619 rfl 6 rfl ?_
                    refine s_iload C dL_acts_620 1 rfl ?_
                    refine s_iconst C dL_acts_622 ?_
                    refine s_iadd C dL_acts_623 ?_
                    refine s_iconst C dL_acts_624 ?_
                    refine s_iast ([[cO x0 6 [.ref (a 0), .ref h0, .ref o0, .ref u0, .ref e8, .ref e9]], stW G a c F, [cO h0 0 [.ref h1, vI ps]], [cQ h1 G.2.1.2.2.2.1 5 Q], stW G (S 0) (cs 0) (Fs 0), stW G (S 1) (cs 1) (Fs 1), stW G (S 2) (cs 2) (Fs 2), stW G (S 3) (cs 3) (Fs 3), stW G (S 4) (cs 4) (Fs 4), [cA g0 G.2.1.1 18 (uZ (uZ (uZ f (3 * b + 12) (f 0)) (3 * b + 13) (f 0)) (3 * b + 14) 0)], [cLg r0 G.2.1.2.2.2.2 64 lr], [cLg m0 G.2.1.2.2.2.2 2 lm]] : List va_W).flatten C dL_acts_625 75 rfl (3 * b + 14) (by omega) (by omega) (by omega) (by omega) rfl ?_
                    refine s_aload_n 3 C dL_acts_626 rfl 8 rfl ?_
                    refine s_iload C dL_acts_627 2 rfl ?_
                    refine s_lconst (v := 0) C dL_acts_629 rfl ?_
                    refine s_last ([[cO x0 6 [.ref (a 0), .ref h0, .ref o0, .ref u0, .ref e8, .ref e9]], stW G a c F, [cO h0 0 [.ref h1, vI ps]], [cQ h1 G.2.1.2.2.2.1 5 Q], stW G (S 0) (cs 0) (Fs 0), stW G (S 1) (cs 1) (Fs 1), stW G (S 2) (cs 2) (Fs 2), stW G (S 3) (cs 3) (Fs 3), stW G (S 4) (cs 4) (Fs 4), [cA g0 G.2.1.1 18 (uZ (uZ (uZ f (3 * b + 12) (f 0)) (3 * b + 13) (f 0)) (3 * b + 14) 0)], [cLg r0 G.2.1.2.2.2.2 64 lr], [cLg m0 G.2.1.2.2.2.2 2 (uLg lm b 0)]] : List va_W).flatten C dL_acts_630 77 rfl b rfl (by omega) (by omega) (by omega) rfl ?_
                    refine s_aload_n 0 C dL_acts_631 rfl 5 rfl ?_
                    refine s_iload C dL_acts_632 2 rfl ?_
                    refine s_callVQ (As := [vI b]) (rest := []) (segs := [[cO x0 6 [.ref (a 0), .ref h0, .ref o0, .ref u0, .ref e8, .ref e9]], stW G a c F, [cO h0 0 [.ref h1, vI ps]], [cQ h1 G.2.1.2.2.2.1 5 Q], stW G (S 0) (cs 0) (Fs 0), stW G (S 1) (cs 1) (Fs 1), stW G (S 2) (cs 2) (Fs 2), stW G (S 3) (cs 3) (Fs 3), stW G (S 4) (cs 4) (Fs 4), [cA g0 G.2.1.1 18 (uZ (uZ (uZ f (3 * b + 12) (f 0)) (3 * b + 13) (f 0)) (3 * b + 14) 0)], [cLg r0 G.2.1.2.2.2.2 64 lr], [cLg m0 G.2.1.2.2.2.2 2 (uLg lm b 0)]]) C dL_acts_634 (c_X6_rebuild l G x0 h0 h1 (.ref o0) (.ref u0) (.ref e8) (.ref e9) ps Q S cs Fs p a c F B f P b (by first | assumption | omega) hI hBB hH (by first | assumption | omega)) gL_acts_X6_rebuild rfl 1 (by decide +kernel) (by decide) 6 rfl rfl 0 _ rfl rfl [0, 2, 3, 4, 5, 6, 7, 8, 1] [9, 10, 11] 12 (rfl : (12 : Nat) = 12) (by decide +kernel) rfl rfl (Nat.le_of_ble_eq_true rfl) ⟨Nat.zero_le _, Nat.zero_le _⟩ ?_
                    intro v0 w0 hq
                    obtain ⟨z_634, f2_634, c2_634, F2_634, ps2_634, P2_634, Q2_634, cs2_634, Fs2_634, p2_634, rfl, rfl, hq0_634, hq1_634, hq2_634, hq3_634, hq4_634⟩ := hq
                    refine ⟨(fst_f (fst_c rfl (fst_c (fst_k rfl) (fst_c (fst_k rfl) (fst_c stW_fst (fst_c stW_fst (fst_c stW_fst (fst_c stW_fst (fst_c stW_fst (fst_c stW_fst rfl)))))))))), [[cO x0 6 [.ref (a 0), .ref h0, .ref o0, .ref u0, .ref e8, .ref e9]], stW G a c2_634 F2_634, [cO h0 0 [.ref h1, vI ps2_634]], [cQ h1 G.2.1.2.2.2.1 5 Q2_634], stW G (S 0) (cs2_634 0) (Fs2_634 0), stW G (S 1) (cs2_634 1) (Fs2_634 1), stW G (S 2) (cs2_634 2) (Fs2_634 2), stW G (S 3) (cs2_634 3) (Fs2_634 3), stW G (S 4) (cs2_634 4) (Fs2_634 4), [cA g0 G.2.1.1 18 (uZ (uZ (uZ f (3 * b + 12) (f 0)) (3 * b + 13) (f 0)) (3 * b + 14) 0)], [cLg r0 G.2.1.2.2.2.2 64 lr], [cLg m0 G.2.1.2.2.2.2 2 (uLg lm b 0)]], (rfl : (12 : Nat) = 12), rfl, Eq.trans (b := ([[cA g0 G.2.1.1 18 (uZ (uZ (uZ f (3 * b + 12) (f 0)) (3 * b + 13) (f 0)) (3 * b + 14) 0)], [cLg r0 G.2.1.2.2.2.2 64 lr], [cLg m0 G.2.1.2.2.2.2 2 (uLg lm b 0)]] : List va_W)) rfl rfl, ?_⟩
                    show fSt l G X 0 0 637 [(9, vI 0), (8, vI (12 + (3 * b))), (7, vI b), (6, vI way), (5, vI y), (0, .ref x0), (1, .ref g0), (2, .ref r0), (3, .ref m0), (4, vI zz)] [vI z_634] ([[cO x0 6 [.ref (a 0), .ref h0, .ref o0, .ref u0, .ref e8, .ref e9]], stW G a c2_634 F2_634, [cO h0 0 [.ref h1, vI ps2_634]], [cQ h1 G.2.1.2.2.2.1 5 Q2_634], stW G (S 0) (cs2_634 0) (Fs2_634 0), stW G (S 1) (cs2_634 1) (Fs2_634 1), stW G (S 2) (cs2_634 2) (Fs2_634 2), stW G (S 3) (cs2_634 3) (Fs2_634 3), stW G (S 4) (cs2_634 4) (Fs2_634 4), [cA g0 G.2.1.1 18 (uZ (uZ (uZ f (3 * b + 12) (f 0)) (3 * b + 13) (f 0)) (3 * b + 14) 0)], [cLg r0 G.2.1.2.2.2.2 64 lr], [cLg m0 G.2.1.2.2.2.2 2 (uLg lm b 0)]] : List va_W).flatten
                    obtain ⟨hE9, hN9⟩ := X_rebuild hP hL hq_b
                    obtain ⟨hz, hf⟩ := Prod.mk.inj (hq1_634.trans hE9)
                    have hz := hz.symm
                    have hf := hf.symm
                    subst hz
                    subst hf
                    refine s_agr ([[cO x0 6 [.ref (a 0), .ref h0, .ref o0, .ref u0, .ref e8, .ref e9]], stW G a c2_634 F2_634, [cO h0 0 [.ref h1, vI ps2_634]], [cQ h1 G.2.1.2.2.2.1 5 Q2_634], stW G (S 0) (cs2_634 0) (Fs2_634 0), stW G (S 1) (cs2_634 1) (Fs2_634 1), stW G (S 2) (cs2_634 2) (Fs2_634 2), stW G (S 3) (cs2_634 3) (Fs2_634 3), stW G (S 4) (cs2_634 4) (Fs2_634 4), [cA g0 G.2.1.1 18 (sp_lay f b (f 0) 0)], [cLg r0 G.2.1.2.2.2.2 64 lr], [cLg m0 G.2.1.2.2.2.2 2 (uLg lm b 0)]] : List va_W).flatten 75 rfl (sp_lay f b (f 0) 0) (fun j h0 h1 => ?agr) rfl ?_
                    case agr =>
                      have hj : j < 18 := (by omega)
                      rw [sp_lay, fG0_out (by omega)]
                    refine s_aload_n 1 C dL_acts_637 rfl 6 rfl ?_
                    refine s_iconst C dL_acts_638 ?_
                    refine s_iald C dL_acts_639 75 rfl 0 rfl (by omega) (by omega) (by omega) ?_
                    refine s_top (f 0) (show sp_lay f b (f 0) 0 0 = f 0 by rw [sp_lay, fG0_out (by omega), uZ_n (by omega), uZ_n (by omega), uZ_n (by omega)]) ?_
                    refine s_icmp_ne 647 C dL_acts_640 (by decide) (hI.rf _) (hI.rf _) (fun h => absurd (by omega) h) (fun _ => ?_)
                    refine s_iconst C dL_acts_643 ?_
                    refine s_goto 648 C dL_acts_644 (by decide) ?_
                    exact s_zret C E dL_acts_648 rfl ⟨c2_634, F2_634, ps2_634, Q2_634, cs2_634, Fs2_634, p2_634, (sp_lay f b (f 0) 0), P2_634, lr, (uLg lm b 0), rfl, rfl, hq0_634, hN9, (hq2_634.mono (by omega))⟩
                  · refine s_iconst C dL_acts_601 ?_
                    exact s_zret C E dL_acts_602 rfl ⟨c, F, ps, Q, cs, Fs, p, f, P, lr, lm, rfl, rfl, hR, (NX.rf hP hL), (hH.mono (by omega))⟩
              · refine s_iload C dL_acts_533 0 rfl ?_
                refine s_if_eq 557 C dL_acts_535 (by decide) (by decide) (fun h => ?_) (fun h => absurd h (by decide))
                refine s_iload C dL_acts_557 4 rfl ?_
                refine s_iconst C dL_acts_559 ?_
                refine s_irem C dL_acts_560 (by omega) (by omega) ?_
                refine s_if_gt 576 C dL_acts_561 (by decide) (by omega) (fun h_561 => ?_) (fun h_561 => ?_)
                · refine s_iconst C dL_acts_576 ?_
                  refine s_goto 581 C dL_acts_577 (by decide) ?_
                  exact s_zret C E dL_acts_581 rfl ⟨c, F, ps, Q, cs, Fs, p, f, P, lr, lm, rfl, rfl, hR, (NX.rf hP hL), (hH.mono (by omega))⟩
                · refine s_aload_n 0 C dL_acts_564 rfl 5 rfl ?_
                  refine s_aload_n 1 C dL_acts_565 rfl 6 rfl ?_
                  refine s_aload_n 2 C dL_acts_566 rfl 7 rfl ?_
                  refine s_aload_n 3 C dL_acts_567 rfl 8 rfl ?_
                  refine s_iload C dL_acts_568 2 rfl ?_
                  refine s_callSQ (As := [.ref x0, .ref g0, .ref r0, .ref m0, vI b]) (rest := []) (segs := [[cO x0 6 [.ref (a 0), .ref h0, .ref o0, .ref u0, .ref e8, .ref e9]], stW G a c F, [cO h0 0 [.ref h1, vI ps]], [cQ h1 G.2.1.2.2.2.1 5 Q], stW G (S 0) (cs 0) (Fs 0), stW G (S 1) (cs 1) (Fs 1), stW G (S 2) (cs 2) (Fs 2), stW G (S 3) (cs 3) (Fs 3), stW G (S 4) (cs 4) (Fs 4), [cA g0 G.2.1.1 18 f], [cLg r0 G.2.1.2.2.2.2 64 lr], [cLg m0 G.2.1.2.2.2.2 2 lm]]) C dL_acts_570 (w_L_promotes l G x0 h0 h1 o0 u0 e8 e9 g0 r0 m0 a S c F ps Q cs Fs p B f P lr lm b (by first | assumption | omega) (by first | assumption | omega) hH hL (by first | assumption | omega) (by omega)) gL_acts_L_promotes rfl 5 (by decide +kernel) (by decide) [0, 1, 2, 3, 4, 5, 6, 7, 8, 9, 10, 11] [] 12 (rfl : (12 : Nat) = 12) (by decide +kernel) rfl rfl (Nat.le_of_ble_eq_true rfl) ⟨Nat.zero_le _, Nat.zero_le _⟩ ?_
                  intro v0 w0 hq
                  obtain ⟨c2_570, F2_570, ps2_570, Q2_570, cs2_570, Fs2_570, p2_570, f2_570, P2_570, lr2_570, lm2_570, rfl, rfl, hq0_570, hq1_570, hq2_570⟩ := hq
                  refine ⟨(fst_f (fst_c rfl (fst_c stW_fst (fst_c (fst_k rfl) (fst_c (fst_k rfl) (fst_c stW_fst (fst_c stW_fst (fst_c stW_fst (fst_c stW_fst (fst_c stW_fst (fst_c (fst_k rfl) (fst_c (fst_k rfl) (fst_c (fst_k rfl) rfl))))))))))))), [[cO x0 6 [.ref (a 0), .ref h0, .ref o0, .ref u0, .ref e8, .ref e9]], stW G a c2_570 F2_570, [cO h0 0 [.ref h1, vI ps2_570]], [cQ h1 G.2.1.2.2.2.1 5 Q2_570], stW G (S 0) (cs2_570 0) (Fs2_570 0), stW G (S 1) (cs2_570 1) (Fs2_570 1), stW G (S 2) (cs2_570 2) (Fs2_570 2), stW G (S 3) (cs2_570 3) (Fs2_570 3), stW G (S 4) (cs2_570 4) (Fs2_570 4), [cA g0 G.2.1.1 18 f2_570], [cLg r0 G.2.1.2.2.2.2 64 lr2_570], [cLg m0 G.2.1.2.2.2.2 2 lm2_570]], (rfl : (12 : Nat) = 12), rfl, Eq.trans (b := ([] : List va_W)) rfl rfl, ?_⟩
                  show fSt l G X 0 0 573 [(9, vI 0), (8, vI (12 + (3 * b))), (7, vI b), (6, vI way), (5, vI y), (0, .ref x0), (1, .ref g0), (2, .ref r0), (3, .ref m0), (4, vI zz)] [vI 1] ([[cO x0 6 [.ref (a 0), .ref h0, .ref o0, .ref u0, .ref e8, .ref e9]], stW G a c2_570 F2_570, [cO h0 0 [.ref h1, vI ps2_570]], [cQ h1 G.2.1.2.2.2.1 5 Q2_570], stW G (S 0) (cs2_570 0) (Fs2_570 0), stW G (S 1) (cs2_570 1) (Fs2_570 1), stW G (S 2) (cs2_570 2) (Fs2_570 2), stW G (S 3) (cs2_570 3) (Fs2_570 3), stW G (S 4) (cs2_570 4) (Fs2_570 4), [cA g0 G.2.1.1 18 f2_570], [cLg r0 G.2.1.2.2.2.2 64 lr2_570], [cLg m0 G.2.1.2.2.2.2 2 lm2_570]] : List va_W).flatten
                  refine s_if_eq 580 C dL_acts_573 (by decide) (by decide) (fun h => absurd h (by decide)) (fun h => ?_)
                  refine s_iconst C dL_acts_576 ?_
                  refine s_goto 581 C dL_acts_577 (by decide) ?_
                  exact s_zret C E dL_acts_581 rfl ⟨c2_570, F2_570, ps2_570, Q2_570, cs2_570, Fs2_570, p2_570, f2_570, P2_570, lr2_570, lm2_570, rfl, rfl, hq0_570, hq1_570, hq2_570⟩
            · refine s_iconst C dL_acts_392 ?_
              refine s_iload C dL_acts_393 4 rfl ?_
              refine s_iload C dL_acts_395 4 rfl ?_
              refine s_iconst C dL_acts_397 ?_
              refine s_irem C dL_acts_398 (by omega) (by omega) ?_
              refine s_if_ne 407 C dL_acts_399 (by decide) (by omega) (fun h_399 => ?_) (fun h_399 => ?_)
              · refine s_iconst C dL_acts_407 ?_
                refine s_irem C dL_acts_408 (by omega) (by omega) ?_
                refine s_iadd C dL_acts_409 ?_
                obtain ⟨tk, hv_tk, hq_tk⟩ : ∃ tk : Int, tk = 1 + (y % 4) ∧ (1 ≤ tk ∧ tk ≤ 99) := ⟨_, rfl, by omega⟩
                refine s_top tk hv_tk.symm ?_
                refine s_istore [(10, vI tk), (9, vI 0), (8, vI (12 + (3 * b))), (7, vI b), (6, vI way), (5, vI y), (0, .ref x0), (1, .ref g0), (2, .ref r0), (3, .ref m0), (4, vI zz)] C dL_acts_410 (by decide) rfl ?_
                refine s_iconst C dL_acts_412 ?_
                refine s_istore [(11, vI 0), (10, vI tk), (9, vI 0), (8, vI (12 + (3 * b))), (7, vI b), (6, vI way), (5, vI y), (0, .ref x0), (1, .ref g0), (2, .ref r0), (3, .ref m0), (4, vI zz)] C dL_acts_413 (by decide) rfl ?_
                refine s_iconst C dL_acts_415 ?_
                refine s_istore [(12, vI 0), (11, vI 0), (10, vI tk), (9, vI 0), (8, vI (12 + (3 * b))), (7, vI b), (6, vI way), (5, vI y), (0, .ref x0), (1, .ref g0), (2, .ref r0), (3, .ref m0), (4, vI zz)] C dL_acts_416 (by decide) rfl ?_
                have loop_418 : ∀ (fuel : Nat) (k sm : Int) (U : Int → Int), (0 ≤ k ∧ k ≤ tk) → (U = tkN f k.toNat) → (sm = U 13 + U 16 - f 13 - f 16) → (tk - k < (fuel : Int)) → fSt l G X 0 0 418 [(0, .ref x0), (1, .ref g0), (2, .ref r0), (3, .ref m0), (4, vI zz), (5, vI y), (6, vI way), (7, vI b), (8, vI (12 + (3 * b))), (9, vI 0), (10, vI tk), (11, vI sm), (12, vI k)] [] ([[cO x0 6 [.ref (a 0), .ref h0, .ref o0, .ref u0, .ref e8, .ref e9]], stW G a c F, [cO h0 0 [.ref h1, vI ps]], [cQ h1 G.2.1.2.2.2.1 5 Q], stW G (S 0) (cs 0) (Fs 0), stW G (S 1) (cs 1) (Fs 1), stW G (S 2) (cs 2) (Fs 2), stW G (S 3) (cs 3) (Fs 3), stW G (S 4) (cs 4) (Fs 4), [cA g0 G.2.1.1 18 U], [cLg r0 G.2.1.2.2.2.2 64 lr], [cLg m0 G.2.1.2.2.2.2 2 lm]] : List va_W).flatten := by
                  intro fuel
                  induction fuel with
                  | zero =>
                    intro k sm U hk hU hcs hm
                    exfalso
                    omega
                  | succ fuel ih_418 =>
                    intro k sm U hk hU hcs hm
                    refine s_iload C dL_acts_418 12 rfl ?_
                    refine s_iload C dL_acts_420 10 rfl ?_
                    refine s_icmp_ge 500 C dL_acts_422 (by decide) (by omega) (by omega) (fun h_422 => ?_) (fun h_422 => ?_)
                    · have hkt : k = tk := by omega
                      have hsum := tkN_up hT tk.toNat (by omega)
                      have hTk := hT.n tk.toNat (by omega)
                      have hT13 := hT.2.2.2.2.1
                      have hT16 := hT.2.2.2.2.2.1
                      have hK13 := hTk.2.2.2.2.1
                      have hK16 := hTk.2.2.2.2.2.1
                      have hsm : sm = tkN f tk.toNat 13 + tkN f tk.toNat 16 - f 13 - f 16 := by rw [hcs, hU, hkt]
                      refine s_aload_n 1 C dL_acts_500 rfl 1 rfl ?_
                      refine s_bipush (z := 6) C dL_acts_501 rfl ?_
                      refine s_dup2 C dL_acts_503 rfl rfl ?_
                      refine s_iald C dL_acts_504 75 rfl 6 rfl (by omega) (by omega) (by omega) ?_
                      refine s_iload C dL_acts_505 11 rfl ?_
                      refine s_iadd C dL_acts_507 ?_
                      refine s_iast ([[cO x0 6 [.ref (a 0), .ref h0, .ref o0, .ref u0, .ref e8, .ref e9]], stW G a c F, [cO h0 0 [.ref h1, vI ps]], [cQ h1 G.2.1.2.2.2.1 5 Q], stW G (S 0) (cs 0) (Fs 0), stW G (S 1) (cs 1) (Fs 1), stW G (S 2) (cs 2) (Fs 2), stW G (S 3) (cs 3) (Fs 3), stW G (S 4) (cs 4) (Fs 4), [cA g0 G.2.1.1 18 (uZ U 6 ((U 6) + sm))], [cLg r0 G.2.1.2.2.2.2 64 lr], [cLg m0 G.2.1.2.2.2.2 2 lm]] : List va_W).flatten C dL_acts_508 75 rfl 6 rfl (by omega) (by omega) (by omega) rfl ?_
                      refine s_aload_n 0 C dL_acts_509 rfl 0 rfl ?_
                      refine s_iload C dL_acts_510 10 rfl ?_
                      refine s_callVQ (As := [vI tk]) (rest := []) (segs := [[cO x0 6 [.ref (a 0), .ref h0, .ref o0, .ref u0, .ref e8, .ref e9]], stW G a c F, [cO h0 0 [.ref h1, vI ps]], [cQ h1 G.2.1.2.2.2.1 5 Q], stW G (S 0) (cs 0) (Fs 0), stW G (S 1) (cs 1) (Fs 1), stW G (S 2) (cs 2) (Fs 2), stW G (S 3) (cs 3) (Fs 3), stW G (S 4) (cs 4) (Fs 4), [cA g0 G.2.1.1 18 (uZ U 6 ((U 6) + sm))], [cLg r0 G.2.1.2.2.2.2 64 lr], [cLg m0 G.2.1.2.2.2.2 2 lm]]) C dL_acts_512 (c_X6_tick l G x0 h0 h1 (.ref o0) (.ref u0) (.ref e8) (.ref e9) ps Q S cs Fs p a c F B f P tk (by first | assumption | omega) hI hBB hH (by first | assumption | omega)) gL_acts_X6_tick rfl 1 (by decide +kernel) (by decide) 6 rfl rfl 0 _ rfl rfl [0, 2, 3, 4, 5, 6, 7, 8, 1] [9, 10, 11] 12 (rfl : (12 : Nat) = 12) (by decide +kernel) rfl rfl (Nat.le_of_ble_eq_true rfl) ⟨Nat.zero_le _, Nat.zero_le _⟩ ?_
                      intro v0 w0 hq
                      obtain ⟨z_512, f2_512, c2_512, F2_512, ps2_512, P2_512, Q2_512, cs2_512, Fs2_512, p2_512, rfl, rfl, hq0_512, hq1_512, hq2_512, hq3_512, hq4_512⟩ := hq
                      refine ⟨(fst_f (fst_c rfl (fst_c (fst_k rfl) (fst_c (fst_k rfl) (fst_c stW_fst (fst_c stW_fst (fst_c stW_fst (fst_c stW_fst (fst_c stW_fst (fst_c stW_fst rfl)))))))))), [[cO x0 6 [.ref (a 0), .ref h0, .ref o0, .ref u0, .ref e8, .ref e9]], stW G a c2_512 F2_512, [cO h0 0 [.ref h1, vI ps2_512]], [cQ h1 G.2.1.2.2.2.1 5 Q2_512], stW G (S 0) (cs2_512 0) (Fs2_512 0), stW G (S 1) (cs2_512 1) (Fs2_512 1), stW G (S 2) (cs2_512 2) (Fs2_512 2), stW G (S 3) (cs2_512 3) (Fs2_512 3), stW G (S 4) (cs2_512 4) (Fs2_512 4), [cA g0 G.2.1.1 18 (uZ U 6 ((U 6) + sm))], [cLg r0 G.2.1.2.2.2.2 64 lr], [cLg m0 G.2.1.2.2.2.2 2 lm]], (rfl : (12 : Nat) = 12), rfl, Eq.trans (b := ([[cA g0 G.2.1.1 18 (uZ U 6 ((U 6) + sm))], [cLg r0 G.2.1.2.2.2.2 64 lr], [cLg m0 G.2.1.2.2.2.2 2 lm]] : List va_W)) rfl rfl, ?_⟩
                      show fSt l G X 0 0 515 [(0, .ref x0), (1, .ref g0), (2, .ref r0), (3, .ref m0), (4, vI zz), (5, vI y), (6, vI way), (7, vI b), (8, vI (12 + (3 * b))), (9, vI 0), (10, vI tk), (11, vI sm), (12, vI k)] [vI z_512] ([[cO x0 6 [.ref (a 0), .ref h0, .ref o0, .ref u0, .ref e8, .ref e9]], stW G a c2_512 F2_512, [cO h0 0 [.ref h1, vI ps2_512]], [cQ h1 G.2.1.2.2.2.1 5 Q2_512], stW G (S 0) (cs2_512 0) (Fs2_512 0), stW G (S 1) (cs2_512 1) (Fs2_512 1), stW G (S 2) (cs2_512 2) (Fs2_512 2), stW G (S 3) (cs2_512 3) (Fs2_512 3), stW G (S 4) (cs2_512 4) (Fs2_512 4), [cA g0 G.2.1.1 18 (uZ U 6 ((U 6) + sm))], [cLg r0 G.2.1.2.2.2.2 64 lr], [cLg m0 G.2.1.2.2.2.2 2 lm]] : List va_W).flatten
                      obtain ⟨hE9, hN9⟩ := X_tick hP hL hq_tk
                      obtain ⟨hz, hf⟩ := Prod.mk.inj (hq1_512.trans hE9)
                      have hz := hz.symm
                      have hf := hf.symm
                      subst hz
                      subst hf
                      refine s_agr ([[cO x0 6 [.ref (a 0), .ref h0, .ref o0, .ref u0, .ref e8, .ref e9]], stW G a c2_512 F2_512, [cO h0 0 [.ref h1, vI ps2_512]], [cQ h1 G.2.1.2.2.2.1 5 Q2_512], stW G (S 0) (cs2_512 0) (Fs2_512 0), stW G (S 1) (cs2_512 1) (Fs2_512 1), stW G (S 2) (cs2_512 2) (Fs2_512 2), stW G (S 3) (cs2_512 3) (Fs2_512 3), stW G (S 4) (cs2_512 4) (Fs2_512 4), [cA g0 G.2.1.1 18 (uZ (tkN f tk.toNat) 6 (tkN f tk.toNat 6 + (tkN f tk.toNat 13 + tkN f tk.toNat 16 - f 13 - f 16)))], [cLg r0 G.2.1.2.2.2.2 64 lr], [cLg m0 G.2.1.2.2.2.2 2 lm]] : List va_W).flatten 75 rfl (uZ (tkN f tk.toNat) 6 (tkN f tk.toNat 6 + (tkN f tk.toNat 13 + tkN f tk.toNat 16 - f 13 - f 16))) (fun j h0 h1 => ?agr) rfl ?_
                      case agr =>
                        rw [← hkt, ← hU, hcs]
                      refine s_iload C dL_acts_515 11 rfl ?_
                      refine s_icmp_ne 524 C dL_acts_517 (by decide) (by omega) (by omega) (fun h_517 => ?_) (fun h_517 => ?_)
                      · refine s_iconst C dL_acts_524 ?_
                        exact s_zret C E dL_acts_525 rfl ⟨c2_512, F2_512, ps2_512, Q2_512, cs2_512, Fs2_512, p2_512, (uZ (tkN f tk.toNat) 6 (tkN f tk.toNat 6 + (tkN f tk.toNat 13 + tkN f tk.toNat 16 - f 13 - f 16))), P2_512, lr, lm, (congrArg (fun z => some (vI z)) (by omega)), rfl, hq0_512, hN9, (hq2_512.mono (by omega))⟩
                      · refine s_iconst C dL_acts_520 ?_
                        refine s_goto 525 C dL_acts_521 (by decide) ?_
                        exact s_zret C E dL_acts_525 rfl ⟨c2_512, F2_512, ps2_512, Q2_512, cs2_512, Fs2_512, p2_512, (uZ (tkN f tk.toNat) 6 (tkN f tk.toNat 6 + (tkN f tk.toNat 13 + tkN f tk.toNat 16 - f 13 - f 16))), P2_512, lr, lm, rfl, rfl, hq0_512, hN9, (hq2_512.mono (by omega))⟩
                    · have hTU : TI U (B + k) := by rw [hU]; have h9 := hT.n k.toNat (by omega); rwa [show ((k.toNat : Nat) : Int) = k by omega] at h9
                      have hU7 := hTU.2.2.1
                      have hU1 := hTU.2.1
                      have hTa := hTU.a (by omega)
                      have hTb := hTU.b (by omega)
                      have hSa := hTa.S (b := 0) (by omega)
                      have hSc := hTb.S (b := 1) (by omega)
                      have hUo : ∀ j : Int, j ≠ 1 → j ≠ 13 → j ≠ 16 → U j = f j := fun j a1 a2 a3 => by rw [hU]; exact tkN_o a1 a2 a3 _
                      have hS0 := hI.S 0 (by omega) (by omega)
                      have hS1 := hI.S 1 (by omega) (by omega)
                      have e0a : oS (tkA U) 0 0 = oS f 0 0 := (tkA_n (by omega)).trans (hUo _ (by omega) (by omega) (by omega))
                      have e1b : oS (tkB U) 1 0 = oS f 1 0 := (tkB_n (by omega) (by omega)).trans (hUo _ (by omega) (by omega) (by omega))
                      have hga : ∀ b r : Int, 0 ≤ b → b ≤ 1 → 1 ≤ r → oG (tkA U) b r = oG f b r := fun b r b0 b1 r0 => (tkA_n (by omega)).trans (hUo _ (by omega) (by omega) (by omega))
                      have hgb : ∀ b r : Int, 0 ≤ b → b ≤ 1 → 1 ≤ r → oG (tkB U) b r = oG f b r := fun b r b0 b1 r0 => (tkB_n (by omega) (by omega)).trans (hUo _ (by omega) (by omega) (by omega))
                      have hra : ∀ r : Int, 1 ≤ r → oR (tkA U) r 4 = oR f r 4 := fun r r0 => (tkA_n (by omega)).trans (hUo _ (by omega) (by omega) (by omega))
                      have hrb : ∀ r : Int, 1 ≤ r → oR (tkB U) r 4 = oR f r 4 := fun r r0 => (tkB_n (by omega) (by omega)).trans (hUo _ (by omega) (by omega) (by omega))
                      have hreca : ∀ r : Int, 1 ≤ r → r ≤ oS (tkA U) 0 0 → lr r < 9223372036854775808 ∧ (((lr r) / 128000000 : Nat) : Int) = oR (tkA U) r 4 := fun r r0 r1 => ⟨rk_lt hP hL.1 r0 (by omega), (rk_a hP hL.1 r0 (by omega)).trans (hra r r0).symm⟩
                      have hrecb : ∀ r : Int, 1 ≤ r → r ≤ oS (tkB U) 1 0 → lr r < 9223372036854775808 ∧ (((lr r) / 128000000 : Nat) : Int) = oR (tkB U) r 4 := fun r r0 r1 => ⟨rk_lt hP hL.1 r0 (by omega), (rk_a hP hL.1 r0 (by omega)).trans (hrb r r0).symm⟩
                      have hBa : BM (tkA U) 0 (lm 0) := hL.2.1.cong (fun r r0 r1 => by rw [hga 0 r (by omega) (by omega) r0])
                      have hBb : BM (tkB U) 1 (lm 1) := hL.2.2.cong (fun r r0 r1 => by rw [hgb 1 r (by omega) (by omega) r0])
                      have hza : ∀ r : Int, 62 ≤ r → r ≤ 100 → ¬ oG (tkA U) 0 r = 1 := fun r r0 r1 => by rw [hga 0 r (by omega) (by omega) (by omega)]; exact hP.gz (by omega) r r0 r1
                      have hzb : ∀ r : Int, 62 ≤ r → r ≤ 100 → ¬ oG (tkB U) 1 r = 1 := fun r r0 r1 => by rw [hgb 1 r (by omega) (by omega) (by omega)]; exact hP.gz (by omega) r r0 r1
                      refine s_aload_n 1 C dL_acts_425 rfl 1 rfl ?_
                      refine s_iconst C dL_acts_426 ?_
                      refine s_dup2 C dL_acts_427 rfl rfl ?_
                      refine s_iald C dL_acts_428 75 rfl 1 rfl (by omega) (by omega) (by omega) ?_
                      refine s_iconst C dL_acts_429 ?_
                      refine s_iadd C dL_acts_430 ?_
                      refine s_iast ([[cO x0 6 [.ref (a 0), .ref h0, .ref o0, .ref u0, .ref e8, .ref e9]], stW G a c F, [cO h0 0 [.ref h1, vI ps]], [cQ h1 G.2.1.2.2.2.1 5 Q], stW G (S 0) (cs 0) (Fs 0), stW G (S 1) (cs 1) (Fs 1), stW G (S 2) (cs 2) (Fs 2), stW G (S 3) (cs 3) (Fs 3), stW G (S 4) (cs 4) (Fs 4), [cA g0 G.2.1.1 18 (uZ U 1 ((U 1) + 1))], [cLg r0 G.2.1.2.2.2.2 64 lr], [cLg m0 G.2.1.2.2.2.2 2 lm]] : List va_W).flatten C dL_acts_431 75 rfl 1 rfl (by omega) (by omega) (by omega) rfl ?_
                      refine s_iconst C dL_acts_432 ?_
                      refine s_istore [(13, vI 0), (0, .ref x0), (1, .ref g0), (2, .ref r0), (3, .ref m0), (4, vI zz), (5, vI y), (6, vI way), (7, vI b), (8, vI (12 + (3 * b))), (9, vI 0), (10, vI tk), (11, vI sm), (12, vI k)] C dL_acts_433 (by decide) rfl ?_
                      refine s_iload C dL_acts_435 0 rfl ?_
                      refine s_iconst C dL_acts_437 ?_
                      refine s_icmp_ge 494 C dL_acts_438 (by decide) (by decide) (by decide) (fun h => absurd h (by decide)) (fun h => ?_)
                      refine s_aload_n 1 C dL_acts_441 rfl 2 rfl ?_
                      refine s_aload_n 2 C dL_acts_442 rfl 3 rfl ?_
                      refine s_aload_n 3 C dL_acts_443 rfl 4 rfl ?_
                      refine s_iload C dL_acts_444 0 rfl ?_
                      refine s_aload_n 1 C dL_acts_446 rfl 2 rfl ?_
                      refine s_bipush (z := 13) C dL_acts_447 rfl ?_
                      refine s_iconst C dL_acts_449 ?_
                      refine s_iload C dL_acts_450 0 rfl ?_
                      refine s_imul C dL_acts_452 ?_
                      refine s_iadd C dL_acts_453 ?_
                      refine s_iald C dL_acts_454 75 rfl 13 (by omega) (by omega) (by omega) (by omega) ?_
                      refine s_top (U 13) (uZ_n (by omega)) ?_
                      refine s_aload_n 1 C dL_acts_455 rfl 2 rfl ?_
                      refine s_iconst C dL_acts_456 ?_
                      refine s_iald C dL_acts_457 75 rfl 1 rfl (by omega) (by omega) (by omega) ?_
                      refine s_top ((U 1) + 1) uZ_s ?_
                      refine s_aload_n 1 C dL_acts_458 rfl 2 rfl ?_
                      refine s_bipush (z := 7) C dL_acts_459 rfl ?_
                      refine s_iald C dL_acts_461 75 rfl 7 rfl (by omega) (by omega) (by omega) ?_
                      refine s_top (U 7) (uZ_n (by omega)) ?_
                      refine s_callSQ (As := [.ref g0, .ref r0, .ref m0, vI 0, vI (U 13), vI ((U 1) + 1), vI (U 7)]) (rest := []) (segs := [[cO x0 6 [.ref (a 0), .ref h0, .ref o0, .ref u0, .ref e8, .ref e9]], stW G a c F, [cO h0 0 [.ref h1, vI ps]], [cQ h1 G.2.1.2.2.2.1 5 Q], stW G (S 0) (cs 0) (Fs 0), stW G (S 1) (cs 1) (Fs 1), stW G (S 2) (cs 2) (Fs 2), stW G (S 3) (cs 3) (Fs 3), stW G (S 4) (cs 4) (Fs 4), [cA g0 G.2.1.1 18 (uZ U 1 ((U 1) + 1))], [cLg r0 G.2.1.2.2.2.2 64 lr], [cLg m0 G.2.1.2.2.2.2 2 lm]]) C dL_acts_462 (c_L_applies l G g0 r0 m0 (uZ U 1 ((U 1) + 1)) lr lm (B + k + 1) 0 (U 13) ((U 1) + 1) (U 7) hTa (by first | assumption | omega) ⟨hSa.1, hSa.2.1⟩ (show oS (tkA U) 0 0 ≤ 61 by omega) (by omega) hU7 hreca hBa hza) gL_acts_L_applies rfl 7 (by decide +kernel) (by decide) [9, 10, 11] [0, 1, 2, 3, 4, 5, 6, 7, 8] 12 (rfl : (12 : Nat) = 12) (by decide +kernel) rfl rfl (Nat.le_of_ble_eq_true rfl) ⟨Nat.zero_le _, Nat.zero_le _⟩ ?_
                      intro v0 w0 hq
                      obtain ⟨rfl, rfl⟩ := hq
                      refine ⟨rfl, [[cO x0 6 [.ref (a 0), .ref h0, .ref o0, .ref u0, .ref e8, .ref e9]], stW G a c F, [cO h0 0 [.ref h1, vI ps]], [cQ h1 G.2.1.2.2.2.1 5 Q], stW G (S 0) (cs 0) (Fs 0), stW G (S 1) (cs 1) (Fs 1), stW G (S 2) (cs 2) (Fs 2), stW G (S 3) (cs 3) (Fs 3), stW G (S 4) (cs 4) (Fs 4), [cA g0 G.2.1.1 18 (uZ U 1 ((U 1) + 1))], [cLg r0 G.2.1.2.2.2.2 64 lr], [cLg m0 G.2.1.2.2.2.2 2 lm]], (rfl : (12 : Nat) = 12), rfl, Eq.trans (b := ([[cO x0 6 [.ref (a 0), .ref h0, .ref o0, .ref u0, .ref e8, .ref e9]], stW G a c F, [cO h0 0 [.ref h1, vI ps]], [cQ h1 G.2.1.2.2.2.1 5 Q], stW G (S 0) (cs 0) (Fs 0), stW G (S 1) (cs 1) (Fs 1), stW G (S 2) (cs 2) (Fs 2), stW G (S 3) (cs 3) (Fs 3), stW G (S 4) (cs 4) (Fs 4)] : List va_W)) rfl rfl, ?_⟩
                      show fSt l G X 0 0 465 [(13, vI 0), (0, .ref x0), (1, .ref g0), (2, .ref r0), (3, .ref m0), (4, vI zz), (5, vI y), (6, vI way), (7, vI b), (8, vI (12 + (3 * b))), (9, vI 0), (10, vI tk), (11, vI sm), (12, vI k)] [vI (go (uZ U 1 ((U 1) + 1)) 0 (U 13) ((U 1) + 1) (U 7))] ([[cO x0 6 [.ref (a 0), .ref h0, .ref o0, .ref u0, .ref e8, .ref e9]], stW G a c F, [cO h0 0 [.ref h1, vI ps]], [cQ h1 G.2.1.2.2.2.1 5 Q], stW G (S 0) (cs 0) (Fs 0), stW G (S 1) (cs 1) (Fs 1), stW G (S 2) (cs 2) (Fs 2), stW G (S 3) (cs 3) (Fs 3), stW G (S 4) (cs 4) (Fs 4), [cA g0 G.2.1.1 18 (uZ U 1 ((U 1) + 1))], [cLg r0 G.2.1.2.2.2.2 64 lr], [cLg m0 G.2.1.2.2.2.2 2 lm]] : List va_W).flatten
                      refine s_istore [(14, vI (go (uZ U 1 ((U 1) + 1)) 0 (U 13) ((U 1) + 1) (U 7))), (13, vI 0), (0, .ref x0), (1, .ref g0), (2, .ref r0), (3, .ref m0), (4, vI zz), (5, vI y), (6, vI way), (7, vI b), (8, vI (12 + (3 * b))), (9, vI 0), (10, vI tk), (11, vI sm), (12, vI k)] C dL_acts_465 (by decide) rfl ?_
                      refine s_aload_n 1 C dL_acts_467 rfl 3 rfl ?_
                      refine s_bipush (z := 13) C dL_acts_468 rfl ?_
                      refine s_iconst C dL_acts_470 ?_
                      refine s_iload C dL_acts_471 1 rfl ?_
                      refine s_imul C dL_acts_473 ?_
                      refine s_iadd C dL_acts_474 ?_
                      refine s_dup2 C dL_acts_475 rfl rfl ?_
                      refine s_iald C dL_acts_476 75 rfl 13 (by omega) (by omega) (by omega) (by omega) ?_
                      refine s_top (U 13) (uZ_n (by omega)) ?_
                      refine s_iload C dL_acts_477 0 rfl ?_
                      refine s_iadd C dL_acts_479 ?_
                      refine s_iast ([[cO x0 6 [.ref (a 0), .ref h0, .ref o0, .ref u0, .ref e8, .ref e9]], stW G a c F, [cO h0 0 [.ref h1, vI ps]], [cQ h1 G.2.1.2.2.2.1 5 Q], stW G (S 0) (cs 0) (Fs 0), stW G (S 1) (cs 1) (Fs 1), stW G (S 2) (cs 2) (Fs 2), stW G (S 3) (cs 3) (Fs 3), stW G (S 4) (cs 4) (Fs 4), [cA g0 G.2.1.1 18 (uZ (uZ U 1 ((U 1) + 1)) 13 ((U 13) + (go (uZ U 1 ((U 1) + 1)) 0 (U 13) ((U 1) + 1) (U 7))))], [cLg r0 G.2.1.2.2.2.2 64 lr], [cLg m0 G.2.1.2.2.2.2 2 lm]] : List va_W).flatten C dL_acts_480 75 rfl 13 (by omega) (by omega) (by omega) (by omega) rfl ?_
                      refine s_iload C dL_acts_481 13 rfl ?_
                      refine s_iload C dL_acts_483 0 rfl ?_
                      refine s_iadd C dL_acts_485 ?_
                      refine s_istore [(11, vI (sm + (go (uZ U 1 ((U 1) + 1)) 0 (U 13) ((U 1) + 1) (U 7)))), (14, vI (go (uZ U 1 ((U 1) + 1)) 0 (U 13) ((U 1) + 1) (U 7))), (13, vI 0), (0, .ref x0), (1, .ref g0), (2, .ref r0), (3, .ref m0), (4, vI zz), (5, vI y), (6, vI way), (7, vI b), (8, vI (12 + (3 * b))), (9, vI 0), (10, vI tk), (12, vI k)] C dL_acts_486 (by decide) rfl ?_
                      refine s_iinc [(13, vI (0 + 1)), (11, vI (sm + (go (uZ U 1 ((U 1) + 1)) 0 (U 13) ((U 1) + 1) (U 7)))), (14, vI (go (uZ U 1 ((U 1) + 1)) 0 (U 13) ((U 1) + 1) (U 7))), (0, .ref x0), (1, .ref g0), (2, .ref r0), (3, .ref m0), (4, vI zz), (5, vI y), (6, vI way), (7, vI b), (8, vI (12 + (3 * b))), (9, vI 0), (10, vI tk), (12, vI k)] C dL_acts_488 2 rfl (by decide) rfl ?_
                      refine s_goto 435 C dL_acts_491 (by decide) ?_
                      refine s_iload C dL_acts_435 0 rfl ?_
                      refine s_iconst C dL_acts_437 ?_
                      refine s_icmp_ge 494 C dL_acts_438 (by decide) (by decide) (by decide) (fun h => absurd h (by decide)) (fun h => ?_)
                      refine s_aload_n 1 C dL_acts_441 rfl 4 rfl ?_
                      refine s_aload_n 2 C dL_acts_442 rfl 5 rfl ?_
                      refine s_aload_n 3 C dL_acts_443 rfl 6 rfl ?_
                      refine s_iload C dL_acts_444 0 rfl ?_
                      refine s_aload_n 1 C dL_acts_446 rfl 4 rfl ?_
                      refine s_bipush (z := 13) C dL_acts_447 rfl ?_
                      refine s_iconst C dL_acts_449 ?_
                      refine s_iload C dL_acts_450 0 rfl ?_
                      refine s_imul C dL_acts_452 ?_
                      refine s_iadd C dL_acts_453 ?_
                      refine s_iald C dL_acts_454 75 rfl 16 (by omega) (by omega) (by omega) (by omega) ?_
                      refine s_top ((uZ U 1 ((U 1) + 1)) 16) (uZ_n (by omega)) ?_
                      refine s_top (U 16) (uZ_n (by omega)) ?_
                      refine s_aload_n 1 C dL_acts_455 rfl 4 rfl ?_
                      refine s_iconst C dL_acts_456 ?_
                      refine s_iald C dL_acts_457 75 rfl 1 rfl (by omega) (by omega) (by omega) ?_
                      refine s_top ((uZ U 1 ((U 1) + 1)) 1) (uZ_n (by omega)) ?_
                      refine s_top ((U 1) + 1) uZ_s ?_
                      refine s_aload_n 1 C dL_acts_458 rfl 4 rfl ?_
                      refine s_bipush (z := 7) C dL_acts_459 rfl ?_
                      refine s_iald C dL_acts_461 75 rfl 7 rfl (by omega) (by omega) (by omega) ?_
                      refine s_top ((uZ U 1 ((U 1) + 1)) 7) (uZ_n (by omega)) ?_
                      refine s_top (U 7) (uZ_n (by omega)) ?_
                      refine s_callSQ (As := [.ref g0, .ref r0, .ref m0, vI 1, vI (U 16), vI ((U 1) + 1), vI (U 7)]) (rest := []) (segs := [[cO x0 6 [.ref (a 0), .ref h0, .ref o0, .ref u0, .ref e8, .ref e9]], stW G a c F, [cO h0 0 [.ref h1, vI ps]], [cQ h1 G.2.1.2.2.2.1 5 Q], stW G (S 0) (cs 0) (Fs 0), stW G (S 1) (cs 1) (Fs 1), stW G (S 2) (cs 2) (Fs 2), stW G (S 3) (cs 3) (Fs 3), stW G (S 4) (cs 4) (Fs 4), [cA g0 G.2.1.1 18 (uZ (uZ U 1 ((U 1) + 1)) 13 ((U 13) + (go (uZ U 1 ((U 1) + 1)) 0 (U 13) ((U 1) + 1) (U 7))))], [cLg r0 G.2.1.2.2.2.2 64 lr], [cLg m0 G.2.1.2.2.2.2 2 lm]]) C dL_acts_462 (c_L_applies l G g0 r0 m0 (uZ (uZ U 1 ((U 1) + 1)) 13 ((U 13) + (go (uZ U 1 ((U 1) + 1)) 0 (U 13) ((U 1) + 1) (U 7)))) lr lm (B + k + 1) 1 (U 16) ((U 1) + 1) (U 7) hTb (by first | assumption | omega) ⟨hSc.1, hSc.2.1⟩ (show oS (tkB U) 1 0 ≤ 61 by omega) (by omega) hU7 hrecb hBb hzb) gL_acts_L_applies rfl 7 (by decide +kernel) (by decide) [9, 10, 11] [0, 1, 2, 3, 4, 5, 6, 7, 8] 12 (rfl : (12 : Nat) = 12) (by decide +kernel) rfl rfl (Nat.le_of_ble_eq_true rfl) ⟨Nat.zero_le _, Nat.zero_le _⟩ ?_
                      intro v0 w0 hq
                      obtain ⟨rfl, rfl⟩ := hq
                      refine ⟨rfl, [[cO x0 6 [.ref (a 0), .ref h0, .ref o0, .ref u0, .ref e8, .ref e9]], stW G a c F, [cO h0 0 [.ref h1, vI ps]], [cQ h1 G.2.1.2.2.2.1 5 Q], stW G (S 0) (cs 0) (Fs 0), stW G (S 1) (cs 1) (Fs 1), stW G (S 2) (cs 2) (Fs 2), stW G (S 3) (cs 3) (Fs 3), stW G (S 4) (cs 4) (Fs 4), [cA g0 G.2.1.1 18 (uZ (uZ U 1 ((U 1) + 1)) 13 ((U 13) + (go (uZ U 1 ((U 1) + 1)) 0 (U 13) ((U 1) + 1) (U 7))))], [cLg r0 G.2.1.2.2.2.2 64 lr], [cLg m0 G.2.1.2.2.2.2 2 lm]], (rfl : (12 : Nat) = 12), rfl, Eq.trans (b := ([[cO x0 6 [.ref (a 0), .ref h0, .ref o0, .ref u0, .ref e8, .ref e9]], stW G a c F, [cO h0 0 [.ref h1, vI ps]], [cQ h1 G.2.1.2.2.2.1 5 Q], stW G (S 0) (cs 0) (Fs 0), stW G (S 1) (cs 1) (Fs 1), stW G (S 2) (cs 2) (Fs 2), stW G (S 3) (cs 3) (Fs 3), stW G (S 4) (cs 4) (Fs 4)] : List va_W)) rfl rfl, ?_⟩
                      show fSt l G X 0 0 465 [(13, vI 1), (11, vI (sm + (go (uZ U 1 ((U 1) + 1)) 0 (U 13) ((U 1) + 1) (U 7)))), (14, vI (go (uZ U 1 ((U 1) + 1)) 0 (U 13) ((U 1) + 1) (U 7))), (0, .ref x0), (1, .ref g0), (2, .ref r0), (3, .ref m0), (4, vI zz), (5, vI y), (6, vI way), (7, vI b), (8, vI (12 + (3 * b))), (9, vI 0), (10, vI tk), (12, vI k)] [vI (go (uZ (uZ U 1 ((U 1) + 1)) 13 ((U 13) + (go (uZ U 1 ((U 1) + 1)) 0 (U 13) ((U 1) + 1) (U 7)))) 1 (U 16) ((U 1) + 1) (U 7))] ([[cO x0 6 [.ref (a 0), .ref h0, .ref o0, .ref u0, .ref e8, .ref e9]], stW G a c F, [cO h0 0 [.ref h1, vI ps]], [cQ h1 G.2.1.2.2.2.1 5 Q], stW G (S 0) (cs 0) (Fs 0), stW G (S 1) (cs 1) (Fs 1), stW G (S 2) (cs 2) (Fs 2), stW G (S 3) (cs 3) (Fs 3), stW G (S 4) (cs 4) (Fs 4), [cA g0 G.2.1.1 18 (uZ (uZ U 1 ((U 1) + 1)) 13 ((U 13) + (go (uZ U 1 ((U 1) + 1)) 0 (U 13) ((U 1) + 1) (U 7))))], [cLg r0 G.2.1.2.2.2.2 64 lr], [cLg m0 G.2.1.2.2.2.2 2 lm]] : List va_W).flatten
                      refine s_istore [(14, vI (go (uZ (uZ U 1 ((U 1) + 1)) 13 ((U 13) + (go (uZ U 1 ((U 1) + 1)) 0 (U 13) ((U 1) + 1) (U 7)))) 1 (U 16) ((U 1) + 1) (U 7))), (13, vI 1), (11, vI (sm + (go (uZ U 1 ((U 1) + 1)) 0 (U 13) ((U 1) + 1) (U 7)))), (0, .ref x0), (1, .ref g0), (2, .ref r0), (3, .ref m0), (4, vI zz), (5, vI y), (6, vI way), (7, vI b), (8, vI (12 + (3 * b))), (9, vI 0), (10, vI tk), (12, vI k)] C dL_acts_465 (by decide) rfl ?_
                      refine s_aload_n 1 C dL_acts_467 rfl 4 rfl ?_
                      refine s_bipush (z := 13) C dL_acts_468 rfl ?_
                      refine s_iconst C dL_acts_470 ?_
                      refine s_iload C dL_acts_471 1 rfl ?_
                      refine s_imul C dL_acts_473 ?_
                      refine s_iadd C dL_acts_474 ?_
                      refine s_dup2 C dL_acts_475 rfl rfl ?_
                      refine s_iald C dL_acts_476 75 rfl 16 (by omega) (by omega) (by omega) (by omega) ?_
                      refine s_top ((uZ U 1 ((U 1) + 1)) 16) (uZ_n (by omega)) ?_
                      refine s_top (U 16) (uZ_n (by omega)) ?_
                      refine s_iload C dL_acts_477 0 rfl ?_
                      refine s_iadd C dL_acts_479 ?_
                      refine s_iast ([[cO x0 6 [.ref (a 0), .ref h0, .ref o0, .ref u0, .ref e8, .ref e9]], stW G a c F, [cO h0 0 [.ref h1, vI ps]], [cQ h1 G.2.1.2.2.2.1 5 Q], stW G (S 0) (cs 0) (Fs 0), stW G (S 1) (cs 1) (Fs 1), stW G (S 2) (cs 2) (Fs 2), stW G (S 3) (cs 3) (Fs 3), stW G (S 4) (cs 4) (Fs 4), [cA g0 G.2.1.1 18 (uZ (uZ (uZ U 1 ((U 1) + 1)) 13 ((U 13) + (go (uZ U 1 ((U 1) + 1)) 0 (U 13) ((U 1) + 1) (U 7)))) 16 ((U 16) + (go (uZ (uZ U 1 ((U 1) + 1)) 13 ((U 13) + (go (uZ U 1 ((U 1) + 1)) 0 (U 13) ((U 1) + 1) (U 7)))) 1 (U 16) ((U 1) + 1) (U 7))))], [cLg r0 G.2.1.2.2.2.2 64 lr], [cLg m0 G.2.1.2.2.2.2 2 lm]] : List va_W).flatten C dL_acts_480 75 rfl 16 (by omega) (by omega) (by omega) (by omega) rfl ?_
                      refine s_iload C dL_acts_481 2 rfl ?_
                      refine s_iload C dL_acts_483 0 rfl ?_
                      refine s_iadd C dL_acts_485 ?_
                      refine s_istore [(11, vI (sm + (go (uZ U 1 ((U 1) + 1)) 0 (U 13) ((U 1) + 1) (U 7)) + (go (uZ (uZ U 1 ((U 1) + 1)) 13 ((U 13) + (go (uZ U 1 ((U 1) + 1)) 0 (U 13) ((U 1) + 1) (U 7)))) 1 (U 16) ((U 1) + 1) (U 7)))), (14, vI (go (uZ (uZ U 1 ((U 1) + 1)) 13 ((U 13) + (go (uZ U 1 ((U 1) + 1)) 0 (U 13) ((U 1) + 1) (U 7)))) 1 (U 16) ((U 1) + 1) (U 7))), (13, vI 1), (0, .ref x0), (1, .ref g0), (2, .ref r0), (3, .ref m0), (4, vI zz), (5, vI y), (6, vI way), (7, vI b), (8, vI (12 + (3 * b))), (9, vI 0), (10, vI tk), (12, vI k)] C dL_acts_486 (by decide) rfl ?_
                      refine s_iinc [(13, vI (1 + 1)), (11, vI (sm + (go (uZ U 1 ((U 1) + 1)) 0 (U 13) ((U 1) + 1) (U 7)) + (go (uZ (uZ U 1 ((U 1) + 1)) 13 ((U 13) + (go (uZ U 1 ((U 1) + 1)) 0 (U 13) ((U 1) + 1) (U 7)))) 1 (U 16) ((U 1) + 1) (U 7)))), (14, vI (go (uZ (uZ U 1 ((U 1) + 1)) 13 ((U 13) + (go (uZ U 1 ((U 1) + 1)) 0 (U 13) ((U 1) + 1) (U 7)))) 1 (U 16) ((U 1) + 1) (U 7))), (0, .ref x0), (1, .ref g0), (2, .ref r0), (3, .ref m0), (4, vI zz), (5, vI y), (6, vI way), (7, vI b), (8, vI (12 + (3 * b))), (9, vI 0), (10, vI tk), (12, vI k)] C dL_acts_488 2 rfl (by decide) rfl ?_
                      refine s_goto 435 C dL_acts_491 (by decide) ?_
                      refine s_iload C dL_acts_435 0 rfl ?_
                      refine s_iconst C dL_acts_437 ?_
                      refine s_icmp_ge 494 C dL_acts_438 (by decide) (by decide) (by decide) (fun h => ?_) (fun h => absurd h (by decide))
                      have hcs2 : sm + go (tkA U) 0 (oS (tkA U) 0 1) (U 1 + 1) (U 7) + go (tkB U) 1 (oS (tkB U) 1 1) (U 1 + 1) (U 7) = tk1 U 13 + tk1 U 16 - f 13 - f 16 := by rw [tk1_13, tk1_16]; omega
                      refine s_iinc [(12, vI (k + 1)), (13, vI 2), (11, vI (sm + (go (uZ U 1 ((U 1) + 1)) 0 (U 13) ((U 1) + 1) (U 7)) + (go (uZ (uZ U 1 ((U 1) + 1)) 13 ((U 13) + (go (uZ U 1 ((U 1) + 1)) 0 (U 13) ((U 1) + 1) (U 7)))) 1 (U 16) ((U 1) + 1) (U 7)))), (14, vI (go (uZ (uZ U 1 ((U 1) + 1)) 13 ((U 13) + (go (uZ U 1 ((U 1) + 1)) 0 (U 13) ((U 1) + 1) (U 7)))) 1 (U 16) ((U 1) + 1) (U 7))), (0, .ref x0), (1, .ref g0), (2, .ref r0), (3, .ref m0), (4, vI zz), (5, vI y), (6, vI way), (7, vI b), (8, vI (12 + (3 * b))), (9, vI 0), (10, vI tk)] C dL_acts_494 14 rfl (by decide) rfl ?_
                      refine s_goto 418 C dL_acts_497 (by decide) ?_
                      refine s_lv [(0, .ref x0), (1, .ref g0), (2, .ref r0), (3, .ref m0), (4, vI zz), (5, vI y), (6, vI way), (7, vI b), (8, vI (12 + (3 * b))), (9, vI 0), (10, vI tk), (11, vI (sm + (go (uZ U 1 ((U 1) + 1)) 0 (U 13) ((U 1) + 1) (U 7)) + (go (uZ (uZ U 1 ((U 1) + 1)) 13 ((U 13) + (go (uZ U 1 ((U 1) + 1)) 0 (U 13) ((U 1) + 1) (U 7)))) 1 (U 16) ((U 1) + 1) (U 7)))), (12, vI (k + 1))] [4, 5, 6, 7, 8, 9, 10, 11, 12, 13, 14, 2, 0] rfl ?_
                      exact ih_418 (k + 1) (sm + (go (uZ U 1 ((U 1) + 1)) 0 (U 13) ((U 1) + 1) (U 7)) + (go (uZ (uZ U 1 ((U 1) + 1)) 13 ((U 13) + (go (uZ U 1 ((U 1) + 1)) 0 (U 13) ((U 1) + 1) (U 7)))) 1 (U 16) ((U 1) + 1) (U 7))) (uZ (uZ (uZ U 1 ((U 1) + 1)) 13 ((U 13) + (go (uZ U 1 ((U 1) + 1)) 0 (U 13) ((U 1) + 1) (U 7)))) 16 ((U 16) + (go (uZ (uZ U 1 ((U 1) + 1)) 13 ((U 13) + (go (uZ U 1 ((U 1) + 1)) 0 (U 13) ((U 1) + 1) (U 7)))) 1 (U 16) ((U 1) + 1) (U 7)))) (by omega) (by rw [show (k + 1).toNat = k.toNat + 1 by omega, tkN, ← hU]; rfl) hcs2 (by omega)
                refine s_lv [(0, .ref x0), (1, .ref g0), (2, .ref r0), (3, .ref m0), (4, vI zz), (5, vI y), (6, vI way), (7, vI b), (8, vI (12 + (3 * b))), (9, vI 0), (10, vI tk), (11, vI 0), (12, vI 0)] [8, 9, 10, 11, 12, 7, 6, 5, 4, 3, 2, 1, 0] rfl ?_
                exact loop_418 (tk - 0 + 1 : Int).toNat 0 0 f (by omega) rfl (by omega) (by omega)
              · refine s_bipush (z := 99) C dL_acts_402 rfl ?_
                refine s_goto 408 C dL_acts_404 (by decide) ?_
                refine s_irem C dL_acts_408 (by omega) (by omega) ?_
                refine s_iadd C dL_acts_409 ?_
                obtain ⟨tk, hv_tk, hq_tk⟩ : ∃ tk : Int, tk = 1 + (y % 99) ∧ (1 ≤ tk ∧ tk ≤ 99) := ⟨_, rfl, by omega⟩
                refine s_top tk hv_tk.symm ?_
                refine s_istore [(10, vI tk), (9, vI 0), (8, vI (12 + (3 * b))), (7, vI b), (6, vI way), (5, vI y), (0, .ref x0), (1, .ref g0), (2, .ref r0), (3, .ref m0), (4, vI zz)] C dL_acts_410 (by decide) rfl ?_
                refine s_iconst C dL_acts_412 ?_
                refine s_istore [(11, vI 0), (10, vI tk), (9, vI 0), (8, vI (12 + (3 * b))), (7, vI b), (6, vI way), (5, vI y), (0, .ref x0), (1, .ref g0), (2, .ref r0), (3, .ref m0), (4, vI zz)] C dL_acts_413 (by decide) rfl ?_
                refine s_iconst C dL_acts_415 ?_
                refine s_istore [(12, vI 0), (11, vI 0), (10, vI tk), (9, vI 0), (8, vI (12 + (3 * b))), (7, vI b), (6, vI way), (5, vI y), (0, .ref x0), (1, .ref g0), (2, .ref r0), (3, .ref m0), (4, vI zz)] C dL_acts_416 (by decide) rfl ?_
                have loop_418 : ∀ (fuel : Nat) (k sm : Int) (U : Int → Int), (0 ≤ k ∧ k ≤ tk) → (U = tkN f k.toNat) → (sm = U 13 + U 16 - f 13 - f 16) → (tk - k < (fuel : Int)) → fSt l G X 0 0 418 [(0, .ref x0), (1, .ref g0), (2, .ref r0), (3, .ref m0), (4, vI zz), (5, vI y), (6, vI way), (7, vI b), (8, vI (12 + (3 * b))), (9, vI 0), (10, vI tk), (11, vI sm), (12, vI k)] [] ([[cO x0 6 [.ref (a 0), .ref h0, .ref o0, .ref u0, .ref e8, .ref e9]], stW G a c F, [cO h0 0 [.ref h1, vI ps]], [cQ h1 G.2.1.2.2.2.1 5 Q], stW G (S 0) (cs 0) (Fs 0), stW G (S 1) (cs 1) (Fs 1), stW G (S 2) (cs 2) (Fs 2), stW G (S 3) (cs 3) (Fs 3), stW G (S 4) (cs 4) (Fs 4), [cA g0 G.2.1.1 18 U], [cLg r0 G.2.1.2.2.2.2 64 lr], [cLg m0 G.2.1.2.2.2.2 2 lm]] : List va_W).flatten := by
                  intro fuel
                  induction fuel with
                  | zero =>
                    intro k sm U hk hU hcs hm
                    exfalso
                    omega
                  | succ fuel ih_418 =>
                    intro k sm U hk hU hcs hm
                    refine s_iload C dL_acts_418 12 rfl ?_
                    refine s_iload C dL_acts_420 10 rfl ?_
                    refine s_icmp_ge 500 C dL_acts_422 (by decide) (by omega) (by omega) (fun h_422 => ?_) (fun h_422 => ?_)
                    · have hkt : k = tk := by omega
                      have hsum := tkN_up hT tk.toNat (by omega)
                      have hTk := hT.n tk.toNat (by omega)
                      have hT13 := hT.2.2.2.2.1
                      have hT16 := hT.2.2.2.2.2.1
                      have hK13 := hTk.2.2.2.2.1
                      have hK16 := hTk.2.2.2.2.2.1
                      have hsm : sm = tkN f tk.toNat 13 + tkN f tk.toNat 16 - f 13 - f 16 := by rw [hcs, hU, hkt]
                      refine s_aload_n 1 C dL_acts_500 rfl 1 rfl ?_
                      refine s_bipush (z := 6) C dL_acts_501 rfl ?_
                      refine s_dup2 C dL_acts_503 rfl rfl ?_
                      refine s_iald C dL_acts_504 75 rfl 6 rfl (by omega) (by omega) (by omega) ?_
                      refine s_iload C dL_acts_505 11 rfl ?_
                      refine s_iadd C dL_acts_507 ?_
                      refine s_iast ([[cO x0 6 [.ref (a 0), .ref h0, .ref o0, .ref u0, .ref e8, .ref e9]], stW G a c F, [cO h0 0 [.ref h1, vI ps]], [cQ h1 G.2.1.2.2.2.1 5 Q], stW G (S 0) (cs 0) (Fs 0), stW G (S 1) (cs 1) (Fs 1), stW G (S 2) (cs 2) (Fs 2), stW G (S 3) (cs 3) (Fs 3), stW G (S 4) (cs 4) (Fs 4), [cA g0 G.2.1.1 18 (uZ U 6 ((U 6) + sm))], [cLg r0 G.2.1.2.2.2.2 64 lr], [cLg m0 G.2.1.2.2.2.2 2 lm]] : List va_W).flatten C dL_acts_508 75 rfl 6 rfl (by omega) (by omega) (by omega) rfl ?_
                      refine s_aload_n 0 C dL_acts_509 rfl 0 rfl ?_
                      refine s_iload C dL_acts_510 10 rfl ?_
                      refine s_callVQ (As := [vI tk]) (rest := []) (segs := [[cO x0 6 [.ref (a 0), .ref h0, .ref o0, .ref u0, .ref e8, .ref e9]], stW G a c F, [cO h0 0 [.ref h1, vI ps]], [cQ h1 G.2.1.2.2.2.1 5 Q], stW G (S 0) (cs 0) (Fs 0), stW G (S 1) (cs 1) (Fs 1), stW G (S 2) (cs 2) (Fs 2), stW G (S 3) (cs 3) (Fs 3), stW G (S 4) (cs 4) (Fs 4), [cA g0 G.2.1.1 18 (uZ U 6 ((U 6) + sm))], [cLg r0 G.2.1.2.2.2.2 64 lr], [cLg m0 G.2.1.2.2.2.2 2 lm]]) C dL_acts_512 (c_X6_tick l G x0 h0 h1 (.ref o0) (.ref u0) (.ref e8) (.ref e9) ps Q S cs Fs p a c F B f P tk (by first | assumption | omega) hI hBB hH (by first | assumption | omega)) gL_acts_X6_tick rfl 1 (by decide +kernel) (by decide) 6 rfl rfl 0 _ rfl rfl [0, 2, 3, 4, 5, 6, 7, 8, 1] [9, 10, 11] 12 (rfl : (12 : Nat) = 12) (by decide +kernel) rfl rfl (Nat.le_of_ble_eq_true rfl) ⟨Nat.zero_le _, Nat.zero_le _⟩ ?_
                      intro v0 w0 hq
                      obtain ⟨z_512, f2_512, c2_512, F2_512, ps2_512, P2_512, Q2_512, cs2_512, Fs2_512, p2_512, rfl, rfl, hq0_512, hq1_512, hq2_512, hq3_512, hq4_512⟩ := hq
                      refine ⟨(fst_f (fst_c rfl (fst_c (fst_k rfl) (fst_c (fst_k rfl) (fst_c stW_fst (fst_c stW_fst (fst_c stW_fst (fst_c stW_fst (fst_c stW_fst (fst_c stW_fst rfl)))))))))), [[cO x0 6 [.ref (a 0), .ref h0, .ref o0, .ref u0, .ref e8, .ref e9]], stW G a c2_512 F2_512, [cO h0 0 [.ref h1, vI ps2_512]], [cQ h1 G.2.1.2.2.2.1 5 Q2_512], stW G (S 0) (cs2_512 0) (Fs2_512 0), stW G (S 1) (cs2_512 1) (Fs2_512 1), stW G (S 2) (cs2_512 2) (Fs2_512 2), stW G (S 3) (cs2_512 3) (Fs2_512 3), stW G (S 4) (cs2_512 4) (Fs2_512 4), [cA g0 G.2.1.1 18 (uZ U 6 ((U 6) + sm))], [cLg r0 G.2.1.2.2.2.2 64 lr], [cLg m0 G.2.1.2.2.2.2 2 lm]], (rfl : (12 : Nat) = 12), rfl, Eq.trans (b := ([[cA g0 G.2.1.1 18 (uZ U 6 ((U 6) + sm))], [cLg r0 G.2.1.2.2.2.2 64 lr], [cLg m0 G.2.1.2.2.2.2 2 lm]] : List va_W)) rfl rfl, ?_⟩
                      show fSt l G X 0 0 515 [(0, .ref x0), (1, .ref g0), (2, .ref r0), (3, .ref m0), (4, vI zz), (5, vI y), (6, vI way), (7, vI b), (8, vI (12 + (3 * b))), (9, vI 0), (10, vI tk), (11, vI sm), (12, vI k)] [vI z_512] ([[cO x0 6 [.ref (a 0), .ref h0, .ref o0, .ref u0, .ref e8, .ref e9]], stW G a c2_512 F2_512, [cO h0 0 [.ref h1, vI ps2_512]], [cQ h1 G.2.1.2.2.2.1 5 Q2_512], stW G (S 0) (cs2_512 0) (Fs2_512 0), stW G (S 1) (cs2_512 1) (Fs2_512 1), stW G (S 2) (cs2_512 2) (Fs2_512 2), stW G (S 3) (cs2_512 3) (Fs2_512 3), stW G (S 4) (cs2_512 4) (Fs2_512 4), [cA g0 G.2.1.1 18 (uZ U 6 ((U 6) + sm))], [cLg r0 G.2.1.2.2.2.2 64 lr], [cLg m0 G.2.1.2.2.2.2 2 lm]] : List va_W).flatten
                      obtain ⟨hE9, hN9⟩ := X_tick hP hL hq_tk
                      obtain ⟨hz, hf⟩ := Prod.mk.inj (hq1_512.trans hE9)
                      have hz := hz.symm
                      have hf := hf.symm
                      subst hz
                      subst hf
                      refine s_agr ([[cO x0 6 [.ref (a 0), .ref h0, .ref o0, .ref u0, .ref e8, .ref e9]], stW G a c2_512 F2_512, [cO h0 0 [.ref h1, vI ps2_512]], [cQ h1 G.2.1.2.2.2.1 5 Q2_512], stW G (S 0) (cs2_512 0) (Fs2_512 0), stW G (S 1) (cs2_512 1) (Fs2_512 1), stW G (S 2) (cs2_512 2) (Fs2_512 2), stW G (S 3) (cs2_512 3) (Fs2_512 3), stW G (S 4) (cs2_512 4) (Fs2_512 4), [cA g0 G.2.1.1 18 (uZ (tkN f tk.toNat) 6 (tkN f tk.toNat 6 + (tkN f tk.toNat 13 + tkN f tk.toNat 16 - f 13 - f 16)))], [cLg r0 G.2.1.2.2.2.2 64 lr], [cLg m0 G.2.1.2.2.2.2 2 lm]] : List va_W).flatten 75 rfl (uZ (tkN f tk.toNat) 6 (tkN f tk.toNat 6 + (tkN f tk.toNat 13 + tkN f tk.toNat 16 - f 13 - f 16))) (fun j h0 h1 => ?agr) rfl ?_
                      case agr =>
                        rw [← hkt, ← hU, hcs]
                      refine s_iload C dL_acts_515 11 rfl ?_
                      refine s_icmp_ne 524 C dL_acts_517 (by decide) (by omega) (by omega) (fun h_517 => ?_) (fun h_517 => ?_)
                      · refine s_iconst C dL_acts_524 ?_
                        exact s_zret C E dL_acts_525 rfl ⟨c2_512, F2_512, ps2_512, Q2_512, cs2_512, Fs2_512, p2_512, (uZ (tkN f tk.toNat) 6 (tkN f tk.toNat 6 + (tkN f tk.toNat 13 + tkN f tk.toNat 16 - f 13 - f 16))), P2_512, lr, lm, (congrArg (fun z => some (vI z)) (by omega)), rfl, hq0_512, hN9, (hq2_512.mono (by omega))⟩
                      · refine s_iconst C dL_acts_520 ?_
                        refine s_goto 525 C dL_acts_521 (by decide) ?_
                        exact s_zret C E dL_acts_525 rfl ⟨c2_512, F2_512, ps2_512, Q2_512, cs2_512, Fs2_512, p2_512, (uZ (tkN f tk.toNat) 6 (tkN f tk.toNat 6 + (tkN f tk.toNat 13 + tkN f tk.toNat 16 - f 13 - f 16))), P2_512, lr, lm, rfl, rfl, hq0_512, hN9, (hq2_512.mono (by omega))⟩
                    · have hTU : TI U (B + k) := by rw [hU]; have h9 := hT.n k.toNat (by omega); rwa [show ((k.toNat : Nat) : Int) = k by omega] at h9
                      have hU7 := hTU.2.2.1
                      have hU1 := hTU.2.1
                      have hTa := hTU.a (by omega)
                      have hTb := hTU.b (by omega)
                      have hSa := hTa.S (b := 0) (by omega)
                      have hSc := hTb.S (b := 1) (by omega)
                      have hUo : ∀ j : Int, j ≠ 1 → j ≠ 13 → j ≠ 16 → U j = f j := fun j a1 a2 a3 => by rw [hU]; exact tkN_o a1 a2 a3 _
                      have hS0 := hI.S 0 (by omega) (by omega)
                      have hS1 := hI.S 1 (by omega) (by omega)
                      have e0a : oS (tkA U) 0 0 = oS f 0 0 := (tkA_n (by omega)).trans (hUo _ (by omega) (by omega) (by omega))
                      have e1b : oS (tkB U) 1 0 = oS f 1 0 := (tkB_n (by omega) (by omega)).trans (hUo _ (by omega) (by omega) (by omega))
                      have hga : ∀ b r : Int, 0 ≤ b → b ≤ 1 → 1 ≤ r → oG (tkA U) b r = oG f b r := fun b r b0 b1 r0 => (tkA_n (by omega)).trans (hUo _ (by omega) (by omega) (by omega))
                      have hgb : ∀ b r : Int, 0 ≤ b → b ≤ 1 → 1 ≤ r → oG (tkB U) b r = oG f b r := fun b r b0 b1 r0 => (tkB_n (by omega) (by omega)).trans (hUo _ (by omega) (by omega) (by omega))
                      have hra : ∀ r : Int, 1 ≤ r → oR (tkA U) r 4 = oR f r 4 := fun r r0 => (tkA_n (by omega)).trans (hUo _ (by omega) (by omega) (by omega))
                      have hrb : ∀ r : Int, 1 ≤ r → oR (tkB U) r 4 = oR f r 4 := fun r r0 => (tkB_n (by omega) (by omega)).trans (hUo _ (by omega) (by omega) (by omega))
                      have hreca : ∀ r : Int, 1 ≤ r → r ≤ oS (tkA U) 0 0 → lr r < 9223372036854775808 ∧ (((lr r) / 128000000 : Nat) : Int) = oR (tkA U) r 4 := fun r r0 r1 => ⟨rk_lt hP hL.1 r0 (by omega), (rk_a hP hL.1 r0 (by omega)).trans (hra r r0).symm⟩
                      have hrecb : ∀ r : Int, 1 ≤ r → r ≤ oS (tkB U) 1 0 → lr r < 9223372036854775808 ∧ (((lr r) / 128000000 : Nat) : Int) = oR (tkB U) r 4 := fun r r0 r1 => ⟨rk_lt hP hL.1 r0 (by omega), (rk_a hP hL.1 r0 (by omega)).trans (hrb r r0).symm⟩
                      have hBa : BM (tkA U) 0 (lm 0) := hL.2.1.cong (fun r r0 r1 => by rw [hga 0 r (by omega) (by omega) r0])
                      have hBb : BM (tkB U) 1 (lm 1) := hL.2.2.cong (fun r r0 r1 => by rw [hgb 1 r (by omega) (by omega) r0])
                      have hza : ∀ r : Int, 62 ≤ r → r ≤ 100 → ¬ oG (tkA U) 0 r = 1 := fun r r0 r1 => by rw [hga 0 r (by omega) (by omega) (by omega)]; exact hP.gz (by omega) r r0 r1
                      have hzb : ∀ r : Int, 62 ≤ r → r ≤ 100 → ¬ oG (tkB U) 1 r = 1 := fun r r0 r1 => by rw [hgb 1 r (by omega) (by omega) (by omega)]; exact hP.gz (by omega) r r0 r1
                      refine s_aload_n 1 C dL_acts_425 rfl 1 rfl ?_
                      refine s_iconst C dL_acts_426 ?_
                      refine s_dup2 C dL_acts_427 rfl rfl ?_
                      refine s_iald C dL_acts_428 75 rfl 1 rfl (by omega) (by omega) (by omega) ?_
                      refine s_iconst C dL_acts_429 ?_
                      refine s_iadd C dL_acts_430 ?_
                      refine s_iast ([[cO x0 6 [.ref (a 0), .ref h0, .ref o0, .ref u0, .ref e8, .ref e9]], stW G a c F, [cO h0 0 [.ref h1, vI ps]], [cQ h1 G.2.1.2.2.2.1 5 Q], stW G (S 0) (cs 0) (Fs 0), stW G (S 1) (cs 1) (Fs 1), stW G (S 2) (cs 2) (Fs 2), stW G (S 3) (cs 3) (Fs 3), stW G (S 4) (cs 4) (Fs 4), [cA g0 G.2.1.1 18 (uZ U 1 ((U 1) + 1))], [cLg r0 G.2.1.2.2.2.2 64 lr], [cLg m0 G.2.1.2.2.2.2 2 lm]] : List va_W).flatten C dL_acts_431 75 rfl 1 rfl (by omega) (by omega) (by omega) rfl ?_
                      refine s_iconst C dL_acts_432 ?_
                      refine s_istore [(13, vI 0), (0, .ref x0), (1, .ref g0), (2, .ref r0), (3, .ref m0), (4, vI zz), (5, vI y), (6, vI way), (7, vI b), (8, vI (12 + (3 * b))), (9, vI 0), (10, vI tk), (11, vI sm), (12, vI k)] C dL_acts_433 (by decide) rfl ?_
                      refine s_iload C dL_acts_435 0 rfl ?_
                      refine s_iconst C dL_acts_437 ?_
                      refine s_icmp_ge 494 C dL_acts_438 (by decide) (by decide) (by decide) (fun h => absurd h (by decide)) (fun h => ?_)
                      refine s_aload_n 1 C dL_acts_441 rfl 2 rfl ?_
                      refine s_aload_n 2 C dL_acts_442 rfl 3 rfl ?_
                      refine s_aload_n 3 C dL_acts_443 rfl 4 rfl ?_
                      refine s_iload C dL_acts_444 0 rfl ?_
                      refine s_aload_n 1 C dL_acts_446 rfl 2 rfl ?_
                      refine s_bipush (z := 13) C dL_acts_447 rfl ?_
                      refine s_iconst C dL_acts_449 ?_
                      refine s_iload C dL_acts_450 0 rfl ?_
                      refine s_imul C dL_acts_452 ?_
                      refine s_iadd C dL_acts_453 ?_
                      refine s_iald C dL_acts_454 75 rfl 13 (by omega) (by omega) (by omega) (by omega) ?_
                      refine s_top (U 13) (uZ_n (by omega)) ?_
                      refine s_aload_n 1 C dL_acts_455 rfl 2 rfl ?_
                      refine s_iconst C dL_acts_456 ?_
                      refine s_iald C dL_acts_457 75 rfl 1 rfl (by omega) (by omega) (by omega) ?_
                      refine s_top ((U 1) + 1) uZ_s ?_
                      refine s_aload_n 1 C dL_acts_458 rfl 2 rfl ?_
                      refine s_bipush (z := 7) C dL_acts_459 rfl ?_
                      refine s_iald C dL_acts_461 75 rfl 7 rfl (by omega) (by omega) (by omega) ?_
                      refine s_top (U 7) (uZ_n (by omega)) ?_
                      refine s_callSQ (As := [.ref g0, .ref r0, .ref m0, vI 0, vI (U 13), vI ((U 1) + 1), vI (U 7)]) (rest := []) (segs := [[cO x0 6 [.ref (a 0), .ref h0, .ref o0, .ref u0, .ref e8, .ref e9]], stW G a c F, [cO h0 0 [.ref h1, vI ps]], [cQ h1 G.2.1.2.2.2.1 5 Q], stW G (S 0) (cs 0) (Fs 0), stW G (S 1) (cs 1) (Fs 1), stW G (S 2) (cs 2) (Fs 2), stW G (S 3) (cs 3) (Fs 3), stW G (S 4) (cs 4) (Fs 4), [cA g0 G.2.1.1 18 (uZ U 1 ((U 1) + 1))], [cLg r0 G.2.1.2.2.2.2 64 lr], [cLg m0 G.2.1.2.2.2.2 2 lm]]) C dL_acts_462 (c_L_applies l G g0 r0 m0 (uZ U 1 ((U 1) + 1)) lr lm (B + k + 1) 0 (U 13) ((U 1) + 1) (U 7) hTa (by first | assumption | omega) ⟨hSa.1, hSa.2.1⟩ (show oS (tkA U) 0 0 ≤ 61 by omega) (by omega) hU7 hreca hBa hza) gL_acts_L_applies rfl 7 (by decide +kernel) (by decide) [9, 10, 11] [0, 1, 2, 3, 4, 5, 6, 7, 8] 12 (rfl : (12 : Nat) = 12) (by decide +kernel) rfl rfl (Nat.le_of_ble_eq_true rfl) ⟨Nat.zero_le _, Nat.zero_le _⟩ ?_
                      intro v0 w0 hq
                      obtain ⟨rfl, rfl⟩ := hq
                      refine ⟨rfl, [[cO x0 6 [.ref (a 0), .ref h0, .ref o0, .ref u0, .ref e8, .ref e9]], stW G a c F, [cO h0 0 [.ref h1, vI ps]], [cQ h1 G.2.1.2.2.2.1 5 Q], stW G (S 0) (cs 0) (Fs 0), stW G (S 1) (cs 1) (Fs 1), stW G (S 2) (cs 2) (Fs 2), stW G (S 3) (cs 3) (Fs 3), stW G (S 4) (cs 4) (Fs 4), [cA g0 G.2.1.1 18 (uZ U 1 ((U 1) + 1))], [cLg r0 G.2.1.2.2.2.2 64 lr], [cLg m0 G.2.1.2.2.2.2 2 lm]], (rfl : (12 : Nat) = 12), rfl, Eq.trans (b := ([[cO x0 6 [.ref (a 0), .ref h0, .ref o0, .ref u0, .ref e8, .ref e9]], stW G a c F, [cO h0 0 [.ref h1, vI ps]], [cQ h1 G.2.1.2.2.2.1 5 Q], stW G (S 0) (cs 0) (Fs 0), stW G (S 1) (cs 1) (Fs 1), stW G (S 2) (cs 2) (Fs 2), stW G (S 3) (cs 3) (Fs 3), stW G (S 4) (cs 4) (Fs 4)] : List va_W)) rfl rfl, ?_⟩
                      show fSt l G X 0 0 465 [(13, vI 0), (0, .ref x0), (1, .ref g0), (2, .ref r0), (3, .ref m0), (4, vI zz), (5, vI y), (6, vI way), (7, vI b), (8, vI (12 + (3 * b))), (9, vI 0), (10, vI tk), (11, vI sm), (12, vI k)] [vI (go (uZ U 1 ((U 1) + 1)) 0 (U 13) ((U 1) + 1) (U 7))] ([[cO x0 6 [.ref (a 0), .ref h0, .ref o0, .ref u0, .ref e8, .ref e9]], stW G a c F, [cO h0 0 [.ref h1, vI ps]], [cQ h1 G.2.1.2.2.2.1 5 Q], stW G (S 0) (cs 0) (Fs 0), stW G (S 1) (cs 1) (Fs 1), stW G (S 2) (cs 2) (Fs 2), stW G (S 3) (cs 3) (Fs 3), stW G (S 4) (cs 4) (Fs 4), [cA g0 G.2.1.1 18 (uZ U 1 ((U 1) + 1))], [cLg r0 G.2.1.2.2.2.2 64 lr], [cLg m0 G.2.1.2.2.2.2 2 lm]] : List va_W).flatten
                      refine s_istore [(14, vI (go (uZ U 1 ((U 1) + 1)) 0 (U 13) ((U 1) + 1) (U 7))), (13, vI 0), (0, .ref x0), (1, .ref g0), (2, .ref r0), (3, .ref m0), (4, vI zz), (5, vI y), (6, vI way), (7, vI b), (8, vI (12 + (3 * b))), (9, vI 0), (10, vI tk), (11, vI sm), (12, vI k)] C dL_acts_465 (by decide) rfl ?_
                      refine s_aload_n 1 C dL_acts_467 rfl 3 rfl ?_
                      refine s_bipush (z := 13) C dL_acts_468 rfl ?_
                      refine s_iconst C dL_acts_470 ?_
                      refine s_iload C dL_acts_471 1 rfl ?_
                      refine s_imul C dL_acts_473 ?_
                      refine s_iadd C dL_acts_474 ?_
                      refine s_dup2 C dL_acts_475 rfl rfl ?_
                      refine s_iald C dL_acts_476 75 rfl 13 (by omega) (by omega) (by omega) (by omega) ?_
                      refine s_top (U 13) (uZ_n (by omega)) ?_
                      refine s_iload C dL_acts_477 0 rfl ?_
                      refine s_iadd C dL_acts_479 ?_
                      refine s_iast ([[cO x0 6 [.ref (a 0), .ref h0, .ref o0, .ref u0, .ref e8, .ref e9]], stW G a c F, [cO h0 0 [.ref h1, vI ps]], [cQ h1 G.2.1.2.2.2.1 5 Q], stW G (S 0) (cs 0) (Fs 0), stW G (S 1) (cs 1) (Fs 1), stW G (S 2) (cs 2) (Fs 2), stW G (S 3) (cs 3) (Fs 3), stW G (S 4) (cs 4) (Fs 4), [cA g0 G.2.1.1 18 (uZ (uZ U 1 ((U 1) + 1)) 13 ((U 13) + (go (uZ U 1 ((U 1) + 1)) 0 (U 13) ((U 1) + 1) (U 7))))], [cLg r0 G.2.1.2.2.2.2 64 lr], [cLg m0 G.2.1.2.2.2.2 2 lm]] : List va_W).flatten C dL_acts_480 75 rfl 13 (by omega) (by omega) (by omega) (by omega) rfl ?_
                      refine s_iload C dL_acts_481 13 rfl ?_
                      refine s_iload C dL_acts_483 0 rfl ?_
                      refine s_iadd C dL_acts_485 ?_
                      refine s_istore [(11, vI (sm + (go (uZ U 1 ((U 1) + 1)) 0 (U 13) ((U 1) + 1) (U 7)))), (14, vI (go (uZ U 1 ((U 1) + 1)) 0 (U 13) ((U 1) + 1) (U 7))), (13, vI 0), (0, .ref x0), (1, .ref g0), (2, .ref r0), (3, .ref m0), (4, vI zz), (5, vI y), (6, vI way), (7, vI b), (8, vI (12 + (3 * b))), (9, vI 0), (10, vI tk), (12, vI k)] C dL_acts_486 (by decide) rfl ?_
                      refine s_iinc [(13, vI (0 + 1)), (11, vI (sm + (go (uZ U 1 ((U 1) + 1)) 0 (U 13) ((U 1) + 1) (U 7)))), (14, vI (go (uZ U 1 ((U 1) + 1)) 0 (U 13) ((U 1) + 1) (U 7))), (0, .ref x0), (1, .ref g0), (2, .ref r0), (3, .ref m0), (4, vI zz), (5, vI y), (6, vI way), (7, vI b), (8, vI (12 + (3 * b))), (9, vI 0), (10, vI tk), (12, vI k)] C dL_acts_488 2 rfl (by decide) rfl ?_
                      refine s_goto 435 C dL_acts_491 (by decide) ?_
                      refine s_iload C dL_acts_435 0 rfl ?_
                      refine s_iconst C dL_acts_437 ?_
                      refine s_icmp_ge 494 C dL_acts_438 (by decide) (by decide) (by decide) (fun h => absurd h (by decide)) (fun h => ?_)
                      refine s_aload_n 1 C dL_acts_441 rfl 4 rfl ?_
                      refine s_aload_n 2 C dL_acts_442 rfl 5 rfl ?_
                      refine s_aload_n 3 C dL_acts_443 rfl 6 rfl ?_
                      refine s_iload C dL_acts_444 0 rfl ?_
                      refine s_aload_n 1 C dL_acts_446 rfl 4 rfl ?_
                      refine s_bipush (z := 13) C dL_acts_447 rfl ?_
                      refine s_iconst C dL_acts_449 ?_
                      refine s_iload C dL_acts_450 0 rfl ?_
                      refine s_imul C dL_acts_452 ?_
                      refine s_iadd C dL_acts_453 ?_
                      refine s_iald C dL_acts_454 75 rfl 16 (by omega) (by omega) (by omega) (by omega) ?_
                      refine s_top ((uZ U 1 ((U 1) + 1)) 16) (uZ_n (by omega)) ?_
                      refine s_top (U 16) (uZ_n (by omega)) ?_
                      refine s_aload_n 1 C dL_acts_455 rfl 4 rfl ?_
                      refine s_iconst C dL_acts_456 ?_
                      refine s_iald C dL_acts_457 75 rfl 1 rfl (by omega) (by omega) (by omega) ?_
                      refine s_top ((uZ U 1 ((U 1) + 1)) 1) (uZ_n (by omega)) ?_
                      refine s_top ((U 1) + 1) uZ_s ?_
                      refine s_aload_n 1 C dL_acts_458 rfl 4 rfl ?_
                      refine s_bipush (z := 7) C dL_acts_459 rfl ?_
                      refine s_iald C dL_acts_461 75 rfl 7 rfl (by omega) (by omega) (by omega) ?_
                      refine s_top ((uZ U 1 ((U 1) + 1)) 7) (uZ_n (by omega)) ?_
                      refine s_top (U 7) (uZ_n (by omega)) ?_
                      refine s_callSQ (As := [.ref g0, .ref r0, .ref m0, vI 1, vI (U 16), vI ((U 1) + 1), vI (U 7)]) (rest := []) (segs := [[cO x0 6 [.ref (a 0), .ref h0, .ref o0, .ref u0, .ref e8, .ref e9]], stW G a c F, [cO h0 0 [.ref h1, vI ps]], [cQ h1 G.2.1.2.2.2.1 5 Q], stW G (S 0) (cs 0) (Fs 0), stW G (S 1) (cs 1) (Fs 1), stW G (S 2) (cs 2) (Fs 2), stW G (S 3) (cs 3) (Fs 3), stW G (S 4) (cs 4) (Fs 4), [cA g0 G.2.1.1 18 (uZ (uZ U 1 ((U 1) + 1)) 13 ((U 13) + (go (uZ U 1 ((U 1) + 1)) 0 (U 13) ((U 1) + 1) (U 7))))], [cLg r0 G.2.1.2.2.2.2 64 lr], [cLg m0 G.2.1.2.2.2.2 2 lm]]) C dL_acts_462 (c_L_applies l G g0 r0 m0 (uZ (uZ U 1 ((U 1) + 1)) 13 ((U 13) + (go (uZ U 1 ((U 1) + 1)) 0 (U 13) ((U 1) + 1) (U 7)))) lr lm (B + k + 1) 1 (U 16) ((U 1) + 1) (U 7) hTb (by first | assumption | omega) ⟨hSc.1, hSc.2.1⟩ (show oS (tkB U) 1 0 ≤ 61 by omega) (by omega) hU7 hrecb hBb hzb) gL_acts_L_applies rfl 7 (by decide +kernel) (by decide) [9, 10, 11] [0, 1, 2, 3, 4, 5, 6, 7, 8] 12 (rfl : (12 : Nat) = 12) (by decide +kernel) rfl rfl (Nat.le_of_ble_eq_true rfl) ⟨Nat.zero_le _, Nat.zero_le _⟩ ?_
                      intro v0 w0 hq
                      obtain ⟨rfl, rfl⟩ := hq
                      refine ⟨rfl, [[cO x0 6 [.ref (a 0), .ref h0, .ref o0, .ref u0, .ref e8, .ref e9]], stW G a c F, [cO h0 0 [.ref h1, vI ps]], [cQ h1 G.2.1.2.2.2.1 5 Q], stW G (S 0) (cs 0) (Fs 0), stW G (S 1) (cs 1) (Fs 1), stW G (S 2) (cs 2) (Fs 2), stW G (S 3) (cs 3) (Fs 3), stW G (S 4) (cs 4) (Fs 4), [cA g0 G.2.1.1 18 (uZ (uZ U 1 ((U 1) + 1)) 13 ((U 13) + (go (uZ U 1 ((U 1) + 1)) 0 (U 13) ((U 1) + 1) (U 7))))], [cLg r0 G.2.1.2.2.2.2 64 lr], [cLg m0 G.2.1.2.2.2.2 2 lm]], (rfl : (12 : Nat) = 12), rfl, Eq.trans (b := ([[cO x0 6 [.ref (a 0), .ref h0, .ref o0, .ref u0, .ref e8, .ref e9]], stW G a c F, [cO h0 0 [.ref h1, vI ps]], [cQ h1 G.2.1.2.2.2.1 5 Q], stW G (S 0) (cs 0) (Fs 0), stW G (S 1) (cs 1) (Fs 1), stW G (S 2) (cs 2) (Fs 2), stW G (S 3) (cs 3) (Fs 3), stW G (S 4) (cs 4) (Fs 4)] : List va_W)) rfl rfl, ?_⟩
                      show fSt l G X 0 0 465 [(13, vI 1), (11, vI (sm + (go (uZ U 1 ((U 1) + 1)) 0 (U 13) ((U 1) + 1) (U 7)))), (14, vI (go (uZ U 1 ((U 1) + 1)) 0 (U 13) ((U 1) + 1) (U 7))), (0, .ref x0), (1, .ref g0), (2, .ref r0), (3, .ref m0), (4, vI zz), (5, vI y), (6, vI way), (7, vI b), (8, vI (12 + (3 * b))), (9, vI 0), (10, vI tk), (12, vI k)] [vI (go (uZ (uZ U 1 ((U 1) + 1)) 13 ((U 13) + (go (uZ U 1 ((U 1) + 1)) 0 (U 13) ((U 1) + 1) (U 7)))) 1 (U 16) ((U 1) + 1) (U 7))] ([[cO x0 6 [.ref (a 0), .ref h0, .ref o0, .ref u0, .ref e8, .ref e9]], stW G a c F, [cO h0 0 [.ref h1, vI ps]], [cQ h1 G.2.1.2.2.2.1 5 Q], stW G (S 0) (cs 0) (Fs 0), stW G (S 1) (cs 1) (Fs 1), stW G (S 2) (cs 2) (Fs 2), stW G (S 3) (cs 3) (Fs 3), stW G (S 4) (cs 4) (Fs 4), [cA g0 G.2.1.1 18 (uZ (uZ U 1 ((U 1) + 1)) 13 ((U 13) + (go (uZ U 1 ((U 1) + 1)) 0 (U 13) ((U 1) + 1) (U 7))))], [cLg r0 G.2.1.2.2.2.2 64 lr], [cLg m0 G.2.1.2.2.2.2 2 lm]] : List va_W).flatten
                      refine s_istore [(14, vI (go (uZ (uZ U 1 ((U 1) + 1)) 13 ((U 13) + (go (uZ U 1 ((U 1) + 1)) 0 (U 13) ((U 1) + 1) (U 7)))) 1 (U 16) ((U 1) + 1) (U 7))), (13, vI 1), (11, vI (sm + (go (uZ U 1 ((U 1) + 1)) 0 (U 13) ((U 1) + 1) (U 7)))), (0, .ref x0), (1, .ref g0), (2, .ref r0), (3, .ref m0), (4, vI zz), (5, vI y), (6, vI way), (7, vI b), (8, vI (12 + (3 * b))), (9, vI 0), (10, vI tk), (12, vI k)] C dL_acts_465 (by decide) rfl ?_
                      refine s_aload_n 1 C dL_acts_467 rfl 4 rfl ?_
                      refine s_bipush (z := 13) C dL_acts_468 rfl ?_
                      refine s_iconst C dL_acts_470 ?_
                      refine s_iload C dL_acts_471 1 rfl ?_
                      refine s_imul C dL_acts_473 ?_
                      refine s_iadd C dL_acts_474 ?_
                      refine s_dup2 C dL_acts_475 rfl rfl ?_
                      refine s_iald C dL_acts_476 75 rfl 16 (by omega) (by omega) (by omega) (by omega) ?_
                      refine s_top ((uZ U 1 ((U 1) + 1)) 16) (uZ_n (by omega)) ?_
                      refine s_top (U 16) (uZ_n (by omega)) ?_
                      refine s_iload C dL_acts_477 0 rfl ?_
                      refine s_iadd C dL_acts_479 ?_
                      refine s_iast ([[cO x0 6 [.ref (a 0), .ref h0, .ref o0, .ref u0, .ref e8, .ref e9]], stW G a c F, [cO h0 0 [.ref h1, vI ps]], [cQ h1 G.2.1.2.2.2.1 5 Q], stW G (S 0) (cs 0) (Fs 0), stW G (S 1) (cs 1) (Fs 1), stW G (S 2) (cs 2) (Fs 2), stW G (S 3) (cs 3) (Fs 3), stW G (S 4) (cs 4) (Fs 4), [cA g0 G.2.1.1 18 (uZ (uZ (uZ U 1 ((U 1) + 1)) 13 ((U 13) + (go (uZ U 1 ((U 1) + 1)) 0 (U 13) ((U 1) + 1) (U 7)))) 16 ((U 16) + (go (uZ (uZ U 1 ((U 1) + 1)) 13 ((U 13) + (go (uZ U 1 ((U 1) + 1)) 0 (U 13) ((U 1) + 1) (U 7)))) 1 (U 16) ((U 1) + 1) (U 7))))], [cLg r0 G.2.1.2.2.2.2 64 lr], [cLg m0 G.2.1.2.2.2.2 2 lm]] : List va_W).flatten C dL_acts_480 75 rfl 16 (by omega) (by omega) (by omega) (by omega) rfl ?_
                      refine s_iload C dL_acts_481 2 rfl ?_
                      refine s_iload C dL_acts_483 0 rfl ?_
                      refine s_iadd C dL_acts_485 ?_
                      refine s_istore [(11, vI (sm + (go (uZ U 1 ((U 1) + 1)) 0 (U 13) ((U 1) + 1) (U 7)) + (go (uZ (uZ U 1 ((U 1) + 1)) 13 ((U 13) + (go (uZ U 1 ((U 1) + 1)) 0 (U 13) ((U 1) + 1) (U 7)))) 1 (U 16) ((U 1) + 1) (U 7)))), (14, vI (go (uZ (uZ U 1 ((U 1) + 1)) 13 ((U 13) + (go (uZ U 1 ((U 1) + 1)) 0 (U 13) ((U 1) + 1) (U 7)))) 1 (U 16) ((U 1) + 1) (U 7))), (13, vI 1), (0, .ref x0), (1, .ref g0), (2, .ref r0), (3, .ref m0), (4, vI zz), (5, vI y), (6, vI way), (7, vI b), (8, vI (12 + (3 * b))), (9, vI 0), (10, vI tk), (12, vI k)] C dL_acts_486 (by decide) rfl ?_
                      refine s_iinc [(13, vI (1 + 1)), (11, vI (sm + (go (uZ U 1 ((U 1) + 1)) 0 (U 13) ((U 1) + 1) (U 7)) + (go (uZ (uZ U 1 ((U 1) + 1)) 13 ((U 13) + (go (uZ U 1 ((U 1) + 1)) 0 (U 13) ((U 1) + 1) (U 7)))) 1 (U 16) ((U 1) + 1) (U 7)))), (14, vI (go (uZ (uZ U 1 ((U 1) + 1)) 13 ((U 13) + (go (uZ U 1 ((U 1) + 1)) 0 (U 13) ((U 1) + 1) (U 7)))) 1 (U 16) ((U 1) + 1) (U 7))), (0, .ref x0), (1, .ref g0), (2, .ref r0), (3, .ref m0), (4, vI zz), (5, vI y), (6, vI way), (7, vI b), (8, vI (12 + (3 * b))), (9, vI 0), (10, vI tk), (12, vI k)] C dL_acts_488 2 rfl (by decide) rfl ?_
                      refine s_goto 435 C dL_acts_491 (by decide) ?_
                      refine s_iload C dL_acts_435 0 rfl ?_
                      refine s_iconst C dL_acts_437 ?_
                      refine s_icmp_ge 494 C dL_acts_438 (by decide) (by decide) (by decide) (fun h => ?_) (fun h => absurd h (by decide))
                      have hcs2 : sm + go (tkA U) 0 (oS (tkA U) 0 1) (U 1 + 1) (U 7) + go (tkB U) 1 (oS (tkB U) 1 1) (U 1 + 1) (U 7) = tk1 U 13 + tk1 U 16 - f 13 - f 16 := by rw [tk1_13, tk1_16]; omega
                      refine s_iinc [(12, vI (k + 1)), (13, vI 2), (11, vI (sm + (go (uZ U 1 ((U 1) + 1)) 0 (U 13) ((U 1) + 1) (U 7)) + (go (uZ (uZ U 1 ((U 1) + 1)) 13 ((U 13) + (go (uZ U 1 ((U 1) + 1)) 0 (U 13) ((U 1) + 1) (U 7)))) 1 (U 16) ((U 1) + 1) (U 7)))), (14, vI (go (uZ (uZ U 1 ((U 1) + 1)) 13 ((U 13) + (go (uZ U 1 ((U 1) + 1)) 0 (U 13) ((U 1) + 1) (U 7)))) 1 (U 16) ((U 1) + 1) (U 7))), (0, .ref x0), (1, .ref g0), (2, .ref r0), (3, .ref m0), (4, vI zz), (5, vI y), (6, vI way), (7, vI b), (8, vI (12 + (3 * b))), (9, vI 0), (10, vI tk)] C dL_acts_494 14 rfl (by decide) rfl ?_
                      refine s_goto 418 C dL_acts_497 (by decide) ?_
                      refine s_lv [(0, .ref x0), (1, .ref g0), (2, .ref r0), (3, .ref m0), (4, vI zz), (5, vI y), (6, vI way), (7, vI b), (8, vI (12 + (3 * b))), (9, vI 0), (10, vI tk), (11, vI (sm + (go (uZ U 1 ((U 1) + 1)) 0 (U 13) ((U 1) + 1) (U 7)) + (go (uZ (uZ U 1 ((U 1) + 1)) 13 ((U 13) + (go (uZ U 1 ((U 1) + 1)) 0 (U 13) ((U 1) + 1) (U 7)))) 1 (U 16) ((U 1) + 1) (U 7)))), (12, vI (k + 1))] [4, 5, 6, 7, 8, 9, 10, 11, 12, 13, 14, 2, 0] rfl ?_
                      exact ih_418 (k + 1) (sm + (go (uZ U 1 ((U 1) + 1)) 0 (U 13) ((U 1) + 1) (U 7)) + (go (uZ (uZ U 1 ((U 1) + 1)) 13 ((U 13) + (go (uZ U 1 ((U 1) + 1)) 0 (U 13) ((U 1) + 1) (U 7)))) 1 (U 16) ((U 1) + 1) (U 7))) (uZ (uZ (uZ U 1 ((U 1) + 1)) 13 ((U 13) + (go (uZ U 1 ((U 1) + 1)) 0 (U 13) ((U 1) + 1) (U 7)))) 16 ((U 16) + (go (uZ (uZ U 1 ((U 1) + 1)) 13 ((U 13) + (go (uZ U 1 ((U 1) + 1)) 0 (U 13) ((U 1) + 1) (U 7)))) 1 (U 16) ((U 1) + 1) (U 7)))) (by omega) (by rw [show (k + 1).toNat = k.toNat + 1 by omega, tkN, ← hU]; rfl) hcs2 (by omega)
                refine s_lv [(0, .ref x0), (1, .ref g0), (2, .ref r0), (3, .ref m0), (4, vI zz), (5, vI y), (6, vI way), (7, vI b), (8, vI (12 + (3 * b))), (9, vI 0), (10, vI tk), (11, vI 0), (12, vI 0)] [8, 9, 10, 11, 12, 7, 6, 5, 4, 3, 2, 1, 0] rfl ?_
                exact loop_418 (tk - 0 + 1 : Int).toNat 0 0 f (by omega) rfl (by omega) (by omega)
          · refine s_aload_n 3 C dL_acts_332 rfl 8 rfl ?_
            refine s_iload C dL_acts_333 2 rfl ?_
            refine s_lald C dL_acts_335 77 rfl b rfl (by omega) (by omega) (by omega) ?_
            refine s_callSQ (As := [vLg (lm b)]) (rest := []) (segs := [[cO x0 6 [.ref (a 0), .ref h0, .ref o0, .ref u0, .ref e8, .ref e9]], stW G a c F, [cO h0 0 [.ref h1, vI ps]], [cQ h1 G.2.1.2.2.2.1 5 Q], stW G (S 0) (cs 0) (Fs 0), stW G (S 1) (cs 1) (Fs 1), stW G (S 2) (cs 2) (Fs 2), stW G (S 3) (cs 3) (Fs 3), stW G (S 4) (cs 4) (Fs 4), [cA g0 G.2.1.1 18 f], [cLg r0 G.2.1.2.2.2.2 64 lr], [cLg m0 G.2.1.2.2.2.2 2 lm]]) C dL_acts_336 (c_L_ones l G (lm b) hbm) gL_acts_L_ones rfl 1 (by decide +kernel) (by decide) [] [0, 1, 2, 3, 4, 5, 6, 7, 8, 9, 10, 11] 12 (rfl : (12 : Nat) = 12) (by decide +kernel) rfl rfl (Nat.le_of_ble_eq_true rfl) ⟨Nat.zero_le _, Nat.zero_le _⟩ ?_
            intro v0 w0 hq
            obtain ⟨rfl, rfl⟩ := hq
            refine ⟨rfl, [[cO x0 6 [.ref (a 0), .ref h0, .ref o0, .ref u0, .ref e8, .ref e9]], stW G a c F, [cO h0 0 [.ref h1, vI ps]], [cQ h1 G.2.1.2.2.2.1 5 Q], stW G (S 0) (cs 0) (Fs 0), stW G (S 1) (cs 1) (Fs 1), stW G (S 2) (cs 2) (Fs 2), stW G (S 3) (cs 3) (Fs 3), stW G (S 4) (cs 4) (Fs 4), [cA g0 G.2.1.1 18 f], [cLg r0 G.2.1.2.2.2.2 64 lr], [cLg m0 G.2.1.2.2.2.2 2 lm]], (rfl : (12 : Nat) = 12), rfl, Eq.trans (b := ([[cO x0 6 [.ref (a 0), .ref h0, .ref o0, .ref u0, .ref e8, .ref e9]], stW G a c F, [cO h0 0 [.ref h1, vI ps]], [cQ h1 G.2.1.2.2.2.1 5 Q], stW G (S 0) (cs 0) (Fs 0), stW G (S 1) (cs 1) (Fs 1), stW G (S 2) (cs 2) (Fs 2), stW G (S 3) (cs 3) (Fs 3), stW G (S 4) (cs 4) (Fs 4), [cA g0 G.2.1.1 18 f], [cLg r0 G.2.1.2.2.2.2 64 lr], [cLg m0 G.2.1.2.2.2.2 2 lm]] : List va_W)) rfl rfl, ?_⟩
            show fSt l G X 0 0 339 [(9, vI 0), (8, vI (12 + (3 * b))), (7, vI b), (6, vI way), (5, vI y), (0, .ref x0), (1, .ref g0), (2, .ref r0), (3, .ref m0), (4, vI zz)] [vI ((pcN 62 (lm b) : Nat) : Int)] ([[cO x0 6 [.ref (a 0), .ref h0, .ref o0, .ref u0, .ref e8, .ref e9]], stW G a c F, [cO h0 0 [.ref h1, vI ps]], [cQ h1 G.2.1.2.2.2.1 5 Q], stW G (S 0) (cs 0) (Fs 0), stW G (S 1) (cs 1) (Fs 1), stW G (S 2) (cs 2) (Fs 2), stW G (S 3) (cs 3) (Fs 3), stW G (S 4) (cs 4) (Fs 4), [cA g0 G.2.1.1 18 f], [cLg r0 G.2.1.2.2.2.2 64 lr], [cLg m0 G.2.1.2.2.2.2 2 lm]] : List va_W).flatten
            refine s_istore [(10, vI ((pcN 62 (lm b) : Nat) : Int)), (9, vI 0), (8, vI (12 + (3 * b))), (7, vI b), (6, vI way), (5, vI y), (0, .ref x0), (1, .ref g0), (2, .ref r0), (3, .ref m0), (4, vI zz)] C dL_acts_339 (by decide) rfl ?_
            refine s_aload_n 3 C dL_acts_341 rfl 9 rfl ?_
            refine s_iload C dL_acts_342 3 rfl ?_
            refine s_iload C dL_acts_344 1 rfl ?_
            refine s_if_eq 356 C dL_acts_346 (by decide) (by decide) (fun h => ?_) (fun h => absurd h (by decide))
            refine s_lconst (v := 0) C dL_acts_356 rfl ?_
            refine s_last ([[cO x0 6 [.ref (a 0), .ref h0, .ref o0, .ref u0, .ref e8, .ref e9]], stW G a c F, [cO h0 0 [.ref h1, vI ps]], [cQ h1 G.2.1.2.2.2.1 5 Q], stW G (S 0) (cs 0) (Fs 0), stW G (S 1) (cs 1) (Fs 1), stW G (S 2) (cs 2) (Fs 2), stW G (S 3) (cs 3) (Fs 3), stW G (S 4) (cs 4) (Fs 4), [cA g0 G.2.1.1 18 f], [cLg r0 G.2.1.2.2.2.2 64 lr], [cLg m0 G.2.1.2.2.2.2 2 (uLg lm b 0)]] : List va_W).flatten C dL_acts_357 77 rfl b rfl (by omega) (by omega) (by omega) rfl ?_
            refine s_aload_n 0 C dL_acts_358 rfl 6 rfl ?_
            refine s_iload C dL_acts_359 3 rfl ?_
            refine s_callVQ (As := [vI b]) (rest := []) (segs := [[cO x0 6 [.ref (a 0), .ref h0, .ref o0, .ref u0, .ref e8, .ref e9]], stW G a c F, [cO h0 0 [.ref h1, vI ps]], [cQ h1 G.2.1.2.2.2.1 5 Q], stW G (S 0) (cs 0) (Fs 0), stW G (S 1) (cs 1) (Fs 1), stW G (S 2) (cs 2) (Fs 2), stW G (S 3) (cs 3) (Fs 3), stW G (S 4) (cs 4) (Fs 4), [cA g0 G.2.1.1 18 f], [cLg r0 G.2.1.2.2.2.2 64 lr], [cLg m0 G.2.1.2.2.2.2 2 (uLg lm b 0)]]) C dL_acts_361 (c_X6_resend l G x0 h0 h1 (.ref o0) (.ref u0) (.ref e8) (.ref e9) ps Q S cs Fs p a c F B f P b (by first | assumption | omega) hI hBB hH (by first | assumption | omega)) gL_acts_X6_resend rfl 1 (by decide +kernel) (by decide) 6 rfl rfl 0 _ rfl rfl [0, 2, 3, 4, 5, 6, 7, 8, 1] [9, 10, 11] 12 (rfl : (12 : Nat) = 12) (by decide +kernel) rfl rfl (Nat.le_of_ble_eq_true rfl) ⟨Nat.zero_le _, Nat.zero_le _⟩ ?_
            intro v0 w0 hq
            obtain ⟨z_361, f2_361, c2_361, F2_361, ps2_361, P2_361, Q2_361, cs2_361, Fs2_361, p2_361, rfl, rfl, hq0_361, hq1_361, hq2_361, hq3_361, hq4_361⟩ := hq
            refine ⟨(fst_f (fst_c rfl (fst_c (fst_k rfl) (fst_c (fst_k rfl) (fst_c stW_fst (fst_c stW_fst (fst_c stW_fst (fst_c stW_fst (fst_c stW_fst (fst_c stW_fst rfl)))))))))), [[cO x0 6 [.ref (a 0), .ref h0, .ref o0, .ref u0, .ref e8, .ref e9]], stW G a c2_361 F2_361, [cO h0 0 [.ref h1, vI ps2_361]], [cQ h1 G.2.1.2.2.2.1 5 Q2_361], stW G (S 0) (cs2_361 0) (Fs2_361 0), stW G (S 1) (cs2_361 1) (Fs2_361 1), stW G (S 2) (cs2_361 2) (Fs2_361 2), stW G (S 3) (cs2_361 3) (Fs2_361 3), stW G (S 4) (cs2_361 4) (Fs2_361 4), [cA g0 G.2.1.1 18 f], [cLg r0 G.2.1.2.2.2.2 64 lr], [cLg m0 G.2.1.2.2.2.2 2 (uLg lm b 0)]], (rfl : (12 : Nat) = 12), rfl, Eq.trans (b := ([[cA g0 G.2.1.1 18 f], [cLg r0 G.2.1.2.2.2.2 64 lr], [cLg m0 G.2.1.2.2.2.2 2 (uLg lm b 0)]] : List va_W)) rfl rfl, ?_⟩
            show fSt l G X 0 0 364 [(10, vI ((pcN 62 (lm b) : Nat) : Int)), (9, vI 0), (8, vI (12 + (3 * b))), (7, vI b), (6, vI way), (5, vI y), (0, .ref x0), (1, .ref g0), (2, .ref r0), (3, .ref m0), (4, vI zz)] [vI z_361] ([[cO x0 6 [.ref (a 0), .ref h0, .ref o0, .ref u0, .ref e8, .ref e9]], stW G a c2_361 F2_361, [cO h0 0 [.ref h1, vI ps2_361]], [cQ h1 G.2.1.2.2.2.1 5 Q2_361], stW G (S 0) (cs2_361 0) (Fs2_361 0), stW G (S 1) (cs2_361 1) (Fs2_361 1), stW G (S 2) (cs2_361 2) (Fs2_361 2), stW G (S 3) (cs2_361 3) (Fs2_361 3), stW G (S 4) (cs2_361 4) (Fs2_361 4), [cA g0 G.2.1.1 18 f], [cLg r0 G.2.1.2.2.2.2 64 lr], [cLg m0 G.2.1.2.2.2.2 2 (uLg lm b 0)]] : List va_W).flatten
            obtain ⟨hE9, hN9⟩ := X_resend hP hL hq_b (by omega)
            obtain ⟨hz, hf⟩ := Prod.mk.inj (hq1_361.trans hE9)
            have hz := hz.symm
            have hf := hf.symm
            subst hz
            subst hf
            refine s_agr ([[cO x0 6 [.ref (a 0), .ref h0, .ref o0, .ref u0, .ref e8, .ref e9]], stW G a c2_361 F2_361, [cO h0 0 [.ref h1, vI ps2_361]], [cQ h1 G.2.1.2.2.2.1 5 Q2_361], stW G (S 0) (cs2_361 0) (Fs2_361 0), stW G (S 1) (cs2_361 1) (Fs2_361 1), stW G (S 2) (cs2_361 2) (Fs2_361 2), stW G (S 3) (cs2_361 3) (Fs2_361 3), stW G (S 4) (cs2_361 4) (Fs2_361 4), [cA g0 G.2.1.1 18 (fG0 f b 0 (100 * b + 118))], [cLg r0 G.2.1.2.2.2.2 64 lr], [cLg m0 G.2.1.2.2.2.2 2 (uLg lm b 0)]] : List va_W).flatten 75 rfl (fG0 f b 0 (100 * b + 118)) (fun j h0 h1 => ?agr) rfl ?_
            case agr =>
              have hj : j < 18 := (by omega)
              rw [fG0_out (by omega)]
            refine s_iload C dL_acts_364 1 rfl ?_
            refine s_if_eq 374 C dL_acts_366 (by decide) (by decide) (fun h => ?_) (fun h => absurd h (by decide))
            refine s_iload C dL_acts_374 0 rfl ?_
            refine s_icmp_ne 383 C dL_acts_376 (by decide) pcN_rg pcN_rg (fun h => absurd (by omega) h) (fun _ => ?_)
            refine s_iconst C dL_acts_379 ?_
            refine s_goto 384 C dL_acts_380 (by decide) ?_
            exact s_zret C E dL_acts_384 rfl ⟨c2_361, F2_361, ps2_361, Q2_361, cs2_361, Fs2_361, p2_361, (fG0 f b 0 (100 * b + 118)), P2_361, lr, (uLg lm b 0), rfl, rfl, hq0_361, hN9, (hq2_361.mono (by omega))⟩
        · refine s_aload_n 1 C dL_acts_187 rfl 6 rfl ?_
          refine s_iload C dL_acts_188 1 rfl ?_
          refine s_iconst C dL_acts_190 ?_
          refine s_iadd C dL_acts_191 ?_
          refine s_iald C dL_acts_192 75 rfl (3 * b + 13) (by omega) (by omega) (by omega) (by omega) ?_
          refine s_iload C dL_acts_193 4 rfl ?_
          refine s_iconst C dL_acts_195 ?_
          refine s_idiv C dL_acts_196 (by omega) (by omega) ?_
          refine s_iconst C dL_acts_197 ?_
          refine s_irem C dL_acts_198 (by omega) (by omega) ?_
          refine s_iadd C dL_acts_199 ?_
          obtain ⟨r, hv_r, hq_r⟩ : ∃ r : Int, r = (f (3 * b + 13)) + ((y / 2) % 4) ∧ (f (3 * b + 13) ≤ r ∧ r ≤ f (3 * b + 13) + 3) := ⟨_, rfl, by omega⟩
          refine s_top r hv_r.symm ?_
          refine s_istore [(10, vI r), (9, vI 0), (8, vI (12 + (3 * b))), (7, vI b), (6, vI way), (5, vI y), (0, .ref x0), (1, .ref g0), (2, .ref r0), (3, .ref m0), (4, vI zz)] C dL_acts_200 (by decide) rfl ?_
          refine s_iload C dL_acts_202 0 rfl ?_
          refine s_if_ne 225 C dL_acts_204 (by decide) (by omega) (fun h_204 => ?_) (fun h_204 => ?_)
          · refine s_iload C dL_acts_225 1 rfl ?_
            refine s_if_ne 264 C dL_acts_227 (by decide) (by decide) (fun h => absurd h (by decide)) (fun h => ?_)
            refine s_iload C dL_acts_230 0 rfl ?_
            refine s_aload_n 1 C dL_acts_232 rfl 7 rfl ?_
            refine s_iload C dL_acts_233 2 rfl ?_
            refine s_iald C dL_acts_235 75 rfl (3 * b + 12) (by omega) (by omega) (by omega) (by omega) ?_
            refine s_icmp_gt 264 C dL_acts_236 (by decide) (by omega) (hI.rf _) (fun h_236 => ?_) (fun h_236 => ?_)
            · refine s_aload_n 0 C dL_acts_264 rfl 6 rfl ?_
              refine s_iload C dL_acts_265 3 rfl ?_
              refine s_iload C dL_acts_267 0 rfl ?_
              refine s_callVQ (As := [vI b, vI r]) (rest := []) (segs := [[cO x0 6 [.ref (a 0), .ref h0, .ref o0, .ref u0, .ref e8, .ref e9]], stW G a c F, [cO h0 0 [.ref h1, vI ps]], [cQ h1 G.2.1.2.2.2.1 5 Q], stW G (S 0) (cs 0) (Fs 0), stW G (S 1) (cs 1) (Fs 1), stW G (S 2) (cs 2) (Fs 2), stW G (S 3) (cs 3) (Fs 3), stW G (S 4) (cs 4) (Fs 4), [cA g0 G.2.1.1 18 f], [cLg r0 G.2.1.2.2.2.2 64 lr], [cLg m0 G.2.1.2.2.2.2 2 lm]]) C dL_acts_269 (c_X6_lose l G x0 h0 h1 (.ref o0) (.ref u0) (.ref e8) (.ref e9) ps Q S cs Fs p a c F B f P b r (by first | assumption | omega) hI hBB hH (by first | assumption | omega) (by first | assumption | omega)) gL_acts_X6_lose rfl 2 (by decide +kernel) (by decide) 6 rfl rfl 0 _ rfl rfl [0, 2, 3, 4, 5, 6, 7, 8, 1] [9, 10, 11] 12 (rfl : (12 : Nat) = 12) (by decide +kernel) rfl rfl (Nat.le_of_ble_eq_true rfl) ⟨Nat.zero_le _, Nat.zero_le _⟩ ?_
              intro v0 w0 hq
              obtain ⟨z_269, f2_269, c2_269, F2_269, ps2_269, P2_269, Q2_269, cs2_269, Fs2_269, p2_269, rfl, rfl, hq0_269, hq1_269, hq2_269, hq3_269, hq4_269⟩ := hq
              refine ⟨(fst_f (fst_c rfl (fst_c (fst_k rfl) (fst_c (fst_k rfl) (fst_c stW_fst (fst_c stW_fst (fst_c stW_fst (fst_c stW_fst (fst_c stW_fst (fst_c stW_fst rfl)))))))))), [[cO x0 6 [.ref (a 0), .ref h0, .ref o0, .ref u0, .ref e8, .ref e9]], stW G a c2_269 F2_269, [cO h0 0 [.ref h1, vI ps2_269]], [cQ h1 G.2.1.2.2.2.1 5 Q2_269], stW G (S 0) (cs2_269 0) (Fs2_269 0), stW G (S 1) (cs2_269 1) (Fs2_269 1), stW G (S 2) (cs2_269 2) (Fs2_269 2), stW G (S 3) (cs2_269 3) (Fs2_269 3), stW G (S 4) (cs2_269 4) (Fs2_269 4), [cA g0 G.2.1.1 18 f], [cLg r0 G.2.1.2.2.2.2 64 lr], [cLg m0 G.2.1.2.2.2.2 2 lm]], (rfl : (12 : Nat) = 12), rfl, Eq.trans (b := ([[cA g0 G.2.1.1 18 f], [cLg r0 G.2.1.2.2.2.2 64 lr], [cLg m0 G.2.1.2.2.2.2 2 lm]] : List va_W)) rfl rfl, ?_⟩
              show fSt l G X 0 0 272 [(10, vI r), (9, vI 0), (8, vI (12 + (3 * b))), (7, vI b), (6, vI way), (5, vI y), (0, .ref x0), (1, .ref g0), (2, .ref r0), (3, .ref m0), (4, vI zz)] [vI z_269] ([[cO x0 6 [.ref (a 0), .ref h0, .ref o0, .ref u0, .ref e8, .ref e9]], stW G a c2_269 F2_269, [cO h0 0 [.ref h1, vI ps2_269]], [cQ h1 G.2.1.2.2.2.1 5 Q2_269], stW G (S 0) (cs2_269 0) (Fs2_269 0), stW G (S 1) (cs2_269 1) (Fs2_269 1), stW G (S 2) (cs2_269 2) (Fs2_269 2), stW G (S 3) (cs2_269 3) (Fs2_269 3), stW G (S 4) (cs2_269 4) (Fs2_269 4), [cA g0 G.2.1.1 18 f], [cLg r0 G.2.1.2.2.2.2 64 lr], [cLg m0 G.2.1.2.2.2.2 2 lm]] : List va_W).flatten
              obtain ⟨hE9, hN9⟩ := X_lose_no (r := r) hP hL hq_b (by omega) (by omega)
              obtain ⟨hz, hf⟩ := Prod.mk.inj (hq1_269.trans hE9)
              have hz := hz.symm
              have hf := hf.symm
              subst hz
              subst hf
              refine s_ldc (z := -1000002) C (by decide +kernel) dL_acts_272 ?_
              refine s_icmp_ne 281 C dL_acts_274 (by decide) (by decide) (by decide) (fun h => absurd h (by decide)) (fun h => ?_)
              refine s_iconst C dL_acts_277 ?_
              refine s_goto 282 C dL_acts_278 (by decide) ?_
              exact s_zret C E dL_acts_282 rfl ⟨c2_269, F2_269, ps2_269, Q2_269, cs2_269, Fs2_269, p2_269, f, P2_269, lr, lm, rfl, rfl, hq0_269, hN9, (hq2_269.mono (by omega))⟩
            · refine s_iload C dL_acts_239 0 rfl ?_
              refine s_aload_n 1 C dL_acts_241 rfl 7 rfl ?_
              refine s_iload C dL_acts_242 2 rfl ?_
              refine s_iconst C dL_acts_244 ?_
              refine s_iadd C dL_acts_245 ?_
              refine s_iald C dL_acts_246 75 rfl (3 * b + 13) (by omega) (by omega) (by omega) (by omega) ?_
              refine s_icmp_le 264 C dL_acts_247 (by decide) (by omega) (hI.rf _) (fun h_247 => ?_) (fun h_247 => ?_)
              · refine s_aload_n 0 C dL_acts_264 rfl 6 rfl ?_
                refine s_iload C dL_acts_265 3 rfl ?_
                refine s_iload C dL_acts_267 0 rfl ?_
                refine s_callVQ (As := [vI b, vI r]) (rest := []) (segs := [[cO x0 6 [.ref (a 0), .ref h0, .ref o0, .ref u0, .ref e8, .ref e9]], stW G a c F, [cO h0 0 [.ref h1, vI ps]], [cQ h1 G.2.1.2.2.2.1 5 Q], stW G (S 0) (cs 0) (Fs 0), stW G (S 1) (cs 1) (Fs 1), stW G (S 2) (cs 2) (Fs 2), stW G (S 3) (cs 3) (Fs 3), stW G (S 4) (cs 4) (Fs 4), [cA g0 G.2.1.1 18 f], [cLg r0 G.2.1.2.2.2.2 64 lr], [cLg m0 G.2.1.2.2.2.2 2 lm]]) C dL_acts_269 (c_X6_lose l G x0 h0 h1 (.ref o0) (.ref u0) (.ref e8) (.ref e9) ps Q S cs Fs p a c F B f P b r (by first | assumption | omega) hI hBB hH (by first | assumption | omega) (by first | assumption | omega)) gL_acts_X6_lose rfl 2 (by decide +kernel) (by decide) 6 rfl rfl 0 _ rfl rfl [0, 2, 3, 4, 5, 6, 7, 8, 1] [9, 10, 11] 12 (rfl : (12 : Nat) = 12) (by decide +kernel) rfl rfl (Nat.le_of_ble_eq_true rfl) ⟨Nat.zero_le _, Nat.zero_le _⟩ ?_
                intro v0 w0 hq
                obtain ⟨z_269, f2_269, c2_269, F2_269, ps2_269, P2_269, Q2_269, cs2_269, Fs2_269, p2_269, rfl, rfl, hq0_269, hq1_269, hq2_269, hq3_269, hq4_269⟩ := hq
                refine ⟨(fst_f (fst_c rfl (fst_c (fst_k rfl) (fst_c (fst_k rfl) (fst_c stW_fst (fst_c stW_fst (fst_c stW_fst (fst_c stW_fst (fst_c stW_fst (fst_c stW_fst rfl)))))))))), [[cO x0 6 [.ref (a 0), .ref h0, .ref o0, .ref u0, .ref e8, .ref e9]], stW G a c2_269 F2_269, [cO h0 0 [.ref h1, vI ps2_269]], [cQ h1 G.2.1.2.2.2.1 5 Q2_269], stW G (S 0) (cs2_269 0) (Fs2_269 0), stW G (S 1) (cs2_269 1) (Fs2_269 1), stW G (S 2) (cs2_269 2) (Fs2_269 2), stW G (S 3) (cs2_269 3) (Fs2_269 3), stW G (S 4) (cs2_269 4) (Fs2_269 4), [cA g0 G.2.1.1 18 f], [cLg r0 G.2.1.2.2.2.2 64 lr], [cLg m0 G.2.1.2.2.2.2 2 lm]], (rfl : (12 : Nat) = 12), rfl, Eq.trans (b := ([[cA g0 G.2.1.1 18 f], [cLg r0 G.2.1.2.2.2.2 64 lr], [cLg m0 G.2.1.2.2.2.2 2 lm]] : List va_W)) rfl rfl, ?_⟩
                show fSt l G X 0 0 272 [(10, vI r), (9, vI 0), (8, vI (12 + (3 * b))), (7, vI b), (6, vI way), (5, vI y), (0, .ref x0), (1, .ref g0), (2, .ref r0), (3, .ref m0), (4, vI zz)] [vI z_269] ([[cO x0 6 [.ref (a 0), .ref h0, .ref o0, .ref u0, .ref e8, .ref e9]], stW G a c2_269 F2_269, [cO h0 0 [.ref h1, vI ps2_269]], [cQ h1 G.2.1.2.2.2.1 5 Q2_269], stW G (S 0) (cs2_269 0) (Fs2_269 0), stW G (S 1) (cs2_269 1) (Fs2_269 1), stW G (S 2) (cs2_269 2) (Fs2_269 2), stW G (S 3) (cs2_269 3) (Fs2_269 3), stW G (S 4) (cs2_269 4) (Fs2_269 4), [cA g0 G.2.1.1 18 f], [cLg r0 G.2.1.2.2.2.2 64 lr], [cLg m0 G.2.1.2.2.2.2 2 lm]] : List va_W).flatten
                obtain ⟨hE9, hN9⟩ := X_lose_no (r := r) hP hL hq_b (by omega) (by omega)
                obtain ⟨hz, hf⟩ := Prod.mk.inj (hq1_269.trans hE9)
                have hz := hz.symm
                have hf := hf.symm
                subst hz
                subst hf
                refine s_ldc (z := -1000002) C (by decide +kernel) dL_acts_272 ?_
                refine s_icmp_ne 281 C dL_acts_274 (by decide) (by decide) (by decide) (fun h => absurd h (by decide)) (fun h => ?_)
                refine s_iconst C dL_acts_277 ?_
                refine s_goto 282 C dL_acts_278 (by decide) ?_
                exact s_zret C E dL_acts_282 rfl ⟨c2_269, F2_269, ps2_269, Q2_269, cs2_269, Fs2_269, p2_269, f, P2_269, lr, lm, rfl, rfl, hq0_269, hN9, (hq2_269.mono (by omega))⟩
              · have hbit := hP.bit hL hq_b (k := r) (by omega) (by omega)
                have hdv : lm b / 2 ^ (r : Int).toNat ≤ lm b := Nat.div_le_self _ _
                refine s_aload_n 3 C dL_acts_250 rfl 9 rfl ?_
                refine s_iload C dL_acts_251 3 rfl ?_
                refine s_lald C dL_acts_253 77 rfl b rfl (by omega) (by omega) (by omega) ?_
                refine s_iload C dL_acts_254 0 rfl ?_
                refine s_lshr C dL_acts_256 hbm (by omega) ?_
                refine s_lconst (v := 1) C dL_acts_257 rfl ?_
                refine s_land1 C dL_acts_258 (by omega) ?_
                refine s_lconst (v := 1) C dL_acts_259 rfl ?_
                refine s_lcmp C dL_acts_260 (by omega) (by omega) ?_
                refine s_if_ne 283 C dL_acts_261 (by decide) lcZ_rg (fun h_261 => ?_) (fun h_261 => ?_)
                · have h_261 := mt lcZ_0.mpr h_261
                  have hnb := hL.b hq_b
                  have hsl9 : 2 ^ (r : Int).toNat ≤ 2 ^ 61 := Nat.pow_le_pow_right (by decide) (by omega)
                  refine s_aload_n 3 C dL_acts_283 rfl 9 rfl ?_
                  refine s_iload C dL_acts_284 3 rfl ?_
                  refine s_dup2 C dL_acts_286 rfl rfl ?_
                  refine s_lald C dL_acts_287 77 rfl b rfl (by omega) (by omega) (by omega) ?_
                  refine s_lconst (v := 1) C dL_acts_288 rfl ?_
                  refine s_iload C dL_acts_289 0 rfl ?_
                  refine s_lshl C dL_acts_291 (by omega) ?_
                  refine s_lor C dL_acts_292 (by omega) (by omega) ?_
                  refine s_last ([[cO x0 6 [.ref (a 0), .ref h0, .ref o0, .ref u0, .ref e8, .ref e9]], stW G a c F, [cO h0 0 [.ref h1, vI ps]], [cQ h1 G.2.1.2.2.2.1 5 Q], stW G (S 0) (cs 0) (Fs 0), stW G (S 1) (cs 1) (Fs 1), stW G (S 2) (cs 2) (Fs 2), stW G (S 3) (cs 3) (Fs 3), stW G (S 4) (cs 4) (Fs 4), [cA g0 G.2.1.1 18 f], [cLg r0 G.2.1.2.2.2.2 64 lr], [cLg m0 G.2.1.2.2.2.2 2 (uLg lm b ((lm b) ||| (1 * 2 ^ (r : Int).toNat)))]] : List va_W).flatten C dL_acts_293 77 rfl b rfl (by omega) (by omega) (by omega) rfl ?_
                  refine s_aload_n 1 C dL_acts_294 rfl 7 rfl ?_
                  refine s_iconst C dL_acts_295 ?_
                  refine s_dup2 C dL_acts_296 rfl rfl ?_
                  refine s_iald C dL_acts_297 75 rfl 5 rfl (by omega) (by omega) (by omega) ?_
                  refine s_iconst C dL_acts_298 ?_
                  refine s_iadd C dL_acts_299 ?_
                  refine s_iast ([[cO x0 6 [.ref (a 0), .ref h0, .ref o0, .ref u0, .ref e8, .ref e9]], stW G a c F, [cO h0 0 [.ref h1, vI ps]], [cQ h1 G.2.1.2.2.2.1 5 Q], stW G (S 0) (cs 0) (Fs 0), stW G (S 1) (cs 1) (Fs 1), stW G (S 2) (cs 2) (Fs 2), stW G (S 3) (cs 3) (Fs 3), stW G (S 4) (cs 4) (Fs 4), [cA g0 G.2.1.1 18 (uZ f 5 ((f 5) + 1))], [cLg r0 G.2.1.2.2.2.2 64 lr], [cLg m0 G.2.1.2.2.2.2 2 (uLg lm b ((lm b) ||| (1 * 2 ^ (r : Int).toNat)))]] : List va_W).flatten C dL_acts_300 75 rfl 5 rfl (by omega) (by omega) (by omega) rfl ?_
                  refine s_aload_n 0 C dL_acts_301 rfl 6 rfl ?_
                  refine s_iload C dL_acts_302 3 rfl ?_
                  refine s_iload C dL_acts_304 0 rfl ?_
                  refine s_callVQ (As := [vI b, vI r]) (rest := []) (segs := [[cO x0 6 [.ref (a 0), .ref h0, .ref o0, .ref u0, .ref e8, .ref e9]], stW G a c F, [cO h0 0 [.ref h1, vI ps]], [cQ h1 G.2.1.2.2.2.1 5 Q], stW G (S 0) (cs 0) (Fs 0), stW G (S 1) (cs 1) (Fs 1), stW G (S 2) (cs 2) (Fs 2), stW G (S 3) (cs 3) (Fs 3), stW G (S 4) (cs 4) (Fs 4), [cA g0 G.2.1.1 18 (uZ f 5 ((f 5) + 1))], [cLg r0 G.2.1.2.2.2.2 64 lr], [cLg m0 G.2.1.2.2.2.2 2 (uLg lm b ((lm b) ||| (1 * 2 ^ (r : Int).toNat)))]]) C dL_acts_306 (c_X6_lose l G x0 h0 h1 (.ref o0) (.ref u0) (.ref e8) (.ref e9) ps Q S cs Fs p a c F B f P b r (by first | assumption | omega) hI hBB hH (by first | assumption | omega) (by first | assumption | omega)) gL_acts_X6_lose rfl 2 (by decide +kernel) (by decide) 6 rfl rfl 0 _ rfl rfl [0, 2, 3, 4, 5, 6, 7, 8, 1] [9, 10, 11] 12 (rfl : (12 : Nat) = 12) (by decide +kernel) rfl rfl (Nat.le_of_ble_eq_true rfl) ⟨Nat.zero_le _, Nat.zero_le _⟩ ?_
                  intro v0 w0 hq
                  obtain ⟨z_306, f2_306, c2_306, F2_306, ps2_306, P2_306, Q2_306, cs2_306, Fs2_306, p2_306, rfl, rfl, hq0_306, hq1_306, hq2_306, hq3_306, hq4_306⟩ := hq
                  refine ⟨(fst_f (fst_c rfl (fst_c (fst_k rfl) (fst_c (fst_k rfl) (fst_c stW_fst (fst_c stW_fst (fst_c stW_fst (fst_c stW_fst (fst_c stW_fst (fst_c stW_fst rfl)))))))))), [[cO x0 6 [.ref (a 0), .ref h0, .ref o0, .ref u0, .ref e8, .ref e9]], stW G a c2_306 F2_306, [cO h0 0 [.ref h1, vI ps2_306]], [cQ h1 G.2.1.2.2.2.1 5 Q2_306], stW G (S 0) (cs2_306 0) (Fs2_306 0), stW G (S 1) (cs2_306 1) (Fs2_306 1), stW G (S 2) (cs2_306 2) (Fs2_306 2), stW G (S 3) (cs2_306 3) (Fs2_306 3), stW G (S 4) (cs2_306 4) (Fs2_306 4), [cA g0 G.2.1.1 18 (uZ f 5 ((f 5) + 1))], [cLg r0 G.2.1.2.2.2.2 64 lr], [cLg m0 G.2.1.2.2.2.2 2 (uLg lm b ((lm b) ||| (1 * 2 ^ (r : Int).toNat)))]], (rfl : (12 : Nat) = 12), rfl, Eq.trans (b := ([[cA g0 G.2.1.1 18 (uZ f 5 ((f 5) + 1))], [cLg r0 G.2.1.2.2.2.2 64 lr], [cLg m0 G.2.1.2.2.2.2 2 (uLg lm b ((lm b) ||| (1 * 2 ^ (r : Int).toNat)))]] : List va_W)) rfl rfl, ?_⟩
                  show fSt l G X 0 0 309 [(10, vI r), (9, vI 0), (8, vI (12 + (3 * b))), (7, vI b), (6, vI way), (5, vI y), (0, .ref x0), (1, .ref g0), (2, .ref r0), (3, .ref m0), (4, vI zz)] [vI z_306] ([[cO x0 6 [.ref (a 0), .ref h0, .ref o0, .ref u0, .ref e8, .ref e9]], stW G a c2_306 F2_306, [cO h0 0 [.ref h1, vI ps2_306]], [cQ h1 G.2.1.2.2.2.1 5 Q2_306], stW G (S 0) (cs2_306 0) (Fs2_306 0), stW G (S 1) (cs2_306 1) (Fs2_306 1), stW G (S 2) (cs2_306 2) (Fs2_306 2), stW G (S 3) (cs2_306 3) (Fs2_306 3), stW G (S 4) (cs2_306 4) (Fs2_306 4), [cA g0 G.2.1.1 18 (uZ f 5 ((f 5) + 1))], [cLg r0 G.2.1.2.2.2.2 64 lr], [cLg m0 G.2.1.2.2.2.2 2 (uLg lm b ((lm b) ||| (1 * 2 ^ (r : Int).toNat)))]] : List va_W).flatten
                  obtain ⟨⟨hE9, hN9⟩, hm9⟩ := X_lose (r := r) hP hL hq_b (by omega) (by omega) (by omega) (by omega) (by omega)
                  obtain ⟨hz, hf⟩ := Prod.mk.inj (hq1_306.trans hE9)
                  have hz := hz.symm
                  have hf := hf.symm
                  subst hz
                  subst hf
                  refine s_agr ([[cO x0 6 [.ref (a 0), .ref h0, .ref o0, .ref u0, .ref e8, .ref e9]], stW G a c2_306 F2_306, [cO h0 0 [.ref h1, vI ps2_306]], [cQ h1 G.2.1.2.2.2.1 5 Q2_306], stW G (S 0) (cs2_306 0) (Fs2_306 0), stW G (S 1) (cs2_306 1) (Fs2_306 1), stW G (S 2) (cs2_306 2) (Fs2_306 2), stW G (S 3) (cs2_306 3) (Fs2_306 3), stW G (S 4) (cs2_306 4) (Fs2_306 4), [cA g0 G.2.1.1 18 (uZ (uZ f (100 * b + r + 17) 1) 5 (f 5 + 1))], [cLg r0 G.2.1.2.2.2.2 64 lr], [cLg m0 G.2.1.2.2.2.2 2 (uLg lm b ((lm b) ||| (1 * 2 ^ (r : Int).toNat)))]] : List va_W).flatten 75 rfl (uZ (uZ f (100 * b + r + 17) 1) 5 (f 5 + 1)) (fun j h0 h1 => ?agr) rfl ?_
                  case agr =>
                    have hj : j < 18 := (by omega)
                    by_cases hj5 : j = 5
                    · rw [hj5, uZ_s, uZ_s]
                    · rw [uZ_n hj5, uZ_n hj5, uZ_n (by omega)]
                  refine s_aload_n 3 C dL_acts_309 rfl 9 rfl ?_
                  refine s_iload C dL_acts_310 3 rfl ?_
                  refine s_lald C dL_acts_312 77 rfl b rfl (by omega) (by omega) (by omega) ?_
                  refine s_topL ((lm b) ||| (1 * 2 ^ (r : Int).toNat)) uLg_s ?_
                  refine s_callSQ (As := [vLg ((lm b) ||| (1 * 2 ^ (r : Int).toNat))]) (rest := [vI ((pcN 62 (lm b ||| 1 * 2 ^ (r : Int).toNat) : Nat) : Int)]) (segs := [[cO x0 6 [.ref (a 0), .ref h0, .ref o0, .ref u0, .ref e8, .ref e9]], stW G a c2_306 F2_306, [cO h0 0 [.ref h1, vI ps2_306]], [cQ h1 G.2.1.2.2.2.1 5 Q2_306], stW G (S 0) (cs2_306 0) (Fs2_306 0), stW G (S 1) (cs2_306 1) (Fs2_306 1), stW G (S 2) (cs2_306 2) (Fs2_306 2), stW G (S 3) (cs2_306 3) (Fs2_306 3), stW G (S 4) (cs2_306 4) (Fs2_306 4), [cA g0 G.2.1.1 18 (uZ (uZ f (100 * b + r + 17) 1) 5 (f 5 + 1))], [cLg r0 G.2.1.2.2.2.2 64 lr], [cLg m0 G.2.1.2.2.2.2 2 (uLg lm b ((lm b) ||| (1 * 2 ^ (r : Int).toNat)))]]) C dL_acts_313 (c_L_ones l G ((lm b) ||| (1 * 2 ^ (r : Int).toNat)) hm9) gL_acts_L_ones rfl 1 (by decide +kernel) (by decide) [] [0, 1, 2, 3, 4, 5, 6, 7, 8, 9, 10, 11] 12 (rfl : (12 : Nat) = 12) (by decide +kernel) rfl rfl (Nat.le_of_ble_eq_true rfl) ⟨Nat.zero_le _, Nat.zero_le _⟩ ?_
                  intro v0 w0 hq
                  obtain ⟨rfl, rfl⟩ := hq
                  refine ⟨rfl, [[cO x0 6 [.ref (a 0), .ref h0, .ref o0, .ref u0, .ref e8, .ref e9]], stW G a c2_306 F2_306, [cO h0 0 [.ref h1, vI ps2_306]], [cQ h1 G.2.1.2.2.2.1 5 Q2_306], stW G (S 0) (cs2_306 0) (Fs2_306 0), stW G (S 1) (cs2_306 1) (Fs2_306 1), stW G (S 2) (cs2_306 2) (Fs2_306 2), stW G (S 3) (cs2_306 3) (Fs2_306 3), stW G (S 4) (cs2_306 4) (Fs2_306 4), [cA g0 G.2.1.1 18 (uZ (uZ f (100 * b + r + 17) 1) 5 (f 5 + 1))], [cLg r0 G.2.1.2.2.2.2 64 lr], [cLg m0 G.2.1.2.2.2.2 2 (uLg lm b ((lm b) ||| (1 * 2 ^ (r : Int).toNat)))]], (rfl : (12 : Nat) = 12), rfl, Eq.trans (b := ([[cO x0 6 [.ref (a 0), .ref h0, .ref o0, .ref u0, .ref e8, .ref e9]], stW G a c2_306 F2_306, [cO h0 0 [.ref h1, vI ps2_306]], [cQ h1 G.2.1.2.2.2.1 5 Q2_306], stW G (S 0) (cs2_306 0) (Fs2_306 0), stW G (S 1) (cs2_306 1) (Fs2_306 1), stW G (S 2) (cs2_306 2) (Fs2_306 2), stW G (S 3) (cs2_306 3) (Fs2_306 3), stW G (S 4) (cs2_306 4) (Fs2_306 4), [cA g0 G.2.1.1 18 (uZ (uZ f (100 * b + r + 17) 1) 5 (f 5 + 1))], [cLg r0 G.2.1.2.2.2.2 64 lr], [cLg m0 G.2.1.2.2.2.2 2 (uLg lm b ((lm b) ||| (1 * 2 ^ (r : Int).toNat)))]] : List va_W)) rfl rfl, ?_⟩
                  show fSt l G X 0 0 316 [(10, vI r), (9, vI 0), (8, vI (12 + (3 * b))), (7, vI b), (6, vI way), (5, vI y), (0, .ref x0), (1, .ref g0), (2, .ref r0), (3, .ref m0), (4, vI zz)] [vI ((pcN 62 ((lm b) ||| (1 * 2 ^ (r : Int).toNat)) : Nat) : Int), vI ((pcN 62 (lm b ||| 1 * 2 ^ (r : Int).toNat) : Nat) : Int)] ([[cO x0 6 [.ref (a 0), .ref h0, .ref o0, .ref u0, .ref e8, .ref e9]], stW G a c2_306 F2_306, [cO h0 0 [.ref h1, vI ps2_306]], [cQ h1 G.2.1.2.2.2.1 5 Q2_306], stW G (S 0) (cs2_306 0) (Fs2_306 0), stW G (S 1) (cs2_306 1) (Fs2_306 1), stW G (S 2) (cs2_306 2) (Fs2_306 2), stW G (S 3) (cs2_306 3) (Fs2_306 3), stW G (S 4) (cs2_306 4) (Fs2_306 4), [cA g0 G.2.1.1 18 (uZ (uZ f (100 * b + r + 17) 1) 5 (f 5 + 1))], [cLg r0 G.2.1.2.2.2.2 64 lr], [cLg m0 G.2.1.2.2.2.2 2 (uLg lm b ((lm b) ||| (1 * 2 ^ (r : Int).toNat)))]] : List va_W).flatten
                  refine s_icmp_ne 323 C dL_acts_316 (by decide) pcN_rg pcN_rg (fun h_316 => ?_) (fun h_316 => ?_)
                  · refine s_iconst C dL_acts_323 ?_
                    exact s_zret C E dL_acts_324 rfl ⟨c2_306, F2_306, ps2_306, Q2_306, cs2_306, Fs2_306, p2_306, (uZ (uZ f (100 * b + r + 17) 1) 5 (f 5 + 1)), P2_306, lr, (uLg lm b ((lm b) ||| (1 * 2 ^ (r : Int).toNat))), (congrArg (fun z => some (vI z)) (by omega)), rfl, hq0_306, hN9, (hq2_306.mono (by omega))⟩
                  · refine s_iconst C dL_acts_319 ?_
                    refine s_goto 324 C dL_acts_320 (by decide) ?_
                    exact s_zret C E dL_acts_324 rfl ⟨c2_306, F2_306, ps2_306, Q2_306, cs2_306, Fs2_306, p2_306, (uZ (uZ f (100 * b + r + 17) 1) 5 (f 5 + 1)), P2_306, lr, (uLg lm b ((lm b) ||| (1 * 2 ^ (r : Int).toNat))), rfl, rfl, hq0_306, hN9, (hq2_306.mono (by omega))⟩
                · have h_261 := lcZ_0.mp h_261
                  refine s_aload_n 0 C dL_acts_264 rfl 6 rfl ?_
                  refine s_iload C dL_acts_265 3 rfl ?_
                  refine s_iload C dL_acts_267 0 rfl ?_
                  refine s_callVQ (As := [vI b, vI r]) (rest := []) (segs := [[cO x0 6 [.ref (a 0), .ref h0, .ref o0, .ref u0, .ref e8, .ref e9]], stW G a c F, [cO h0 0 [.ref h1, vI ps]], [cQ h1 G.2.1.2.2.2.1 5 Q], stW G (S 0) (cs 0) (Fs 0), stW G (S 1) (cs 1) (Fs 1), stW G (S 2) (cs 2) (Fs 2), stW G (S 3) (cs 3) (Fs 3), stW G (S 4) (cs 4) (Fs 4), [cA g0 G.2.1.1 18 f], [cLg r0 G.2.1.2.2.2.2 64 lr], [cLg m0 G.2.1.2.2.2.2 2 lm]]) C dL_acts_269 (c_X6_lose l G x0 h0 h1 (.ref o0) (.ref u0) (.ref e8) (.ref e9) ps Q S cs Fs p a c F B f P b r (by first | assumption | omega) hI hBB hH (by first | assumption | omega) (by first | assumption | omega)) gL_acts_X6_lose rfl 2 (by decide +kernel) (by decide) 6 rfl rfl 0 _ rfl rfl [0, 2, 3, 4, 5, 6, 7, 8, 1] [9, 10, 11] 12 (rfl : (12 : Nat) = 12) (by decide +kernel) rfl rfl (Nat.le_of_ble_eq_true rfl) ⟨Nat.zero_le _, Nat.zero_le _⟩ ?_
                  intro v0 w0 hq
                  obtain ⟨z_269, f2_269, c2_269, F2_269, ps2_269, P2_269, Q2_269, cs2_269, Fs2_269, p2_269, rfl, rfl, hq0_269, hq1_269, hq2_269, hq3_269, hq4_269⟩ := hq
                  refine ⟨(fst_f (fst_c rfl (fst_c (fst_k rfl) (fst_c (fst_k rfl) (fst_c stW_fst (fst_c stW_fst (fst_c stW_fst (fst_c stW_fst (fst_c stW_fst (fst_c stW_fst rfl)))))))))), [[cO x0 6 [.ref (a 0), .ref h0, .ref o0, .ref u0, .ref e8, .ref e9]], stW G a c2_269 F2_269, [cO h0 0 [.ref h1, vI ps2_269]], [cQ h1 G.2.1.2.2.2.1 5 Q2_269], stW G (S 0) (cs2_269 0) (Fs2_269 0), stW G (S 1) (cs2_269 1) (Fs2_269 1), stW G (S 2) (cs2_269 2) (Fs2_269 2), stW G (S 3) (cs2_269 3) (Fs2_269 3), stW G (S 4) (cs2_269 4) (Fs2_269 4), [cA g0 G.2.1.1 18 f], [cLg r0 G.2.1.2.2.2.2 64 lr], [cLg m0 G.2.1.2.2.2.2 2 lm]], (rfl : (12 : Nat) = 12), rfl, Eq.trans (b := ([[cA g0 G.2.1.1 18 f], [cLg r0 G.2.1.2.2.2.2 64 lr], [cLg m0 G.2.1.2.2.2.2 2 lm]] : List va_W)) rfl rfl, ?_⟩
                  show fSt l G X 0 0 272 [(10, vI r), (9, vI 0), (8, vI (12 + (3 * b))), (7, vI b), (6, vI way), (5, vI y), (0, .ref x0), (1, .ref g0), (2, .ref r0), (3, .ref m0), (4, vI zz)] [vI z_269] ([[cO x0 6 [.ref (a 0), .ref h0, .ref o0, .ref u0, .ref e8, .ref e9]], stW G a c2_269 F2_269, [cO h0 0 [.ref h1, vI ps2_269]], [cQ h1 G.2.1.2.2.2.1 5 Q2_269], stW G (S 0) (cs2_269 0) (Fs2_269 0), stW G (S 1) (cs2_269 1) (Fs2_269 1), stW G (S 2) (cs2_269 2) (Fs2_269 2), stW G (S 3) (cs2_269 3) (Fs2_269 3), stW G (S 4) (cs2_269 4) (Fs2_269 4), [cA g0 G.2.1.1 18 f], [cLg r0 G.2.1.2.2.2.2 64 lr], [cLg m0 G.2.1.2.2.2.2 2 lm]] : List va_W).flatten
                  obtain ⟨hE9, hN9⟩ := X_lose_no (r := r) hP hL hq_b (by omega) (by omega)
                  obtain ⟨hz, hf⟩ := Prod.mk.inj (hq1_269.trans hE9)
                  have hz := hz.symm
                  have hf := hf.symm
                  subst hz
                  subst hf
                  refine s_ldc (z := -1000002) C (by decide +kernel) dL_acts_272 ?_
                  refine s_icmp_ne 281 C dL_acts_274 (by decide) (by decide) (by decide) (fun h => absurd h (by decide)) (fun h => ?_)
                  refine s_iconst C dL_acts_277 ?_
                  refine s_goto 282 C dL_acts_278 (by decide) ?_
                  exact s_zret C E dL_acts_282 rfl ⟨c2_269, F2_269, ps2_269, Q2_269, cs2_269, Fs2_269, p2_269, f, P2_269, lr, lm, rfl, rfl, hq0_269, hN9, (hq2_269.mono (by omega))⟩
          · refine s_aload_n 0 C dL_acts_207 rfl 6 rfl ?_
            refine s_iload C dL_acts_208 3 rfl ?_
            refine s_iconst C dL_acts_210 ?_
            refine s_callVQ (As := [vI b, vI 0]) (rest := []) (segs := [[cO x0 6 [.ref (a 0), .ref h0, .ref o0, .ref u0, .ref e8, .ref e9]], stW G a c F, [cO h0 0 [.ref h1, vI ps]], [cQ h1 G.2.1.2.2.2.1 5 Q], stW G (S 0) (cs 0) (Fs 0), stW G (S 1) (cs 1) (Fs 1), stW G (S 2) (cs 2) (Fs 2), stW G (S 3) (cs 3) (Fs 3), stW G (S 4) (cs 4) (Fs 4), [cA g0 G.2.1.1 18 f], [cLg r0 G.2.1.2.2.2.2 64 lr], [cLg m0 G.2.1.2.2.2.2 2 lm]]) C dL_acts_211 (c_X6_lose l G x0 h0 h1 (.ref o0) (.ref u0) (.ref e8) (.ref e9) ps Q S cs Fs p a c F B f P b 0 (by first | assumption | omega) hI hBB hH (by first | assumption | omega) (by first | assumption | omega)) gL_acts_X6_lose rfl 2 (by decide +kernel) (by decide) 6 rfl rfl 0 _ rfl rfl [0, 2, 3, 4, 5, 6, 7, 8, 1] [9, 10, 11] 12 (rfl : (12 : Nat) = 12) (by decide +kernel) rfl rfl (Nat.le_of_ble_eq_true rfl) ⟨Nat.zero_le _, Nat.zero_le _⟩ ?_
            intro v0 w0 hq
            obtain ⟨z_211, f2_211, c2_211, F2_211, ps2_211, P2_211, Q2_211, cs2_211, Fs2_211, p2_211, rfl, rfl, hq0_211, hq1_211, hq2_211, hq3_211, hq4_211⟩ := hq
            refine ⟨(fst_f (fst_c rfl (fst_c (fst_k rfl) (fst_c (fst_k rfl) (fst_c stW_fst (fst_c stW_fst (fst_c stW_fst (fst_c stW_fst (fst_c stW_fst (fst_c stW_fst rfl)))))))))), [[cO x0 6 [.ref (a 0), .ref h0, .ref o0, .ref u0, .ref e8, .ref e9]], stW G a c2_211 F2_211, [cO h0 0 [.ref h1, vI ps2_211]], [cQ h1 G.2.1.2.2.2.1 5 Q2_211], stW G (S 0) (cs2_211 0) (Fs2_211 0), stW G (S 1) (cs2_211 1) (Fs2_211 1), stW G (S 2) (cs2_211 2) (Fs2_211 2), stW G (S 3) (cs2_211 3) (Fs2_211 3), stW G (S 4) (cs2_211 4) (Fs2_211 4), [cA g0 G.2.1.1 18 f], [cLg r0 G.2.1.2.2.2.2 64 lr], [cLg m0 G.2.1.2.2.2.2 2 lm]], (rfl : (12 : Nat) = 12), rfl, Eq.trans (b := ([[cA g0 G.2.1.1 18 f], [cLg r0 G.2.1.2.2.2.2 64 lr], [cLg m0 G.2.1.2.2.2.2 2 lm]] : List va_W)) rfl rfl, ?_⟩
            show fSt l G X 0 0 214 [(10, vI r), (9, vI 0), (8, vI (12 + (3 * b))), (7, vI b), (6, vI way), (5, vI y), (0, .ref x0), (1, .ref g0), (2, .ref r0), (3, .ref m0), (4, vI zz)] [vI z_211] ([[cO x0 6 [.ref (a 0), .ref h0, .ref o0, .ref u0, .ref e8, .ref e9]], stW G a c2_211 F2_211, [cO h0 0 [.ref h1, vI ps2_211]], [cQ h1 G.2.1.2.2.2.1 5 Q2_211], stW G (S 0) (cs2_211 0) (Fs2_211 0), stW G (S 1) (cs2_211 1) (Fs2_211 1), stW G (S 2) (cs2_211 2) (Fs2_211 2), stW G (S 3) (cs2_211 3) (Fs2_211 3), stW G (S 4) (cs2_211 4) (Fs2_211 4), [cA g0 G.2.1.1 18 f], [cLg r0 G.2.1.2.2.2.2 64 lr], [cLg m0 G.2.1.2.2.2.2 2 lm]] : List va_W).flatten
            obtain ⟨hE9, hN9⟩ := X_lose_0 (b := b) hP hL
            obtain ⟨hz, hf⟩ := Prod.mk.inj (hq1_211.trans hE9)
            have hz := hz.symm
            have hf := hf.symm
            subst hz
            subst hf
            refine s_ldc (z := -1000001) C (by decide +kernel) dL_acts_214 ?_
            refine s_icmp_ne 223 C dL_acts_216 (by decide) (by decide) (by decide) (fun h => absurd h (by decide)) (fun h => ?_)
            refine s_iconst C dL_acts_219 ?_
            refine s_goto 224 C dL_acts_220 (by decide) ?_
            exact s_zret C E dL_acts_224 rfl ⟨c2_211, F2_211, ps2_211, Q2_211, cs2_211, Fs2_211, p2_211, f, P2_211, lr, lm, rfl, rfl, hq0_211, hN9, (hq2_211.mono (by omega))⟩
      · refine s_iconst C dL_acts_77 ?_
        refine s_iload C dL_acts_78 4 rfl ?_
        refine s_iconst C dL_acts_80 ?_
        refine s_idiv C dL_acts_81 (by omega) (by omega) ?_
        refine s_iload C dL_acts_82 4 rfl ?_
        refine s_iconst C dL_acts_84 ?_
        refine s_irem C dL_acts_85 (by omega) (by omega) ?_
        refine s_if_ne 94 C dL_acts_86 (by decide) (by omega) (fun h_86 => ?_) (fun h_86 => ?_)
        · refine s_bipush (z := 6) C dL_acts_94 rfl ?_
          refine s_irem C dL_acts_96 (by omega) (by omega) ?_
          refine s_iadd C dL_acts_97 ?_
          obtain ⟨mn, hv_mn, hq_mn⟩ : ∃ mn : Int, mn = 1 + ((y / 2) % 6) ∧ (1 ≤ mn ∧ mn ≤ 20) := ⟨_, rfl, by omega⟩
          refine s_top mn hv_mn.symm ?_
          refine s_istore [(10, vI mn), (9, vI 0), (8, vI (12 + (3 * b))), (7, vI b), (6, vI way), (5, vI y), (0, .ref x0), (1, .ref g0), (2, .ref r0), (3, .ref m0), (4, vI zz)] C dL_acts_98 (by decide) rfl ?_
          refine s_iload C dL_acts_100 1 rfl ?_
          refine s_if_eq 124 C dL_acts_102 (by decide) (by decide) (fun h => ?_) (fun h => absurd h (by decide))
          refine s_aload_n 1 C dL_acts_124 rfl 7 rfl ?_
          refine s_iconst C dL_acts_125 ?_
          refine s_iald C dL_acts_126 75 rfl 0 rfl (by omega) (by omega) (by omega) ?_
          refine s_aload_n 1 C dL_acts_127 rfl 7 rfl ?_
          refine s_iload C dL_acts_128 2 rfl ?_
          refine s_iald C dL_acts_130 75 rfl (3 * b + 12) (by omega) (by omega) (by omega) (by omega) ?_
          refine s_isub C dL_acts_131 ?_
          refine s_iload C dL_acts_132 0 rfl ?_
          refine s_icmp_ge 148 C dL_acts_134 (by decide) (by omega) (by omega) (fun h_134 => ?_) (fun h_134 => ?_)
          · refine s_iload C dL_acts_148 0 rfl ?_
            refine s_istore [(11, vI mn), (10, vI mn), (9, vI 0), (8, vI (12 + (3 * b))), (7, vI b), (6, vI way), (5, vI y), (0, .ref x0), (1, .ref g0), (2, .ref r0), (3, .ref m0), (4, vI zz)] C dL_acts_150 (by decide) rfl ?_
            refine s_aload_n 1 C dL_acts_152 rfl 8 rfl ?_
            refine s_iload C dL_acts_153 3 rfl ?_
            refine s_dup2 C dL_acts_155 rfl rfl ?_
            refine s_iald C dL_acts_156 75 rfl (3 * b + 12) (by omega) (by omega) (by omega) (by omega) ?_
            refine s_iload C dL_acts_157 0 rfl ?_
            refine s_iadd C dL_acts_159 ?_
            refine s_iast ([[cO x0 6 [.ref (a 0), .ref h0, .ref o0, .ref u0, .ref e8, .ref e9]], stW G a c F, [cO h0 0 [.ref h1, vI ps]], [cQ h1 G.2.1.2.2.2.1 5 Q], stW G (S 0) (cs 0) (Fs 0), stW G (S 1) (cs 1) (Fs 1), stW G (S 2) (cs 2) (Fs 2), stW G (S 3) (cs 3) (Fs 3), stW G (S 4) (cs 4) (Fs 4), [cA g0 G.2.1.1 18 (uZ f (3 * b + 12) ((f (3 * b + 12)) + mn))], [cLg r0 G.2.1.2.2.2.2 64 lr], [cLg m0 G.2.1.2.2.2.2 2 lm]] : List va_W).flatten C dL_acts_160 75 rfl (3 * b + 12) (by omega) (by omega) (by omega) (by omega) rfl ?_
            refine s_aload_n 0 C dL_acts_161 rfl 7 rfl ?_
            refine s_iload C dL_acts_162 4 rfl ?_
            refine s_iload C dL_acts_164 1 rfl ?_
            refine s_callVQ (As := [vI b, vI mn]) (rest := []) (segs := [[cO x0 6 [.ref (a 0), .ref h0, .ref o0, .ref u0, .ref e8, .ref e9]], stW G a c F, [cO h0 0 [.ref h1, vI ps]], [cQ h1 G.2.1.2.2.2.1 5 Q], stW G (S 0) (cs 0) (Fs 0), stW G (S 1) (cs 1) (Fs 1), stW G (S 2) (cs 2) (Fs 2), stW G (S 3) (cs 3) (Fs 3), stW G (S 4) (cs 4) (Fs 4), [cA g0 G.2.1.1 18 (uZ f (3 * b + 12) ((f (3 * b + 12)) + mn))], [cLg r0 G.2.1.2.2.2.2 64 lr], [cLg m0 G.2.1.2.2.2.2 2 lm]]) C dL_acts_166 (c_X6_ship l G x0 h0 h1 (.ref o0) (.ref u0) (.ref e8) (.ref e9) ps Q S cs Fs p a c F B f P b mn (by first | assumption | omega) hI hBB hH (by first | assumption | omega) (by first | assumption | omega)) gL_acts_X6_ship rfl 2 (by decide +kernel) (by decide) 6 rfl rfl 0 _ rfl rfl [0, 2, 3, 4, 5, 6, 7, 8, 1] [9, 10, 11] 12 (rfl : (12 : Nat) = 12) (by decide +kernel) rfl rfl (Nat.le_of_ble_eq_true rfl) ⟨Nat.zero_le _, Nat.zero_le _⟩ ?_
            intro v0 w0 hq
            obtain ⟨z_166, f2_166, c2_166, F2_166, ps2_166, P2_166, Q2_166, cs2_166, Fs2_166, p2_166, rfl, rfl, hq0_166, hq1_166, hq2_166, hq3_166, hq4_166⟩ := hq
            refine ⟨(fst_f (fst_c rfl (fst_c (fst_k rfl) (fst_c (fst_k rfl) (fst_c stW_fst (fst_c stW_fst (fst_c stW_fst (fst_c stW_fst (fst_c stW_fst (fst_c stW_fst rfl)))))))))), [[cO x0 6 [.ref (a 0), .ref h0, .ref o0, .ref u0, .ref e8, .ref e9]], stW G a c2_166 F2_166, [cO h0 0 [.ref h1, vI ps2_166]], [cQ h1 G.2.1.2.2.2.1 5 Q2_166], stW G (S 0) (cs2_166 0) (Fs2_166 0), stW G (S 1) (cs2_166 1) (Fs2_166 1), stW G (S 2) (cs2_166 2) (Fs2_166 2), stW G (S 3) (cs2_166 3) (Fs2_166 3), stW G (S 4) (cs2_166 4) (Fs2_166 4), [cA g0 G.2.1.1 18 (uZ f (3 * b + 12) ((f (3 * b + 12)) + mn))], [cLg r0 G.2.1.2.2.2.2 64 lr], [cLg m0 G.2.1.2.2.2.2 2 lm]], (rfl : (12 : Nat) = 12), rfl, Eq.trans (b := ([[cA g0 G.2.1.1 18 (uZ f (3 * b + 12) ((f (3 * b + 12)) + mn))], [cLg r0 G.2.1.2.2.2.2 64 lr], [cLg m0 G.2.1.2.2.2.2 2 lm]] : List va_W)) rfl rfl, ?_⟩
            show fSt l G X 0 0 169 [(11, vI mn), (10, vI mn), (9, vI 0), (8, vI (12 + (3 * b))), (7, vI b), (6, vI way), (5, vI y), (0, .ref x0), (1, .ref g0), (2, .ref r0), (3, .ref m0), (4, vI zz)] [vI z_166] ([[cO x0 6 [.ref (a 0), .ref h0, .ref o0, .ref u0, .ref e8, .ref e9]], stW G a c2_166 F2_166, [cO h0 0 [.ref h1, vI ps2_166]], [cQ h1 G.2.1.2.2.2.1 5 Q2_166], stW G (S 0) (cs2_166 0) (Fs2_166 0), stW G (S 1) (cs2_166 1) (Fs2_166 1), stW G (S 2) (cs2_166 2) (Fs2_166 2), stW G (S 3) (cs2_166 3) (Fs2_166 3), stW G (S 4) (cs2_166 4) (Fs2_166 4), [cA g0 G.2.1.1 18 (uZ f (3 * b + 12) ((f (3 * b + 12)) + mn))], [cLg r0 G.2.1.2.2.2.2 64 lr], [cLg m0 G.2.1.2.2.2.2 2 lm]] : List va_W).flatten
            obtain ⟨hE9, hN9⟩ := X_ship (s := mn) hP hL hq_b hq_mn (by omega) (by split <;> omega)
            obtain ⟨hz, hf⟩ := Prod.mk.inj (hq1_166.trans hE9)
            have hz := hz.symm
            have hf := hf.symm
            subst hz
            subst hf
            refine s_iload C dL_acts_169 0 rfl ?_
            refine s_icmp_ne 178 C dL_acts_171 (by decide) (by omega) (by omega) (fun h => absurd (by omega) h) (fun _ => ?_)
            refine s_iconst C dL_acts_174 ?_
            refine s_goto 179 C dL_acts_175 (by decide) ?_
            exact s_zret C E dL_acts_179 rfl ⟨c2_166, F2_166, ps2_166, Q2_166, cs2_166, Fs2_166, p2_166, (uZ f (3 * b + 12) (f (3 * b + 12) + mn)), P2_166, lr, lm, rfl, rfl, hq0_166, hN9, (hq2_166.mono (by omega))⟩
          · refine s_aload_n 1 C dL_acts_137 rfl 7 rfl ?_
            refine s_iconst C dL_acts_138 ?_
            refine s_iald C dL_acts_139 75 rfl 0 rfl (by omega) (by omega) (by omega) ?_
            refine s_aload_n 1 C dL_acts_140 rfl 7 rfl ?_
            refine s_iload C dL_acts_141 2 rfl ?_
            refine s_iald C dL_acts_143 75 rfl (3 * b + 12) (by omega) (by omega) (by omega) (by omega) ?_
            refine s_isub C dL_acts_144 ?_
            refine s_goto 150 C dL_acts_145 (by decide) ?_
            refine s_istore [(11, vI ((f 0) - (f (3 * b + 12)))), (10, vI mn), (9, vI 0), (8, vI (12 + (3 * b))), (7, vI b), (6, vI way), (5, vI y), (0, .ref x0), (1, .ref g0), (2, .ref r0), (3, .ref m0), (4, vI zz)] C dL_acts_150 (by decide) rfl ?_
            refine s_aload_n 1 C dL_acts_152 rfl 8 rfl ?_
            refine s_iload C dL_acts_153 3 rfl ?_
            refine s_dup2 C dL_acts_155 rfl rfl ?_
            refine s_iald C dL_acts_156 75 rfl (3 * b + 12) (by omega) (by omega) (by omega) (by omega) ?_
            refine s_iload C dL_acts_157 0 rfl ?_
            refine s_iadd C dL_acts_159 ?_
            refine s_iast ([[cO x0 6 [.ref (a 0), .ref h0, .ref o0, .ref u0, .ref e8, .ref e9]], stW G a c F, [cO h0 0 [.ref h1, vI ps]], [cQ h1 G.2.1.2.2.2.1 5 Q], stW G (S 0) (cs 0) (Fs 0), stW G (S 1) (cs 1) (Fs 1), stW G (S 2) (cs 2) (Fs 2), stW G (S 3) (cs 3) (Fs 3), stW G (S 4) (cs 4) (Fs 4), [cA g0 G.2.1.1 18 (uZ f (3 * b + 12) ((f (3 * b + 12)) + ((f 0) - (f (3 * b + 12)))))], [cLg r0 G.2.1.2.2.2.2 64 lr], [cLg m0 G.2.1.2.2.2.2 2 lm]] : List va_W).flatten C dL_acts_160 75 rfl (3 * b + 12) (by omega) (by omega) (by omega) (by omega) rfl ?_
            refine s_aload_n 0 C dL_acts_161 rfl 7 rfl ?_
            refine s_iload C dL_acts_162 4 rfl ?_
            refine s_iload C dL_acts_164 1 rfl ?_
            refine s_callVQ (As := [vI b, vI mn]) (rest := []) (segs := [[cO x0 6 [.ref (a 0), .ref h0, .ref o0, .ref u0, .ref e8, .ref e9]], stW G a c F, [cO h0 0 [.ref h1, vI ps]], [cQ h1 G.2.1.2.2.2.1 5 Q], stW G (S 0) (cs 0) (Fs 0), stW G (S 1) (cs 1) (Fs 1), stW G (S 2) (cs 2) (Fs 2), stW G (S 3) (cs 3) (Fs 3), stW G (S 4) (cs 4) (Fs 4), [cA g0 G.2.1.1 18 (uZ f (3 * b + 12) ((f (3 * b + 12)) + ((f 0) - (f (3 * b + 12)))))], [cLg r0 G.2.1.2.2.2.2 64 lr], [cLg m0 G.2.1.2.2.2.2 2 lm]]) C dL_acts_166 (c_X6_ship l G x0 h0 h1 (.ref o0) (.ref u0) (.ref e8) (.ref e9) ps Q S cs Fs p a c F B f P b mn (by first | assumption | omega) hI hBB hH (by first | assumption | omega) (by first | assumption | omega)) gL_acts_X6_ship rfl 2 (by decide +kernel) (by decide) 6 rfl rfl 0 _ rfl rfl [0, 2, 3, 4, 5, 6, 7, 8, 1] [9, 10, 11] 12 (rfl : (12 : Nat) = 12) (by decide +kernel) rfl rfl (Nat.le_of_ble_eq_true rfl) ⟨Nat.zero_le _, Nat.zero_le _⟩ ?_
            intro v0 w0 hq
            obtain ⟨z_166, f2_166, c2_166, F2_166, ps2_166, P2_166, Q2_166, cs2_166, Fs2_166, p2_166, rfl, rfl, hq0_166, hq1_166, hq2_166, hq3_166, hq4_166⟩ := hq
            refine ⟨(fst_f (fst_c rfl (fst_c (fst_k rfl) (fst_c (fst_k rfl) (fst_c stW_fst (fst_c stW_fst (fst_c stW_fst (fst_c stW_fst (fst_c stW_fst (fst_c stW_fst rfl)))))))))), [[cO x0 6 [.ref (a 0), .ref h0, .ref o0, .ref u0, .ref e8, .ref e9]], stW G a c2_166 F2_166, [cO h0 0 [.ref h1, vI ps2_166]], [cQ h1 G.2.1.2.2.2.1 5 Q2_166], stW G (S 0) (cs2_166 0) (Fs2_166 0), stW G (S 1) (cs2_166 1) (Fs2_166 1), stW G (S 2) (cs2_166 2) (Fs2_166 2), stW G (S 3) (cs2_166 3) (Fs2_166 3), stW G (S 4) (cs2_166 4) (Fs2_166 4), [cA g0 G.2.1.1 18 (uZ f (3 * b + 12) ((f (3 * b + 12)) + ((f 0) - (f (3 * b + 12)))))], [cLg r0 G.2.1.2.2.2.2 64 lr], [cLg m0 G.2.1.2.2.2.2 2 lm]], (rfl : (12 : Nat) = 12), rfl, Eq.trans (b := ([[cA g0 G.2.1.1 18 (uZ f (3 * b + 12) ((f (3 * b + 12)) + ((f 0) - (f (3 * b + 12)))))], [cLg r0 G.2.1.2.2.2.2 64 lr], [cLg m0 G.2.1.2.2.2.2 2 lm]] : List va_W)) rfl rfl, ?_⟩
            show fSt l G X 0 0 169 [(11, vI ((f 0) - (f (3 * b + 12)))), (10, vI mn), (9, vI 0), (8, vI (12 + (3 * b))), (7, vI b), (6, vI way), (5, vI y), (0, .ref x0), (1, .ref g0), (2, .ref r0), (3, .ref m0), (4, vI zz)] [vI z_166] ([[cO x0 6 [.ref (a 0), .ref h0, .ref o0, .ref u0, .ref e8, .ref e9]], stW G a c2_166 F2_166, [cO h0 0 [.ref h1, vI ps2_166]], [cQ h1 G.2.1.2.2.2.1 5 Q2_166], stW G (S 0) (cs2_166 0) (Fs2_166 0), stW G (S 1) (cs2_166 1) (Fs2_166 1), stW G (S 2) (cs2_166 2) (Fs2_166 2), stW G (S 3) (cs2_166 3) (Fs2_166 3), stW G (S 4) (cs2_166 4) (Fs2_166 4), [cA g0 G.2.1.1 18 (uZ f (3 * b + 12) ((f (3 * b + 12)) + ((f 0) - (f (3 * b + 12)))))], [cLg r0 G.2.1.2.2.2.2 64 lr], [cLg m0 G.2.1.2.2.2.2 2 lm]] : List va_W).flatten
            obtain ⟨hE9, hN9⟩ := X_ship (s := (f 0) - (f (3 * b + 12))) hP hL hq_b hq_mn (by omega) (by split <;> omega)
            obtain ⟨hz, hf⟩ := Prod.mk.inj (hq1_166.trans hE9)
            have hz := hz.symm
            have hf := hf.symm
            subst hz
            subst hf
            refine s_iload C dL_acts_169 0 rfl ?_
            refine s_icmp_ne 178 C dL_acts_171 (by decide) (by omega) (by omega) (fun h => absurd (by omega) h) (fun _ => ?_)
            refine s_iconst C dL_acts_174 ?_
            refine s_goto 179 C dL_acts_175 (by decide) ?_
            exact s_zret C E dL_acts_179 rfl ⟨c2_166, F2_166, ps2_166, Q2_166, cs2_166, Fs2_166, p2_166, (uZ f (3 * b + 12) (f (3 * b + 12) + ((f 0) - (f (3 * b + 12))))), P2_166, lr, lm, rfl, rfl, hq0_166, hN9, (hq2_166.mono (by omega))⟩
        · refine s_bipush (z := 20) C dL_acts_89 rfl ?_
          refine s_goto 96 C dL_acts_91 (by decide) ?_
          refine s_irem C dL_acts_96 (by omega) (by omega) ?_
          refine s_iadd C dL_acts_97 ?_
          obtain ⟨mn, hv_mn, hq_mn⟩ : ∃ mn : Int, mn = 1 + ((y / 2) % 20) ∧ (1 ≤ mn ∧ mn ≤ 20) := ⟨_, rfl, by omega⟩
          refine s_top mn hv_mn.symm ?_
          refine s_istore [(10, vI mn), (9, vI 0), (8, vI (12 + (3 * b))), (7, vI b), (6, vI way), (5, vI y), (0, .ref x0), (1, .ref g0), (2, .ref r0), (3, .ref m0), (4, vI zz)] C dL_acts_98 (by decide) rfl ?_
          refine s_iload C dL_acts_100 1 rfl ?_
          refine s_if_eq 124 C dL_acts_102 (by decide) (by decide) (fun h => ?_) (fun h => absurd h (by decide))
          refine s_aload_n 1 C dL_acts_124 rfl 7 rfl ?_
          refine s_iconst C dL_acts_125 ?_
          refine s_iald C dL_acts_126 75 rfl 0 rfl (by omega) (by omega) (by omega) ?_
          refine s_aload_n 1 C dL_acts_127 rfl 7 rfl ?_
          refine s_iload C dL_acts_128 2 rfl ?_
          refine s_iald C dL_acts_130 75 rfl (3 * b + 12) (by omega) (by omega) (by omega) (by omega) ?_
          refine s_isub C dL_acts_131 ?_
          refine s_iload C dL_acts_132 0 rfl ?_
          refine s_icmp_ge 148 C dL_acts_134 (by decide) (by omega) (by omega) (fun h_134 => ?_) (fun h_134 => ?_)
          · refine s_iload C dL_acts_148 0 rfl ?_
            refine s_istore [(11, vI mn), (10, vI mn), (9, vI 0), (8, vI (12 + (3 * b))), (7, vI b), (6, vI way), (5, vI y), (0, .ref x0), (1, .ref g0), (2, .ref r0), (3, .ref m0), (4, vI zz)] C dL_acts_150 (by decide) rfl ?_
            refine s_aload_n 1 C dL_acts_152 rfl 8 rfl ?_
            refine s_iload C dL_acts_153 3 rfl ?_
            refine s_dup2 C dL_acts_155 rfl rfl ?_
            refine s_iald C dL_acts_156 75 rfl (3 * b + 12) (by omega) (by omega) (by omega) (by omega) ?_
            refine s_iload C dL_acts_157 0 rfl ?_
            refine s_iadd C dL_acts_159 ?_
            refine s_iast ([[cO x0 6 [.ref (a 0), .ref h0, .ref o0, .ref u0, .ref e8, .ref e9]], stW G a c F, [cO h0 0 [.ref h1, vI ps]], [cQ h1 G.2.1.2.2.2.1 5 Q], stW G (S 0) (cs 0) (Fs 0), stW G (S 1) (cs 1) (Fs 1), stW G (S 2) (cs 2) (Fs 2), stW G (S 3) (cs 3) (Fs 3), stW G (S 4) (cs 4) (Fs 4), [cA g0 G.2.1.1 18 (uZ f (3 * b + 12) ((f (3 * b + 12)) + mn))], [cLg r0 G.2.1.2.2.2.2 64 lr], [cLg m0 G.2.1.2.2.2.2 2 lm]] : List va_W).flatten C dL_acts_160 75 rfl (3 * b + 12) (by omega) (by omega) (by omega) (by omega) rfl ?_
            refine s_aload_n 0 C dL_acts_161 rfl 7 rfl ?_
            refine s_iload C dL_acts_162 4 rfl ?_
            refine s_iload C dL_acts_164 1 rfl ?_
            refine s_callVQ (As := [vI b, vI mn]) (rest := []) (segs := [[cO x0 6 [.ref (a 0), .ref h0, .ref o0, .ref u0, .ref e8, .ref e9]], stW G a c F, [cO h0 0 [.ref h1, vI ps]], [cQ h1 G.2.1.2.2.2.1 5 Q], stW G (S 0) (cs 0) (Fs 0), stW G (S 1) (cs 1) (Fs 1), stW G (S 2) (cs 2) (Fs 2), stW G (S 3) (cs 3) (Fs 3), stW G (S 4) (cs 4) (Fs 4), [cA g0 G.2.1.1 18 (uZ f (3 * b + 12) ((f (3 * b + 12)) + mn))], [cLg r0 G.2.1.2.2.2.2 64 lr], [cLg m0 G.2.1.2.2.2.2 2 lm]]) C dL_acts_166 (c_X6_ship l G x0 h0 h1 (.ref o0) (.ref u0) (.ref e8) (.ref e9) ps Q S cs Fs p a c F B f P b mn (by first | assumption | omega) hI hBB hH (by first | assumption | omega) (by first | assumption | omega)) gL_acts_X6_ship rfl 2 (by decide +kernel) (by decide) 6 rfl rfl 0 _ rfl rfl [0, 2, 3, 4, 5, 6, 7, 8, 1] [9, 10, 11] 12 (rfl : (12 : Nat) = 12) (by decide +kernel) rfl rfl (Nat.le_of_ble_eq_true rfl) ⟨Nat.zero_le _, Nat.zero_le _⟩ ?_
            intro v0 w0 hq
            obtain ⟨z_166, f2_166, c2_166, F2_166, ps2_166, P2_166, Q2_166, cs2_166, Fs2_166, p2_166, rfl, rfl, hq0_166, hq1_166, hq2_166, hq3_166, hq4_166⟩ := hq
            refine ⟨(fst_f (fst_c rfl (fst_c (fst_k rfl) (fst_c (fst_k rfl) (fst_c stW_fst (fst_c stW_fst (fst_c stW_fst (fst_c stW_fst (fst_c stW_fst (fst_c stW_fst rfl)))))))))), [[cO x0 6 [.ref (a 0), .ref h0, .ref o0, .ref u0, .ref e8, .ref e9]], stW G a c2_166 F2_166, [cO h0 0 [.ref h1, vI ps2_166]], [cQ h1 G.2.1.2.2.2.1 5 Q2_166], stW G (S 0) (cs2_166 0) (Fs2_166 0), stW G (S 1) (cs2_166 1) (Fs2_166 1), stW G (S 2) (cs2_166 2) (Fs2_166 2), stW G (S 3) (cs2_166 3) (Fs2_166 3), stW G (S 4) (cs2_166 4) (Fs2_166 4), [cA g0 G.2.1.1 18 (uZ f (3 * b + 12) ((f (3 * b + 12)) + mn))], [cLg r0 G.2.1.2.2.2.2 64 lr], [cLg m0 G.2.1.2.2.2.2 2 lm]], (rfl : (12 : Nat) = 12), rfl, Eq.trans (b := ([[cA g0 G.2.1.1 18 (uZ f (3 * b + 12) ((f (3 * b + 12)) + mn))], [cLg r0 G.2.1.2.2.2.2 64 lr], [cLg m0 G.2.1.2.2.2.2 2 lm]] : List va_W)) rfl rfl, ?_⟩
            show fSt l G X 0 0 169 [(11, vI mn), (10, vI mn), (9, vI 0), (8, vI (12 + (3 * b))), (7, vI b), (6, vI way), (5, vI y), (0, .ref x0), (1, .ref g0), (2, .ref r0), (3, .ref m0), (4, vI zz)] [vI z_166] ([[cO x0 6 [.ref (a 0), .ref h0, .ref o0, .ref u0, .ref e8, .ref e9]], stW G a c2_166 F2_166, [cO h0 0 [.ref h1, vI ps2_166]], [cQ h1 G.2.1.2.2.2.1 5 Q2_166], stW G (S 0) (cs2_166 0) (Fs2_166 0), stW G (S 1) (cs2_166 1) (Fs2_166 1), stW G (S 2) (cs2_166 2) (Fs2_166 2), stW G (S 3) (cs2_166 3) (Fs2_166 3), stW G (S 4) (cs2_166 4) (Fs2_166 4), [cA g0 G.2.1.1 18 (uZ f (3 * b + 12) ((f (3 * b + 12)) + mn))], [cLg r0 G.2.1.2.2.2.2 64 lr], [cLg m0 G.2.1.2.2.2.2 2 lm]] : List va_W).flatten
            obtain ⟨hE9, hN9⟩ := X_ship (s := mn) hP hL hq_b hq_mn (by omega) (by split <;> omega)
            obtain ⟨hz, hf⟩ := Prod.mk.inj (hq1_166.trans hE9)
            have hz := hz.symm
            have hf := hf.symm
            subst hz
            subst hf
            refine s_iload C dL_acts_169 0 rfl ?_
            refine s_icmp_ne 178 C dL_acts_171 (by decide) (by omega) (by omega) (fun h => absurd (by omega) h) (fun _ => ?_)
            refine s_iconst C dL_acts_174 ?_
            refine s_goto 179 C dL_acts_175 (by decide) ?_
            exact s_zret C E dL_acts_179 rfl ⟨c2_166, F2_166, ps2_166, Q2_166, cs2_166, Fs2_166, p2_166, (uZ f (3 * b + 12) (f (3 * b + 12) + mn)), P2_166, lr, lm, rfl, rfl, hq0_166, hN9, (hq2_166.mono (by omega))⟩
          · refine s_aload_n 1 C dL_acts_137 rfl 7 rfl ?_
            refine s_iconst C dL_acts_138 ?_
            refine s_iald C dL_acts_139 75 rfl 0 rfl (by omega) (by omega) (by omega) ?_
            refine s_aload_n 1 C dL_acts_140 rfl 7 rfl ?_
            refine s_iload C dL_acts_141 2 rfl ?_
            refine s_iald C dL_acts_143 75 rfl (3 * b + 12) (by omega) (by omega) (by omega) (by omega) ?_
            refine s_isub C dL_acts_144 ?_
            refine s_goto 150 C dL_acts_145 (by decide) ?_
            refine s_istore [(11, vI ((f 0) - (f (3 * b + 12)))), (10, vI mn), (9, vI 0), (8, vI (12 + (3 * b))), (7, vI b), (6, vI way), (5, vI y), (0, .ref x0), (1, .ref g0), (2, .ref r0), (3, .ref m0), (4, vI zz)] C dL_acts_150 (by decide) rfl ?_
            refine s_aload_n 1 C dL_acts_152 rfl 8 rfl ?_
            refine s_iload C dL_acts_153 3 rfl ?_
            refine s_dup2 C dL_acts_155 rfl rfl ?_
            refine s_iald C dL_acts_156 75 rfl (3 * b + 12) (by omega) (by omega) (by omega) (by omega) ?_
            refine s_iload C dL_acts_157 0 rfl ?_
            refine s_iadd C dL_acts_159 ?_
            refine s_iast ([[cO x0 6 [.ref (a 0), .ref h0, .ref o0, .ref u0, .ref e8, .ref e9]], stW G a c F, [cO h0 0 [.ref h1, vI ps]], [cQ h1 G.2.1.2.2.2.1 5 Q], stW G (S 0) (cs 0) (Fs 0), stW G (S 1) (cs 1) (Fs 1), stW G (S 2) (cs 2) (Fs 2), stW G (S 3) (cs 3) (Fs 3), stW G (S 4) (cs 4) (Fs 4), [cA g0 G.2.1.1 18 (uZ f (3 * b + 12) ((f (3 * b + 12)) + ((f 0) - (f (3 * b + 12)))))], [cLg r0 G.2.1.2.2.2.2 64 lr], [cLg m0 G.2.1.2.2.2.2 2 lm]] : List va_W).flatten C dL_acts_160 75 rfl (3 * b + 12) (by omega) (by omega) (by omega) (by omega) rfl ?_
            refine s_aload_n 0 C dL_acts_161 rfl 7 rfl ?_
            refine s_iload C dL_acts_162 4 rfl ?_
            refine s_iload C dL_acts_164 1 rfl ?_
            refine s_callVQ (As := [vI b, vI mn]) (rest := []) (segs := [[cO x0 6 [.ref (a 0), .ref h0, .ref o0, .ref u0, .ref e8, .ref e9]], stW G a c F, [cO h0 0 [.ref h1, vI ps]], [cQ h1 G.2.1.2.2.2.1 5 Q], stW G (S 0) (cs 0) (Fs 0), stW G (S 1) (cs 1) (Fs 1), stW G (S 2) (cs 2) (Fs 2), stW G (S 3) (cs 3) (Fs 3), stW G (S 4) (cs 4) (Fs 4), [cA g0 G.2.1.1 18 (uZ f (3 * b + 12) ((f (3 * b + 12)) + ((f 0) - (f (3 * b + 12)))))], [cLg r0 G.2.1.2.2.2.2 64 lr], [cLg m0 G.2.1.2.2.2.2 2 lm]]) C dL_acts_166 (c_X6_ship l G x0 h0 h1 (.ref o0) (.ref u0) (.ref e8) (.ref e9) ps Q S cs Fs p a c F B f P b mn (by first | assumption | omega) hI hBB hH (by first | assumption | omega) (by first | assumption | omega)) gL_acts_X6_ship rfl 2 (by decide +kernel) (by decide) 6 rfl rfl 0 _ rfl rfl [0, 2, 3, 4, 5, 6, 7, 8, 1] [9, 10, 11] 12 (rfl : (12 : Nat) = 12) (by decide +kernel) rfl rfl (Nat.le_of_ble_eq_true rfl) ⟨Nat.zero_le _, Nat.zero_le _⟩ ?_
            intro v0 w0 hq
            obtain ⟨z_166, f2_166, c2_166, F2_166, ps2_166, P2_166, Q2_166, cs2_166, Fs2_166, p2_166, rfl, rfl, hq0_166, hq1_166, hq2_166, hq3_166, hq4_166⟩ := hq
            refine ⟨(fst_f (fst_c rfl (fst_c (fst_k rfl) (fst_c (fst_k rfl) (fst_c stW_fst (fst_c stW_fst (fst_c stW_fst (fst_c stW_fst (fst_c stW_fst (fst_c stW_fst rfl)))))))))), [[cO x0 6 [.ref (a 0), .ref h0, .ref o0, .ref u0, .ref e8, .ref e9]], stW G a c2_166 F2_166, [cO h0 0 [.ref h1, vI ps2_166]], [cQ h1 G.2.1.2.2.2.1 5 Q2_166], stW G (S 0) (cs2_166 0) (Fs2_166 0), stW G (S 1) (cs2_166 1) (Fs2_166 1), stW G (S 2) (cs2_166 2) (Fs2_166 2), stW G (S 3) (cs2_166 3) (Fs2_166 3), stW G (S 4) (cs2_166 4) (Fs2_166 4), [cA g0 G.2.1.1 18 (uZ f (3 * b + 12) ((f (3 * b + 12)) + ((f 0) - (f (3 * b + 12)))))], [cLg r0 G.2.1.2.2.2.2 64 lr], [cLg m0 G.2.1.2.2.2.2 2 lm]], (rfl : (12 : Nat) = 12), rfl, Eq.trans (b := ([[cA g0 G.2.1.1 18 (uZ f (3 * b + 12) ((f (3 * b + 12)) + ((f 0) - (f (3 * b + 12)))))], [cLg r0 G.2.1.2.2.2.2 64 lr], [cLg m0 G.2.1.2.2.2.2 2 lm]] : List va_W)) rfl rfl, ?_⟩
            show fSt l G X 0 0 169 [(11, vI ((f 0) - (f (3 * b + 12)))), (10, vI mn), (9, vI 0), (8, vI (12 + (3 * b))), (7, vI b), (6, vI way), (5, vI y), (0, .ref x0), (1, .ref g0), (2, .ref r0), (3, .ref m0), (4, vI zz)] [vI z_166] ([[cO x0 6 [.ref (a 0), .ref h0, .ref o0, .ref u0, .ref e8, .ref e9]], stW G a c2_166 F2_166, [cO h0 0 [.ref h1, vI ps2_166]], [cQ h1 G.2.1.2.2.2.1 5 Q2_166], stW G (S 0) (cs2_166 0) (Fs2_166 0), stW G (S 1) (cs2_166 1) (Fs2_166 1), stW G (S 2) (cs2_166 2) (Fs2_166 2), stW G (S 3) (cs2_166 3) (Fs2_166 3), stW G (S 4) (cs2_166 4) (Fs2_166 4), [cA g0 G.2.1.1 18 (uZ f (3 * b + 12) ((f (3 * b + 12)) + ((f 0) - (f (3 * b + 12)))))], [cLg r0 G.2.1.2.2.2.2 64 lr], [cLg m0 G.2.1.2.2.2.2 2 lm]] : List va_W).flatten
            obtain ⟨hE9, hN9⟩ := X_ship (s := (f 0) - (f (3 * b + 12))) hP hL hq_b hq_mn (by omega) (by split <;> omega)
            obtain ⟨hz, hf⟩ := Prod.mk.inj (hq1_166.trans hE9)
            have hz := hz.symm
            have hf := hf.symm
            subst hz
            subst hf
            refine s_iload C dL_acts_169 0 rfl ?_
            refine s_icmp_ne 178 C dL_acts_171 (by decide) (by omega) (by omega) (fun h => absurd (by omega) h) (fun _ => ?_)
            refine s_iconst C dL_acts_174 ?_
            refine s_goto 179 C dL_acts_175 (by decide) ?_
            exact s_zret C E dL_acts_179 rfl ⟨c2_166, F2_166, ps2_166, Q2_166, cs2_166, Fs2_166, p2_166, (uZ f (3 * b + 12) (f (3 * b + 12) + ((f 0) - (f (3 * b + 12))))), P2_166, lr, lm, rfl, rfl, hq0_166, hN9, (hq2_166.mono (by omega))⟩
    · refine s_aload_n 0 C dL_acts_59 rfl 5 rfl ?_
      refine s_aload_n 1 C dL_acts_60 rfl 6 rfl ?_
      refine s_aload_n 2 C dL_acts_61 rfl 7 rfl ?_
      refine s_iload C dL_acts_62 3 rfl ?_
      refine s_iload C dL_acts_64 4 rfl ?_
      refine s_callSQ (As := [.ref x0, .ref g0, .ref r0, vI way, vI y]) (rest := []) (segs := [[cO x0 6 [.ref (a 0), .ref h0, .ref o0, .ref u0, .ref e8, .ref e9]], stW G a c F, [cO h0 0 [.ref h1, vI ps]], [cQ h1 G.2.1.2.2.2.1 5 Q], stW G (S 0) (cs 0) (Fs 0), stW G (S 1) (cs 1) (Fs 1), stW G (S 2) (cs 2) (Fs 2), stW G (S 3) (cs 3) (Fs 3), stW G (S 4) (cs 4) (Fs 4), [cA g0 G.2.1.1 18 f], [cLg r0 G.2.1.2.2.2.2 64 lr], [cLg m0 G.2.1.2.2.2.2 2 lm]]) C dL_acts_66 (c_L_writes l G x0 h0 h1 o0 u0 e8 e9 g0 r0 a S c F ps Q cs Fs p B f P lr lm way y (by first | assumption | omega) (by first | assumption | omega) hH hL (by first | assumption | omega) (by first | assumption | omega)) gL_acts_L_writes rfl 5 (by decide +kernel) (by decide) [0, 1, 2, 3, 4, 5, 6, 7, 8, 9, 10] [11] 12 (rfl : (12 : Nat) = 12) (by decide +kernel) rfl rfl (Nat.le_of_ble_eq_true rfl) ⟨Nat.zero_le _, Nat.zero_le _⟩ ?_
      intro v0 w0 hq
      obtain ⟨c2_66, F2_66, ps2_66, Q2_66, cs2_66, Fs2_66, p2_66, f2_66, P2_66, lr2_66, rfl, rfl, hq0_66, hq1_66, hq2_66⟩ := hq
      refine ⟨(fst_f (fst_c rfl (fst_c stW_fst (fst_c (fst_k rfl) (fst_c (fst_k rfl) (fst_c stW_fst (fst_c stW_fst (fst_c stW_fst (fst_c stW_fst (fst_c stW_fst (fst_c (fst_k rfl) (fst_c (fst_k rfl) rfl)))))))))))), [[cO x0 6 [.ref (a 0), .ref h0, .ref o0, .ref u0, .ref e8, .ref e9]], stW G a c2_66 F2_66, [cO h0 0 [.ref h1, vI ps2_66]], [cQ h1 G.2.1.2.2.2.1 5 Q2_66], stW G (S 0) (cs2_66 0) (Fs2_66 0), stW G (S 1) (cs2_66 1) (Fs2_66 1), stW G (S 2) (cs2_66 2) (Fs2_66 2), stW G (S 3) (cs2_66 3) (Fs2_66 3), stW G (S 4) (cs2_66 4) (Fs2_66 4), [cA g0 G.2.1.1 18 f2_66], [cLg r0 G.2.1.2.2.2.2 64 lr2_66], [cLg m0 G.2.1.2.2.2.2 2 lm]], (rfl : (12 : Nat) = 12), rfl, Eq.trans (b := ([[cLg m0 G.2.1.2.2.2.2 2 lm]] : List va_W)) rfl rfl, ?_⟩
      show fSt l G X 0 0 69 [(9, vI 0), (8, vI (12 + (3 * b))), (7, vI b), (6, vI way), (5, vI y), (0, .ref x0), (1, .ref g0), (2, .ref r0), (3, .ref m0), (4, vI zz)] [vI 1] ([[cO x0 6 [.ref (a 0), .ref h0, .ref o0, .ref u0, .ref e8, .ref e9]], stW G a c2_66 F2_66, [cO h0 0 [.ref h1, vI ps2_66]], [cQ h1 G.2.1.2.2.2.1 5 Q2_66], stW G (S 0) (cs2_66 0) (Fs2_66 0), stW G (S 1) (cs2_66 1) (Fs2_66 1), stW G (S 2) (cs2_66 2) (Fs2_66 2), stW G (S 3) (cs2_66 3) (Fs2_66 3), stW G (S 4) (cs2_66 4) (Fs2_66 4), [cA g0 G.2.1.1 18 f2_66], [cLg r0 G.2.1.2.2.2.2 64 lr2_66], [cLg m0 G.2.1.2.2.2.2 2 lm]] : List va_W).flatten
      exact s_zret C E dL_acts_69 rfl ⟨c2_66, F2_66, ps2_66, Q2_66, cs2_66, Fs2_66, p2_66, f2_66, P2_66, lr2_66, lm, rfl, rfl, hq0_66, hq1_66, hq2_66⟩
  · refine s_iconst C dL_acts_45 ?_
    refine s_goto 50 C dL_acts_46 (by decide) ?_
    refine s_istore [(9, vI 1), (8, vI (12 + (3 * b))), (7, vI b), (6, vI way), (5, vI y), (0, .ref x0), (1, .ref g0), (2, .ref r0), (3, .ref m0), (4, vI zz)] C dL_acts_50 (by decide) rfl ?_
    have hSb := hI.S b (by omega) (by omega)
    have e12 : oS f b 0 = f (3 * b + 12) := congrArg f (by omega)
    have e13 : oS f b 1 = f (3 * b + 13) := congrArg f (by omega)
    have e14 : oS f b 2 = f (3 * b + 14) := congrArg f (by omega)
    have hbm := (hL.b hq_b).1
    refine s_iload C dL_acts_52 3 rfl ?_
    refine s_bipush (z := 19) C dL_acts_54 rfl ?_
    refine s_icmp_ge 70 C dL_acts_56 (by decide) (by omega) (by omega) (fun h_56 => ?_) (fun h_56 => ?_)
    · refine s_iload C dL_acts_70 3 rfl ?_
      refine s_bipush (z := 23) C dL_acts_72 rfl ?_
      refine s_icmp_ge 180 C dL_acts_74 (by decide) (by omega) (by omega) (fun h_74 => ?_) (fun h_74 => ?_)
      · refine s_iload C dL_acts_180 3 rfl ?_
        refine s_bipush (z := 25) C dL_acts_182 rfl ?_
        refine s_icmp_ge 325 C dL_acts_184 (by decide) (by omega) (by omega) (fun h_184 => ?_) (fun h_184 => ?_)
        · refine s_iload C dL_acts_325 3 rfl ?_
          refine s_bipush (z := 25) C dL_acts_327 rfl ?_
          refine s_icmp_ne 385 C dL_acts_329 (by decide) (by omega) (by omega) (fun h_329 => ?_) (fun h_329 => ?_)
          · refine s_iload C dL_acts_385 3 rfl ?_
            refine s_bipush (z := 29) C dL_acts_387 rfl ?_
            refine s_icmp_ge 526 C dL_acts_389 (by decide) (by omega) (by omega) (fun h_389 => ?_) (fun h_389 => ?_)
            · refine s_iload C dL_acts_526 3 rfl ?_
              refine s_bipush (z := 29) C dL_acts_528 rfl ?_
              refine s_icmp_ne 582 C dL_acts_530 (by decide) (by omega) (by omega) (fun h_530 => ?_) (fun h_530 => ?_)
              · refine s_iload C dL_acts_582 3 rfl ?_
                refine s_bipush (z := 30) C dL_acts_584 rfl ?_
                refine s_icmp_ne 649 C dL_acts_586 (by decide) (by omega) (by omega) (fun h_586 => ?_) (fun h_586 => ?_)
                · refine s_iload C dL_acts_649 4 rfl ?_
                  refine s_iconst C dL_acts_651 ?_
                  refine s_irem C dL_acts_652 (by omega) (by omega) ?_
                  obtain ⟨wh, hv_wh, hq_wh⟩ : ∃ wh : Int, wh = (y % 2) ∧ (0 ≤ wh ∧ wh ≤ 1) := ⟨_, rfl, by omega⟩
                  refine s_top wh hv_wh.symm ?_
                  refine s_istore [(10, vI wh), (9, vI 1), (8, vI (12 + (3 * b))), (7, vI b), (6, vI way), (5, vI y), (0, .ref x0), (1, .ref g0), (2, .ref r0), (3, .ref m0), (4, vI zz)] C dL_acts_653 (by decide) rfl ?_
                  refine s_aload_n 1 C dL_acts_655 rfl 7 rfl ?_
                  refine s_bipush (z := 7) C dL_acts_656 rfl ?_
                  refine s_iload C dL_acts_658 0 rfl ?_
                  refine s_iadd C dL_acts_660 ?_
                  refine s_iald C dL_acts_661 75 rfl (wh + 7) (by omega) (by omega) (by omega) (by omega) ?_
                  refine s_istore [(11, vI (f (wh + 7))), (10, vI wh), (9, vI 1), (8, vI (12 + (3 * b))), (7, vI b), (6, vI way), (5, vI y), (0, .ref x0), (1, .ref g0), (2, .ref r0), (3, .ref m0), (4, vI zz)] C dL_acts_662 (by decide) rfl ?_
                  refine s_aload_n 1 C dL_acts_664 rfl 8 rfl ?_
                  refine s_bipush (z := 7) C dL_acts_665 rfl ?_
                  refine s_iload C dL_acts_667 1 rfl ?_
                  refine s_iadd C dL_acts_669 ?_
                  refine s_iload C dL_acts_670 1 rfl ?_
                  refine s_if_ne 687 C dL_acts_672 (by decide) (by omega) (fun h_672 => ?_) (fun h_672 => ?_)
                  · refine s_iload C dL_acts_687 6 rfl ?_
                    refine s_iconst C dL_acts_689 ?_
                    refine s_idiv C dL_acts_690 (by omega) (by omega) ?_
                    refine s_iload C dL_acts_691 6 rfl ?_
                    refine s_iconst C dL_acts_693 ?_
                    refine s_irem C dL_acts_694 (by omega) (by omega) ?_
                    refine s_if_ne 703 C dL_acts_695 (by decide) (by omega) (fun h_695 => ?_) (fun h_695 => ?_)
                    · refine s_iconst C dL_acts_703 ?_
                      refine s_irem C dL_acts_704 (by omega) (by omega) ?_
                      obtain ⟨nv, hv_nv, hq_nv⟩ : ∃ nv : Int, nv = ((y / 2) % 4) ∧ (1 - wh ≤ nv ∧ nv ≤ 20) := ⟨_, rfl, by omega⟩
                      refine s_top nv hv_nv.symm ?_
                      refine s_iast ([[cO x0 6 [.ref (a 0), .ref h0, .ref o0, .ref u0, .ref e8, .ref e9]], stW G a c F, [cO h0 0 [.ref h1, vI ps]], [cQ h1 G.2.1.2.2.2.1 5 Q], stW G (S 0) (cs 0) (Fs 0), stW G (S 1) (cs 1) (Fs 1), stW G (S 2) (cs 2) (Fs 2), stW G (S 3) (cs 3) (Fs 3), stW G (S 4) (cs 4) (Fs 4), [cA g0 G.2.1.1 18 (uZ f (wh + 7) nv)], [cLg r0 G.2.1.2.2.2.2 64 lr], [cLg m0 G.2.1.2.2.2.2 2 lm]] : List va_W).flatten C dL_acts_705 75 rfl (wh + 7) (by omega) (by omega) (by omega) (by omega) rfl ?_
                      refine s_aload_n 0 C dL_acts_706 rfl 7 rfl ?_
                      refine s_iload C dL_acts_707 1 rfl ?_
                      refine s_aload_n 1 C dL_acts_709 rfl 8 rfl ?_
                      refine s_bipush (z := 7) C dL_acts_710 rfl ?_
                      refine s_iload C dL_acts_712 1 rfl ?_
                      refine s_iadd C dL_acts_714 ?_
                      refine s_iald C dL_acts_715 75 rfl (wh + 7) (by omega) (by omega) (by omega) (by omega) ?_
                      refine s_top nv uZ_s ?_
                      refine s_callVQ (As := [vI wh, vI nv]) (rest := []) (segs := [[cO x0 6 [.ref (a 0), .ref h0, .ref o0, .ref u0, .ref e8, .ref e9]], stW G a c F, [cO h0 0 [.ref h1, vI ps]], [cQ h1 G.2.1.2.2.2.1 5 Q], stW G (S 0) (cs 0) (Fs 0), stW G (S 1) (cs 1) (Fs 1), stW G (S 2) (cs 2) (Fs 2), stW G (S 3) (cs 3) (Fs 3), stW G (S 4) (cs 4) (Fs 4), [cA g0 G.2.1.1 18 (uZ f (wh + 7) nv)], [cLg r0 G.2.1.2.2.2.2 64 lr], [cLg m0 G.2.1.2.2.2.2 2 lm]]) C dL_acts_716 (c_X6_set l G x0 h0 h1 (.ref o0) (.ref u0) (.ref e8) (.ref e9) ps Q S cs Fs p a c F B f P wh nv (by first | assumption | omega) hI hBB hH (by first | assumption | omega) (by first | assumption | omega)) gL_acts_X6_set rfl 2 (by decide +kernel) (by decide) 6 rfl rfl 0 _ rfl rfl [0, 2, 3, 4, 5, 6, 7, 8, 1] [9, 10, 11] 12 (rfl : (12 : Nat) = 12) (by decide +kernel) rfl rfl (Nat.le_of_ble_eq_true rfl) ⟨Nat.zero_le _, Nat.zero_le _⟩ ?_
                      intro v0 w0 hq
                      obtain ⟨z_716, f2_716, c2_716, F2_716, ps2_716, P2_716, Q2_716, cs2_716, Fs2_716, p2_716, rfl, rfl, hq0_716, hq1_716, hq2_716, hq3_716, hq4_716⟩ := hq
                      refine ⟨(fst_f (fst_c rfl (fst_c (fst_k rfl) (fst_c (fst_k rfl) (fst_c stW_fst (fst_c stW_fst (fst_c stW_fst (fst_c stW_fst (fst_c stW_fst (fst_c stW_fst rfl)))))))))), [[cO x0 6 [.ref (a 0), .ref h0, .ref o0, .ref u0, .ref e8, .ref e9]], stW G a c2_716 F2_716, [cO h0 0 [.ref h1, vI ps2_716]], [cQ h1 G.2.1.2.2.2.1 5 Q2_716], stW G (S 0) (cs2_716 0) (Fs2_716 0), stW G (S 1) (cs2_716 1) (Fs2_716 1), stW G (S 2) (cs2_716 2) (Fs2_716 2), stW G (S 3) (cs2_716 3) (Fs2_716 3), stW G (S 4) (cs2_716 4) (Fs2_716 4), [cA g0 G.2.1.1 18 (uZ f (wh + 7) nv)], [cLg r0 G.2.1.2.2.2.2 64 lr], [cLg m0 G.2.1.2.2.2.2 2 lm]], (rfl : (12 : Nat) = 12), rfl, Eq.trans (b := ([[cA g0 G.2.1.1 18 (uZ f (wh + 7) nv)], [cLg r0 G.2.1.2.2.2.2 64 lr], [cLg m0 G.2.1.2.2.2.2 2 lm]] : List va_W)) rfl rfl, ?_⟩
                      show fSt l G X 0 0 719 [(11, vI (f (wh + 7))), (10, vI wh), (9, vI 1), (8, vI (12 + (3 * b))), (7, vI b), (6, vI way), (5, vI y), (0, .ref x0), (1, .ref g0), (2, .ref r0), (3, .ref m0), (4, vI zz)] [vI z_716] ([[cO x0 6 [.ref (a 0), .ref h0, .ref o0, .ref u0, .ref e8, .ref e9]], stW G a c2_716 F2_716, [cO h0 0 [.ref h1, vI ps2_716]], [cQ h1 G.2.1.2.2.2.1 5 Q2_716], stW G (S 0) (cs2_716 0) (Fs2_716 0), stW G (S 1) (cs2_716 1) (Fs2_716 1), stW G (S 2) (cs2_716 2) (Fs2_716 2), stW G (S 3) (cs2_716 3) (Fs2_716 3), stW G (S 4) (cs2_716 4) (Fs2_716 4), [cA g0 G.2.1.1 18 (uZ f (wh + 7) nv)], [cLg r0 G.2.1.2.2.2.2 64 lr], [cLg m0 G.2.1.2.2.2.2 2 lm]] : List va_W).flatten
                      obtain ⟨hE9, hN9⟩ := X_set hP hL hq_wh hq_nv
                      obtain ⟨hz, hf⟩ := Prod.mk.inj (hq1_716.trans hE9)
                      have hz := hz.symm
                      have hf := hf.symm
                      subst hz
                      subst hf
                      refine s_iload C dL_acts_719 0 rfl ?_
                      refine s_icmp_ne 728 C dL_acts_721 (by decide) (hI.rf _) (hI.rf _) (fun h => absurd (by omega) h) (fun _ => ?_)
                      refine s_iconst C dL_acts_724 ?_
                      refine s_goto 729 C dL_acts_725 (by decide) ?_
                      exact s_zret C E dL_acts_729 rfl ⟨c2_716, F2_716, ps2_716, Q2_716, cs2_716, Fs2_716, p2_716, (uZ f (wh + 7) nv), P2_716, lr, lm, rfl, rfl, hq0_716, hN9, (hq2_716.mono (by omega))⟩
                    · refine s_bipush (z := 21) C dL_acts_698 rfl ?_
                      refine s_goto 704 C dL_acts_700 (by decide) ?_
                      refine s_irem C dL_acts_704 (by omega) (by omega) ?_
                      obtain ⟨nv, hv_nv, hq_nv⟩ : ∃ nv : Int, nv = ((y / 2) % 21) ∧ (1 - wh ≤ nv ∧ nv ≤ 20) := ⟨_, rfl, by omega⟩
                      refine s_top nv hv_nv.symm ?_
                      refine s_iast ([[cO x0 6 [.ref (a 0), .ref h0, .ref o0, .ref u0, .ref e8, .ref e9]], stW G a c F, [cO h0 0 [.ref h1, vI ps]], [cQ h1 G.2.1.2.2.2.1 5 Q], stW G (S 0) (cs 0) (Fs 0), stW G (S 1) (cs 1) (Fs 1), stW G (S 2) (cs 2) (Fs 2), stW G (S 3) (cs 3) (Fs 3), stW G (S 4) (cs 4) (Fs 4), [cA g0 G.2.1.1 18 (uZ f (wh + 7) nv)], [cLg r0 G.2.1.2.2.2.2 64 lr], [cLg m0 G.2.1.2.2.2.2 2 lm]] : List va_W).flatten C dL_acts_705 75 rfl (wh + 7) (by omega) (by omega) (by omega) (by omega) rfl ?_
                      refine s_aload_n 0 C dL_acts_706 rfl 7 rfl ?_
                      refine s_iload C dL_acts_707 1 rfl ?_
                      refine s_aload_n 1 C dL_acts_709 rfl 8 rfl ?_
                      refine s_bipush (z := 7) C dL_acts_710 rfl ?_
                      refine s_iload C dL_acts_712 1 rfl ?_
                      refine s_iadd C dL_acts_714 ?_
                      refine s_iald C dL_acts_715 75 rfl (wh + 7) (by omega) (by omega) (by omega) (by omega) ?_
                      refine s_top nv uZ_s ?_
                      refine s_callVQ (As := [vI wh, vI nv]) (rest := []) (segs := [[cO x0 6 [.ref (a 0), .ref h0, .ref o0, .ref u0, .ref e8, .ref e9]], stW G a c F, [cO h0 0 [.ref h1, vI ps]], [cQ h1 G.2.1.2.2.2.1 5 Q], stW G (S 0) (cs 0) (Fs 0), stW G (S 1) (cs 1) (Fs 1), stW G (S 2) (cs 2) (Fs 2), stW G (S 3) (cs 3) (Fs 3), stW G (S 4) (cs 4) (Fs 4), [cA g0 G.2.1.1 18 (uZ f (wh + 7) nv)], [cLg r0 G.2.1.2.2.2.2 64 lr], [cLg m0 G.2.1.2.2.2.2 2 lm]]) C dL_acts_716 (c_X6_set l G x0 h0 h1 (.ref o0) (.ref u0) (.ref e8) (.ref e9) ps Q S cs Fs p a c F B f P wh nv (by first | assumption | omega) hI hBB hH (by first | assumption | omega) (by first | assumption | omega)) gL_acts_X6_set rfl 2 (by decide +kernel) (by decide) 6 rfl rfl 0 _ rfl rfl [0, 2, 3, 4, 5, 6, 7, 8, 1] [9, 10, 11] 12 (rfl : (12 : Nat) = 12) (by decide +kernel) rfl rfl (Nat.le_of_ble_eq_true rfl) ⟨Nat.zero_le _, Nat.zero_le _⟩ ?_
                      intro v0 w0 hq
                      obtain ⟨z_716, f2_716, c2_716, F2_716, ps2_716, P2_716, Q2_716, cs2_716, Fs2_716, p2_716, rfl, rfl, hq0_716, hq1_716, hq2_716, hq3_716, hq4_716⟩ := hq
                      refine ⟨(fst_f (fst_c rfl (fst_c (fst_k rfl) (fst_c (fst_k rfl) (fst_c stW_fst (fst_c stW_fst (fst_c stW_fst (fst_c stW_fst (fst_c stW_fst (fst_c stW_fst rfl)))))))))), [[cO x0 6 [.ref (a 0), .ref h0, .ref o0, .ref u0, .ref e8, .ref e9]], stW G a c2_716 F2_716, [cO h0 0 [.ref h1, vI ps2_716]], [cQ h1 G.2.1.2.2.2.1 5 Q2_716], stW G (S 0) (cs2_716 0) (Fs2_716 0), stW G (S 1) (cs2_716 1) (Fs2_716 1), stW G (S 2) (cs2_716 2) (Fs2_716 2), stW G (S 3) (cs2_716 3) (Fs2_716 3), stW G (S 4) (cs2_716 4) (Fs2_716 4), [cA g0 G.2.1.1 18 (uZ f (wh + 7) nv)], [cLg r0 G.2.1.2.2.2.2 64 lr], [cLg m0 G.2.1.2.2.2.2 2 lm]], (rfl : (12 : Nat) = 12), rfl, Eq.trans (b := ([[cA g0 G.2.1.1 18 (uZ f (wh + 7) nv)], [cLg r0 G.2.1.2.2.2.2 64 lr], [cLg m0 G.2.1.2.2.2.2 2 lm]] : List va_W)) rfl rfl, ?_⟩
                      show fSt l G X 0 0 719 [(11, vI (f (wh + 7))), (10, vI wh), (9, vI 1), (8, vI (12 + (3 * b))), (7, vI b), (6, vI way), (5, vI y), (0, .ref x0), (1, .ref g0), (2, .ref r0), (3, .ref m0), (4, vI zz)] [vI z_716] ([[cO x0 6 [.ref (a 0), .ref h0, .ref o0, .ref u0, .ref e8, .ref e9]], stW G a c2_716 F2_716, [cO h0 0 [.ref h1, vI ps2_716]], [cQ h1 G.2.1.2.2.2.1 5 Q2_716], stW G (S 0) (cs2_716 0) (Fs2_716 0), stW G (S 1) (cs2_716 1) (Fs2_716 1), stW G (S 2) (cs2_716 2) (Fs2_716 2), stW G (S 3) (cs2_716 3) (Fs2_716 3), stW G (S 4) (cs2_716 4) (Fs2_716 4), [cA g0 G.2.1.1 18 (uZ f (wh + 7) nv)], [cLg r0 G.2.1.2.2.2.2 64 lr], [cLg m0 G.2.1.2.2.2.2 2 lm]] : List va_W).flatten
                      obtain ⟨hE9, hN9⟩ := X_set hP hL hq_wh hq_nv
                      obtain ⟨hz, hf⟩ := Prod.mk.inj (hq1_716.trans hE9)
                      have hz := hz.symm
                      have hf := hf.symm
                      subst hz
                      subst hf
                      refine s_iload C dL_acts_719 0 rfl ?_
                      refine s_icmp_ne 728 C dL_acts_721 (by decide) (hI.rf _) (hI.rf _) (fun h => absurd (by omega) h) (fun _ => ?_)
                      refine s_iconst C dL_acts_724 ?_
                      refine s_goto 729 C dL_acts_725 (by decide) ?_
                      exact s_zret C E dL_acts_729 rfl ⟨c2_716, F2_716, ps2_716, Q2_716, cs2_716, Fs2_716, p2_716, (uZ f (wh + 7) nv), P2_716, lr, lm, rfl, rfl, hq0_716, hN9, (hq2_716.mono (by omega))⟩
                  · refine s_iconst C dL_acts_675 ?_
                    refine s_iload C dL_acts_676 6 rfl ?_
                    refine s_iconst C dL_acts_678 ?_
                    refine s_idiv C dL_acts_679 (by omega) (by omega) ?_
                    refine s_bipush (z := 20) C dL_acts_680 rfl ?_
                    refine s_irem C dL_acts_682 (by omega) (by omega) ?_
                    refine s_iadd C dL_acts_683 ?_
                    refine s_goto 705 C dL_acts_684 (by decide) ?_
                    obtain ⟨nv, hv_nv, hq_nv⟩ : ∃ nv : Int, nv = 1 + ((y / 2) % 20) ∧ (1 - wh ≤ nv ∧ nv ≤ 20) := ⟨_, rfl, by omega⟩
                    refine s_top nv hv_nv.symm ?_
                    refine s_iast ([[cO x0 6 [.ref (a 0), .ref h0, .ref o0, .ref u0, .ref e8, .ref e9]], stW G a c F, [cO h0 0 [.ref h1, vI ps]], [cQ h1 G.2.1.2.2.2.1 5 Q], stW G (S 0) (cs 0) (Fs 0), stW G (S 1) (cs 1) (Fs 1), stW G (S 2) (cs 2) (Fs 2), stW G (S 3) (cs 3) (Fs 3), stW G (S 4) (cs 4) (Fs 4), [cA g0 G.2.1.1 18 (uZ f (wh + 7) nv)], [cLg r0 G.2.1.2.2.2.2 64 lr], [cLg m0 G.2.1.2.2.2.2 2 lm]] : List va_W).flatten C dL_acts_705 75 rfl (wh + 7) (by omega) (by omega) (by omega) (by omega) rfl ?_
                    refine s_aload_n 0 C dL_acts_706 rfl 7 rfl ?_
                    refine s_iload C dL_acts_707 1 rfl ?_
                    refine s_aload_n 1 C dL_acts_709 rfl 8 rfl ?_
                    refine s_bipush (z := 7) C dL_acts_710 rfl ?_
                    refine s_iload C dL_acts_712 1 rfl ?_
                    refine s_iadd C dL_acts_714 ?_
                    refine s_iald C dL_acts_715 75 rfl (wh + 7) (by omega) (by omega) (by omega) (by omega) ?_
                    refine s_top nv uZ_s ?_
                    refine s_callVQ (As := [vI wh, vI nv]) (rest := []) (segs := [[cO x0 6 [.ref (a 0), .ref h0, .ref o0, .ref u0, .ref e8, .ref e9]], stW G a c F, [cO h0 0 [.ref h1, vI ps]], [cQ h1 G.2.1.2.2.2.1 5 Q], stW G (S 0) (cs 0) (Fs 0), stW G (S 1) (cs 1) (Fs 1), stW G (S 2) (cs 2) (Fs 2), stW G (S 3) (cs 3) (Fs 3), stW G (S 4) (cs 4) (Fs 4), [cA g0 G.2.1.1 18 (uZ f (wh + 7) nv)], [cLg r0 G.2.1.2.2.2.2 64 lr], [cLg m0 G.2.1.2.2.2.2 2 lm]]) C dL_acts_716 (c_X6_set l G x0 h0 h1 (.ref o0) (.ref u0) (.ref e8) (.ref e9) ps Q S cs Fs p a c F B f P wh nv (by first | assumption | omega) hI hBB hH (by first | assumption | omega) (by first | assumption | omega)) gL_acts_X6_set rfl 2 (by decide +kernel) (by decide) 6 rfl rfl 0 _ rfl rfl [0, 2, 3, 4, 5, 6, 7, 8, 1] [9, 10, 11] 12 (rfl : (12 : Nat) = 12) (by decide +kernel) rfl rfl (Nat.le_of_ble_eq_true rfl) ⟨Nat.zero_le _, Nat.zero_le _⟩ ?_
                    intro v0 w0 hq
                    obtain ⟨z_716, f2_716, c2_716, F2_716, ps2_716, P2_716, Q2_716, cs2_716, Fs2_716, p2_716, rfl, rfl, hq0_716, hq1_716, hq2_716, hq3_716, hq4_716⟩ := hq
                    refine ⟨(fst_f (fst_c rfl (fst_c (fst_k rfl) (fst_c (fst_k rfl) (fst_c stW_fst (fst_c stW_fst (fst_c stW_fst (fst_c stW_fst (fst_c stW_fst (fst_c stW_fst rfl)))))))))), [[cO x0 6 [.ref (a 0), .ref h0, .ref o0, .ref u0, .ref e8, .ref e9]], stW G a c2_716 F2_716, [cO h0 0 [.ref h1, vI ps2_716]], [cQ h1 G.2.1.2.2.2.1 5 Q2_716], stW G (S 0) (cs2_716 0) (Fs2_716 0), stW G (S 1) (cs2_716 1) (Fs2_716 1), stW G (S 2) (cs2_716 2) (Fs2_716 2), stW G (S 3) (cs2_716 3) (Fs2_716 3), stW G (S 4) (cs2_716 4) (Fs2_716 4), [cA g0 G.2.1.1 18 (uZ f (wh + 7) nv)], [cLg r0 G.2.1.2.2.2.2 64 lr], [cLg m0 G.2.1.2.2.2.2 2 lm]], (rfl : (12 : Nat) = 12), rfl, Eq.trans (b := ([[cA g0 G.2.1.1 18 (uZ f (wh + 7) nv)], [cLg r0 G.2.1.2.2.2.2 64 lr], [cLg m0 G.2.1.2.2.2.2 2 lm]] : List va_W)) rfl rfl, ?_⟩
                    show fSt l G X 0 0 719 [(11, vI (f (wh + 7))), (10, vI wh), (9, vI 1), (8, vI (12 + (3 * b))), (7, vI b), (6, vI way), (5, vI y), (0, .ref x0), (1, .ref g0), (2, .ref r0), (3, .ref m0), (4, vI zz)] [vI z_716] ([[cO x0 6 [.ref (a 0), .ref h0, .ref o0, .ref u0, .ref e8, .ref e9]], stW G a c2_716 F2_716, [cO h0 0 [.ref h1, vI ps2_716]], [cQ h1 G.2.1.2.2.2.1 5 Q2_716], stW G (S 0) (cs2_716 0) (Fs2_716 0), stW G (S 1) (cs2_716 1) (Fs2_716 1), stW G (S 2) (cs2_716 2) (Fs2_716 2), stW G (S 3) (cs2_716 3) (Fs2_716 3), stW G (S 4) (cs2_716 4) (Fs2_716 4), [cA g0 G.2.1.1 18 (uZ f (wh + 7) nv)], [cLg r0 G.2.1.2.2.2.2 64 lr], [cLg m0 G.2.1.2.2.2.2 2 lm]] : List va_W).flatten
                    obtain ⟨hE9, hN9⟩ := X_set hP hL hq_wh hq_nv
                    obtain ⟨hz, hf⟩ := Prod.mk.inj (hq1_716.trans hE9)
                    have hz := hz.symm
                    have hf := hf.symm
                    subst hz
                    subst hf
                    refine s_iload C dL_acts_719 0 rfl ?_
                    refine s_icmp_ne 728 C dL_acts_721 (by decide) (hI.rf _) (hI.rf _) (fun h => absurd (by omega) h) (fun _ => ?_)
                    refine s_iconst C dL_acts_724 ?_
                    refine s_goto 729 C dL_acts_725 (by decide) ?_
                    exact s_zret C E dL_acts_729 rfl ⟨c2_716, F2_716, ps2_716, Q2_716, cs2_716, Fs2_716, p2_716, (uZ f (wh + 7) nv), P2_716, lr, lm, rfl, rfl, hq0_716, hN9, (hq2_716.mono (by omega))⟩
                · refine s_iload C dL_acts_589 0 rfl ?_
                  refine s_if_ne 603 C dL_acts_591 (by decide) (by decide) (fun h => ?_) (fun h => absurd h (by decide))
                  refine s_aload_n 1 C dL_acts_603 rfl 6 rfl ?_
                  refine s_iload C dL_acts_604 1 rfl ?_
                  refine s_aload_n 1 C dL_acts_606 rfl 6 rfl ?_
                  refine s_iconst C dL_acts_607 ?_
                  refine s_iald C dL_acts_608 75 rfl 0 rfl (by omega) (by omega) (by omega) ?_
                  refine s_iast ([[cO x0 6 [.ref (a 0), .ref h0, .ref o0, .ref u0, .ref e8, .ref e9]], stW G a c F, [cO h0 0 [.ref h1, vI ps]], [cQ h1 G.2.1.2.2.2.1 5 Q], stW G (S 0) (cs 0) (Fs 0), stW G (S 1) (cs 1) (Fs 1), stW G (S 2) (cs 2) (Fs 2), stW G (S 3) (cs 3) (Fs 3), stW G (S 4) (cs 4) (Fs 4), [cA g0 G.2.1.1 18 (uZ f (3 * b + 12) (f 0))], [cLg r0 G.2.1.2.2.2.2 64 lr], [cLg m0 G.2.1.2.2.2.2 2 lm]] : List va_W).flatten C dL_acts_609 75 rfl (3 * b + 12) (by omega) (by omega) (by omega) (by omega) rfl ?_
                  refine s_aload_n 1 C dL_acts_610 rfl 6 rfl ?_
                  refine s_iload C dL_acts_611 1 rfl ?_
                  refine s_iconst C dL_acts_613 ?_
                  refine s_iadd C dL_acts_614 ?_
                  refine s_aload_n 1 C dL_acts_615 rfl 6 rfl ?_
                  refine s_iconst C dL_acts_616 ?_
                  refine s_iald C dL_acts_617 75 rfl 0 rfl (by omega) (by omega) (by omega) ?_
                  refine s_top (f 0) (uZ_n (by omega)) ?_
                  refine s_iast ([[cO x0 6 [.ref (a 0), .ref h0, .ref o0, .ref u0, .ref e8, .ref e9]], stW G a c F, [cO h0 0 [.ref h1, vI ps]], [cQ h1 G.2.1.2.2.2.1 5 Q], stW G (S 0) (cs 0) (Fs 0), stW G (S 1) (cs 1) (Fs 1), stW G (S 2) (cs 2) (Fs 2), stW G (S 3) (cs 3) (Fs 3), stW G (S 4) (cs 4) (Fs 4), [cA g0 G.2.1.1 18 (uZ (uZ f (3 * b + 12) (f 0)) (3 * b + 13) (f 0))], [cLg r0 G.2.1.2.2.2.2 64 lr], [cLg m0 G.2.1.2.2.2.2 2 lm]] : List va_W).flatten C dL_acts_618 75 rfl (3 * b + 13) (by omega) (by omega) (by omega) (by omega) rfl ?_
                  refine s_aload_n 1 C dL_acts_619 rfl 6 rfl ?_
                  refine s_iload C dL_acts_620 1 rfl ?_
                  refine s_iconst C dL_acts_622 ?_
                  refine s_iadd C dL_acts_623 ?_
                  refine s_iconst C dL_acts_624 ?_
                  refine s_iast ([[cO x0 6 [.ref (a 0), .ref h0, .ref o0, .ref u0, .ref e8, .ref e9]], stW G a c F, [cO h0 0 [.ref h1, vI ps]], [cQ h1 G.2.1.2.2.2.1 5 Q], stW G (S 0) (cs 0) (Fs 0), stW G (S 1) (cs 1) (Fs 1), stW G (S 2) (cs 2) (Fs 2), stW G (S 3) (cs 3) (Fs 3), stW G (S 4) (cs 4) (Fs 4), [cA g0 G.2.1.1 18 (uZ (uZ (uZ f (3 * b + 12) (f 0)) (3 * b + 13) (f 0)) (3 * b + 14) 0)], [cLg r0 G.2.1.2.2.2.2 64 lr], [cLg m0 G.2.1.2.2.2.2 2 lm]] : List va_W).flatten C dL_acts_625 75 rfl (3 * b + 14) (by omega) (by omega) (by omega) (by omega) rfl ?_
                  refine s_aload_n 3 C dL_acts_626 rfl 8 rfl ?_
                  refine s_iload C dL_acts_627 2 rfl ?_
                  refine s_lconst (v := 0) C dL_acts_629 rfl ?_
                  refine s_last ([[cO x0 6 [.ref (a 0), .ref h0, .ref o0, .ref u0, .ref e8, .ref e9]], stW G a c F, [cO h0 0 [.ref h1, vI ps]], [cQ h1 G.2.1.2.2.2.1 5 Q], stW G (S 0) (cs 0) (Fs 0), stW G (S 1) (cs 1) (Fs 1), stW G (S 2) (cs 2) (Fs 2), stW G (S 3) (cs 3) (Fs 3), stW G (S 4) (cs 4) (Fs 4), [cA g0 G.2.1.1 18 (uZ (uZ (uZ f (3 * b + 12) (f 0)) (3 * b + 13) (f 0)) (3 * b + 14) 0)], [cLg r0 G.2.1.2.2.2.2 64 lr], [cLg m0 G.2.1.2.2.2.2 2 (uLg lm b 0)]] : List va_W).flatten C dL_acts_630 77 rfl b rfl (by omega) (by omega) (by omega) rfl ?_
                  refine s_aload_n 0 C dL_acts_631 rfl 5 rfl ?_
                  refine s_iload C dL_acts_632 2 rfl ?_
                  refine s_callVQ (As := [vI b]) (rest := []) (segs := [[cO x0 6 [.ref (a 0), .ref h0, .ref o0, .ref u0, .ref e8, .ref e9]], stW G a c F, [cO h0 0 [.ref h1, vI ps]], [cQ h1 G.2.1.2.2.2.1 5 Q], stW G (S 0) (cs 0) (Fs 0), stW G (S 1) (cs 1) (Fs 1), stW G (S 2) (cs 2) (Fs 2), stW G (S 3) (cs 3) (Fs 3), stW G (S 4) (cs 4) (Fs 4), [cA g0 G.2.1.1 18 (uZ (uZ (uZ f (3 * b + 12) (f 0)) (3 * b + 13) (f 0)) (3 * b + 14) 0)], [cLg r0 G.2.1.2.2.2.2 64 lr], [cLg m0 G.2.1.2.2.2.2 2 (uLg lm b 0)]]) C dL_acts_634 (c_X6_rebuild l G x0 h0 h1 (.ref o0) (.ref u0) (.ref e8) (.ref e9) ps Q S cs Fs p a c F B f P b (by first | assumption | omega) hI hBB hH (by first | assumption | omega)) gL_acts_X6_rebuild rfl 1 (by decide +kernel) (by decide) 6 rfl rfl 0 _ rfl rfl [0, 2, 3, 4, 5, 6, 7, 8, 1] [9, 10, 11] 12 (rfl : (12 : Nat) = 12) (by decide +kernel) rfl rfl (Nat.le_of_ble_eq_true rfl) ⟨Nat.zero_le _, Nat.zero_le _⟩ ?_
                  intro v0 w0 hq
                  obtain ⟨z_634, f2_634, c2_634, F2_634, ps2_634, P2_634, Q2_634, cs2_634, Fs2_634, p2_634, rfl, rfl, hq0_634, hq1_634, hq2_634, hq3_634, hq4_634⟩ := hq
                  refine ⟨(fst_f (fst_c rfl (fst_c (fst_k rfl) (fst_c (fst_k rfl) (fst_c stW_fst (fst_c stW_fst (fst_c stW_fst (fst_c stW_fst (fst_c stW_fst (fst_c stW_fst rfl)))))))))), [[cO x0 6 [.ref (a 0), .ref h0, .ref o0, .ref u0, .ref e8, .ref e9]], stW G a c2_634 F2_634, [cO h0 0 [.ref h1, vI ps2_634]], [cQ h1 G.2.1.2.2.2.1 5 Q2_634], stW G (S 0) (cs2_634 0) (Fs2_634 0), stW G (S 1) (cs2_634 1) (Fs2_634 1), stW G (S 2) (cs2_634 2) (Fs2_634 2), stW G (S 3) (cs2_634 3) (Fs2_634 3), stW G (S 4) (cs2_634 4) (Fs2_634 4), [cA g0 G.2.1.1 18 (uZ (uZ (uZ f (3 * b + 12) (f 0)) (3 * b + 13) (f 0)) (3 * b + 14) 0)], [cLg r0 G.2.1.2.2.2.2 64 lr], [cLg m0 G.2.1.2.2.2.2 2 (uLg lm b 0)]], (rfl : (12 : Nat) = 12), rfl, Eq.trans (b := ([[cA g0 G.2.1.1 18 (uZ (uZ (uZ f (3 * b + 12) (f 0)) (3 * b + 13) (f 0)) (3 * b + 14) 0)], [cLg r0 G.2.1.2.2.2.2 64 lr], [cLg m0 G.2.1.2.2.2.2 2 (uLg lm b 0)]] : List va_W)) rfl rfl, ?_⟩
                  show fSt l G X 0 0 637 [(9, vI 1), (8, vI (12 + (3 * b))), (7, vI b), (6, vI way), (5, vI y), (0, .ref x0), (1, .ref g0), (2, .ref r0), (3, .ref m0), (4, vI zz)] [vI z_634] ([[cO x0 6 [.ref (a 0), .ref h0, .ref o0, .ref u0, .ref e8, .ref e9]], stW G a c2_634 F2_634, [cO h0 0 [.ref h1, vI ps2_634]], [cQ h1 G.2.1.2.2.2.1 5 Q2_634], stW G (S 0) (cs2_634 0) (Fs2_634 0), stW G (S 1) (cs2_634 1) (Fs2_634 1), stW G (S 2) (cs2_634 2) (Fs2_634 2), stW G (S 3) (cs2_634 3) (Fs2_634 3), stW G (S 4) (cs2_634 4) (Fs2_634 4), [cA g0 G.2.1.1 18 (uZ (uZ (uZ f (3 * b + 12) (f 0)) (3 * b + 13) (f 0)) (3 * b + 14) 0)], [cLg r0 G.2.1.2.2.2.2 64 lr], [cLg m0 G.2.1.2.2.2.2 2 (uLg lm b 0)]] : List va_W).flatten
                  obtain ⟨hE9, hN9⟩ := X_rebuild hP hL hq_b
                  obtain ⟨hz, hf⟩ := Prod.mk.inj (hq1_634.trans hE9)
                  have hz := hz.symm
                  have hf := hf.symm
                  subst hz
                  subst hf
                  refine s_agr ([[cO x0 6 [.ref (a 0), .ref h0, .ref o0, .ref u0, .ref e8, .ref e9]], stW G a c2_634 F2_634, [cO h0 0 [.ref h1, vI ps2_634]], [cQ h1 G.2.1.2.2.2.1 5 Q2_634], stW G (S 0) (cs2_634 0) (Fs2_634 0), stW G (S 1) (cs2_634 1) (Fs2_634 1), stW G (S 2) (cs2_634 2) (Fs2_634 2), stW G (S 3) (cs2_634 3) (Fs2_634 3), stW G (S 4) (cs2_634 4) (Fs2_634 4), [cA g0 G.2.1.1 18 (sp_lay f b (f 0) 0)], [cLg r0 G.2.1.2.2.2.2 64 lr], [cLg m0 G.2.1.2.2.2.2 2 (uLg lm b 0)]] : List va_W).flatten 75 rfl (sp_lay f b (f 0) 0) (fun j h0 h1 => ?agr) rfl ?_
                  case agr =>
                    have hj : j < 18 := (by omega)
                    rw [sp_lay, fG0_out (by omega)]
                  refine s_aload_n 1 C dL_acts_637 rfl 6 rfl ?_
                  refine s_iconst C dL_acts_638 ?_
                  refine s_iald C dL_acts_639 75 rfl 0 rfl (by omega) (by omega) (by omega) ?_
                  refine s_top (f 0) (show sp_lay f b (f 0) 0 0 = f 0 by rw [sp_lay, fG0_out (by omega), uZ_n (by omega), uZ_n (by omega), uZ_n (by omega)]) ?_
                  refine s_icmp_ne 647 C dL_acts_640 (by decide) (hI.rf _) (hI.rf _) (fun h => absurd (by omega) h) (fun _ => ?_)
                  refine s_iconst C dL_acts_643 ?_
                  refine s_goto 648 C dL_acts_644 (by decide) ?_
                  exact s_zret C E dL_acts_648 rfl ⟨c2_634, F2_634, ps2_634, Q2_634, cs2_634, Fs2_634, p2_634, (sp_lay f b (f 0) 0), P2_634, lr, (uLg lm b 0), rfl, rfl, hq0_634, hN9, (hq2_634.mono (by omega))⟩
              · refine s_iload C dL_acts_533 0 rfl ?_
                refine s_if_eq 557 C dL_acts_535 (by decide) (by decide) (fun h => absurd h (by decide)) (fun h => ?_)
                refine s_aload_n 0 C dL_acts_538 rfl 5 rfl ?_
                refine s_iload C dL_acts_539 2 rfl ?_
                refine s_callVQ (As := [vI b]) (rest := []) (segs := [[cO x0 6 [.ref (a 0), .ref h0, .ref o0, .ref u0, .ref e8, .ref e9]], stW G a c F, [cO h0 0 [.ref h1, vI ps]], [cQ h1 G.2.1.2.2.2.1 5 Q], stW G (S 0) (cs 0) (Fs 0), stW G (S 1) (cs 1) (Fs 1), stW G (S 2) (cs 2) (Fs 2), stW G (S 3) (cs 3) (Fs 3), stW G (S 4) (cs 4) (Fs 4), [cA g0 G.2.1.1 18 f], [cLg r0 G.2.1.2.2.2.2 64 lr], [cLg m0 G.2.1.2.2.2.2 2 lm]]) C dL_acts_541 (c_X6_promote l G x0 h0 h1 (.ref o0) (.ref u0) (.ref e8) (.ref e9) ps Q S cs Fs p a c F B f P b (by first | assumption | omega) hI hBB hH (by first | assumption | omega)) gL_acts_X6_promote rfl 1 (by decide +kernel) (by decide) 6 rfl rfl 0 _ rfl rfl [0, 2, 3, 4, 5, 6, 7, 8, 1] [9, 10, 11] 12 (rfl : (12 : Nat) = 12) (by decide +kernel) rfl rfl (Nat.le_of_ble_eq_true rfl) ⟨Nat.zero_le _, Nat.zero_le _⟩ ?_
                intro v0 w0 hq
                obtain ⟨z_541, f2_541, c2_541, F2_541, ps2_541, P2_541, Q2_541, cs2_541, Fs2_541, p2_541, rfl, rfl, hq0_541, hq1_541, hq2_541, hq3_541, hq4_541⟩ := hq
                refine ⟨(fst_f (fst_c rfl (fst_c (fst_k rfl) (fst_c (fst_k rfl) (fst_c stW_fst (fst_c stW_fst (fst_c stW_fst (fst_c stW_fst (fst_c stW_fst (fst_c stW_fst rfl)))))))))), [[cO x0 6 [.ref (a 0), .ref h0, .ref o0, .ref u0, .ref e8, .ref e9]], stW G a c2_541 F2_541, [cO h0 0 [.ref h1, vI ps2_541]], [cQ h1 G.2.1.2.2.2.1 5 Q2_541], stW G (S 0) (cs2_541 0) (Fs2_541 0), stW G (S 1) (cs2_541 1) (Fs2_541 1), stW G (S 2) (cs2_541 2) (Fs2_541 2), stW G (S 3) (cs2_541 3) (Fs2_541 3), stW G (S 4) (cs2_541 4) (Fs2_541 4), [cA g0 G.2.1.1 18 f], [cLg r0 G.2.1.2.2.2.2 64 lr], [cLg m0 G.2.1.2.2.2.2 2 lm]], (rfl : (12 : Nat) = 12), rfl, Eq.trans (b := ([[cA g0 G.2.1.1 18 f], [cLg r0 G.2.1.2.2.2.2 64 lr], [cLg m0 G.2.1.2.2.2.2 2 lm]] : List va_W)) rfl rfl, ?_⟩
                show fSt l G X 0 0 544 [(9, vI 1), (8, vI (12 + (3 * b))), (7, vI b), (6, vI way), (5, vI y), (0, .ref x0), (1, .ref g0), (2, .ref r0), (3, .ref m0), (4, vI zz)] [vI z_541] ([[cO x0 6 [.ref (a 0), .ref h0, .ref o0, .ref u0, .ref e8, .ref e9]], stW G a c2_541 F2_541, [cO h0 0 [.ref h1, vI ps2_541]], [cQ h1 G.2.1.2.2.2.1 5 Q2_541], stW G (S 0) (cs2_541 0) (Fs2_541 0), stW G (S 1) (cs2_541 1) (Fs2_541 1), stW G (S 2) (cs2_541 2) (Fs2_541 2), stW G (S 3) (cs2_541 3) (Fs2_541 3), stW G (S 4) (cs2_541 4) (Fs2_541 4), [cA g0 G.2.1.1 18 f], [cLg r0 G.2.1.2.2.2.2 64 lr], [cLg m0 G.2.1.2.2.2.2 2 lm]] : List va_W).flatten
                obtain ⟨hE9, hN9⟩ := X_promote_no hP hL hq_b (by omega)
                obtain ⟨hz, hf⟩ := Prod.mk.inj (hq1_541.trans hE9)
                have hz := hz.symm
                have hf := hf.symm
                subst hz
                subst hf
                refine s_ldc (z := -1000002) C (by decide +kernel) dL_acts_544 ?_
                refine s_icmp_ne 553 C dL_acts_546 (by decide) (by decide) (by decide) (fun h => absurd h (by decide)) (fun h => ?_)
                refine s_iconst C dL_acts_549 ?_
                refine s_goto 581 C dL_acts_550 (by decide) ?_
                exact s_zret C E dL_acts_581 rfl ⟨c2_541, F2_541, ps2_541, Q2_541, cs2_541, Fs2_541, p2_541, f, P2_541, lr, lm, rfl, rfl, hq0_541, hN9, (hq2_541.mono (by omega))⟩
            · refine s_iconst C dL_acts_392 ?_
              refine s_iload C dL_acts_393 4 rfl ?_
              refine s_iload C dL_acts_395 4 rfl ?_
              refine s_iconst C dL_acts_397 ?_
              refine s_irem C dL_acts_398 (by omega) (by omega) ?_
              refine s_if_ne 407 C dL_acts_399 (by decide) (by omega) (fun h_399 => ?_) (fun h_399 => ?_)
              · refine s_iconst C dL_acts_407 ?_
                refine s_irem C dL_acts_408 (by omega) (by omega) ?_
                refine s_iadd C dL_acts_409 ?_
                obtain ⟨tk, hv_tk, hq_tk⟩ : ∃ tk : Int, tk = 1 + (y % 4) ∧ (1 ≤ tk ∧ tk ≤ 99) := ⟨_, rfl, by omega⟩
                refine s_top tk hv_tk.symm ?_
                refine s_istore [(10, vI tk), (9, vI 1), (8, vI (12 + (3 * b))), (7, vI b), (6, vI way), (5, vI y), (0, .ref x0), (1, .ref g0), (2, .ref r0), (3, .ref m0), (4, vI zz)] C dL_acts_410 (by decide) rfl ?_
                refine s_iconst C dL_acts_412 ?_
                refine s_istore [(11, vI 0), (10, vI tk), (9, vI 1), (8, vI (12 + (3 * b))), (7, vI b), (6, vI way), (5, vI y), (0, .ref x0), (1, .ref g0), (2, .ref r0), (3, .ref m0), (4, vI zz)] C dL_acts_413 (by decide) rfl ?_
                refine s_iconst C dL_acts_415 ?_
                refine s_istore [(12, vI 0), (11, vI 0), (10, vI tk), (9, vI 1), (8, vI (12 + (3 * b))), (7, vI b), (6, vI way), (5, vI y), (0, .ref x0), (1, .ref g0), (2, .ref r0), (3, .ref m0), (4, vI zz)] C dL_acts_416 (by decide) rfl ?_
                have loop_418 : ∀ (fuel : Nat) (k sm : Int) (U : Int → Int), (0 ≤ k ∧ k ≤ tk) → (U = tkN f k.toNat) → (sm = U 13 + U 16 - f 13 - f 16) → (tk - k < (fuel : Int)) → fSt l G X 0 0 418 [(0, .ref x0), (1, .ref g0), (2, .ref r0), (3, .ref m0), (4, vI zz), (5, vI y), (6, vI way), (7, vI b), (8, vI (12 + (3 * b))), (9, vI 1), (10, vI tk), (11, vI sm), (12, vI k)] [] ([[cO x0 6 [.ref (a 0), .ref h0, .ref o0, .ref u0, .ref e8, .ref e9]], stW G a c F, [cO h0 0 [.ref h1, vI ps]], [cQ h1 G.2.1.2.2.2.1 5 Q], stW G (S 0) (cs 0) (Fs 0), stW G (S 1) (cs 1) (Fs 1), stW G (S 2) (cs 2) (Fs 2), stW G (S 3) (cs 3) (Fs 3), stW G (S 4) (cs 4) (Fs 4), [cA g0 G.2.1.1 18 U], [cLg r0 G.2.1.2.2.2.2 64 lr], [cLg m0 G.2.1.2.2.2.2 2 lm]] : List va_W).flatten := by
                  intro fuel
                  induction fuel with
                  | zero =>
                    intro k sm U hk hU hcs hm
                    exfalso
                    omega
                  | succ fuel ih_418 =>
                    intro k sm U hk hU hcs hm
                    refine s_iload C dL_acts_418 12 rfl ?_
                    refine s_iload C dL_acts_420 10 rfl ?_
                    refine s_icmp_ge 500 C dL_acts_422 (by decide) (by omega) (by omega) (fun h_422 => ?_) (fun h_422 => ?_)
                    · have hkt : k = tk := by omega
                      have hsum := tkN_up hT tk.toNat (by omega)
                      have hTk := hT.n tk.toNat (by omega)
                      have hT13 := hT.2.2.2.2.1
                      have hT16 := hT.2.2.2.2.2.1
                      have hK13 := hTk.2.2.2.2.1
                      have hK16 := hTk.2.2.2.2.2.1
                      have hsm : sm = tkN f tk.toNat 13 + tkN f tk.toNat 16 - f 13 - f 16 := by rw [hcs, hU, hkt]
                      refine s_aload_n 1 C dL_acts_500 rfl 1 rfl ?_
                      refine s_bipush (z := 6) C dL_acts_501 rfl ?_
                      refine s_dup2 C dL_acts_503 rfl rfl ?_
                      refine s_iald C dL_acts_504 75 rfl 6 rfl (by omega) (by omega) (by omega) ?_
                      refine s_iload C dL_acts_505 11 rfl ?_
                      refine s_iadd C dL_acts_507 ?_
                      refine s_iast ([[cO x0 6 [.ref (a 0), .ref h0, .ref o0, .ref u0, .ref e8, .ref e9]], stW G a c F, [cO h0 0 [.ref h1, vI ps]], [cQ h1 G.2.1.2.2.2.1 5 Q], stW G (S 0) (cs 0) (Fs 0), stW G (S 1) (cs 1) (Fs 1), stW G (S 2) (cs 2) (Fs 2), stW G (S 3) (cs 3) (Fs 3), stW G (S 4) (cs 4) (Fs 4), [cA g0 G.2.1.1 18 (uZ U 6 ((U 6) + sm))], [cLg r0 G.2.1.2.2.2.2 64 lr], [cLg m0 G.2.1.2.2.2.2 2 lm]] : List va_W).flatten C dL_acts_508 75 rfl 6 rfl (by omega) (by omega) (by omega) rfl ?_
                      refine s_aload_n 0 C dL_acts_509 rfl 0 rfl ?_
                      refine s_iload C dL_acts_510 10 rfl ?_
                      refine s_callVQ (As := [vI tk]) (rest := []) (segs := [[cO x0 6 [.ref (a 0), .ref h0, .ref o0, .ref u0, .ref e8, .ref e9]], stW G a c F, [cO h0 0 [.ref h1, vI ps]], [cQ h1 G.2.1.2.2.2.1 5 Q], stW G (S 0) (cs 0) (Fs 0), stW G (S 1) (cs 1) (Fs 1), stW G (S 2) (cs 2) (Fs 2), stW G (S 3) (cs 3) (Fs 3), stW G (S 4) (cs 4) (Fs 4), [cA g0 G.2.1.1 18 (uZ U 6 ((U 6) + sm))], [cLg r0 G.2.1.2.2.2.2 64 lr], [cLg m0 G.2.1.2.2.2.2 2 lm]]) C dL_acts_512 (c_X6_tick l G x0 h0 h1 (.ref o0) (.ref u0) (.ref e8) (.ref e9) ps Q S cs Fs p a c F B f P tk (by first | assumption | omega) hI hBB hH (by first | assumption | omega)) gL_acts_X6_tick rfl 1 (by decide +kernel) (by decide) 6 rfl rfl 0 _ rfl rfl [0, 2, 3, 4, 5, 6, 7, 8, 1] [9, 10, 11] 12 (rfl : (12 : Nat) = 12) (by decide +kernel) rfl rfl (Nat.le_of_ble_eq_true rfl) ⟨Nat.zero_le _, Nat.zero_le _⟩ ?_
                      intro v0 w0 hq
                      obtain ⟨z_512, f2_512, c2_512, F2_512, ps2_512, P2_512, Q2_512, cs2_512, Fs2_512, p2_512, rfl, rfl, hq0_512, hq1_512, hq2_512, hq3_512, hq4_512⟩ := hq
                      refine ⟨(fst_f (fst_c rfl (fst_c (fst_k rfl) (fst_c (fst_k rfl) (fst_c stW_fst (fst_c stW_fst (fst_c stW_fst (fst_c stW_fst (fst_c stW_fst (fst_c stW_fst rfl)))))))))), [[cO x0 6 [.ref (a 0), .ref h0, .ref o0, .ref u0, .ref e8, .ref e9]], stW G a c2_512 F2_512, [cO h0 0 [.ref h1, vI ps2_512]], [cQ h1 G.2.1.2.2.2.1 5 Q2_512], stW G (S 0) (cs2_512 0) (Fs2_512 0), stW G (S 1) (cs2_512 1) (Fs2_512 1), stW G (S 2) (cs2_512 2) (Fs2_512 2), stW G (S 3) (cs2_512 3) (Fs2_512 3), stW G (S 4) (cs2_512 4) (Fs2_512 4), [cA g0 G.2.1.1 18 (uZ U 6 ((U 6) + sm))], [cLg r0 G.2.1.2.2.2.2 64 lr], [cLg m0 G.2.1.2.2.2.2 2 lm]], (rfl : (12 : Nat) = 12), rfl, Eq.trans (b := ([[cA g0 G.2.1.1 18 (uZ U 6 ((U 6) + sm))], [cLg r0 G.2.1.2.2.2.2 64 lr], [cLg m0 G.2.1.2.2.2.2 2 lm]] : List va_W)) rfl rfl, ?_⟩
                      show fSt l G X 0 0 515 [(0, .ref x0), (1, .ref g0), (2, .ref r0), (3, .ref m0), (4, vI zz), (5, vI y), (6, vI way), (7, vI b), (8, vI (12 + (3 * b))), (9, vI 1), (10, vI tk), (11, vI sm), (12, vI k)] [vI z_512] ([[cO x0 6 [.ref (a 0), .ref h0, .ref o0, .ref u0, .ref e8, .ref e9]], stW G a c2_512 F2_512, [cO h0 0 [.ref h1, vI ps2_512]], [cQ h1 G.2.1.2.2.2.1 5 Q2_512], stW G (S 0) (cs2_512 0) (Fs2_512 0), stW G (S 1) (cs2_512 1) (Fs2_512 1), stW G (S 2) (cs2_512 2) (Fs2_512 2), stW G (S 3) (cs2_512 3) (Fs2_512 3), stW G (S 4) (cs2_512 4) (Fs2_512 4), [cA g0 G.2.1.1 18 (uZ U 6 ((U 6) + sm))], [cLg r0 G.2.1.2.2.2.2 64 lr], [cLg m0 G.2.1.2.2.2.2 2 lm]] : List va_W).flatten
                      obtain ⟨hE9, hN9⟩ := X_tick hP hL hq_tk
                      obtain ⟨hz, hf⟩ := Prod.mk.inj (hq1_512.trans hE9)
                      have hz := hz.symm
                      have hf := hf.symm
                      subst hz
                      subst hf
                      refine s_agr ([[cO x0 6 [.ref (a 0), .ref h0, .ref o0, .ref u0, .ref e8, .ref e9]], stW G a c2_512 F2_512, [cO h0 0 [.ref h1, vI ps2_512]], [cQ h1 G.2.1.2.2.2.1 5 Q2_512], stW G (S 0) (cs2_512 0) (Fs2_512 0), stW G (S 1) (cs2_512 1) (Fs2_512 1), stW G (S 2) (cs2_512 2) (Fs2_512 2), stW G (S 3) (cs2_512 3) (Fs2_512 3), stW G (S 4) (cs2_512 4) (Fs2_512 4), [cA g0 G.2.1.1 18 (uZ (tkN f tk.toNat) 6 (tkN f tk.toNat 6 + (tkN f tk.toNat 13 + tkN f tk.toNat 16 - f 13 - f 16)))], [cLg r0 G.2.1.2.2.2.2 64 lr], [cLg m0 G.2.1.2.2.2.2 2 lm]] : List va_W).flatten 75 rfl (uZ (tkN f tk.toNat) 6 (tkN f tk.toNat 6 + (tkN f tk.toNat 13 + tkN f tk.toNat 16 - f 13 - f 16))) (fun j h0 h1 => ?agr) rfl ?_
                      case agr =>
                        rw [← hkt, ← hU, hcs]
                      refine s_iload C dL_acts_515 11 rfl ?_
                      refine s_icmp_ne 524 C dL_acts_517 (by decide) (by omega) (by omega) (fun h_517 => ?_) (fun h_517 => ?_)
                      · refine s_iconst C dL_acts_524 ?_
                        exact s_zret C E dL_acts_525 rfl ⟨c2_512, F2_512, ps2_512, Q2_512, cs2_512, Fs2_512, p2_512, (uZ (tkN f tk.toNat) 6 (tkN f tk.toNat 6 + (tkN f tk.toNat 13 + tkN f tk.toNat 16 - f 13 - f 16))), P2_512, lr, lm, (congrArg (fun z => some (vI z)) (by omega)), rfl, hq0_512, hN9, (hq2_512.mono (by omega))⟩
                      · refine s_iconst C dL_acts_520 ?_
                        refine s_goto 525 C dL_acts_521 (by decide) ?_
                        exact s_zret C E dL_acts_525 rfl ⟨c2_512, F2_512, ps2_512, Q2_512, cs2_512, Fs2_512, p2_512, (uZ (tkN f tk.toNat) 6 (tkN f tk.toNat 6 + (tkN f tk.toNat 13 + tkN f tk.toNat 16 - f 13 - f 16))), P2_512, lr, lm, rfl, rfl, hq0_512, hN9, (hq2_512.mono (by omega))⟩
                    · have hTU : TI U (B + k) := by rw [hU]; have h9 := hT.n k.toNat (by omega); rwa [show ((k.toNat : Nat) : Int) = k by omega] at h9
                      have hU7 := hTU.2.2.1
                      have hU1 := hTU.2.1
                      have hTa := hTU.a (by omega)
                      have hTb := hTU.b (by omega)
                      have hSa := hTa.S (b := 0) (by omega)
                      have hSc := hTb.S (b := 1) (by omega)
                      have hUo : ∀ j : Int, j ≠ 1 → j ≠ 13 → j ≠ 16 → U j = f j := fun j a1 a2 a3 => by rw [hU]; exact tkN_o a1 a2 a3 _
                      have hS0 := hI.S 0 (by omega) (by omega)
                      have hS1 := hI.S 1 (by omega) (by omega)
                      have e0a : oS (tkA U) 0 0 = oS f 0 0 := (tkA_n (by omega)).trans (hUo _ (by omega) (by omega) (by omega))
                      have e1b : oS (tkB U) 1 0 = oS f 1 0 := (tkB_n (by omega) (by omega)).trans (hUo _ (by omega) (by omega) (by omega))
                      have hga : ∀ b r : Int, 0 ≤ b → b ≤ 1 → 1 ≤ r → oG (tkA U) b r = oG f b r := fun b r b0 b1 r0 => (tkA_n (by omega)).trans (hUo _ (by omega) (by omega) (by omega))
                      have hgb : ∀ b r : Int, 0 ≤ b → b ≤ 1 → 1 ≤ r → oG (tkB U) b r = oG f b r := fun b r b0 b1 r0 => (tkB_n (by omega) (by omega)).trans (hUo _ (by omega) (by omega) (by omega))
                      have hra : ∀ r : Int, 1 ≤ r → oR (tkA U) r 4 = oR f r 4 := fun r r0 => (tkA_n (by omega)).trans (hUo _ (by omega) (by omega) (by omega))
                      have hrb : ∀ r : Int, 1 ≤ r → oR (tkB U) r 4 = oR f r 4 := fun r r0 => (tkB_n (by omega) (by omega)).trans (hUo _ (by omega) (by omega) (by omega))
                      have hreca : ∀ r : Int, 1 ≤ r → r ≤ oS (tkA U) 0 0 → lr r < 9223372036854775808 ∧ (((lr r) / 128000000 : Nat) : Int) = oR (tkA U) r 4 := fun r r0 r1 => ⟨rk_lt hP hL.1 r0 (by omega), (rk_a hP hL.1 r0 (by omega)).trans (hra r r0).symm⟩
                      have hrecb : ∀ r : Int, 1 ≤ r → r ≤ oS (tkB U) 1 0 → lr r < 9223372036854775808 ∧ (((lr r) / 128000000 : Nat) : Int) = oR (tkB U) r 4 := fun r r0 r1 => ⟨rk_lt hP hL.1 r0 (by omega), (rk_a hP hL.1 r0 (by omega)).trans (hrb r r0).symm⟩
                      have hBa : BM (tkA U) 0 (lm 0) := hL.2.1.cong (fun r r0 r1 => by rw [hga 0 r (by omega) (by omega) r0])
                      have hBb : BM (tkB U) 1 (lm 1) := hL.2.2.cong (fun r r0 r1 => by rw [hgb 1 r (by omega) (by omega) r0])
                      have hza : ∀ r : Int, 62 ≤ r → r ≤ 100 → ¬ oG (tkA U) 0 r = 1 := fun r r0 r1 => by rw [hga 0 r (by omega) (by omega) (by omega)]; exact hP.gz (by omega) r r0 r1
                      have hzb : ∀ r : Int, 62 ≤ r → r ≤ 100 → ¬ oG (tkB U) 1 r = 1 := fun r r0 r1 => by rw [hgb 1 r (by omega) (by omega) (by omega)]; exact hP.gz (by omega) r r0 r1
                      refine s_aload_n 1 C dL_acts_425 rfl 1 rfl ?_
                      refine s_iconst C dL_acts_426 ?_
                      refine s_dup2 C dL_acts_427 rfl rfl ?_
                      refine s_iald C dL_acts_428 75 rfl 1 rfl (by omega) (by omega) (by omega) ?_
                      refine s_iconst C dL_acts_429 ?_
                      refine s_iadd C dL_acts_430 ?_
                      refine s_iast ([[cO x0 6 [.ref (a 0), .ref h0, .ref o0, .ref u0, .ref e8, .ref e9]], stW G a c F, [cO h0 0 [.ref h1, vI ps]], [cQ h1 G.2.1.2.2.2.1 5 Q], stW G (S 0) (cs 0) (Fs 0), stW G (S 1) (cs 1) (Fs 1), stW G (S 2) (cs 2) (Fs 2), stW G (S 3) (cs 3) (Fs 3), stW G (S 4) (cs 4) (Fs 4), [cA g0 G.2.1.1 18 (uZ U 1 ((U 1) + 1))], [cLg r0 G.2.1.2.2.2.2 64 lr], [cLg m0 G.2.1.2.2.2.2 2 lm]] : List va_W).flatten C dL_acts_431 75 rfl 1 rfl (by omega) (by omega) (by omega) rfl ?_
                      refine s_iconst C dL_acts_432 ?_
                      refine s_istore [(13, vI 0), (0, .ref x0), (1, .ref g0), (2, .ref r0), (3, .ref m0), (4, vI zz), (5, vI y), (6, vI way), (7, vI b), (8, vI (12 + (3 * b))), (9, vI 1), (10, vI tk), (11, vI sm), (12, vI k)] C dL_acts_433 (by decide) rfl ?_
                      refine s_iload C dL_acts_435 0 rfl ?_
                      refine s_iconst C dL_acts_437 ?_
                      refine s_icmp_ge 494 C dL_acts_438 (by decide) (by decide) (by decide) (fun h => absurd h (by decide)) (fun h => ?_)
                      refine s_aload_n 1 C dL_acts_441 rfl 2 rfl ?_
                      refine s_aload_n 2 C dL_acts_442 rfl 3 rfl ?_
                      refine s_aload_n 3 C dL_acts_443 rfl 4 rfl ?_
                      refine s_iload C dL_acts_444 0 rfl ?_
                      refine s_aload_n 1 C dL_acts_446 rfl 2 rfl ?_
                      refine s_bipush (z := 13) C dL_acts_447 rfl ?_
                      refine s_iconst C dL_acts_449 ?_
                      refine s_iload C dL_acts_450 0 rfl ?_
                      refine s_imul C dL_acts_452 ?_
                      refine s_iadd C dL_acts_453 ?_
                      refine s_iald C dL_acts_454 75 rfl 13 (by omega) (by omega) (by omega) (by omega) ?_
                      refine s_top (U 13) (uZ_n (by omega)) ?_
                      refine s_aload_n 1 C dL_acts_455 rfl 2 rfl ?_
                      refine s_iconst C dL_acts_456 ?_
                      refine s_iald C dL_acts_457 75 rfl 1 rfl (by omega) (by omega) (by omega) ?_
                      refine s_top ((U 1) + 1) uZ_s ?_
                      refine s_aload_n 1 C dL_acts_458 rfl 2 rfl ?_
                      refine s_bipush (z := 7) C dL_acts_459 rfl ?_
                      refine s_iald C dL_acts_461 75 rfl 7 rfl (by omega) (by omega) (by omega) ?_
                      refine s_top (U 7) (uZ_n (by omega)) ?_
                      refine s_callSQ (As := [.ref g0, .ref r0, .ref m0, vI 0, vI (U 13), vI ((U 1) + 1), vI (U 7)]) (rest := []) (segs := [[cO x0 6 [.ref (a 0), .ref h0, .ref o0, .ref u0, .ref e8, .ref e9]], stW G a c F, [cO h0 0 [.ref h1, vI ps]], [cQ h1 G.2.1.2.2.2.1 5 Q], stW G (S 0) (cs 0) (Fs 0), stW G (S 1) (cs 1) (Fs 1), stW G (S 2) (cs 2) (Fs 2), stW G (S 3) (cs 3) (Fs 3), stW G (S 4) (cs 4) (Fs 4), [cA g0 G.2.1.1 18 (uZ U 1 ((U 1) + 1))], [cLg r0 G.2.1.2.2.2.2 64 lr], [cLg m0 G.2.1.2.2.2.2 2 lm]]) C dL_acts_462 (c_L_applies l G g0 r0 m0 (uZ U 1 ((U 1) + 1)) lr lm (B + k + 1) 0 (U 13) ((U 1) + 1) (U 7) hTa (by first | assumption | omega) ⟨hSa.1, hSa.2.1⟩ (show oS (tkA U) 0 0 ≤ 61 by omega) (by omega) hU7 hreca hBa hza) gL_acts_L_applies rfl 7 (by decide +kernel) (by decide) [9, 10, 11] [0, 1, 2, 3, 4, 5, 6, 7, 8] 12 (rfl : (12 : Nat) = 12) (by decide +kernel) rfl rfl (Nat.le_of_ble_eq_true rfl) ⟨Nat.zero_le _, Nat.zero_le _⟩ ?_
                      intro v0 w0 hq
                      obtain ⟨rfl, rfl⟩ := hq
                      refine ⟨rfl, [[cO x0 6 [.ref (a 0), .ref h0, .ref o0, .ref u0, .ref e8, .ref e9]], stW G a c F, [cO h0 0 [.ref h1, vI ps]], [cQ h1 G.2.1.2.2.2.1 5 Q], stW G (S 0) (cs 0) (Fs 0), stW G (S 1) (cs 1) (Fs 1), stW G (S 2) (cs 2) (Fs 2), stW G (S 3) (cs 3) (Fs 3), stW G (S 4) (cs 4) (Fs 4), [cA g0 G.2.1.1 18 (uZ U 1 ((U 1) + 1))], [cLg r0 G.2.1.2.2.2.2 64 lr], [cLg m0 G.2.1.2.2.2.2 2 lm]], (rfl : (12 : Nat) = 12), rfl, Eq.trans (b := ([[cO x0 6 [.ref (a 0), .ref h0, .ref o0, .ref u0, .ref e8, .ref e9]], stW G a c F, [cO h0 0 [.ref h1, vI ps]], [cQ h1 G.2.1.2.2.2.1 5 Q], stW G (S 0) (cs 0) (Fs 0), stW G (S 1) (cs 1) (Fs 1), stW G (S 2) (cs 2) (Fs 2), stW G (S 3) (cs 3) (Fs 3), stW G (S 4) (cs 4) (Fs 4)] : List va_W)) rfl rfl, ?_⟩
                      show fSt l G X 0 0 465 [(13, vI 0), (0, .ref x0), (1, .ref g0), (2, .ref r0), (3, .ref m0), (4, vI zz), (5, vI y), (6, vI way), (7, vI b), (8, vI (12 + (3 * b))), (9, vI 1), (10, vI tk), (11, vI sm), (12, vI k)] [vI (go (uZ U 1 ((U 1) + 1)) 0 (U 13) ((U 1) + 1) (U 7))] ([[cO x0 6 [.ref (a 0), .ref h0, .ref o0, .ref u0, .ref e8, .ref e9]], stW G a c F, [cO h0 0 [.ref h1, vI ps]], [cQ h1 G.2.1.2.2.2.1 5 Q], stW G (S 0) (cs 0) (Fs 0), stW G (S 1) (cs 1) (Fs 1), stW G (S 2) (cs 2) (Fs 2), stW G (S 3) (cs 3) (Fs 3), stW G (S 4) (cs 4) (Fs 4), [cA g0 G.2.1.1 18 (uZ U 1 ((U 1) + 1))], [cLg r0 G.2.1.2.2.2.2 64 lr], [cLg m0 G.2.1.2.2.2.2 2 lm]] : List va_W).flatten
                      refine s_istore [(14, vI (go (uZ U 1 ((U 1) + 1)) 0 (U 13) ((U 1) + 1) (U 7))), (13, vI 0), (0, .ref x0), (1, .ref g0), (2, .ref r0), (3, .ref m0), (4, vI zz), (5, vI y), (6, vI way), (7, vI b), (8, vI (12 + (3 * b))), (9, vI 1), (10, vI tk), (11, vI sm), (12, vI k)] C dL_acts_465 (by decide) rfl ?_
                      refine s_aload_n 1 C dL_acts_467 rfl 3 rfl ?_
                      refine s_bipush (z := 13) C dL_acts_468 rfl ?_
                      refine s_iconst C dL_acts_470 ?_
                      refine s_iload C dL_acts_471 1 rfl ?_
                      refine s_imul C dL_acts_473 ?_
                      refine s_iadd C dL_acts_474 ?_
                      refine s_dup2 C dL_acts_475 rfl rfl ?_
                      refine s_iald C dL_acts_476 75 rfl 13 (by omega) (by omega) (by omega) (by omega) ?_
                      refine s_top (U 13) (uZ_n (by omega)) ?_
                      refine s_iload C dL_acts_477 0 rfl ?_
                      refine s_iadd C dL_acts_479 ?_
                      refine s_iast ([[cO x0 6 [.ref (a 0), .ref h0, .ref o0, .ref u0, .ref e8, .ref e9]], stW G a c F, [cO h0 0 [.ref h1, vI ps]], [cQ h1 G.2.1.2.2.2.1 5 Q], stW G (S 0) (cs 0) (Fs 0), stW G (S 1) (cs 1) (Fs 1), stW G (S 2) (cs 2) (Fs 2), stW G (S 3) (cs 3) (Fs 3), stW G (S 4) (cs 4) (Fs 4), [cA g0 G.2.1.1 18 (uZ (uZ U 1 ((U 1) + 1)) 13 ((U 13) + (go (uZ U 1 ((U 1) + 1)) 0 (U 13) ((U 1) + 1) (U 7))))], [cLg r0 G.2.1.2.2.2.2 64 lr], [cLg m0 G.2.1.2.2.2.2 2 lm]] : List va_W).flatten C dL_acts_480 75 rfl 13 (by omega) (by omega) (by omega) (by omega) rfl ?_
                      refine s_iload C dL_acts_481 13 rfl ?_
                      refine s_iload C dL_acts_483 0 rfl ?_
                      refine s_iadd C dL_acts_485 ?_
                      refine s_istore [(11, vI (sm + (go (uZ U 1 ((U 1) + 1)) 0 (U 13) ((U 1) + 1) (U 7)))), (14, vI (go (uZ U 1 ((U 1) + 1)) 0 (U 13) ((U 1) + 1) (U 7))), (13, vI 0), (0, .ref x0), (1, .ref g0), (2, .ref r0), (3, .ref m0), (4, vI zz), (5, vI y), (6, vI way), (7, vI b), (8, vI (12 + (3 * b))), (9, vI 1), (10, vI tk), (12, vI k)] C dL_acts_486 (by decide) rfl ?_
                      refine s_iinc [(13, vI (0 + 1)), (11, vI (sm + (go (uZ U 1 ((U 1) + 1)) 0 (U 13) ((U 1) + 1) (U 7)))), (14, vI (go (uZ U 1 ((U 1) + 1)) 0 (U 13) ((U 1) + 1) (U 7))), (0, .ref x0), (1, .ref g0), (2, .ref r0), (3, .ref m0), (4, vI zz), (5, vI y), (6, vI way), (7, vI b), (8, vI (12 + (3 * b))), (9, vI 1), (10, vI tk), (12, vI k)] C dL_acts_488 2 rfl (by decide) rfl ?_
                      refine s_goto 435 C dL_acts_491 (by decide) ?_
                      refine s_iload C dL_acts_435 0 rfl ?_
                      refine s_iconst C dL_acts_437 ?_
                      refine s_icmp_ge 494 C dL_acts_438 (by decide) (by decide) (by decide) (fun h => absurd h (by decide)) (fun h => ?_)
                      refine s_aload_n 1 C dL_acts_441 rfl 4 rfl ?_
                      refine s_aload_n 2 C dL_acts_442 rfl 5 rfl ?_
                      refine s_aload_n 3 C dL_acts_443 rfl 6 rfl ?_
                      refine s_iload C dL_acts_444 0 rfl ?_
                      refine s_aload_n 1 C dL_acts_446 rfl 4 rfl ?_
                      refine s_bipush (z := 13) C dL_acts_447 rfl ?_
                      refine s_iconst C dL_acts_449 ?_
                      refine s_iload C dL_acts_450 0 rfl ?_
                      refine s_imul C dL_acts_452 ?_
                      refine s_iadd C dL_acts_453 ?_
                      refine s_iald C dL_acts_454 75 rfl 16 (by omega) (by omega) (by omega) (by omega) ?_
                      refine s_top ((uZ U 1 ((U 1) + 1)) 16) (uZ_n (by omega)) ?_
                      refine s_top (U 16) (uZ_n (by omega)) ?_
                      refine s_aload_n 1 C dL_acts_455 rfl 4 rfl ?_
                      refine s_iconst C dL_acts_456 ?_
                      refine s_iald C dL_acts_457 75 rfl 1 rfl (by omega) (by omega) (by omega) ?_
                      refine s_top ((uZ U 1 ((U 1) + 1)) 1) (uZ_n (by omega)) ?_
                      refine s_top ((U 1) + 1) uZ_s ?_
                      refine s_aload_n 1 C dL_acts_458 rfl 4 rfl ?_
                      refine s_bipush (z := 7) C dL_acts_459 rfl ?_
                      refine s_iald C dL_acts_461 75 rfl 7 rfl (by omega) (by omega) (by omega) ?_
                      refine s_top ((uZ U 1 ((U 1) + 1)) 7) (uZ_n (by omega)) ?_
                      refine s_top (U 7) (uZ_n (by omega)) ?_
                      refine s_callSQ (As := [.ref g0, .ref r0, .ref m0, vI 1, vI (U 16), vI ((U 1) + 1), vI (U 7)]) (rest := []) (segs := [[cO x0 6 [.ref (a 0), .ref h0, .ref o0, .ref u0, .ref e8, .ref e9]], stW G a c F, [cO h0 0 [.ref h1, vI ps]], [cQ h1 G.2.1.2.2.2.1 5 Q], stW G (S 0) (cs 0) (Fs 0), stW G (S 1) (cs 1) (Fs 1), stW G (S 2) (cs 2) (Fs 2), stW G (S 3) (cs 3) (Fs 3), stW G (S 4) (cs 4) (Fs 4), [cA g0 G.2.1.1 18 (uZ (uZ U 1 ((U 1) + 1)) 13 ((U 13) + (go (uZ U 1 ((U 1) + 1)) 0 (U 13) ((U 1) + 1) (U 7))))], [cLg r0 G.2.1.2.2.2.2 64 lr], [cLg m0 G.2.1.2.2.2.2 2 lm]]) C dL_acts_462 (c_L_applies l G g0 r0 m0 (uZ (uZ U 1 ((U 1) + 1)) 13 ((U 13) + (go (uZ U 1 ((U 1) + 1)) 0 (U 13) ((U 1) + 1) (U 7)))) lr lm (B + k + 1) 1 (U 16) ((U 1) + 1) (U 7) hTb (by first | assumption | omega) ⟨hSc.1, hSc.2.1⟩ (show oS (tkB U) 1 0 ≤ 61 by omega) (by omega) hU7 hrecb hBb hzb) gL_acts_L_applies rfl 7 (by decide +kernel) (by decide) [9, 10, 11] [0, 1, 2, 3, 4, 5, 6, 7, 8] 12 (rfl : (12 : Nat) = 12) (by decide +kernel) rfl rfl (Nat.le_of_ble_eq_true rfl) ⟨Nat.zero_le _, Nat.zero_le _⟩ ?_
                      intro v0 w0 hq
                      obtain ⟨rfl, rfl⟩ := hq
                      refine ⟨rfl, [[cO x0 6 [.ref (a 0), .ref h0, .ref o0, .ref u0, .ref e8, .ref e9]], stW G a c F, [cO h0 0 [.ref h1, vI ps]], [cQ h1 G.2.1.2.2.2.1 5 Q], stW G (S 0) (cs 0) (Fs 0), stW G (S 1) (cs 1) (Fs 1), stW G (S 2) (cs 2) (Fs 2), stW G (S 3) (cs 3) (Fs 3), stW G (S 4) (cs 4) (Fs 4), [cA g0 G.2.1.1 18 (uZ (uZ U 1 ((U 1) + 1)) 13 ((U 13) + (go (uZ U 1 ((U 1) + 1)) 0 (U 13) ((U 1) + 1) (U 7))))], [cLg r0 G.2.1.2.2.2.2 64 lr], [cLg m0 G.2.1.2.2.2.2 2 lm]], (rfl : (12 : Nat) = 12), rfl, Eq.trans (b := ([[cO x0 6 [.ref (a 0), .ref h0, .ref o0, .ref u0, .ref e8, .ref e9]], stW G a c F, [cO h0 0 [.ref h1, vI ps]], [cQ h1 G.2.1.2.2.2.1 5 Q], stW G (S 0) (cs 0) (Fs 0), stW G (S 1) (cs 1) (Fs 1), stW G (S 2) (cs 2) (Fs 2), stW G (S 3) (cs 3) (Fs 3), stW G (S 4) (cs 4) (Fs 4)] : List va_W)) rfl rfl, ?_⟩
                      show fSt l G X 0 0 465 [(13, vI 1), (11, vI (sm + (go (uZ U 1 ((U 1) + 1)) 0 (U 13) ((U 1) + 1) (U 7)))), (14, vI (go (uZ U 1 ((U 1) + 1)) 0 (U 13) ((U 1) + 1) (U 7))), (0, .ref x0), (1, .ref g0), (2, .ref r0), (3, .ref m0), (4, vI zz), (5, vI y), (6, vI way), (7, vI b), (8, vI (12 + (3 * b))), (9, vI 1), (10, vI tk), (12, vI k)] [vI (go (uZ (uZ U 1 ((U 1) + 1)) 13 ((U 13) + (go (uZ U 1 ((U 1) + 1)) 0 (U 13) ((U 1) + 1) (U 7)))) 1 (U 16) ((U 1) + 1) (U 7))] ([[cO x0 6 [.ref (a 0), .ref h0, .ref o0, .ref u0, .ref e8, .ref e9]], stW G a c F, [cO h0 0 [.ref h1, vI ps]], [cQ h1 G.2.1.2.2.2.1 5 Q], stW G (S 0) (cs 0) (Fs 0), stW G (S 1) (cs 1) (Fs 1), stW G (S 2) (cs 2) (Fs 2), stW G (S 3) (cs 3) (Fs 3), stW G (S 4) (cs 4) (Fs 4), [cA g0 G.2.1.1 18 (uZ (uZ U 1 ((U 1) + 1)) 13 ((U 13) + (go (uZ U 1 ((U 1) + 1)) 0 (U 13) ((U 1) + 1) (U 7))))], [cLg r0 G.2.1.2.2.2.2 64 lr], [cLg m0 G.2.1.2.2.2.2 2 lm]] : List va_W).flatten
                      refine s_istore [(14, vI (go (uZ (uZ U 1 ((U 1) + 1)) 13 ((U 13) + (go (uZ U 1 ((U 1) + 1)) 0 (U 13) ((U 1) + 1) (U 7)))) 1 (U 16) ((U 1) + 1) (U 7))), (13, vI 1), (11, vI (sm + (go (uZ U 1 ((U 1) + 1)) 0 (U 13) ((U 1) + 1) (U 7)))), (0, .ref x0), (1, .ref g0), (2, .ref r0), (3, .ref m0), (4, vI zz), (5, vI y), (6, vI way), (7, vI b), (8, vI (12 + (3 * b))), (9, vI 1), (10, vI tk), (12, vI k)] C dL_acts_465 (by decide) rfl ?_
                      refine s_aload_n 1 C dL_acts_467 rfl 4 rfl ?_
                      refine s_bipush (z := 13) C dL_acts_468 rfl ?_
                      refine s_iconst C dL_acts_470 ?_
                      refine s_iload C dL_acts_471 1 rfl ?_
                      refine s_imul C dL_acts_473 ?_
                      refine s_iadd C dL_acts_474 ?_
                      refine s_dup2 C dL_acts_475 rfl rfl ?_
                      refine s_iald C dL_acts_476 75 rfl 16 (by omega) (by omega) (by omega) (by omega) ?_
                      refine s_top ((uZ U 1 ((U 1) + 1)) 16) (uZ_n (by omega)) ?_
                      refine s_top (U 16) (uZ_n (by omega)) ?_
                      refine s_iload C dL_acts_477 0 rfl ?_
                      refine s_iadd C dL_acts_479 ?_
                      refine s_iast ([[cO x0 6 [.ref (a 0), .ref h0, .ref o0, .ref u0, .ref e8, .ref e9]], stW G a c F, [cO h0 0 [.ref h1, vI ps]], [cQ h1 G.2.1.2.2.2.1 5 Q], stW G (S 0) (cs 0) (Fs 0), stW G (S 1) (cs 1) (Fs 1), stW G (S 2) (cs 2) (Fs 2), stW G (S 3) (cs 3) (Fs 3), stW G (S 4) (cs 4) (Fs 4), [cA g0 G.2.1.1 18 (uZ (uZ (uZ U 1 ((U 1) + 1)) 13 ((U 13) + (go (uZ U 1 ((U 1) + 1)) 0 (U 13) ((U 1) + 1) (U 7)))) 16 ((U 16) + (go (uZ (uZ U 1 ((U 1) + 1)) 13 ((U 13) + (go (uZ U 1 ((U 1) + 1)) 0 (U 13) ((U 1) + 1) (U 7)))) 1 (U 16) ((U 1) + 1) (U 7))))], [cLg r0 G.2.1.2.2.2.2 64 lr], [cLg m0 G.2.1.2.2.2.2 2 lm]] : List va_W).flatten C dL_acts_480 75 rfl 16 (by omega) (by omega) (by omega) (by omega) rfl ?_
                      refine s_iload C dL_acts_481 2 rfl ?_
                      refine s_iload C dL_acts_483 0 rfl ?_
                      refine s_iadd C dL_acts_485 ?_
                      refine s_istore [(11, vI (sm + (go (uZ U 1 ((U 1) + 1)) 0 (U 13) ((U 1) + 1) (U 7)) + (go (uZ (uZ U 1 ((U 1) + 1)) 13 ((U 13) + (go (uZ U 1 ((U 1) + 1)) 0 (U 13) ((U 1) + 1) (U 7)))) 1 (U 16) ((U 1) + 1) (U 7)))), (14, vI (go (uZ (uZ U 1 ((U 1) + 1)) 13 ((U 13) + (go (uZ U 1 ((U 1) + 1)) 0 (U 13) ((U 1) + 1) (U 7)))) 1 (U 16) ((U 1) + 1) (U 7))), (13, vI 1), (0, .ref x0), (1, .ref g0), (2, .ref r0), (3, .ref m0), (4, vI zz), (5, vI y), (6, vI way), (7, vI b), (8, vI (12 + (3 * b))), (9, vI 1), (10, vI tk), (12, vI k)] C dL_acts_486 (by decide) rfl ?_
                      refine s_iinc [(13, vI (1 + 1)), (11, vI (sm + (go (uZ U 1 ((U 1) + 1)) 0 (U 13) ((U 1) + 1) (U 7)) + (go (uZ (uZ U 1 ((U 1) + 1)) 13 ((U 13) + (go (uZ U 1 ((U 1) + 1)) 0 (U 13) ((U 1) + 1) (U 7)))) 1 (U 16) ((U 1) + 1) (U 7)))), (14, vI (go (uZ (uZ U 1 ((U 1) + 1)) 13 ((U 13) + (go (uZ U 1 ((U 1) + 1)) 0 (U 13) ((U 1) + 1) (U 7)))) 1 (U 16) ((U 1) + 1) (U 7))), (0, .ref x0), (1, .ref g0), (2, .ref r0), (3, .ref m0), (4, vI zz), (5, vI y), (6, vI way), (7, vI b), (8, vI (12 + (3 * b))), (9, vI 1), (10, vI tk), (12, vI k)] C dL_acts_488 2 rfl (by decide) rfl ?_
                      refine s_goto 435 C dL_acts_491 (by decide) ?_
                      refine s_iload C dL_acts_435 0 rfl ?_
                      refine s_iconst C dL_acts_437 ?_
                      refine s_icmp_ge 494 C dL_acts_438 (by decide) (by decide) (by decide) (fun h => ?_) (fun h => absurd h (by decide))
                      have hcs2 : sm + go (tkA U) 0 (oS (tkA U) 0 1) (U 1 + 1) (U 7) + go (tkB U) 1 (oS (tkB U) 1 1) (U 1 + 1) (U 7) = tk1 U 13 + tk1 U 16 - f 13 - f 16 := by rw [tk1_13, tk1_16]; omega
                      refine s_iinc [(12, vI (k + 1)), (13, vI 2), (11, vI (sm + (go (uZ U 1 ((U 1) + 1)) 0 (U 13) ((U 1) + 1) (U 7)) + (go (uZ (uZ U 1 ((U 1) + 1)) 13 ((U 13) + (go (uZ U 1 ((U 1) + 1)) 0 (U 13) ((U 1) + 1) (U 7)))) 1 (U 16) ((U 1) + 1) (U 7)))), (14, vI (go (uZ (uZ U 1 ((U 1) + 1)) 13 ((U 13) + (go (uZ U 1 ((U 1) + 1)) 0 (U 13) ((U 1) + 1) (U 7)))) 1 (U 16) ((U 1) + 1) (U 7))), (0, .ref x0), (1, .ref g0), (2, .ref r0), (3, .ref m0), (4, vI zz), (5, vI y), (6, vI way), (7, vI b), (8, vI (12 + (3 * b))), (9, vI 1), (10, vI tk)] C dL_acts_494 14 rfl (by decide) rfl ?_
                      refine s_goto 418 C dL_acts_497 (by decide) ?_
                      refine s_lv [(0, .ref x0), (1, .ref g0), (2, .ref r0), (3, .ref m0), (4, vI zz), (5, vI y), (6, vI way), (7, vI b), (8, vI (12 + (3 * b))), (9, vI 1), (10, vI tk), (11, vI (sm + (go (uZ U 1 ((U 1) + 1)) 0 (U 13) ((U 1) + 1) (U 7)) + (go (uZ (uZ U 1 ((U 1) + 1)) 13 ((U 13) + (go (uZ U 1 ((U 1) + 1)) 0 (U 13) ((U 1) + 1) (U 7)))) 1 (U 16) ((U 1) + 1) (U 7)))), (12, vI (k + 1))] [4, 5, 6, 7, 8, 9, 10, 11, 12, 13, 14, 2, 0] rfl ?_
                      exact ih_418 (k + 1) (sm + (go (uZ U 1 ((U 1) + 1)) 0 (U 13) ((U 1) + 1) (U 7)) + (go (uZ (uZ U 1 ((U 1) + 1)) 13 ((U 13) + (go (uZ U 1 ((U 1) + 1)) 0 (U 13) ((U 1) + 1) (U 7)))) 1 (U 16) ((U 1) + 1) (U 7))) (uZ (uZ (uZ U 1 ((U 1) + 1)) 13 ((U 13) + (go (uZ U 1 ((U 1) + 1)) 0 (U 13) ((U 1) + 1) (U 7)))) 16 ((U 16) + (go (uZ (uZ U 1 ((U 1) + 1)) 13 ((U 13) + (go (uZ U 1 ((U 1) + 1)) 0 (U 13) ((U 1) + 1) (U 7)))) 1 (U 16) ((U 1) + 1) (U 7)))) (by omega) (by rw [show (k + 1).toNat = k.toNat + 1 by omega, tkN, ← hU]; rfl) hcs2 (by omega)
                refine s_lv [(0, .ref x0), (1, .ref g0), (2, .ref r0), (3, .ref m0), (4, vI zz), (5, vI y), (6, vI way), (7, vI b), (8, vI (12 + (3 * b))), (9, vI 1), (10, vI tk), (11, vI 0), (12, vI 0)] [8, 9, 10, 11, 12, 7, 6, 5, 4, 3, 2, 1, 0] rfl ?_
                exact loop_418 (tk - 0 + 1 : Int).toNat 0 0 f (by omega) rfl (by omega) (by omega)
              · refine s_bipush (z := 99) C dL_acts_402 rfl ?_
                refine s_goto 408 C dL_acts_404 (by decide) ?_
                refine s_irem C dL_acts_408 (by omega) (by omega) ?_
                refine s_iadd C dL_acts_409 ?_
                obtain ⟨tk, hv_tk, hq_tk⟩ : ∃ tk : Int, tk = 1 + (y % 99) ∧ (1 ≤ tk ∧ tk ≤ 99) := ⟨_, rfl, by omega⟩
                refine s_top tk hv_tk.symm ?_
                refine s_istore [(10, vI tk), (9, vI 1), (8, vI (12 + (3 * b))), (7, vI b), (6, vI way), (5, vI y), (0, .ref x0), (1, .ref g0), (2, .ref r0), (3, .ref m0), (4, vI zz)] C dL_acts_410 (by decide) rfl ?_
                refine s_iconst C dL_acts_412 ?_
                refine s_istore [(11, vI 0), (10, vI tk), (9, vI 1), (8, vI (12 + (3 * b))), (7, vI b), (6, vI way), (5, vI y), (0, .ref x0), (1, .ref g0), (2, .ref r0), (3, .ref m0), (4, vI zz)] C dL_acts_413 (by decide) rfl ?_
                refine s_iconst C dL_acts_415 ?_
                refine s_istore [(12, vI 0), (11, vI 0), (10, vI tk), (9, vI 1), (8, vI (12 + (3 * b))), (7, vI b), (6, vI way), (5, vI y), (0, .ref x0), (1, .ref g0), (2, .ref r0), (3, .ref m0), (4, vI zz)] C dL_acts_416 (by decide) rfl ?_
                have loop_418 : ∀ (fuel : Nat) (k sm : Int) (U : Int → Int), (0 ≤ k ∧ k ≤ tk) → (U = tkN f k.toNat) → (sm = U 13 + U 16 - f 13 - f 16) → (tk - k < (fuel : Int)) → fSt l G X 0 0 418 [(0, .ref x0), (1, .ref g0), (2, .ref r0), (3, .ref m0), (4, vI zz), (5, vI y), (6, vI way), (7, vI b), (8, vI (12 + (3 * b))), (9, vI 1), (10, vI tk), (11, vI sm), (12, vI k)] [] ([[cO x0 6 [.ref (a 0), .ref h0, .ref o0, .ref u0, .ref e8, .ref e9]], stW G a c F, [cO h0 0 [.ref h1, vI ps]], [cQ h1 G.2.1.2.2.2.1 5 Q], stW G (S 0) (cs 0) (Fs 0), stW G (S 1) (cs 1) (Fs 1), stW G (S 2) (cs 2) (Fs 2), stW G (S 3) (cs 3) (Fs 3), stW G (S 4) (cs 4) (Fs 4), [cA g0 G.2.1.1 18 U], [cLg r0 G.2.1.2.2.2.2 64 lr], [cLg m0 G.2.1.2.2.2.2 2 lm]] : List va_W).flatten := by
                  intro fuel
                  induction fuel with
                  | zero =>
                    intro k sm U hk hU hcs hm
                    exfalso
                    omega
                  | succ fuel ih_418 =>
                    intro k sm U hk hU hcs hm
                    refine s_iload C dL_acts_418 12 rfl ?_
                    refine s_iload C dL_acts_420 10 rfl ?_
                    refine s_icmp_ge 500 C dL_acts_422 (by decide) (by omega) (by omega) (fun h_422 => ?_) (fun h_422 => ?_)
                    · have hkt : k = tk := by omega
                      have hsum := tkN_up hT tk.toNat (by omega)
                      have hTk := hT.n tk.toNat (by omega)
                      have hT13 := hT.2.2.2.2.1
                      have hT16 := hT.2.2.2.2.2.1
                      have hK13 := hTk.2.2.2.2.1
                      have hK16 := hTk.2.2.2.2.2.1
                      have hsm : sm = tkN f tk.toNat 13 + tkN f tk.toNat 16 - f 13 - f 16 := by rw [hcs, hU, hkt]
                      refine s_aload_n 1 C dL_acts_500 rfl 1 rfl ?_
                      refine s_bipush (z := 6) C dL_acts_501 rfl ?_
                      refine s_dup2 C dL_acts_503 rfl rfl ?_
                      refine s_iald C dL_acts_504 75 rfl 6 rfl (by omega) (by omega) (by omega) ?_
                      refine s_iload C dL_acts_505 11 rfl ?_
                      refine s_iadd C dL_acts_507 ?_
                      refine s_iast ([[cO x0 6 [.ref (a 0), .ref h0, .ref o0, .ref u0, .ref e8, .ref e9]], stW G a c F, [cO h0 0 [.ref h1, vI ps]], [cQ h1 G.2.1.2.2.2.1 5 Q], stW G (S 0) (cs 0) (Fs 0), stW G (S 1) (cs 1) (Fs 1), stW G (S 2) (cs 2) (Fs 2), stW G (S 3) (cs 3) (Fs 3), stW G (S 4) (cs 4) (Fs 4), [cA g0 G.2.1.1 18 (uZ U 6 ((U 6) + sm))], [cLg r0 G.2.1.2.2.2.2 64 lr], [cLg m0 G.2.1.2.2.2.2 2 lm]] : List va_W).flatten C dL_acts_508 75 rfl 6 rfl (by omega) (by omega) (by omega) rfl ?_
                      refine s_aload_n 0 C dL_acts_509 rfl 0 rfl ?_
                      refine s_iload C dL_acts_510 10 rfl ?_
                      refine s_callVQ (As := [vI tk]) (rest := []) (segs := [[cO x0 6 [.ref (a 0), .ref h0, .ref o0, .ref u0, .ref e8, .ref e9]], stW G a c F, [cO h0 0 [.ref h1, vI ps]], [cQ h1 G.2.1.2.2.2.1 5 Q], stW G (S 0) (cs 0) (Fs 0), stW G (S 1) (cs 1) (Fs 1), stW G (S 2) (cs 2) (Fs 2), stW G (S 3) (cs 3) (Fs 3), stW G (S 4) (cs 4) (Fs 4), [cA g0 G.2.1.1 18 (uZ U 6 ((U 6) + sm))], [cLg r0 G.2.1.2.2.2.2 64 lr], [cLg m0 G.2.1.2.2.2.2 2 lm]]) C dL_acts_512 (c_X6_tick l G x0 h0 h1 (.ref o0) (.ref u0) (.ref e8) (.ref e9) ps Q S cs Fs p a c F B f P tk (by first | assumption | omega) hI hBB hH (by first | assumption | omega)) gL_acts_X6_tick rfl 1 (by decide +kernel) (by decide) 6 rfl rfl 0 _ rfl rfl [0, 2, 3, 4, 5, 6, 7, 8, 1] [9, 10, 11] 12 (rfl : (12 : Nat) = 12) (by decide +kernel) rfl rfl (Nat.le_of_ble_eq_true rfl) ⟨Nat.zero_le _, Nat.zero_le _⟩ ?_
                      intro v0 w0 hq
                      obtain ⟨z_512, f2_512, c2_512, F2_512, ps2_512, P2_512, Q2_512, cs2_512, Fs2_512, p2_512, rfl, rfl, hq0_512, hq1_512, hq2_512, hq3_512, hq4_512⟩ := hq
                      refine ⟨(fst_f (fst_c rfl (fst_c (fst_k rfl) (fst_c (fst_k rfl) (fst_c stW_fst (fst_c stW_fst (fst_c stW_fst (fst_c stW_fst (fst_c stW_fst (fst_c stW_fst rfl)))))))))), [[cO x0 6 [.ref (a 0), .ref h0, .ref o0, .ref u0, .ref e8, .ref e9]], stW G a c2_512 F2_512, [cO h0 0 [.ref h1, vI ps2_512]], [cQ h1 G.2.1.2.2.2.1 5 Q2_512], stW G (S 0) (cs2_512 0) (Fs2_512 0), stW G (S 1) (cs2_512 1) (Fs2_512 1), stW G (S 2) (cs2_512 2) (Fs2_512 2), stW G (S 3) (cs2_512 3) (Fs2_512 3), stW G (S 4) (cs2_512 4) (Fs2_512 4), [cA g0 G.2.1.1 18 (uZ U 6 ((U 6) + sm))], [cLg r0 G.2.1.2.2.2.2 64 lr], [cLg m0 G.2.1.2.2.2.2 2 lm]], (rfl : (12 : Nat) = 12), rfl, Eq.trans (b := ([[cA g0 G.2.1.1 18 (uZ U 6 ((U 6) + sm))], [cLg r0 G.2.1.2.2.2.2 64 lr], [cLg m0 G.2.1.2.2.2.2 2 lm]] : List va_W)) rfl rfl, ?_⟩
                      show fSt l G X 0 0 515 [(0, .ref x0), (1, .ref g0), (2, .ref r0), (3, .ref m0), (4, vI zz), (5, vI y), (6, vI way), (7, vI b), (8, vI (12 + (3 * b))), (9, vI 1), (10, vI tk), (11, vI sm), (12, vI k)] [vI z_512] ([[cO x0 6 [.ref (a 0), .ref h0, .ref o0, .ref u0, .ref e8, .ref e9]], stW G a c2_512 F2_512, [cO h0 0 [.ref h1, vI ps2_512]], [cQ h1 G.2.1.2.2.2.1 5 Q2_512], stW G (S 0) (cs2_512 0) (Fs2_512 0), stW G (S 1) (cs2_512 1) (Fs2_512 1), stW G (S 2) (cs2_512 2) (Fs2_512 2), stW G (S 3) (cs2_512 3) (Fs2_512 3), stW G (S 4) (cs2_512 4) (Fs2_512 4), [cA g0 G.2.1.1 18 (uZ U 6 ((U 6) + sm))], [cLg r0 G.2.1.2.2.2.2 64 lr], [cLg m0 G.2.1.2.2.2.2 2 lm]] : List va_W).flatten
                      obtain ⟨hE9, hN9⟩ := X_tick hP hL hq_tk
                      obtain ⟨hz, hf⟩ := Prod.mk.inj (hq1_512.trans hE9)
                      have hz := hz.symm
                      have hf := hf.symm
                      subst hz
                      subst hf
                      refine s_agr ([[cO x0 6 [.ref (a 0), .ref h0, .ref o0, .ref u0, .ref e8, .ref e9]], stW G a c2_512 F2_512, [cO h0 0 [.ref h1, vI ps2_512]], [cQ h1 G.2.1.2.2.2.1 5 Q2_512], stW G (S 0) (cs2_512 0) (Fs2_512 0), stW G (S 1) (cs2_512 1) (Fs2_512 1), stW G (S 2) (cs2_512 2) (Fs2_512 2), stW G (S 3) (cs2_512 3) (Fs2_512 3), stW G (S 4) (cs2_512 4) (Fs2_512 4), [cA g0 G.2.1.1 18 (uZ (tkN f tk.toNat) 6 (tkN f tk.toNat 6 + (tkN f tk.toNat 13 + tkN f tk.toNat 16 - f 13 - f 16)))], [cLg r0 G.2.1.2.2.2.2 64 lr], [cLg m0 G.2.1.2.2.2.2 2 lm]] : List va_W).flatten 75 rfl (uZ (tkN f tk.toNat) 6 (tkN f tk.toNat 6 + (tkN f tk.toNat 13 + tkN f tk.toNat 16 - f 13 - f 16))) (fun j h0 h1 => ?agr) rfl ?_
                      case agr =>
                        rw [← hkt, ← hU, hcs]
                      refine s_iload C dL_acts_515 11 rfl ?_
                      refine s_icmp_ne 524 C dL_acts_517 (by decide) (by omega) (by omega) (fun h_517 => ?_) (fun h_517 => ?_)
                      · refine s_iconst C dL_acts_524 ?_
                        exact s_zret C E dL_acts_525 rfl ⟨c2_512, F2_512, ps2_512, Q2_512, cs2_512, Fs2_512, p2_512, (uZ (tkN f tk.toNat) 6 (tkN f tk.toNat 6 + (tkN f tk.toNat 13 + tkN f tk.toNat 16 - f 13 - f 16))), P2_512, lr, lm, (congrArg (fun z => some (vI z)) (by omega)), rfl, hq0_512, hN9, (hq2_512.mono (by omega))⟩
                      · refine s_iconst C dL_acts_520 ?_
                        refine s_goto 525 C dL_acts_521 (by decide) ?_
                        exact s_zret C E dL_acts_525 rfl ⟨c2_512, F2_512, ps2_512, Q2_512, cs2_512, Fs2_512, p2_512, (uZ (tkN f tk.toNat) 6 (tkN f tk.toNat 6 + (tkN f tk.toNat 13 + tkN f tk.toNat 16 - f 13 - f 16))), P2_512, lr, lm, rfl, rfl, hq0_512, hN9, (hq2_512.mono (by omega))⟩
                    · have hTU : TI U (B + k) := by rw [hU]; have h9 := hT.n k.toNat (by omega); rwa [show ((k.toNat : Nat) : Int) = k by omega] at h9
                      have hU7 := hTU.2.2.1
                      have hU1 := hTU.2.1
                      have hTa := hTU.a (by omega)
                      have hTb := hTU.b (by omega)
                      have hSa := hTa.S (b := 0) (by omega)
                      have hSc := hTb.S (b := 1) (by omega)
                      have hUo : ∀ j : Int, j ≠ 1 → j ≠ 13 → j ≠ 16 → U j = f j := fun j a1 a2 a3 => by rw [hU]; exact tkN_o a1 a2 a3 _
                      have hS0 := hI.S 0 (by omega) (by omega)
                      have hS1 := hI.S 1 (by omega) (by omega)
                      have e0a : oS (tkA U) 0 0 = oS f 0 0 := (tkA_n (by omega)).trans (hUo _ (by omega) (by omega) (by omega))
                      have e1b : oS (tkB U) 1 0 = oS f 1 0 := (tkB_n (by omega) (by omega)).trans (hUo _ (by omega) (by omega) (by omega))
                      have hga : ∀ b r : Int, 0 ≤ b → b ≤ 1 → 1 ≤ r → oG (tkA U) b r = oG f b r := fun b r b0 b1 r0 => (tkA_n (by omega)).trans (hUo _ (by omega) (by omega) (by omega))
                      have hgb : ∀ b r : Int, 0 ≤ b → b ≤ 1 → 1 ≤ r → oG (tkB U) b r = oG f b r := fun b r b0 b1 r0 => (tkB_n (by omega) (by omega)).trans (hUo _ (by omega) (by omega) (by omega))
                      have hra : ∀ r : Int, 1 ≤ r → oR (tkA U) r 4 = oR f r 4 := fun r r0 => (tkA_n (by omega)).trans (hUo _ (by omega) (by omega) (by omega))
                      have hrb : ∀ r : Int, 1 ≤ r → oR (tkB U) r 4 = oR f r 4 := fun r r0 => (tkB_n (by omega) (by omega)).trans (hUo _ (by omega) (by omega) (by omega))
                      have hreca : ∀ r : Int, 1 ≤ r → r ≤ oS (tkA U) 0 0 → lr r < 9223372036854775808 ∧ (((lr r) / 128000000 : Nat) : Int) = oR (tkA U) r 4 := fun r r0 r1 => ⟨rk_lt hP hL.1 r0 (by omega), (rk_a hP hL.1 r0 (by omega)).trans (hra r r0).symm⟩
                      have hrecb : ∀ r : Int, 1 ≤ r → r ≤ oS (tkB U) 1 0 → lr r < 9223372036854775808 ∧ (((lr r) / 128000000 : Nat) : Int) = oR (tkB U) r 4 := fun r r0 r1 => ⟨rk_lt hP hL.1 r0 (by omega), (rk_a hP hL.1 r0 (by omega)).trans (hrb r r0).symm⟩
                      have hBa : BM (tkA U) 0 (lm 0) := hL.2.1.cong (fun r r0 r1 => by rw [hga 0 r (by omega) (by omega) r0])
                      have hBb : BM (tkB U) 1 (lm 1) := hL.2.2.cong (fun r r0 r1 => by rw [hgb 1 r (by omega) (by omega) r0])
                      have hza : ∀ r : Int, 62 ≤ r → r ≤ 100 → ¬ oG (tkA U) 0 r = 1 := fun r r0 r1 => by rw [hga 0 r (by omega) (by omega) (by omega)]; exact hP.gz (by omega) r r0 r1
                      have hzb : ∀ r : Int, 62 ≤ r → r ≤ 100 → ¬ oG (tkB U) 1 r = 1 := fun r r0 r1 => by rw [hgb 1 r (by omega) (by omega) (by omega)]; exact hP.gz (by omega) r r0 r1
                      refine s_aload_n 1 C dL_acts_425 rfl 1 rfl ?_
                      refine s_iconst C dL_acts_426 ?_
                      refine s_dup2 C dL_acts_427 rfl rfl ?_
                      refine s_iald C dL_acts_428 75 rfl 1 rfl (by omega) (by omega) (by omega) ?_
                      refine s_iconst C dL_acts_429 ?_
                      refine s_iadd C dL_acts_430 ?_
                      refine s_iast ([[cO x0 6 [.ref (a 0), .ref h0, .ref o0, .ref u0, .ref e8, .ref e9]], stW G a c F, [cO h0 0 [.ref h1, vI ps]], [cQ h1 G.2.1.2.2.2.1 5 Q], stW G (S 0) (cs 0) (Fs 0), stW G (S 1) (cs 1) (Fs 1), stW G (S 2) (cs 2) (Fs 2), stW G (S 3) (cs 3) (Fs 3), stW G (S 4) (cs 4) (Fs 4), [cA g0 G.2.1.1 18 (uZ U 1 ((U 1) + 1))], [cLg r0 G.2.1.2.2.2.2 64 lr], [cLg m0 G.2.1.2.2.2.2 2 lm]] : List va_W).flatten C dL_acts_431 75 rfl 1 rfl (by omega) (by omega) (by omega) rfl ?_
                      refine s_iconst C dL_acts_432 ?_
                      refine s_istore [(13, vI 0), (0, .ref x0), (1, .ref g0), (2, .ref r0), (3, .ref m0), (4, vI zz), (5, vI y), (6, vI way), (7, vI b), (8, vI (12 + (3 * b))), (9, vI 1), (10, vI tk), (11, vI sm), (12, vI k)] C dL_acts_433 (by decide) rfl ?_
                      refine s_iload C dL_acts_435 0 rfl ?_
                      refine s_iconst C dL_acts_437 ?_
                      refine s_icmp_ge 494 C dL_acts_438 (by decide) (by decide) (by decide) (fun h => absurd h (by decide)) (fun h => ?_)
                      refine s_aload_n 1 C dL_acts_441 rfl 2 rfl ?_
                      refine s_aload_n 2 C dL_acts_442 rfl 3 rfl ?_
                      refine s_aload_n 3 C dL_acts_443 rfl 4 rfl ?_
                      refine s_iload C dL_acts_444 0 rfl ?_
                      refine s_aload_n 1 C dL_acts_446 rfl 2 rfl ?_
                      refine s_bipush (z := 13) C dL_acts_447 rfl ?_
                      refine s_iconst C dL_acts_449 ?_
                      refine s_iload C dL_acts_450 0 rfl ?_
                      refine s_imul C dL_acts_452 ?_
                      refine s_iadd C dL_acts_453 ?_
                      refine s_iald C dL_acts_454 75 rfl 13 (by omega) (by omega) (by omega) (by omega) ?_
                      refine s_top (U 13) (uZ_n (by omega)) ?_
                      refine s_aload_n 1 C dL_acts_455 rfl 2 rfl ?_
                      refine s_iconst C dL_acts_456 ?_
                      refine s_iald C dL_acts_457 75 rfl 1 rfl (by omega) (by omega) (by omega) ?_
                      refine s_top ((U 1) + 1) uZ_s ?_
                      refine s_aload_n 1 C dL_acts_458 rfl 2 rfl ?_
                      refine s_bipush (z := 7) C dL_acts_459 rfl ?_
                      refine s_iald C dL_acts_461 75 rfl 7 rfl (by omega) (by omega) (by omega) ?_
                      refine s_top (U 7) (uZ_n (by omega)) ?_
                      refine s_callSQ (As := [.ref g0, .ref r0, .ref m0, vI 0, vI (U 13), vI ((U 1) + 1), vI (U 7)]) (rest := []) (segs := [[cO x0 6 [.ref (a 0), .ref h0, .ref o0, .ref u0, .ref e8, .ref e9]], stW G a c F, [cO h0 0 [.ref h1, vI ps]], [cQ h1 G.2.1.2.2.2.1 5 Q], stW G (S 0) (cs 0) (Fs 0), stW G (S 1) (cs 1) (Fs 1), stW G (S 2) (cs 2) (Fs 2), stW G (S 3) (cs 3) (Fs 3), stW G (S 4) (cs 4) (Fs 4), [cA g0 G.2.1.1 18 (uZ U 1 ((U 1) + 1))], [cLg r0 G.2.1.2.2.2.2 64 lr], [cLg m0 G.2.1.2.2.2.2 2 lm]]) C dL_acts_462 (c_L_applies l G g0 r0 m0 (uZ U 1 ((U 1) + 1)) lr lm (B + k + 1) 0 (U 13) ((U 1) + 1) (U 7) hTa (by first | assumption | omega) ⟨hSa.1, hSa.2.1⟩ (show oS (tkA U) 0 0 ≤ 61 by omega) (by omega) hU7 hreca hBa hza) gL_acts_L_applies rfl 7 (by decide +kernel) (by decide) [9, 10, 11] [0, 1, 2, 3, 4, 5, 6, 7, 8] 12 (rfl : (12 : Nat) = 12) (by decide +kernel) rfl rfl (Nat.le_of_ble_eq_true rfl) ⟨Nat.zero_le _, Nat.zero_le _⟩ ?_
                      intro v0 w0 hq
                      obtain ⟨rfl, rfl⟩ := hq
                      refine ⟨rfl, [[cO x0 6 [.ref (a 0), .ref h0, .ref o0, .ref u0, .ref e8, .ref e9]], stW G a c F, [cO h0 0 [.ref h1, vI ps]], [cQ h1 G.2.1.2.2.2.1 5 Q], stW G (S 0) (cs 0) (Fs 0), stW G (S 1) (cs 1) (Fs 1), stW G (S 2) (cs 2) (Fs 2), stW G (S 3) (cs 3) (Fs 3), stW G (S 4) (cs 4) (Fs 4), [cA g0 G.2.1.1 18 (uZ U 1 ((U 1) + 1))], [cLg r0 G.2.1.2.2.2.2 64 lr], [cLg m0 G.2.1.2.2.2.2 2 lm]], (rfl : (12 : Nat) = 12), rfl, Eq.trans (b := ([[cO x0 6 [.ref (a 0), .ref h0, .ref o0, .ref u0, .ref e8, .ref e9]], stW G a c F, [cO h0 0 [.ref h1, vI ps]], [cQ h1 G.2.1.2.2.2.1 5 Q], stW G (S 0) (cs 0) (Fs 0), stW G (S 1) (cs 1) (Fs 1), stW G (S 2) (cs 2) (Fs 2), stW G (S 3) (cs 3) (Fs 3), stW G (S 4) (cs 4) (Fs 4)] : List va_W)) rfl rfl, ?_⟩
                      show fSt l G X 0 0 465 [(13, vI 0), (0, .ref x0), (1, .ref g0), (2, .ref r0), (3, .ref m0), (4, vI zz), (5, vI y), (6, vI way), (7, vI b), (8, vI (12 + (3 * b))), (9, vI 1), (10, vI tk), (11, vI sm), (12, vI k)] [vI (go (uZ U 1 ((U 1) + 1)) 0 (U 13) ((U 1) + 1) (U 7))] ([[cO x0 6 [.ref (a 0), .ref h0, .ref o0, .ref u0, .ref e8, .ref e9]], stW G a c F, [cO h0 0 [.ref h1, vI ps]], [cQ h1 G.2.1.2.2.2.1 5 Q], stW G (S 0) (cs 0) (Fs 0), stW G (S 1) (cs 1) (Fs 1), stW G (S 2) (cs 2) (Fs 2), stW G (S 3) (cs 3) (Fs 3), stW G (S 4) (cs 4) (Fs 4), [cA g0 G.2.1.1 18 (uZ U 1 ((U 1) + 1))], [cLg r0 G.2.1.2.2.2.2 64 lr], [cLg m0 G.2.1.2.2.2.2 2 lm]] : List va_W).flatten
                      refine s_istore [(14, vI (go (uZ U 1 ((U 1) + 1)) 0 (U 13) ((U 1) + 1) (U 7))), (13, vI 0), (0, .ref x0), (1, .ref g0), (2, .ref r0), (3, .ref m0), (4, vI zz), (5, vI y), (6, vI way), (7, vI b), (8, vI (12 + (3 * b))), (9, vI 1), (10, vI tk), (11, vI sm), (12, vI k)] C dL_acts_465 (by decide) rfl ?_
                      refine s_aload_n 1 C dL_acts_467 rfl 3 rfl ?_
                      refine s_bipush (z := 13) C dL_acts_468 rfl ?_
                      refine s_iconst C dL_acts_470 ?_
                      refine s_iload C dL_acts_471 1 rfl ?_
                      refine s_imul C dL_acts_473 ?_
                      refine s_iadd C dL_acts_474 ?_
                      refine s_dup2 C dL_acts_475 rfl rfl ?_
                      refine s_iald C dL_acts_476 75 rfl 13 (by omega) (by omega) (by omega) (by omega) ?_
                      refine s_top (U 13) (uZ_n (by omega)) ?_
                      refine s_iload C dL_acts_477 0 rfl ?_
                      refine s_iadd C dL_acts_479 ?_
                      refine s_iast ([[cO x0 6 [.ref (a 0), .ref h0, .ref o0, .ref u0, .ref e8, .ref e9]], stW G a c F, [cO h0 0 [.ref h1, vI ps]], [cQ h1 G.2.1.2.2.2.1 5 Q], stW G (S 0) (cs 0) (Fs 0), stW G (S 1) (cs 1) (Fs 1), stW G (S 2) (cs 2) (Fs 2), stW G (S 3) (cs 3) (Fs 3), stW G (S 4) (cs 4) (Fs 4), [cA g0 G.2.1.1 18 (uZ (uZ U 1 ((U 1) + 1)) 13 ((U 13) + (go (uZ U 1 ((U 1) + 1)) 0 (U 13) ((U 1) + 1) (U 7))))], [cLg r0 G.2.1.2.2.2.2 64 lr], [cLg m0 G.2.1.2.2.2.2 2 lm]] : List va_W).flatten C dL_acts_480 75 rfl 13 (by omega) (by omega) (by omega) (by omega) rfl ?_
                      refine s_iload C dL_acts_481 13 rfl ?_
                      refine s_iload C dL_acts_483 0 rfl ?_
                      refine s_iadd C dL_acts_485 ?_
                      refine s_istore [(11, vI (sm + (go (uZ U 1 ((U 1) + 1)) 0 (U 13) ((U 1) + 1) (U 7)))), (14, vI (go (uZ U 1 ((U 1) + 1)) 0 (U 13) ((U 1) + 1) (U 7))), (13, vI 0), (0, .ref x0), (1, .ref g0), (2, .ref r0), (3, .ref m0), (4, vI zz), (5, vI y), (6, vI way), (7, vI b), (8, vI (12 + (3 * b))), (9, vI 1), (10, vI tk), (12, vI k)] C dL_acts_486 (by decide) rfl ?_
                      refine s_iinc [(13, vI (0 + 1)), (11, vI (sm + (go (uZ U 1 ((U 1) + 1)) 0 (U 13) ((U 1) + 1) (U 7)))), (14, vI (go (uZ U 1 ((U 1) + 1)) 0 (U 13) ((U 1) + 1) (U 7))), (0, .ref x0), (1, .ref g0), (2, .ref r0), (3, .ref m0), (4, vI zz), (5, vI y), (6, vI way), (7, vI b), (8, vI (12 + (3 * b))), (9, vI 1), (10, vI tk), (12, vI k)] C dL_acts_488 2 rfl (by decide) rfl ?_
                      refine s_goto 435 C dL_acts_491 (by decide) ?_
                      refine s_iload C dL_acts_435 0 rfl ?_
                      refine s_iconst C dL_acts_437 ?_
                      refine s_icmp_ge 494 C dL_acts_438 (by decide) (by decide) (by decide) (fun h => absurd h (by decide)) (fun h => ?_)
                      refine s_aload_n 1 C dL_acts_441 rfl 4 rfl ?_
                      refine s_aload_n 2 C dL_acts_442 rfl 5 rfl ?_
                      refine s_aload_n 3 C dL_acts_443 rfl 6 rfl ?_
                      refine s_iload C dL_acts_444 0 rfl ?_
                      refine s_aload_n 1 C dL_acts_446 rfl 4 rfl ?_
                      refine s_bipush (z := 13) C dL_acts_447 rfl ?_
                      refine s_iconst C dL_acts_449 ?_
                      refine s_iload C dL_acts_450 0 rfl ?_
                      refine s_imul C dL_acts_452 ?_
                      refine s_iadd C dL_acts_453 ?_
                      refine s_iald C dL_acts_454 75 rfl 16 (by omega) (by omega) (by omega) (by omega) ?_
                      refine s_top ((uZ U 1 ((U 1) + 1)) 16) (uZ_n (by omega)) ?_
                      refine s_top (U 16) (uZ_n (by omega)) ?_
                      refine s_aload_n 1 C dL_acts_455 rfl 4 rfl ?_
                      refine s_iconst C dL_acts_456 ?_
                      refine s_iald C dL_acts_457 75 rfl 1 rfl (by omega) (by omega) (by omega) ?_
                      refine s_top ((uZ U 1 ((U 1) + 1)) 1) (uZ_n (by omega)) ?_
                      refine s_top ((U 1) + 1) uZ_s ?_
                      refine s_aload_n 1 C dL_acts_458 rfl 4 rfl ?_
                      refine s_bipush (z := 7) C dL_acts_459 rfl ?_
                      refine s_iald C dL_acts_461 75 rfl 7 rfl (by omega) (by omega) (by omega) ?_
                      refine s_top ((uZ U 1 ((U 1) + 1)) 7) (uZ_n (by omega)) ?_
                      refine s_top (U 7) (uZ_n (by omega)) ?_
                      refine s_callSQ (As := [.ref g0, .ref r0, .ref m0, vI 1, vI (U 16), vI ((U 1) + 1), vI (U 7)]) (rest := []) (segs := [[cO x0 6 [.ref (a 0), .ref h0, .ref o0, .ref u0, .ref e8, .ref e9]], stW G a c F, [cO h0 0 [.ref h1, vI ps]], [cQ h1 G.2.1.2.2.2.1 5 Q], stW G (S 0) (cs 0) (Fs 0), stW G (S 1) (cs 1) (Fs 1), stW G (S 2) (cs 2) (Fs 2), stW G (S 3) (cs 3) (Fs 3), stW G (S 4) (cs 4) (Fs 4), [cA g0 G.2.1.1 18 (uZ (uZ U 1 ((U 1) + 1)) 13 ((U 13) + (go (uZ U 1 ((U 1) + 1)) 0 (U 13) ((U 1) + 1) (U 7))))], [cLg r0 G.2.1.2.2.2.2 64 lr], [cLg m0 G.2.1.2.2.2.2 2 lm]]) C dL_acts_462 (c_L_applies l G g0 r0 m0 (uZ (uZ U 1 ((U 1) + 1)) 13 ((U 13) + (go (uZ U 1 ((U 1) + 1)) 0 (U 13) ((U 1) + 1) (U 7)))) lr lm (B + k + 1) 1 (U 16) ((U 1) + 1) (U 7) hTb (by first | assumption | omega) ⟨hSc.1, hSc.2.1⟩ (show oS (tkB U) 1 0 ≤ 61 by omega) (by omega) hU7 hrecb hBb hzb) gL_acts_L_applies rfl 7 (by decide +kernel) (by decide) [9, 10, 11] [0, 1, 2, 3, 4, 5, 6, 7, 8] 12 (rfl : (12 : Nat) = 12) (by decide +kernel) rfl rfl (Nat.le_of_ble_eq_true rfl) ⟨Nat.zero_le _, Nat.zero_le _⟩ ?_
                      intro v0 w0 hq
                      obtain ⟨rfl, rfl⟩ := hq
                      refine ⟨rfl, [[cO x0 6 [.ref (a 0), .ref h0, .ref o0, .ref u0, .ref e8, .ref e9]], stW G a c F, [cO h0 0 [.ref h1, vI ps]], [cQ h1 G.2.1.2.2.2.1 5 Q], stW G (S 0) (cs 0) (Fs 0), stW G (S 1) (cs 1) (Fs 1), stW G (S 2) (cs 2) (Fs 2), stW G (S 3) (cs 3) (Fs 3), stW G (S 4) (cs 4) (Fs 4), [cA g0 G.2.1.1 18 (uZ (uZ U 1 ((U 1) + 1)) 13 ((U 13) + (go (uZ U 1 ((U 1) + 1)) 0 (U 13) ((U 1) + 1) (U 7))))], [cLg r0 G.2.1.2.2.2.2 64 lr], [cLg m0 G.2.1.2.2.2.2 2 lm]], (rfl : (12 : Nat) = 12), rfl, Eq.trans (b := ([[cO x0 6 [.ref (a 0), .ref h0, .ref o0, .ref u0, .ref e8, .ref e9]], stW G a c F, [cO h0 0 [.ref h1, vI ps]], [cQ h1 G.2.1.2.2.2.1 5 Q], stW G (S 0) (cs 0) (Fs 0), stW G (S 1) (cs 1) (Fs 1), stW G (S 2) (cs 2) (Fs 2), stW G (S 3) (cs 3) (Fs 3), stW G (S 4) (cs 4) (Fs 4)] : List va_W)) rfl rfl, ?_⟩
                      show fSt l G X 0 0 465 [(13, vI 1), (11, vI (sm + (go (uZ U 1 ((U 1) + 1)) 0 (U 13) ((U 1) + 1) (U 7)))), (14, vI (go (uZ U 1 ((U 1) + 1)) 0 (U 13) ((U 1) + 1) (U 7))), (0, .ref x0), (1, .ref g0), (2, .ref r0), (3, .ref m0), (4, vI zz), (5, vI y), (6, vI way), (7, vI b), (8, vI (12 + (3 * b))), (9, vI 1), (10, vI tk), (12, vI k)] [vI (go (uZ (uZ U 1 ((U 1) + 1)) 13 ((U 13) + (go (uZ U 1 ((U 1) + 1)) 0 (U 13) ((U 1) + 1) (U 7)))) 1 (U 16) ((U 1) + 1) (U 7))] ([[cO x0 6 [.ref (a 0), .ref h0, .ref o0, .ref u0, .ref e8, .ref e9]], stW G a c F, [cO h0 0 [.ref h1, vI ps]], [cQ h1 G.2.1.2.2.2.1 5 Q], stW G (S 0) (cs 0) (Fs 0), stW G (S 1) (cs 1) (Fs 1), stW G (S 2) (cs 2) (Fs 2), stW G (S 3) (cs 3) (Fs 3), stW G (S 4) (cs 4) (Fs 4), [cA g0 G.2.1.1 18 (uZ (uZ U 1 ((U 1) + 1)) 13 ((U 13) + (go (uZ U 1 ((U 1) + 1)) 0 (U 13) ((U 1) + 1) (U 7))))], [cLg r0 G.2.1.2.2.2.2 64 lr], [cLg m0 G.2.1.2.2.2.2 2 lm]] : List va_W).flatten
                      refine s_istore [(14, vI (go (uZ (uZ U 1 ((U 1) + 1)) 13 ((U 13) + (go (uZ U 1 ((U 1) + 1)) 0 (U 13) ((U 1) + 1) (U 7)))) 1 (U 16) ((U 1) + 1) (U 7))), (13, vI 1), (11, vI (sm + (go (uZ U 1 ((U 1) + 1)) 0 (U 13) ((U 1) + 1) (U 7)))), (0, .ref x0), (1, .ref g0), (2, .ref r0), (3, .ref m0), (4, vI zz), (5, vI y), (6, vI way), (7, vI b), (8, vI (12 + (3 * b))), (9, vI 1), (10, vI tk), (12, vI k)] C dL_acts_465 (by decide) rfl ?_
                      refine s_aload_n 1 C dL_acts_467 rfl 4 rfl ?_
                      refine s_bipush (z := 13) C dL_acts_468 rfl ?_
                      refine s_iconst C dL_acts_470 ?_
                      refine s_iload C dL_acts_471 1 rfl ?_
                      refine s_imul C dL_acts_473 ?_
                      refine s_iadd C dL_acts_474 ?_
                      refine s_dup2 C dL_acts_475 rfl rfl ?_
                      refine s_iald C dL_acts_476 75 rfl 16 (by omega) (by omega) (by omega) (by omega) ?_
                      refine s_top ((uZ U 1 ((U 1) + 1)) 16) (uZ_n (by omega)) ?_
                      refine s_top (U 16) (uZ_n (by omega)) ?_
                      refine s_iload C dL_acts_477 0 rfl ?_
                      refine s_iadd C dL_acts_479 ?_
                      refine s_iast ([[cO x0 6 [.ref (a 0), .ref h0, .ref o0, .ref u0, .ref e8, .ref e9]], stW G a c F, [cO h0 0 [.ref h1, vI ps]], [cQ h1 G.2.1.2.2.2.1 5 Q], stW G (S 0) (cs 0) (Fs 0), stW G (S 1) (cs 1) (Fs 1), stW G (S 2) (cs 2) (Fs 2), stW G (S 3) (cs 3) (Fs 3), stW G (S 4) (cs 4) (Fs 4), [cA g0 G.2.1.1 18 (uZ (uZ (uZ U 1 ((U 1) + 1)) 13 ((U 13) + (go (uZ U 1 ((U 1) + 1)) 0 (U 13) ((U 1) + 1) (U 7)))) 16 ((U 16) + (go (uZ (uZ U 1 ((U 1) + 1)) 13 ((U 13) + (go (uZ U 1 ((U 1) + 1)) 0 (U 13) ((U 1) + 1) (U 7)))) 1 (U 16) ((U 1) + 1) (U 7))))], [cLg r0 G.2.1.2.2.2.2 64 lr], [cLg m0 G.2.1.2.2.2.2 2 lm]] : List va_W).flatten C dL_acts_480 75 rfl 16 (by omega) (by omega) (by omega) (by omega) rfl ?_
                      refine s_iload C dL_acts_481 2 rfl ?_
                      refine s_iload C dL_acts_483 0 rfl ?_
                      refine s_iadd C dL_acts_485 ?_
                      refine s_istore [(11, vI (sm + (go (uZ U 1 ((U 1) + 1)) 0 (U 13) ((U 1) + 1) (U 7)) + (go (uZ (uZ U 1 ((U 1) + 1)) 13 ((U 13) + (go (uZ U 1 ((U 1) + 1)) 0 (U 13) ((U 1) + 1) (U 7)))) 1 (U 16) ((U 1) + 1) (U 7)))), (14, vI (go (uZ (uZ U 1 ((U 1) + 1)) 13 ((U 13) + (go (uZ U 1 ((U 1) + 1)) 0 (U 13) ((U 1) + 1) (U 7)))) 1 (U 16) ((U 1) + 1) (U 7))), (13, vI 1), (0, .ref x0), (1, .ref g0), (2, .ref r0), (3, .ref m0), (4, vI zz), (5, vI y), (6, vI way), (7, vI b), (8, vI (12 + (3 * b))), (9, vI 1), (10, vI tk), (12, vI k)] C dL_acts_486 (by decide) rfl ?_
                      refine s_iinc [(13, vI (1 + 1)), (11, vI (sm + (go (uZ U 1 ((U 1) + 1)) 0 (U 13) ((U 1) + 1) (U 7)) + (go (uZ (uZ U 1 ((U 1) + 1)) 13 ((U 13) + (go (uZ U 1 ((U 1) + 1)) 0 (U 13) ((U 1) + 1) (U 7)))) 1 (U 16) ((U 1) + 1) (U 7)))), (14, vI (go (uZ (uZ U 1 ((U 1) + 1)) 13 ((U 13) + (go (uZ U 1 ((U 1) + 1)) 0 (U 13) ((U 1) + 1) (U 7)))) 1 (U 16) ((U 1) + 1) (U 7))), (0, .ref x0), (1, .ref g0), (2, .ref r0), (3, .ref m0), (4, vI zz), (5, vI y), (6, vI way), (7, vI b), (8, vI (12 + (3 * b))), (9, vI 1), (10, vI tk), (12, vI k)] C dL_acts_488 2 rfl (by decide) rfl ?_
                      refine s_goto 435 C dL_acts_491 (by decide) ?_
                      refine s_iload C dL_acts_435 0 rfl ?_
                      refine s_iconst C dL_acts_437 ?_
                      refine s_icmp_ge 494 C dL_acts_438 (by decide) (by decide) (by decide) (fun h => ?_) (fun h => absurd h (by decide))
                      have hcs2 : sm + go (tkA U) 0 (oS (tkA U) 0 1) (U 1 + 1) (U 7) + go (tkB U) 1 (oS (tkB U) 1 1) (U 1 + 1) (U 7) = tk1 U 13 + tk1 U 16 - f 13 - f 16 := by rw [tk1_13, tk1_16]; omega
                      refine s_iinc [(12, vI (k + 1)), (13, vI 2), (11, vI (sm + (go (uZ U 1 ((U 1) + 1)) 0 (U 13) ((U 1) + 1) (U 7)) + (go (uZ (uZ U 1 ((U 1) + 1)) 13 ((U 13) + (go (uZ U 1 ((U 1) + 1)) 0 (U 13) ((U 1) + 1) (U 7)))) 1 (U 16) ((U 1) + 1) (U 7)))), (14, vI (go (uZ (uZ U 1 ((U 1) + 1)) 13 ((U 13) + (go (uZ U 1 ((U 1) + 1)) 0 (U 13) ((U 1) + 1) (U 7)))) 1 (U 16) ((U 1) + 1) (U 7))), (0, .ref x0), (1, .ref g0), (2, .ref r0), (3, .ref m0), (4, vI zz), (5, vI y), (6, vI way), (7, vI b), (8, vI (12 + (3 * b))), (9, vI 1), (10, vI tk)] C dL_acts_494 14 rfl (by decide) rfl ?_
                      refine s_goto 418 C dL_acts_497 (by decide) ?_
                      refine s_lv [(0, .ref x0), (1, .ref g0), (2, .ref r0), (3, .ref m0), (4, vI zz), (5, vI y), (6, vI way), (7, vI b), (8, vI (12 + (3 * b))), (9, vI 1), (10, vI tk), (11, vI (sm + (go (uZ U 1 ((U 1) + 1)) 0 (U 13) ((U 1) + 1) (U 7)) + (go (uZ (uZ U 1 ((U 1) + 1)) 13 ((U 13) + (go (uZ U 1 ((U 1) + 1)) 0 (U 13) ((U 1) + 1) (U 7)))) 1 (U 16) ((U 1) + 1) (U 7)))), (12, vI (k + 1))] [4, 5, 6, 7, 8, 9, 10, 11, 12, 13, 14, 2, 0] rfl ?_
                      exact ih_418 (k + 1) (sm + (go (uZ U 1 ((U 1) + 1)) 0 (U 13) ((U 1) + 1) (U 7)) + (go (uZ (uZ U 1 ((U 1) + 1)) 13 ((U 13) + (go (uZ U 1 ((U 1) + 1)) 0 (U 13) ((U 1) + 1) (U 7)))) 1 (U 16) ((U 1) + 1) (U 7))) (uZ (uZ (uZ U 1 ((U 1) + 1)) 13 ((U 13) + (go (uZ U 1 ((U 1) + 1)) 0 (U 13) ((U 1) + 1) (U 7)))) 16 ((U 16) + (go (uZ (uZ U 1 ((U 1) + 1)) 13 ((U 13) + (go (uZ U 1 ((U 1) + 1)) 0 (U 13) ((U 1) + 1) (U 7)))) 1 (U 16) ((U 1) + 1) (U 7)))) (by omega) (by rw [show (k + 1).toNat = k.toNat + 1 by omega, tkN, ← hU]; rfl) hcs2 (by omega)
                refine s_lv [(0, .ref x0), (1, .ref g0), (2, .ref r0), (3, .ref m0), (4, vI zz), (5, vI y), (6, vI way), (7, vI b), (8, vI (12 + (3 * b))), (9, vI 1), (10, vI tk), (11, vI 0), (12, vI 0)] [8, 9, 10, 11, 12, 7, 6, 5, 4, 3, 2, 1, 0] rfl ?_
                exact loop_418 (tk - 0 + 1 : Int).toNat 0 0 f (by omega) rfl (by omega) (by omega)
          · refine s_aload_n 3 C dL_acts_332 rfl 8 rfl ?_
            refine s_iload C dL_acts_333 2 rfl ?_
            refine s_lald C dL_acts_335 77 rfl b rfl (by omega) (by omega) (by omega) ?_
            refine s_callSQ (As := [vLg (lm b)]) (rest := []) (segs := [[cO x0 6 [.ref (a 0), .ref h0, .ref o0, .ref u0, .ref e8, .ref e9]], stW G a c F, [cO h0 0 [.ref h1, vI ps]], [cQ h1 G.2.1.2.2.2.1 5 Q], stW G (S 0) (cs 0) (Fs 0), stW G (S 1) (cs 1) (Fs 1), stW G (S 2) (cs 2) (Fs 2), stW G (S 3) (cs 3) (Fs 3), stW G (S 4) (cs 4) (Fs 4), [cA g0 G.2.1.1 18 f], [cLg r0 G.2.1.2.2.2.2 64 lr], [cLg m0 G.2.1.2.2.2.2 2 lm]]) C dL_acts_336 (c_L_ones l G (lm b) hbm) gL_acts_L_ones rfl 1 (by decide +kernel) (by decide) [] [0, 1, 2, 3, 4, 5, 6, 7, 8, 9, 10, 11] 12 (rfl : (12 : Nat) = 12) (by decide +kernel) rfl rfl (Nat.le_of_ble_eq_true rfl) ⟨Nat.zero_le _, Nat.zero_le _⟩ ?_
            intro v0 w0 hq
            obtain ⟨rfl, rfl⟩ := hq
            refine ⟨rfl, [[cO x0 6 [.ref (a 0), .ref h0, .ref o0, .ref u0, .ref e8, .ref e9]], stW G a c F, [cO h0 0 [.ref h1, vI ps]], [cQ h1 G.2.1.2.2.2.1 5 Q], stW G (S 0) (cs 0) (Fs 0), stW G (S 1) (cs 1) (Fs 1), stW G (S 2) (cs 2) (Fs 2), stW G (S 3) (cs 3) (Fs 3), stW G (S 4) (cs 4) (Fs 4), [cA g0 G.2.1.1 18 f], [cLg r0 G.2.1.2.2.2.2 64 lr], [cLg m0 G.2.1.2.2.2.2 2 lm]], (rfl : (12 : Nat) = 12), rfl, Eq.trans (b := ([[cO x0 6 [.ref (a 0), .ref h0, .ref o0, .ref u0, .ref e8, .ref e9]], stW G a c F, [cO h0 0 [.ref h1, vI ps]], [cQ h1 G.2.1.2.2.2.1 5 Q], stW G (S 0) (cs 0) (Fs 0), stW G (S 1) (cs 1) (Fs 1), stW G (S 2) (cs 2) (Fs 2), stW G (S 3) (cs 3) (Fs 3), stW G (S 4) (cs 4) (Fs 4), [cA g0 G.2.1.1 18 f], [cLg r0 G.2.1.2.2.2.2 64 lr], [cLg m0 G.2.1.2.2.2.2 2 lm]] : List va_W)) rfl rfl, ?_⟩
            show fSt l G X 0 0 339 [(9, vI 1), (8, vI (12 + (3 * b))), (7, vI b), (6, vI way), (5, vI y), (0, .ref x0), (1, .ref g0), (2, .ref r0), (3, .ref m0), (4, vI zz)] [vI ((pcN 62 (lm b) : Nat) : Int)] ([[cO x0 6 [.ref (a 0), .ref h0, .ref o0, .ref u0, .ref e8, .ref e9]], stW G a c F, [cO h0 0 [.ref h1, vI ps]], [cQ h1 G.2.1.2.2.2.1 5 Q], stW G (S 0) (cs 0) (Fs 0), stW G (S 1) (cs 1) (Fs 1), stW G (S 2) (cs 2) (Fs 2), stW G (S 3) (cs 3) (Fs 3), stW G (S 4) (cs 4) (Fs 4), [cA g0 G.2.1.1 18 f], [cLg r0 G.2.1.2.2.2.2 64 lr], [cLg m0 G.2.1.2.2.2.2 2 lm]] : List va_W).flatten
            refine s_istore [(10, vI ((pcN 62 (lm b) : Nat) : Int)), (9, vI 1), (8, vI (12 + (3 * b))), (7, vI b), (6, vI way), (5, vI y), (0, .ref x0), (1, .ref g0), (2, .ref r0), (3, .ref m0), (4, vI zz)] C dL_acts_339 (by decide) rfl ?_
            refine s_aload_n 3 C dL_acts_341 rfl 9 rfl ?_
            refine s_iload C dL_acts_342 3 rfl ?_
            refine s_iload C dL_acts_344 1 rfl ?_
            refine s_if_eq 356 C dL_acts_346 (by decide) (by decide) (fun h => absurd h (by decide)) (fun h => ?_)
            refine s_aload_n 3 C dL_acts_349 rfl 9 rfl ?_
            refine s_iload C dL_acts_350 3 rfl ?_
            refine s_lald C dL_acts_352 77 rfl b rfl (by omega) (by omega) (by omega) ?_
            refine s_goto 357 C dL_acts_353 (by decide) ?_
            refine s_last ([[cO x0 6 [.ref (a 0), .ref h0, .ref o0, .ref u0, .ref e8, .ref e9]], stW G a c F, [cO h0 0 [.ref h1, vI ps]], [cQ h1 G.2.1.2.2.2.1 5 Q], stW G (S 0) (cs 0) (Fs 0), stW G (S 1) (cs 1) (Fs 1), stW G (S 2) (cs 2) (Fs 2), stW G (S 3) (cs 3) (Fs 3), stW G (S 4) (cs 4) (Fs 4), [cA g0 G.2.1.1 18 f], [cLg r0 G.2.1.2.2.2.2 64 lr], [cLg m0 G.2.1.2.2.2.2 2 (uLg lm b (lm b))]] : List va_W).flatten C dL_acts_357 77 rfl b rfl (by omega) (by omega) (by omega) rfl ?_
            refine s_aload_n 0 C dL_acts_358 rfl 6 rfl ?_
            refine s_iload C dL_acts_359 3 rfl ?_
            refine s_callVQ (As := [vI b]) (rest := []) (segs := [[cO x0 6 [.ref (a 0), .ref h0, .ref o0, .ref u0, .ref e8, .ref e9]], stW G a c F, [cO h0 0 [.ref h1, vI ps]], [cQ h1 G.2.1.2.2.2.1 5 Q], stW G (S 0) (cs 0) (Fs 0), stW G (S 1) (cs 1) (Fs 1), stW G (S 2) (cs 2) (Fs 2), stW G (S 3) (cs 3) (Fs 3), stW G (S 4) (cs 4) (Fs 4), [cA g0 G.2.1.1 18 f], [cLg r0 G.2.1.2.2.2.2 64 lr], [cLg m0 G.2.1.2.2.2.2 2 (uLg lm b (lm b))]]) C dL_acts_361 (c_X6_resend l G x0 h0 h1 (.ref o0) (.ref u0) (.ref e8) (.ref e9) ps Q S cs Fs p a c F B f P b (by first | assumption | omega) hI hBB hH (by first | assumption | omega)) gL_acts_X6_resend rfl 1 (by decide +kernel) (by decide) 6 rfl rfl 0 _ rfl rfl [0, 2, 3, 4, 5, 6, 7, 8, 1] [9, 10, 11] 12 (rfl : (12 : Nat) = 12) (by decide +kernel) rfl rfl (Nat.le_of_ble_eq_true rfl) ⟨Nat.zero_le _, Nat.zero_le _⟩ ?_
            intro v0 w0 hq
            obtain ⟨z_361, f2_361, c2_361, F2_361, ps2_361, P2_361, Q2_361, cs2_361, Fs2_361, p2_361, rfl, rfl, hq0_361, hq1_361, hq2_361, hq3_361, hq4_361⟩ := hq
            refine ⟨(fst_f (fst_c rfl (fst_c (fst_k rfl) (fst_c (fst_k rfl) (fst_c stW_fst (fst_c stW_fst (fst_c stW_fst (fst_c stW_fst (fst_c stW_fst (fst_c stW_fst rfl)))))))))), [[cO x0 6 [.ref (a 0), .ref h0, .ref o0, .ref u0, .ref e8, .ref e9]], stW G a c2_361 F2_361, [cO h0 0 [.ref h1, vI ps2_361]], [cQ h1 G.2.1.2.2.2.1 5 Q2_361], stW G (S 0) (cs2_361 0) (Fs2_361 0), stW G (S 1) (cs2_361 1) (Fs2_361 1), stW G (S 2) (cs2_361 2) (Fs2_361 2), stW G (S 3) (cs2_361 3) (Fs2_361 3), stW G (S 4) (cs2_361 4) (Fs2_361 4), [cA g0 G.2.1.1 18 f], [cLg r0 G.2.1.2.2.2.2 64 lr], [cLg m0 G.2.1.2.2.2.2 2 (uLg lm b (lm b))]], (rfl : (12 : Nat) = 12), rfl, Eq.trans (b := ([[cA g0 G.2.1.1 18 f], [cLg r0 G.2.1.2.2.2.2 64 lr], [cLg m0 G.2.1.2.2.2.2 2 (uLg lm b (lm b))]] : List va_W)) rfl rfl, ?_⟩
            show fSt l G X 0 0 364 [(10, vI ((pcN 62 (lm b) : Nat) : Int)), (9, vI 1), (8, vI (12 + (3 * b))), (7, vI b), (6, vI way), (5, vI y), (0, .ref x0), (1, .ref g0), (2, .ref r0), (3, .ref m0), (4, vI zz)] [vI z_361] ([[cO x0 6 [.ref (a 0), .ref h0, .ref o0, .ref u0, .ref e8, .ref e9]], stW G a c2_361 F2_361, [cO h0 0 [.ref h1, vI ps2_361]], [cQ h1 G.2.1.2.2.2.1 5 Q2_361], stW G (S 0) (cs2_361 0) (Fs2_361 0), stW G (S 1) (cs2_361 1) (Fs2_361 1), stW G (S 2) (cs2_361 2) (Fs2_361 2), stW G (S 3) (cs2_361 3) (Fs2_361 3), stW G (S 4) (cs2_361 4) (Fs2_361 4), [cA g0 G.2.1.1 18 f], [cLg r0 G.2.1.2.2.2.2 64 lr], [cLg m0 G.2.1.2.2.2.2 2 (uLg lm b (lm b))]] : List va_W).flatten
            obtain ⟨hE9, hN9⟩ := X_resend_no hP hL hq_b (by omega)
            obtain ⟨hz, hf⟩ := Prod.mk.inj (hq1_361.trans hE9)
            have hz := hz.symm
            have hf := hf.symm
            subst hz
            subst hf
            refine s_iload C dL_acts_364 1 rfl ?_
            refine s_if_eq 374 C dL_acts_366 (by decide) (by decide) (fun h => absurd h (by decide)) (fun h => ?_)
            refine s_ldc (z := -1000002) C (by decide +kernel) dL_acts_369 ?_
            refine s_goto 376 C dL_acts_371 (by decide) ?_
            refine s_icmp_ne 383 C dL_acts_376 (by decide) (by decide) (by decide) (fun h => absurd h (by decide)) (fun h => ?_)
            refine s_iconst C dL_acts_379 ?_
            refine s_goto 384 C dL_acts_380 (by decide) ?_
            exact s_zret C E dL_acts_384 rfl ⟨c2_361, F2_361, ps2_361, Q2_361, cs2_361, Fs2_361, p2_361, f, P2_361, lr, (uLg lm b (lm b)), rfl, rfl, hq0_361, hN9, (hq2_361.mono (by omega))⟩
        · refine s_aload_n 1 C dL_acts_187 rfl 6 rfl ?_
          refine s_iload C dL_acts_188 1 rfl ?_
          refine s_iconst C dL_acts_190 ?_
          refine s_iadd C dL_acts_191 ?_
          refine s_iald C dL_acts_192 75 rfl (3 * b + 13) (by omega) (by omega) (by omega) (by omega) ?_
          refine s_iload C dL_acts_193 4 rfl ?_
          refine s_iconst C dL_acts_195 ?_
          refine s_idiv C dL_acts_196 (by omega) (by omega) ?_
          refine s_iconst C dL_acts_197 ?_
          refine s_irem C dL_acts_198 (by omega) (by omega) ?_
          refine s_iadd C dL_acts_199 ?_
          obtain ⟨r, hv_r, hq_r⟩ : ∃ r : Int, r = (f (3 * b + 13)) + ((y / 2) % 4) ∧ (f (3 * b + 13) ≤ r ∧ r ≤ f (3 * b + 13) + 3) := ⟨_, rfl, by omega⟩
          refine s_top r hv_r.symm ?_
          refine s_istore [(10, vI r), (9, vI 1), (8, vI (12 + (3 * b))), (7, vI b), (6, vI way), (5, vI y), (0, .ref x0), (1, .ref g0), (2, .ref r0), (3, .ref m0), (4, vI zz)] C dL_acts_200 (by decide) rfl ?_
          refine s_iload C dL_acts_202 0 rfl ?_
          refine s_if_ne 225 C dL_acts_204 (by decide) (by omega) (fun h_204 => ?_) (fun h_204 => ?_)
          · refine s_iload C dL_acts_225 1 rfl ?_
            refine s_if_ne 264 C dL_acts_227 (by decide) (by decide) (fun h => ?_) (fun h => absurd h (by decide))
            refine s_aload_n 0 C dL_acts_264 rfl 6 rfl ?_
            refine s_iload C dL_acts_265 3 rfl ?_
            refine s_iload C dL_acts_267 0 rfl ?_
            refine s_callVQ (As := [vI b, vI r]) (rest := []) (segs := [[cO x0 6 [.ref (a 0), .ref h0, .ref o0, .ref u0, .ref e8, .ref e9]], stW G a c F, [cO h0 0 [.ref h1, vI ps]], [cQ h1 G.2.1.2.2.2.1 5 Q], stW G (S 0) (cs 0) (Fs 0), stW G (S 1) (cs 1) (Fs 1), stW G (S 2) (cs 2) (Fs 2), stW G (S 3) (cs 3) (Fs 3), stW G (S 4) (cs 4) (Fs 4), [cA g0 G.2.1.1 18 f], [cLg r0 G.2.1.2.2.2.2 64 lr], [cLg m0 G.2.1.2.2.2.2 2 lm]]) C dL_acts_269 (c_X6_lose l G x0 h0 h1 (.ref o0) (.ref u0) (.ref e8) (.ref e9) ps Q S cs Fs p a c F B f P b r (by first | assumption | omega) hI hBB hH (by first | assumption | omega) (by first | assumption | omega)) gL_acts_X6_lose rfl 2 (by decide +kernel) (by decide) 6 rfl rfl 0 _ rfl rfl [0, 2, 3, 4, 5, 6, 7, 8, 1] [9, 10, 11] 12 (rfl : (12 : Nat) = 12) (by decide +kernel) rfl rfl (Nat.le_of_ble_eq_true rfl) ⟨Nat.zero_le _, Nat.zero_le _⟩ ?_
            intro v0 w0 hq
            obtain ⟨z_269, f2_269, c2_269, F2_269, ps2_269, P2_269, Q2_269, cs2_269, Fs2_269, p2_269, rfl, rfl, hq0_269, hq1_269, hq2_269, hq3_269, hq4_269⟩ := hq
            refine ⟨(fst_f (fst_c rfl (fst_c (fst_k rfl) (fst_c (fst_k rfl) (fst_c stW_fst (fst_c stW_fst (fst_c stW_fst (fst_c stW_fst (fst_c stW_fst (fst_c stW_fst rfl)))))))))), [[cO x0 6 [.ref (a 0), .ref h0, .ref o0, .ref u0, .ref e8, .ref e9]], stW G a c2_269 F2_269, [cO h0 0 [.ref h1, vI ps2_269]], [cQ h1 G.2.1.2.2.2.1 5 Q2_269], stW G (S 0) (cs2_269 0) (Fs2_269 0), stW G (S 1) (cs2_269 1) (Fs2_269 1), stW G (S 2) (cs2_269 2) (Fs2_269 2), stW G (S 3) (cs2_269 3) (Fs2_269 3), stW G (S 4) (cs2_269 4) (Fs2_269 4), [cA g0 G.2.1.1 18 f], [cLg r0 G.2.1.2.2.2.2 64 lr], [cLg m0 G.2.1.2.2.2.2 2 lm]], (rfl : (12 : Nat) = 12), rfl, Eq.trans (b := ([[cA g0 G.2.1.1 18 f], [cLg r0 G.2.1.2.2.2.2 64 lr], [cLg m0 G.2.1.2.2.2.2 2 lm]] : List va_W)) rfl rfl, ?_⟩
            show fSt l G X 0 0 272 [(10, vI r), (9, vI 1), (8, vI (12 + (3 * b))), (7, vI b), (6, vI way), (5, vI y), (0, .ref x0), (1, .ref g0), (2, .ref r0), (3, .ref m0), (4, vI zz)] [vI z_269] ([[cO x0 6 [.ref (a 0), .ref h0, .ref o0, .ref u0, .ref e8, .ref e9]], stW G a c2_269 F2_269, [cO h0 0 [.ref h1, vI ps2_269]], [cQ h1 G.2.1.2.2.2.1 5 Q2_269], stW G (S 0) (cs2_269 0) (Fs2_269 0), stW G (S 1) (cs2_269 1) (Fs2_269 1), stW G (S 2) (cs2_269 2) (Fs2_269 2), stW G (S 3) (cs2_269 3) (Fs2_269 3), stW G (S 4) (cs2_269 4) (Fs2_269 4), [cA g0 G.2.1.1 18 f], [cLg r0 G.2.1.2.2.2.2 64 lr], [cLg m0 G.2.1.2.2.2.2 2 lm]] : List va_W).flatten
            obtain ⟨hE9, hN9⟩ := X_lose_no (r := r) hP hL hq_b (by omega) (by omega)
            obtain ⟨hz, hf⟩ := Prod.mk.inj (hq1_269.trans hE9)
            have hz := hz.symm
            have hf := hf.symm
            subst hz
            subst hf
            refine s_ldc (z := -1000002) C (by decide +kernel) dL_acts_272 ?_
            refine s_icmp_ne 281 C dL_acts_274 (by decide) (by decide) (by decide) (fun h => absurd h (by decide)) (fun h => ?_)
            refine s_iconst C dL_acts_277 ?_
            refine s_goto 282 C dL_acts_278 (by decide) ?_
            exact s_zret C E dL_acts_282 rfl ⟨c2_269, F2_269, ps2_269, Q2_269, cs2_269, Fs2_269, p2_269, f, P2_269, lr, lm, rfl, rfl, hq0_269, hN9, (hq2_269.mono (by omega))⟩
          · refine s_aload_n 0 C dL_acts_207 rfl 6 rfl ?_
            refine s_iload C dL_acts_208 3 rfl ?_
            refine s_iconst C dL_acts_210 ?_
            refine s_callVQ (As := [vI b, vI 0]) (rest := []) (segs := [[cO x0 6 [.ref (a 0), .ref h0, .ref o0, .ref u0, .ref e8, .ref e9]], stW G a c F, [cO h0 0 [.ref h1, vI ps]], [cQ h1 G.2.1.2.2.2.1 5 Q], stW G (S 0) (cs 0) (Fs 0), stW G (S 1) (cs 1) (Fs 1), stW G (S 2) (cs 2) (Fs 2), stW G (S 3) (cs 3) (Fs 3), stW G (S 4) (cs 4) (Fs 4), [cA g0 G.2.1.1 18 f], [cLg r0 G.2.1.2.2.2.2 64 lr], [cLg m0 G.2.1.2.2.2.2 2 lm]]) C dL_acts_211 (c_X6_lose l G x0 h0 h1 (.ref o0) (.ref u0) (.ref e8) (.ref e9) ps Q S cs Fs p a c F B f P b 0 (by first | assumption | omega) hI hBB hH (by first | assumption | omega) (by first | assumption | omega)) gL_acts_X6_lose rfl 2 (by decide +kernel) (by decide) 6 rfl rfl 0 _ rfl rfl [0, 2, 3, 4, 5, 6, 7, 8, 1] [9, 10, 11] 12 (rfl : (12 : Nat) = 12) (by decide +kernel) rfl rfl (Nat.le_of_ble_eq_true rfl) ⟨Nat.zero_le _, Nat.zero_le _⟩ ?_
            intro v0 w0 hq
            obtain ⟨z_211, f2_211, c2_211, F2_211, ps2_211, P2_211, Q2_211, cs2_211, Fs2_211, p2_211, rfl, rfl, hq0_211, hq1_211, hq2_211, hq3_211, hq4_211⟩ := hq
            refine ⟨(fst_f (fst_c rfl (fst_c (fst_k rfl) (fst_c (fst_k rfl) (fst_c stW_fst (fst_c stW_fst (fst_c stW_fst (fst_c stW_fst (fst_c stW_fst (fst_c stW_fst rfl)))))))))), [[cO x0 6 [.ref (a 0), .ref h0, .ref o0, .ref u0, .ref e8, .ref e9]], stW G a c2_211 F2_211, [cO h0 0 [.ref h1, vI ps2_211]], [cQ h1 G.2.1.2.2.2.1 5 Q2_211], stW G (S 0) (cs2_211 0) (Fs2_211 0), stW G (S 1) (cs2_211 1) (Fs2_211 1), stW G (S 2) (cs2_211 2) (Fs2_211 2), stW G (S 3) (cs2_211 3) (Fs2_211 3), stW G (S 4) (cs2_211 4) (Fs2_211 4), [cA g0 G.2.1.1 18 f], [cLg r0 G.2.1.2.2.2.2 64 lr], [cLg m0 G.2.1.2.2.2.2 2 lm]], (rfl : (12 : Nat) = 12), rfl, Eq.trans (b := ([[cA g0 G.2.1.1 18 f], [cLg r0 G.2.1.2.2.2.2 64 lr], [cLg m0 G.2.1.2.2.2.2 2 lm]] : List va_W)) rfl rfl, ?_⟩
            show fSt l G X 0 0 214 [(10, vI r), (9, vI 1), (8, vI (12 + (3 * b))), (7, vI b), (6, vI way), (5, vI y), (0, .ref x0), (1, .ref g0), (2, .ref r0), (3, .ref m0), (4, vI zz)] [vI z_211] ([[cO x0 6 [.ref (a 0), .ref h0, .ref o0, .ref u0, .ref e8, .ref e9]], stW G a c2_211 F2_211, [cO h0 0 [.ref h1, vI ps2_211]], [cQ h1 G.2.1.2.2.2.1 5 Q2_211], stW G (S 0) (cs2_211 0) (Fs2_211 0), stW G (S 1) (cs2_211 1) (Fs2_211 1), stW G (S 2) (cs2_211 2) (Fs2_211 2), stW G (S 3) (cs2_211 3) (Fs2_211 3), stW G (S 4) (cs2_211 4) (Fs2_211 4), [cA g0 G.2.1.1 18 f], [cLg r0 G.2.1.2.2.2.2 64 lr], [cLg m0 G.2.1.2.2.2.2 2 lm]] : List va_W).flatten
            obtain ⟨hE9, hN9⟩ := X_lose_0 (b := b) hP hL
            obtain ⟨hz, hf⟩ := Prod.mk.inj (hq1_211.trans hE9)
            have hz := hz.symm
            have hf := hf.symm
            subst hz
            subst hf
            refine s_ldc (z := -1000001) C (by decide +kernel) dL_acts_214 ?_
            refine s_icmp_ne 223 C dL_acts_216 (by decide) (by decide) (by decide) (fun h => absurd h (by decide)) (fun h => ?_)
            refine s_iconst C dL_acts_219 ?_
            refine s_goto 224 C dL_acts_220 (by decide) ?_
            exact s_zret C E dL_acts_224 rfl ⟨c2_211, F2_211, ps2_211, Q2_211, cs2_211, Fs2_211, p2_211, f, P2_211, lr, lm, rfl, rfl, hq0_211, hN9, (hq2_211.mono (by omega))⟩
      · refine s_iconst C dL_acts_77 ?_
        refine s_iload C dL_acts_78 4 rfl ?_
        refine s_iconst C dL_acts_80 ?_
        refine s_idiv C dL_acts_81 (by omega) (by omega) ?_
        refine s_iload C dL_acts_82 4 rfl ?_
        refine s_iconst C dL_acts_84 ?_
        refine s_irem C dL_acts_85 (by omega) (by omega) ?_
        refine s_if_ne 94 C dL_acts_86 (by decide) (by omega) (fun h_86 => ?_) (fun h_86 => ?_)
        · refine s_bipush (z := 6) C dL_acts_94 rfl ?_
          refine s_irem C dL_acts_96 (by omega) (by omega) ?_
          refine s_iadd C dL_acts_97 ?_
          obtain ⟨mn, hv_mn, hq_mn⟩ : ∃ mn : Int, mn = 1 + ((y / 2) % 6) ∧ (1 ≤ mn ∧ mn ≤ 20) := ⟨_, rfl, by omega⟩
          refine s_top mn hv_mn.symm ?_
          refine s_istore [(10, vI mn), (9, vI 1), (8, vI (12 + (3 * b))), (7, vI b), (6, vI way), (5, vI y), (0, .ref x0), (1, .ref g0), (2, .ref r0), (3, .ref m0), (4, vI zz)] C dL_acts_98 (by decide) rfl ?_
          refine s_iload C dL_acts_100 1 rfl ?_
          refine s_if_eq 124 C dL_acts_102 (by decide) (by decide) (fun h => absurd h (by decide)) (fun h => ?_)
          refine s_aload_n 0 C dL_acts_105 rfl 6 rfl ?_
          refine s_iload C dL_acts_106 3 rfl ?_
          refine s_iload C dL_acts_108 0 rfl ?_
          refine s_callVQ (As := [vI b, vI mn]) (rest := []) (segs := [[cO x0 6 [.ref (a 0), .ref h0, .ref o0, .ref u0, .ref e8, .ref e9]], stW G a c F, [cO h0 0 [.ref h1, vI ps]], [cQ h1 G.2.1.2.2.2.1 5 Q], stW G (S 0) (cs 0) (Fs 0), stW G (S 1) (cs 1) (Fs 1), stW G (S 2) (cs 2) (Fs 2), stW G (S 3) (cs 3) (Fs 3), stW G (S 4) (cs 4) (Fs 4), [cA g0 G.2.1.1 18 f], [cLg r0 G.2.1.2.2.2.2 64 lr], [cLg m0 G.2.1.2.2.2.2 2 lm]]) C dL_acts_110 (c_X6_ship l G x0 h0 h1 (.ref o0) (.ref u0) (.ref e8) (.ref e9) ps Q S cs Fs p a c F B f P b mn (by first | assumption | omega) hI hBB hH (by first | assumption | omega) (by first | assumption | omega)) gL_acts_X6_ship rfl 2 (by decide +kernel) (by decide) 6 rfl rfl 0 _ rfl rfl [0, 2, 3, 4, 5, 6, 7, 8, 1] [9, 10, 11] 12 (rfl : (12 : Nat) = 12) (by decide +kernel) rfl rfl (Nat.le_of_ble_eq_true rfl) ⟨Nat.zero_le _, Nat.zero_le _⟩ ?_
          intro v0 w0 hq
          obtain ⟨z_110, f2_110, c2_110, F2_110, ps2_110, P2_110, Q2_110, cs2_110, Fs2_110, p2_110, rfl, rfl, hq0_110, hq1_110, hq2_110, hq3_110, hq4_110⟩ := hq
          refine ⟨(fst_f (fst_c rfl (fst_c (fst_k rfl) (fst_c (fst_k rfl) (fst_c stW_fst (fst_c stW_fst (fst_c stW_fst (fst_c stW_fst (fst_c stW_fst (fst_c stW_fst rfl)))))))))), [[cO x0 6 [.ref (a 0), .ref h0, .ref o0, .ref u0, .ref e8, .ref e9]], stW G a c2_110 F2_110, [cO h0 0 [.ref h1, vI ps2_110]], [cQ h1 G.2.1.2.2.2.1 5 Q2_110], stW G (S 0) (cs2_110 0) (Fs2_110 0), stW G (S 1) (cs2_110 1) (Fs2_110 1), stW G (S 2) (cs2_110 2) (Fs2_110 2), stW G (S 3) (cs2_110 3) (Fs2_110 3), stW G (S 4) (cs2_110 4) (Fs2_110 4), [cA g0 G.2.1.1 18 f], [cLg r0 G.2.1.2.2.2.2 64 lr], [cLg m0 G.2.1.2.2.2.2 2 lm]], (rfl : (12 : Nat) = 12), rfl, Eq.trans (b := ([[cA g0 G.2.1.1 18 f], [cLg r0 G.2.1.2.2.2.2 64 lr], [cLg m0 G.2.1.2.2.2.2 2 lm]] : List va_W)) rfl rfl, ?_⟩
          show fSt l G X 0 0 113 [(10, vI mn), (9, vI 1), (8, vI (12 + (3 * b))), (7, vI b), (6, vI way), (5, vI y), (0, .ref x0), (1, .ref g0), (2, .ref r0), (3, .ref m0), (4, vI zz)] [vI z_110] ([[cO x0 6 [.ref (a 0), .ref h0, .ref o0, .ref u0, .ref e8, .ref e9]], stW G a c2_110 F2_110, [cO h0 0 [.ref h1, vI ps2_110]], [cQ h1 G.2.1.2.2.2.1 5 Q2_110], stW G (S 0) (cs2_110 0) (Fs2_110 0), stW G (S 1) (cs2_110 1) (Fs2_110 1), stW G (S 2) (cs2_110 2) (Fs2_110 2), stW G (S 3) (cs2_110 3) (Fs2_110 3), stW G (S 4) (cs2_110 4) (Fs2_110 4), [cA g0 G.2.1.1 18 f], [cLg r0 G.2.1.2.2.2.2 64 lr], [cLg m0 G.2.1.2.2.2.2 2 lm]] : List va_W).flatten
          obtain ⟨hE9, hN9⟩ := X_ship_no hP hL hq_b hq_mn (by omega)
          obtain ⟨hz, hf⟩ := Prod.mk.inj (hq1_110.trans hE9)
          have hz := hz.symm
          have hf := hf.symm
          subst hz
          subst hf
          refine s_ldc (z := -1000002) C (by decide +kernel) dL_acts_113 ?_
          refine s_icmp_ne 122 C dL_acts_115 (by decide) (by decide) (by decide) (fun h => absurd h (by decide)) (fun h => ?_)
          refine s_iconst C dL_acts_118 ?_
          refine s_goto 123 C dL_acts_119 (by decide) ?_
          exact s_zret C E dL_acts_123 rfl ⟨c2_110, F2_110, ps2_110, Q2_110, cs2_110, Fs2_110, p2_110, f, P2_110, lr, lm, rfl, rfl, hq0_110, hN9, (hq2_110.mono (by omega))⟩
        · refine s_bipush (z := 20) C dL_acts_89 rfl ?_
          refine s_goto 96 C dL_acts_91 (by decide) ?_
          refine s_irem C dL_acts_96 (by omega) (by omega) ?_
          refine s_iadd C dL_acts_97 ?_
          obtain ⟨mn, hv_mn, hq_mn⟩ : ∃ mn : Int, mn = 1 + ((y / 2) % 20) ∧ (1 ≤ mn ∧ mn ≤ 20) := ⟨_, rfl, by omega⟩
          refine s_top mn hv_mn.symm ?_
          refine s_istore [(10, vI mn), (9, vI 1), (8, vI (12 + (3 * b))), (7, vI b), (6, vI way), (5, vI y), (0, .ref x0), (1, .ref g0), (2, .ref r0), (3, .ref m0), (4, vI zz)] C dL_acts_98 (by decide) rfl ?_
          refine s_iload C dL_acts_100 1 rfl ?_
          refine s_if_eq 124 C dL_acts_102 (by decide) (by decide) (fun h => absurd h (by decide)) (fun h => ?_)
          refine s_aload_n 0 C dL_acts_105 rfl 6 rfl ?_
          refine s_iload C dL_acts_106 3 rfl ?_
          refine s_iload C dL_acts_108 0 rfl ?_
          refine s_callVQ (As := [vI b, vI mn]) (rest := []) (segs := [[cO x0 6 [.ref (a 0), .ref h0, .ref o0, .ref u0, .ref e8, .ref e9]], stW G a c F, [cO h0 0 [.ref h1, vI ps]], [cQ h1 G.2.1.2.2.2.1 5 Q], stW G (S 0) (cs 0) (Fs 0), stW G (S 1) (cs 1) (Fs 1), stW G (S 2) (cs 2) (Fs 2), stW G (S 3) (cs 3) (Fs 3), stW G (S 4) (cs 4) (Fs 4), [cA g0 G.2.1.1 18 f], [cLg r0 G.2.1.2.2.2.2 64 lr], [cLg m0 G.2.1.2.2.2.2 2 lm]]) C dL_acts_110 (c_X6_ship l G x0 h0 h1 (.ref o0) (.ref u0) (.ref e8) (.ref e9) ps Q S cs Fs p a c F B f P b mn (by first | assumption | omega) hI hBB hH (by first | assumption | omega) (by first | assumption | omega)) gL_acts_X6_ship rfl 2 (by decide +kernel) (by decide) 6 rfl rfl 0 _ rfl rfl [0, 2, 3, 4, 5, 6, 7, 8, 1] [9, 10, 11] 12 (rfl : (12 : Nat) = 12) (by decide +kernel) rfl rfl (Nat.le_of_ble_eq_true rfl) ⟨Nat.zero_le _, Nat.zero_le _⟩ ?_
          intro v0 w0 hq
          obtain ⟨z_110, f2_110, c2_110, F2_110, ps2_110, P2_110, Q2_110, cs2_110, Fs2_110, p2_110, rfl, rfl, hq0_110, hq1_110, hq2_110, hq3_110, hq4_110⟩ := hq
          refine ⟨(fst_f (fst_c rfl (fst_c (fst_k rfl) (fst_c (fst_k rfl) (fst_c stW_fst (fst_c stW_fst (fst_c stW_fst (fst_c stW_fst (fst_c stW_fst (fst_c stW_fst rfl)))))))))), [[cO x0 6 [.ref (a 0), .ref h0, .ref o0, .ref u0, .ref e8, .ref e9]], stW G a c2_110 F2_110, [cO h0 0 [.ref h1, vI ps2_110]], [cQ h1 G.2.1.2.2.2.1 5 Q2_110], stW G (S 0) (cs2_110 0) (Fs2_110 0), stW G (S 1) (cs2_110 1) (Fs2_110 1), stW G (S 2) (cs2_110 2) (Fs2_110 2), stW G (S 3) (cs2_110 3) (Fs2_110 3), stW G (S 4) (cs2_110 4) (Fs2_110 4), [cA g0 G.2.1.1 18 f], [cLg r0 G.2.1.2.2.2.2 64 lr], [cLg m0 G.2.1.2.2.2.2 2 lm]], (rfl : (12 : Nat) = 12), rfl, Eq.trans (b := ([[cA g0 G.2.1.1 18 f], [cLg r0 G.2.1.2.2.2.2 64 lr], [cLg m0 G.2.1.2.2.2.2 2 lm]] : List va_W)) rfl rfl, ?_⟩
          show fSt l G X 0 0 113 [(10, vI mn), (9, vI 1), (8, vI (12 + (3 * b))), (7, vI b), (6, vI way), (5, vI y), (0, .ref x0), (1, .ref g0), (2, .ref r0), (3, .ref m0), (4, vI zz)] [vI z_110] ([[cO x0 6 [.ref (a 0), .ref h0, .ref o0, .ref u0, .ref e8, .ref e9]], stW G a c2_110 F2_110, [cO h0 0 [.ref h1, vI ps2_110]], [cQ h1 G.2.1.2.2.2.1 5 Q2_110], stW G (S 0) (cs2_110 0) (Fs2_110 0), stW G (S 1) (cs2_110 1) (Fs2_110 1), stW G (S 2) (cs2_110 2) (Fs2_110 2), stW G (S 3) (cs2_110 3) (Fs2_110 3), stW G (S 4) (cs2_110 4) (Fs2_110 4), [cA g0 G.2.1.1 18 f], [cLg r0 G.2.1.2.2.2.2 64 lr], [cLg m0 G.2.1.2.2.2.2 2 lm]] : List va_W).flatten
          obtain ⟨hE9, hN9⟩ := X_ship_no hP hL hq_b hq_mn (by omega)
          obtain ⟨hz, hf⟩ := Prod.mk.inj (hq1_110.trans hE9)
          have hz := hz.symm
          have hf := hf.symm
          subst hz
          subst hf
          refine s_ldc (z := -1000002) C (by decide +kernel) dL_acts_113 ?_
          refine s_icmp_ne 122 C dL_acts_115 (by decide) (by decide) (by decide) (fun h => absurd h (by decide)) (fun h => ?_)
          refine s_iconst C dL_acts_118 ?_
          refine s_goto 123 C dL_acts_119 (by decide) ?_
          exact s_zret C E dL_acts_123 rfl ⟨c2_110, F2_110, ps2_110, Q2_110, cs2_110, Fs2_110, p2_110, f, P2_110, lr, lm, rfl, rfl, hq0_110, hN9, (hq2_110.mono (by omega))⟩
    · refine s_aload_n 0 C dL_acts_59 rfl 5 rfl ?_
      refine s_aload_n 1 C dL_acts_60 rfl 6 rfl ?_
      refine s_aload_n 2 C dL_acts_61 rfl 7 rfl ?_
      refine s_iload C dL_acts_62 3 rfl ?_
      refine s_iload C dL_acts_64 4 rfl ?_
      refine s_callSQ (As := [.ref x0, .ref g0, .ref r0, vI way, vI y]) (rest := []) (segs := [[cO x0 6 [.ref (a 0), .ref h0, .ref o0, .ref u0, .ref e8, .ref e9]], stW G a c F, [cO h0 0 [.ref h1, vI ps]], [cQ h1 G.2.1.2.2.2.1 5 Q], stW G (S 0) (cs 0) (Fs 0), stW G (S 1) (cs 1) (Fs 1), stW G (S 2) (cs 2) (Fs 2), stW G (S 3) (cs 3) (Fs 3), stW G (S 4) (cs 4) (Fs 4), [cA g0 G.2.1.1 18 f], [cLg r0 G.2.1.2.2.2.2 64 lr], [cLg m0 G.2.1.2.2.2.2 2 lm]]) C dL_acts_66 (c_L_writes l G x0 h0 h1 o0 u0 e8 e9 g0 r0 a S c F ps Q cs Fs p B f P lr lm way y (by first | assumption | omega) (by first | assumption | omega) hH hL (by first | assumption | omega) (by first | assumption | omega)) gL_acts_L_writes rfl 5 (by decide +kernel) (by decide) [0, 1, 2, 3, 4, 5, 6, 7, 8, 9, 10] [11] 12 (rfl : (12 : Nat) = 12) (by decide +kernel) rfl rfl (Nat.le_of_ble_eq_true rfl) ⟨Nat.zero_le _, Nat.zero_le _⟩ ?_
      intro v0 w0 hq
      obtain ⟨c2_66, F2_66, ps2_66, Q2_66, cs2_66, Fs2_66, p2_66, f2_66, P2_66, lr2_66, rfl, rfl, hq0_66, hq1_66, hq2_66⟩ := hq
      refine ⟨(fst_f (fst_c rfl (fst_c stW_fst (fst_c (fst_k rfl) (fst_c (fst_k rfl) (fst_c stW_fst (fst_c stW_fst (fst_c stW_fst (fst_c stW_fst (fst_c stW_fst (fst_c (fst_k rfl) (fst_c (fst_k rfl) rfl)))))))))))), [[cO x0 6 [.ref (a 0), .ref h0, .ref o0, .ref u0, .ref e8, .ref e9]], stW G a c2_66 F2_66, [cO h0 0 [.ref h1, vI ps2_66]], [cQ h1 G.2.1.2.2.2.1 5 Q2_66], stW G (S 0) (cs2_66 0) (Fs2_66 0), stW G (S 1) (cs2_66 1) (Fs2_66 1), stW G (S 2) (cs2_66 2) (Fs2_66 2), stW G (S 3) (cs2_66 3) (Fs2_66 3), stW G (S 4) (cs2_66 4) (Fs2_66 4), [cA g0 G.2.1.1 18 f2_66], [cLg r0 G.2.1.2.2.2.2 64 lr2_66], [cLg m0 G.2.1.2.2.2.2 2 lm]], (rfl : (12 : Nat) = 12), rfl, Eq.trans (b := ([[cLg m0 G.2.1.2.2.2.2 2 lm]] : List va_W)) rfl rfl, ?_⟩
      show fSt l G X 0 0 69 [(9, vI 1), (8, vI (12 + (3 * b))), (7, vI b), (6, vI way), (5, vI y), (0, .ref x0), (1, .ref g0), (2, .ref r0), (3, .ref m0), (4, vI zz)] [vI 1] ([[cO x0 6 [.ref (a 0), .ref h0, .ref o0, .ref u0, .ref e8, .ref e9]], stW G a c2_66 F2_66, [cO h0 0 [.ref h1, vI ps2_66]], [cQ h1 G.2.1.2.2.2.1 5 Q2_66], stW G (S 0) (cs2_66 0) (Fs2_66 0), stW G (S 1) (cs2_66 1) (Fs2_66 1), stW G (S 2) (cs2_66 2) (Fs2_66 2), stW G (S 3) (cs2_66 3) (Fs2_66 3), stW G (S 4) (cs2_66 4) (Fs2_66 4), [cA g0 G.2.1.1 18 f2_66], [cLg r0 G.2.1.2.2.2.2 64 lr2_66], [cLg m0 G.2.1.2.2.2.2 2 lm]] : List va_W).flatten
      exact s_zret C E dL_acts_69 rfl ⟨c2_66, F2_66, ps2_66, Q2_66, cs2_66, Fs2_66, p2_66, f2_66, P2_66, lr2_66, lm, rfl, rfl, hq0_66, hq1_66, hq2_66⟩

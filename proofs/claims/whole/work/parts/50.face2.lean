set_option maxHeartbeats 4000000 in
set_option maxRecDepth 100000 in
theorem c_X6_primary (l : Launch) (G : fG) (x0 h0 : Nat) (y2 y3 y4 y5 : Value) (a : Nat → Nat) (c : Nat → Int) (F : Nat → Int → Int) (B : Int) (f : Int → Int) (k y : Int) (hR : RSb f c F) (hI : Inv B f) (hB : B ≤ 1073000000) (hk : -2147483648 ≤ k ∧ k < 2147483648) (hy : -2147483648 ≤ y ∧ y < 2147483648) : fCt l G yX6_primary wsX6_primary 6 134 0 0 [.ref x0, vI k, vI y] [cO x0 6 [.ref (a 0), .ref h0, y2, y3, y4, y5], cO (a 0) 4 [.ref (a 1), .ref (a 7), .ref (a 9), .ref (a 11), vI (c 1), vI (c 2), vI (c 3), vI (c 4), vI (c 5), vI (c 6), vI (c 7), vI (c 8)], cO (a 1) 1 [vI (c 0), .ref (a 2), .ref (a 3), .ref (a 4), .ref (a 5), .ref (a 6)], cA (a 2) G.2.1.1 100 (F 3), cA (a 3) G.2.1.1 100 (F 4), cA (a 4) G.2.1.1 100 (F 5), cA (a 5) G.2.1.1 100 (F 6), cA (a 6) G.2.1.1 100 (F 7), cO (a 7) 3 [vI (c 9), vI (c 10), vI (c 11), .ref (a 8)], cA (a 8) G.2.1.2.1 101 (F 1), cO (a 9) 3 [vI (c 12), vI (c 13), vI (c 14), .ref (a 10)], cA (a 10) G.2.1.2.1 101 (F 2), cA (a 11) G.2.1.1 3 (F 0)] (fun (v0 : Option Value) (w0 : va_W) => v0 = some (vI (sp_prim f k y)) ∧ w0 = [cO x0 6 [.ref (a 0), .ref h0, y2, y3, y4, y5], cO (a 0) 4 [.ref (a 1), .ref (a 7), .ref (a 9), .ref (a 11), vI (c 1), vI (c 2), vI (c 3), vI (c 4), vI (c 5), vI (c 6), vI (c 7), vI (c 8)], cO (a 1) 1 [vI (c 0), .ref (a 2), .ref (a 3), .ref (a 4), .ref (a 5), .ref (a 6)], cA (a 2) G.2.1.1 100 (F 3), cA (a 3) G.2.1.1 100 (F 4), cA (a 4) G.2.1.1 100 (F 5), cA (a 5) G.2.1.1 100 (F 6), cA (a 6) G.2.1.1 100 (F 7), cO (a 7) 3 [vI (c 9), vI (c 10), vI (c 11), .ref (a 8)], cA (a 8) G.2.1.2.1 101 (F 1), cO (a 9) 3 [vI (c 12), vI (c 13), vI (c 14), .ref (a 10)], cA (a 10) G.2.1.2.1 101 (F 2), cA (a 11) G.2.1.1 3 (F 0)]) := by
  refine fs_met (cc := cX6_primary) (nL := 6) (ret := (some .int)) (by decide) rfl (Nat.le_of_ble_eq_true rfl) ?_
  intro X C E
  show fSt l G X 0 0 0 [(0, .ref x0), (1, vI k), (2, vI y)] [] [cO x0 6 [.ref (a 0), .ref h0, y2, y3, y4, y5], cO (a 0) 4 [.ref (a 1), .ref (a 7), .ref (a 9), .ref (a 11), vI (c 1), vI (c 2), vI (c 3), vI (c 4), vI (c 5), vI (c 6), vI (c 7), vI (c 8)], cO (a 1) 1 [vI (c 0), .ref (a 2), .ref (a 3), .ref (a 4), .ref (a 5), .ref (a 6)], cA (a 2) G.2.1.1 100 (F 3), cA (a 3) G.2.1.1 100 (F 4), cA (a 4) G.2.1.1 100 (F 5), cA (a 5) G.2.1.1 100 (F 6), cA (a 6) G.2.1.1 100 (F 7), cO (a 7) 3 [vI (c 9), vI (c 10), vI (c 11), .ref (a 8)], cA (a 8) G.2.1.2.1 101 (F 1), cO (a 9) 3 [vI (c 12), vI (c 13), vI (c 14), .ref (a 10)], cA (a 10) G.2.1.2.1 101 (F 2), cA (a 11) G.2.1.1 3 (F 0)]
  have hinX1 : ∀ w ∈ u_ws RX1 TX1 6, w ∈ wsX6_primary := by decide +kernel
  have hinX4 : ∀ w ∈ u_ws RX4 TX4 12, w ∈ wsX6_primary := by decide +kernel
  have hinX6 : ∀ w ∈ u_ws RX6 TX6 6, w ∈ wsX6_primary := by decide +kernel
  obtain ⟨hn, htk, hln, htr, hlc, hlo, hap, hrt, hdl, hS0, hS1⟩ := RS.scal hR hI
  have hK : rF (F 3) := RS.hrK hR
  have hT : rF (F 4) := RS.hrT hR
  have hY : rF (F 5) := RS.hrY hR
  have hV : rF (F 6) := RS.hrV hR
  have hA : rF (F 7) := RS.hrA hR
  have hsl : rF (F 0) := RS.hrs hR
  have hg0 : gF (F 1) := RS.hG0 hR
  have hg1 : gF (F 2) := RS.hG1 hR
  have hb0 := RS.b0 hR
  have hb1 := RS.b1 hR
  have en := RS.e_n hR
  have hin := hI.n
  refine s_iload_n 1 C dX6_primary_0 rfl 1 rfl ?_
  refine s_iconst C dX6_primary_1 ?_
  refine s_icmp_eq 12 C dX6_primary_2 (by decide) (by omega) (by omega) (fun h_2 => ?_) (fun h_2 => ?_)
  · refine s_iload_n 2 C dX6_primary_12 rfl 2 rfl ?_
    refine s_callS (As := [vI y]) (rest := []) C dX6_primary_13 (c_X6_isKey l G y (by first | assumption | omega)) gX6_primary_X6_isKey rfl 1 (by decide +kernel) (by decide) [] rfl (by decide) rfl (Nat.le_of_ble_eq_true rfl) ⟨Nat.zero_le _, Nat.zero_le _⟩ ?_
    intro v0 w0 hq
    obtain ⟨rfl, rfl⟩ := hq
    refine ⟨rfl, ?_⟩
    show fSt l G X 0 0 16 [(0, .ref x0), (1, vI k), (2, vI y)] [vI (bI (0 ≤ y ∧ y ≤ 23))] [cO x0 6 [.ref (a 0), .ref h0, y2, y3, y4, y5], cO (a 0) 4 [.ref (a 1), .ref (a 7), .ref (a 9), .ref (a 11), vI (c 1), vI (c 2), vI (c 3), vI (c 4), vI (c 5), vI (c 6), vI (c 7), vI (c 8)], cO (a 1) 1 [vI (c 0), .ref (a 2), .ref (a 3), .ref (a 4), .ref (a 5), .ref (a 6)], cA (a 2) G.2.1.1 100 (F 3), cA (a 3) G.2.1.1 100 (F 4), cA (a 4) G.2.1.1 100 (F 5), cA (a 5) G.2.1.1 100 (F 6), cA (a 6) G.2.1.1 100 (F 7), cO (a 7) 3 [vI (c 9), vI (c 10), vI (c 11), .ref (a 8)], cA (a 8) G.2.1.2.1 101 (F 1), cO (a 9) 3 [vI (c 12), vI (c 13), vI (c 14), .ref (a 10)], cA (a 10) G.2.1.2.1 101 (F 2), cA (a 11) G.2.1.1 3 (F 0)]
    refine s_if_ne 22 C dX6_primary_16 (by decide) bI_rng (fun h_16 => ?_) (fun h_16 => ?_)
    · have h_16 := bI_t h_16
      refine s_aload_n 0 C dX6_primary_22 rfl 0 rfl ?_
      refine s_get C dX6_primary_23 6 rfl hinX6 0 rfl 0 (by decide) (by decide +kernel) rfl ?_
      refine s_get C dX6_primary_26 4 rfl hinX4 1 rfl 0 (by decide) (by decide +kernel) rfl ?_
      refine s_astore_n 3 [(3, .ref (a 1)), (0, .ref x0), (1, vI k), (2, vI y)] C dX6_primary_29 rfl (by decide) rfl ?_
      refine s_iload_n 1 C dX6_primary_30 rfl 2 rfl ?_
      refine s_iconst C dX6_primary_31 ?_
      refine s_icmp_ne 45 C dX6_primary_32 (by decide) (by omega) (by omega) (fun h_32 => ?_) (fun h_32 => ?_)
      · refine s_aload_n 0 C dX6_primary_45 rfl 1 rfl ?_
        refine s_get C dX6_primary_46 6 rfl hinX6 0 rfl 0 (by decide) (by decide +kernel) rfl ?_
        refine s_iload_n 1 C dX6_primary_49 rfl 2 rfl ?_
        refine s_callV (As := [vI k]) (rest := []) C dX6_primary_50 (c_X4_transactionIn l G (a 0) (a 11) (.ref (a 1)) (.ref (a 7)) (.ref (a 9)) [vI (c 1), vI (c 2), vI (c 3), vI (c 4), vI (c 5), vI (c 6), vI (c 7), vI (c 8)] (F 0) k (by first | assumption | omega)) gX6_primary_X4_transactionIn rfl 1 (by decide +kernel) (by decide) 1 4 rfl rfl rfl [1, 12] rfl (by decide) rfl (Nat.le_of_ble_eq_true rfl) ⟨Nat.zero_le _, Nat.zero_le _⟩ ?_
        intro v0 w0 hq
        obtain ⟨rfl, rfl⟩ := hq
        refine ⟨rfl, ?_⟩
        show fSt l G X 0 0 53 [(3, .ref (a 1)), (0, .ref x0), (1, vI k), (2, vI y)] [vI (if 0 ≤ k ∧ k ≤ 2 then (F 0) k else 0)] [cO x0 6 [.ref (a 0), .ref h0, y2, y3, y4, y5], cO (a 0) 4 [.ref (a 1), .ref (a 7), .ref (a 9), .ref (a 11), vI (c 1), vI (c 2), vI (c 3), vI (c 4), vI (c 5), vI (c 6), vI (c 7), vI (c 8)], cO (a 1) 1 [vI (c 0), .ref (a 2), .ref (a 3), .ref (a 4), .ref (a 5), .ref (a 6)], cA (a 2) G.2.1.1 100 (F 3), cA (a 3) G.2.1.1 100 (F 4), cA (a 4) G.2.1.1 100 (F 5), cA (a 5) G.2.1.1 100 (F 6), cA (a 6) G.2.1.1 100 (F 7), cO (a 7) 3 [vI (c 9), vI (c 10), vI (c 11), .ref (a 8)], cA (a 8) G.2.1.2.1 101 (F 1), cO (a 9) 3 [vI (c 12), vI (c 13), vI (c 14), .ref (a 10)], cA (a 10) G.2.1.2.1 101 (F 2), cA (a 11) G.2.1.1 3 (F 0)]
        refine s_top (f (k + 9)) ((if_pos (by omega)).trans (RS.hsl hR k (by omega) (by omega))) ?_
        have hsk := hI.sl k (by omega) (by omega)
        refine s_istore [(4, vI (f (k + 9))), (3, .ref (a 1)), (0, .ref x0), (1, vI k), (2, vI y)] C dX6_primary_53 (by decide) rfl ?_
        refine s_iload C dX6_primary_55 0 rfl ?_
        refine s_if_ne 63 C dX6_primary_57 (by decide) (by omega) (fun h_57 => ?_) (fun h_57 => ?_)
        · refine s_aload_n 3 C dX6_primary_63 rfl 1 rfl ?_
          refine s_iload C dX6_primary_64 0 rfl ?_
          refine s_iload_n 2 C dX6_primary_66 rfl 4 rfl ?_
          refine s_aload_n 3 C dX6_primary_67 rfl 1 rfl ?_
          refine s_get C dX6_primary_68 1 rfl hinX1 2 rfl 0 (by decide) (by decide +kernel) rfl ?_
          refine s_callV (As := [vI (f (k + 9)), vI y, vI (c 0)]) (rest := []) C dX6_primary_71 (c_X1_lastPut l G (a 1) (a 2) (a 3) (a 4) (a 5) (a 6) (c 0) (F 3) (F 4) (F 5) (F 6) (F 7) (f (k + 9)) y (c 0) (by first | assumption | omega) (by first | assumption | omega) (by first | assumption | omega) (by first | assumption | omega) (by first | assumption | omega) (by first | assumption | omega) (by omega) (by first | assumption | omega) (by first | assumption | omega)) gX6_primary_X1_lastPut rfl 3 (by decide +kernel) (by decide) 2 1 rfl rfl rfl [2, 3, 4, 5, 6, 7] rfl (by decide) rfl (Nat.le_of_ble_eq_true rfl) ⟨Nat.zero_le _, Nat.zero_le _⟩ ?_
          intro v0 w0 hq
          obtain ⟨rfl, rfl⟩ := hq
          refine ⟨rfl, ?_⟩
          show fSt l G X 0 0 74 [(4, vI (f (k + 9))), (3, .ref (a 1)), (0, .ref x0), (1, vI k), (2, vI y)] [vI (lP (c 0) (F 3) (F 4) (F 5) (f (k + 9)) y (c 0))] [cO x0 6 [.ref (a 0), .ref h0, y2, y3, y4, y5], cO (a 0) 4 [.ref (a 1), .ref (a 7), .ref (a 9), .ref (a 11), vI (c 1), vI (c 2), vI (c 3), vI (c 4), vI (c 5), vI (c 6), vI (c 7), vI (c 8)], cO (a 1) 1 [vI (c 0), .ref (a 2), .ref (a 3), .ref (a 4), .ref (a 5), .ref (a 6)], cA (a 2) G.2.1.1 100 (F 3), cA (a 3) G.2.1.1 100 (F 4), cA (a 4) G.2.1.1 100 (F 5), cA (a 5) G.2.1.1 100 (F 6), cA (a 6) G.2.1.1 100 (F 7), cO (a 7) 3 [vI (c 9), vI (c 10), vI (c 11), .ref (a 8)], cA (a 8) G.2.1.2.1 101 (F 1), cO (a 9) 3 [vI (c 12), vI (c 13), vI (c 14), .ref (a 10)], cA (a 10) G.2.1.2.1 101 (F 2), cA (a 11) G.2.1.1 3 (F 0)]
          refine s_top (mL f (f (k + 9)) y) (q_lP hR hI (by omega) (fun r h1 h2 => absurd h1 (by omega))) ?_
          have hml := mL_in (f := f) (t := f (k + 9)) (y := y) hin
          refine s_istore [(5, vI (mL f (f (k + 9)) y)), (4, vI (f (k + 9))), (3, .ref (a 1)), (0, .ref x0), (1, vI k), (2, vI y)] C dX6_primary_74 (by decide) rfl ?_
          refine s_iload C dX6_primary_76 0 rfl ?_
          refine s_if_ne 93 C dX6_primary_78 (by decide) (by omega) (fun h_78 => ?_) (fun h_78 => ?_)
          · have hat := lst_at (P := mP f (f (k + 9)) y) (k := (f 0).toNat) h_78
            simp only [mP, Bool.and_eq_true, decide_eq_true_eq] at hat
            have hk0 : oR f (mL f (f (k + 9)) y) 0 = 0 := hat.1.1
            refine s_aload_n 3 C dX6_primary_93 rfl 2 rfl ?_
            refine s_iload C dX6_primary_94 0 rfl ?_
            refine s_callV (As := [vI (mL f (f (k + 9)) y)]) (rest := []) C dX6_primary_96 (c_X1_valueIn l G (a 1) (a 2) (a 3) (a 4) (a 5) (a 6) (c 0) (F 3) (F 4) (F 5) (F 6) (F 7) (mL f (f (k + 9)) y) (by first | assumption | omega) (by first | assumption | omega)) gX6_primary_X1_valueIn rfl 1 (by decide +kernel) (by decide) 2 1 rfl rfl rfl [2, 3, 4, 5, 6, 7] rfl (by decide) rfl (Nat.le_of_ble_eq_true rfl) ⟨Nat.zero_le _, Nat.zero_le _⟩ ?_
            intro v0 w0 hq
            obtain ⟨rfl, rfl⟩ := hq
            refine ⟨rfl, ?_⟩
            show fSt l G X 0 0 99 [(5, vI (mL f (f (k + 9)) y)), (4, vI (f (k + 9))), (3, .ref (a 1)), (0, .ref x0), (1, vI k), (2, vI y)] [vI (gR (c 0) (F 6) (mL f (f (k + 9)) y))] [cO x0 6 [.ref (a 0), .ref h0, y2, y3, y4, y5], cO (a 0) 4 [.ref (a 1), .ref (a 7), .ref (a 9), .ref (a 11), vI (c 1), vI (c 2), vI (c 3), vI (c 4), vI (c 5), vI (c 6), vI (c 7), vI (c 8)], cO (a 1) 1 [vI (c 0), .ref (a 2), .ref (a 3), .ref (a 4), .ref (a 5), .ref (a 6)], cA (a 2) G.2.1.1 100 (F 3), cA (a 3) G.2.1.1 100 (F 4), cA (a 4) G.2.1.1 100 (F 5), cA (a 5) G.2.1.1 100 (F 6), cA (a 6) G.2.1.1 100 (F 7), cO (a 7) 3 [vI (c 9), vI (c 10), vI (c 11), .ref (a 8)], cA (a 8) G.2.1.2.1 101 (F 1), cO (a 9) 3 [vI (c 12), vI (c 13), vI (c 14), .ref (a 10)], cA (a 10) G.2.1.2.1 101 (F 2), cA (a 11) G.2.1.1 3 (F 0)]
            exact s_iret C E dX6_primary_99 ⟨congrArg (fun z => some (vI z)) (by rw [sp_prim, if_pos (by omega), if_neg (by omega), if_pos (by omega)]; exact q_gV hR ⟨by omega, by omega⟩ hk0), rfl⟩
          · refine s_aload_n 3 C dX6_primary_81 rfl 2 rfl ?_
            refine s_iload_n 2 C dX6_primary_82 rfl 5 rfl ?_
            refine s_aload_n 3 C dX6_primary_83 rfl 2 rfl ?_
            refine s_get C dX6_primary_84 1 rfl hinX1 2 rfl 0 (by decide) (by decide +kernel) rfl ?_
            refine s_callV (As := [vI y, vI (c 0)]) (rest := []) C dX6_primary_87 (c_X1_valueAt l G (a 1) (a 2) (a 3) (a 4) (a 5) (a 6) (c 0) (F 3) (F 4) (F 5) (F 6) (F 7) y (c 0) (by first | assumption | omega) (by first | assumption | omega) (by first | assumption | omega) (by first | assumption | omega) (by first | assumption | omega) (by first | assumption | omega) (by first | assumption | omega) (by first | assumption | omega)) gX6_primary_X1_valueAt rfl 2 (by decide +kernel) (by decide) 2 1 rfl rfl rfl [2, 3, 4, 5, 6, 7] rfl (by decide) rfl (Nat.le_of_ble_eq_true rfl) ⟨Nat.zero_le _, Nat.zero_le _⟩ ?_
            intro v0 w0 hq
            obtain ⟨rfl, rfl⟩ := hq
            refine ⟨rfl, ?_⟩
            show fSt l G X 0 0 90 [(5, vI (mL f (f (k + 9)) y)), (4, vI (f (k + 9))), (3, .ref (a 1)), (0, .ref x0), (1, vI k), (2, vI y)] [vI (vA (c 0) (F 3) (F 4) (F 5) (F 6) y (c 0))] [cO x0 6 [.ref (a 0), .ref h0, y2, y3, y4, y5], cO (a 0) 4 [.ref (a 1), .ref (a 7), .ref (a 9), .ref (a 11), vI (c 1), vI (c 2), vI (c 3), vI (c 4), vI (c 5), vI (c 6), vI (c 7), vI (c 8)], cO (a 1) 1 [vI (c 0), .ref (a 2), .ref (a 3), .ref (a 4), .ref (a 5), .ref (a 6)], cA (a 2) G.2.1.1 100 (F 3), cA (a 3) G.2.1.1 100 (F 4), cA (a 4) G.2.1.1 100 (F 5), cA (a 5) G.2.1.1 100 (F 6), cA (a 6) G.2.1.1 100 (F 7), cO (a 7) 3 [vI (c 9), vI (c 10), vI (c 11), .ref (a 8)], cA (a 8) G.2.1.2.1 101 (F 1), cO (a 9) 3 [vI (c 12), vI (c 13), vI (c 14), .ref (a 10)], cA (a 10) G.2.1.2.1 101 (F 2), cA (a 11) G.2.1.1 3 (F 0)]
            refine s_goto 99 C dX6_primary_90 (by decide) ?_
            exact s_iret C E dX6_primary_99 ⟨congrArg (fun z => some (vI z)) (by rw [sp_prim, if_pos (by omega), if_neg (by omega), if_neg (by omega)]; rw [← en]; exact q_vA hR hI (by omega)), rfl⟩
        · refine s_ldc (z := -1000002) C (by decide +kernel) dX6_primary_60 ?_
          exact s_iret C E dX6_primary_62 ⟨congrArg (fun z => some (vI z)) (by rw [sp_prim, if_pos (by omega), if_pos (by omega)]), rfl⟩
      · refine s_aload_n 3 C dX6_primary_35 rfl 0 rfl ?_
        refine s_iload_n 2 C dX6_primary_36 rfl 3 rfl ?_
        refine s_aload_n 3 C dX6_primary_37 rfl 0 rfl ?_
        refine s_get C dX6_primary_38 1 rfl hinX1 2 rfl 0 (by decide) (by decide +kernel) rfl ?_
        refine s_callV (As := [vI y, vI (c 0)]) (rest := []) C dX6_primary_41 (c_X1_valueAt l G (a 1) (a 2) (a 3) (a 4) (a 5) (a 6) (c 0) (F 3) (F 4) (F 5) (F 6) (F 7) y (c 0) (by first | assumption | omega) (by first | assumption | omega) (by first | assumption | omega) (by first | assumption | omega) (by first | assumption | omega) (by first | assumption | omega) (by first | assumption | omega) (by first | assumption | omega)) gX6_primary_X1_valueAt rfl 2 (by decide +kernel) (by decide) 2 1 rfl rfl rfl [2, 3, 4, 5, 6, 7] rfl (by decide) rfl (Nat.le_of_ble_eq_true rfl) ⟨Nat.zero_le _, Nat.zero_le _⟩ ?_
        intro v0 w0 hq
        obtain ⟨rfl, rfl⟩ := hq
        refine ⟨rfl, ?_⟩
        show fSt l G X 0 0 44 [(3, .ref (a 1)), (0, .ref x0), (1, vI k), (2, vI y)] [vI (vA (c 0) (F 3) (F 4) (F 5) (F 6) y (c 0))] [cO x0 6 [.ref (a 0), .ref h0, y2, y3, y4, y5], cO (a 0) 4 [.ref (a 1), .ref (a 7), .ref (a 9), .ref (a 11), vI (c 1), vI (c 2), vI (c 3), vI (c 4), vI (c 5), vI (c 6), vI (c 7), vI (c 8)], cO (a 1) 1 [vI (c 0), .ref (a 2), .ref (a 3), .ref (a 4), .ref (a 5), .ref (a 6)], cA (a 2) G.2.1.1 100 (F 3), cA (a 3) G.2.1.1 100 (F 4), cA (a 4) G.2.1.1 100 (F 5), cA (a 5) G.2.1.1 100 (F 6), cA (a 6) G.2.1.1 100 (F 7), cO (a 7) 3 [vI (c 9), vI (c 10), vI (c 11), .ref (a 8)], cA (a 8) G.2.1.2.1 101 (F 1), cO (a 9) 3 [vI (c 12), vI (c 13), vI (c 14), .ref (a 10)], cA (a 10) G.2.1.2.1 101 (F 2), cA (a 11) G.2.1.1 3 (F 0)]
        exact s_iret C E dX6_primary_44 ⟨congrArg (fun z => some (vI z)) (by rw [sp_prim, if_pos (by omega), if_neg (by omega), if_neg (by omega)]; rw [← en]; exact q_vA hR hI (by omega)), rfl⟩
    · have h_16 := bI_f h_16
      refine s_ldc (z := -1000001) C (by decide +kernel) dX6_primary_19 ?_
      exact s_iret C E dX6_primary_21 ⟨congrArg (fun z => some (vI z)) (by rw [sp_prim, if_neg (by omega)]), rfl⟩
  · refine s_iload_n 1 C dX6_primary_5 rfl 1 rfl ?_
    refine s_callS (As := [vI k]) (rest := []) C dX6_primary_6 (c_X6_isSlot l G k (by first | assumption | omega)) gX6_primary_X6_isSlot rfl 1 (by decide +kernel) (by decide) [] rfl (by decide) rfl (Nat.le_of_ble_eq_true rfl) ⟨Nat.zero_le _, Nat.zero_le _⟩ ?_
    intro v0 w0 hq
    obtain ⟨rfl, rfl⟩ := hq
    refine ⟨rfl, ?_⟩
    show fSt l G X 0 0 9 [(0, .ref x0), (1, vI k), (2, vI y)] [vI (bI (0 ≤ k ∧ k ≤ 2))] [cO x0 6 [.ref (a 0), .ref h0, y2, y3, y4, y5], cO (a 0) 4 [.ref (a 1), .ref (a 7), .ref (a 9), .ref (a 11), vI (c 1), vI (c 2), vI (c 3), vI (c 4), vI (c 5), vI (c 6), vI (c 7), vI (c 8)], cO (a 1) 1 [vI (c 0), .ref (a 2), .ref (a 3), .ref (a 4), .ref (a 5), .ref (a 6)], cA (a 2) G.2.1.1 100 (F 3), cA (a 3) G.2.1.1 100 (F 4), cA (a 4) G.2.1.1 100 (F 5), cA (a 5) G.2.1.1 100 (F 6), cA (a 6) G.2.1.1 100 (F 7), cO (a 7) 3 [vI (c 9), vI (c 10), vI (c 11), .ref (a 8)], cA (a 8) G.2.1.2.1 101 (F 1), cO (a 9) 3 [vI (c 12), vI (c 13), vI (c 14), .ref (a 10)], cA (a 10) G.2.1.2.1 101 (F 2), cA (a 11) G.2.1.1 3 (F 0)]
    refine s_if_eq 19 C dX6_primary_9 (by decide) bI_rng (fun h_9 => ?_) (fun h_9 => ?_)
    · have h_9 := bI_f h_9
      refine s_ldc (z := -1000001) C (by decide +kernel) dX6_primary_19 ?_
      exact s_iret C E dX6_primary_21 ⟨congrArg (fun z => some (vI z)) (by rw [sp_prim, if_neg (by omega)]), rfl⟩
    · have h_9 := bI_t h_9
      refine s_iload_n 2 C dX6_primary_12 rfl 2 rfl ?_
      refine s_callS (As := [vI y]) (rest := []) C dX6_primary_13 (c_X6_isKey l G y (by first | assumption | omega)) gX6_primary_X6_isKey rfl 1 (by decide +kernel) (by decide) [] rfl (by decide) rfl (Nat.le_of_ble_eq_true rfl) ⟨Nat.zero_le _, Nat.zero_le _⟩ ?_
      intro v0 w0 hq
      obtain ⟨rfl, rfl⟩ := hq
      refine ⟨rfl, ?_⟩
      show fSt l G X 0 0 16 [(0, .ref x0), (1, vI k), (2, vI y)] [vI (bI (0 ≤ y ∧ y ≤ 23))] [cO x0 6 [.ref (a 0), .ref h0, y2, y3, y4, y5], cO (a 0) 4 [.ref (a 1), .ref (a 7), .ref (a 9), .ref (a 11), vI (c 1), vI (c 2), vI (c 3), vI (c 4), vI (c 5), vI (c 6), vI (c 7), vI (c 8)], cO (a 1) 1 [vI (c 0), .ref (a 2), .ref (a 3), .ref (a 4), .ref (a 5), .ref (a 6)], cA (a 2) G.2.1.1 100 (F 3), cA (a 3) G.2.1.1 100 (F 4), cA (a 4) G.2.1.1 100 (F 5), cA (a 5) G.2.1.1 100 (F 6), cA (a 6) G.2.1.1 100 (F 7), cO (a 7) 3 [vI (c 9), vI (c 10), vI (c 11), .ref (a 8)], cA (a 8) G.2.1.2.1 101 (F 1), cO (a 9) 3 [vI (c 12), vI (c 13), vI (c 14), .ref (a 10)], cA (a 10) G.2.1.2.1 101 (F 2), cA (a 11) G.2.1.1 3 (F 0)]
      refine s_if_ne 22 C dX6_primary_16 (by decide) bI_rng (fun h_16 => ?_) (fun h_16 => ?_)
      · have h_16 := bI_t h_16
        refine s_aload_n 0 C dX6_primary_22 rfl 0 rfl ?_
        refine s_get C dX6_primary_23 6 rfl hinX6 0 rfl 0 (by decide) (by decide +kernel) rfl ?_
        refine s_get C dX6_primary_26 4 rfl hinX4 1 rfl 0 (by decide) (by decide +kernel) rfl ?_
        refine s_astore_n 3 [(3, .ref (a 1)), (0, .ref x0), (1, vI k), (2, vI y)] C dX6_primary_29 rfl (by decide) rfl ?_
        refine s_iload_n 1 C dX6_primary_30 rfl 2 rfl ?_
        refine s_iconst C dX6_primary_31 ?_
        refine s_icmp_ne 45 C dX6_primary_32 (by decide) (by omega) (by omega) (fun h_32 => ?_) (fun h_32 => ?_)
        · refine s_aload_n 0 C dX6_primary_45 rfl 1 rfl ?_
          refine s_get C dX6_primary_46 6 rfl hinX6 0 rfl 0 (by decide) (by decide +kernel) rfl ?_
          refine s_iload_n 1 C dX6_primary_49 rfl 2 rfl ?_
          refine s_callV (As := [vI k]) (rest := []) C dX6_primary_50 (c_X4_transactionIn l G (a 0) (a 11) (.ref (a 1)) (.ref (a 7)) (.ref (a 9)) [vI (c 1), vI (c 2), vI (c 3), vI (c 4), vI (c 5), vI (c 6), vI (c 7), vI (c 8)] (F 0) k (by first | assumption | omega)) gX6_primary_X4_transactionIn rfl 1 (by decide +kernel) (by decide) 1 4 rfl rfl rfl [1, 12] rfl (by decide) rfl (Nat.le_of_ble_eq_true rfl) ⟨Nat.zero_le _, Nat.zero_le _⟩ ?_
          intro v0 w0 hq
          obtain ⟨rfl, rfl⟩ := hq
          refine ⟨rfl, ?_⟩
          show fSt l G X 0 0 53 [(3, .ref (a 1)), (0, .ref x0), (1, vI k), (2, vI y)] [vI (if 0 ≤ k ∧ k ≤ 2 then (F 0) k else 0)] [cO x0 6 [.ref (a 0), .ref h0, y2, y3, y4, y5], cO (a 0) 4 [.ref (a 1), .ref (a 7), .ref (a 9), .ref (a 11), vI (c 1), vI (c 2), vI (c 3), vI (c 4), vI (c 5), vI (c 6), vI (c 7), vI (c 8)], cO (a 1) 1 [vI (c 0), .ref (a 2), .ref (a 3), .ref (a 4), .ref (a 5), .ref (a 6)], cA (a 2) G.2.1.1 100 (F 3), cA (a 3) G.2.1.1 100 (F 4), cA (a 4) G.2.1.1 100 (F 5), cA (a 5) G.2.1.1 100 (F 6), cA (a 6) G.2.1.1 100 (F 7), cO (a 7) 3 [vI (c 9), vI (c 10), vI (c 11), .ref (a 8)], cA (a 8) G.2.1.2.1 101 (F 1), cO (a 9) 3 [vI (c 12), vI (c 13), vI (c 14), .ref (a 10)], cA (a 10) G.2.1.2.1 101 (F 2), cA (a 11) G.2.1.1 3 (F 0)]
          refine s_top (f (k + 9)) ((if_pos (by omega)).trans (RS.hsl hR k (by omega) (by omega))) ?_
          have hsk := hI.sl k (by omega) (by omega)
          refine s_istore [(4, vI (f (k + 9))), (3, .ref (a 1)), (0, .ref x0), (1, vI k), (2, vI y)] C dX6_primary_53 (by decide) rfl ?_
          refine s_iload C dX6_primary_55 0 rfl ?_
          refine s_if_ne 63 C dX6_primary_57 (by decide) (by omega) (fun h_57 => ?_) (fun h_57 => ?_)
          · refine s_aload_n 3 C dX6_primary_63 rfl 1 rfl ?_
            refine s_iload C dX6_primary_64 0 rfl ?_
            refine s_iload_n 2 C dX6_primary_66 rfl 4 rfl ?_
            refine s_aload_n 3 C dX6_primary_67 rfl 1 rfl ?_
            refine s_get C dX6_primary_68 1 rfl hinX1 2 rfl 0 (by decide) (by decide +kernel) rfl ?_
            refine s_callV (As := [vI (f (k + 9)), vI y, vI (c 0)]) (rest := []) C dX6_primary_71 (c_X1_lastPut l G (a 1) (a 2) (a 3) (a 4) (a 5) (a 6) (c 0) (F 3) (F 4) (F 5) (F 6) (F 7) (f (k + 9)) y (c 0) (by first | assumption | omega) (by first | assumption | omega) (by first | assumption | omega) (by first | assumption | omega) (by first | assumption | omega) (by first | assumption | omega) (by omega) (by first | assumption | omega) (by first | assumption | omega)) gX6_primary_X1_lastPut rfl 3 (by decide +kernel) (by decide) 2 1 rfl rfl rfl [2, 3, 4, 5, 6, 7] rfl (by decide) rfl (Nat.le_of_ble_eq_true rfl) ⟨Nat.zero_le _, Nat.zero_le _⟩ ?_
            intro v0 w0 hq
            obtain ⟨rfl, rfl⟩ := hq
            refine ⟨rfl, ?_⟩
            show fSt l G X 0 0 74 [(4, vI (f (k + 9))), (3, .ref (a 1)), (0, .ref x0), (1, vI k), (2, vI y)] [vI (lP (c 0) (F 3) (F 4) (F 5) (f (k + 9)) y (c 0))] [cO x0 6 [.ref (a 0), .ref h0, y2, y3, y4, y5], cO (a 0) 4 [.ref (a 1), .ref (a 7), .ref (a 9), .ref (a 11), vI (c 1), vI (c 2), vI (c 3), vI (c 4), vI (c 5), vI (c 6), vI (c 7), vI (c 8)], cO (a 1) 1 [vI (c 0), .ref (a 2), .ref (a 3), .ref (a 4), .ref (a 5), .ref (a 6)], cA (a 2) G.2.1.1 100 (F 3), cA (a 3) G.2.1.1 100 (F 4), cA (a 4) G.2.1.1 100 (F 5), cA (a 5) G.2.1.1 100 (F 6), cA (a 6) G.2.1.1 100 (F 7), cO (a 7) 3 [vI (c 9), vI (c 10), vI (c 11), .ref (a 8)], cA (a 8) G.2.1.2.1 101 (F 1), cO (a 9) 3 [vI (c 12), vI (c 13), vI (c 14), .ref (a 10)], cA (a 10) G.2.1.2.1 101 (F 2), cA (a 11) G.2.1.1 3 (F 0)]
            refine s_top (mL f (f (k + 9)) y) (q_lP hR hI (by omega) (fun r h1 h2 => absurd h1 (by omega))) ?_
            have hml := mL_in (f := f) (t := f (k + 9)) (y := y) hin
            refine s_istore [(5, vI (mL f (f (k + 9)) y)), (4, vI (f (k + 9))), (3, .ref (a 1)), (0, .ref x0), (1, vI k), (2, vI y)] C dX6_primary_74 (by decide) rfl ?_
            refine s_iload C dX6_primary_76 0 rfl ?_
            refine s_if_ne 93 C dX6_primary_78 (by decide) (by omega) (fun h_78 => ?_) (fun h_78 => ?_)
            · have hat := lst_at (P := mP f (f (k + 9)) y) (k := (f 0).toNat) h_78
              simp only [mP, Bool.and_eq_true, decide_eq_true_eq] at hat
              have hk0 : oR f (mL f (f (k + 9)) y) 0 = 0 := hat.1.1
              refine s_aload_n 3 C dX6_primary_93 rfl 2 rfl ?_
              refine s_iload C dX6_primary_94 0 rfl ?_
              refine s_callV (As := [vI (mL f (f (k + 9)) y)]) (rest := []) C dX6_primary_96 (c_X1_valueIn l G (a 1) (a 2) (a 3) (a 4) (a 5) (a 6) (c 0) (F 3) (F 4) (F 5) (F 6) (F 7) (mL f (f (k + 9)) y) (by first | assumption | omega) (by first | assumption | omega)) gX6_primary_X1_valueIn rfl 1 (by decide +kernel) (by decide) 2 1 rfl rfl rfl [2, 3, 4, 5, 6, 7] rfl (by decide) rfl (Nat.le_of_ble_eq_true rfl) ⟨Nat.zero_le _, Nat.zero_le _⟩ ?_
              intro v0 w0 hq
              obtain ⟨rfl, rfl⟩ := hq
              refine ⟨rfl, ?_⟩
              show fSt l G X 0 0 99 [(5, vI (mL f (f (k + 9)) y)), (4, vI (f (k + 9))), (3, .ref (a 1)), (0, .ref x0), (1, vI k), (2, vI y)] [vI (gR (c 0) (F 6) (mL f (f (k + 9)) y))] [cO x0 6 [.ref (a 0), .ref h0, y2, y3, y4, y5], cO (a 0) 4 [.ref (a 1), .ref (a 7), .ref (a 9), .ref (a 11), vI (c 1), vI (c 2), vI (c 3), vI (c 4), vI (c 5), vI (c 6), vI (c 7), vI (c 8)], cO (a 1) 1 [vI (c 0), .ref (a 2), .ref (a 3), .ref (a 4), .ref (a 5), .ref (a 6)], cA (a 2) G.2.1.1 100 (F 3), cA (a 3) G.2.1.1 100 (F 4), cA (a 4) G.2.1.1 100 (F 5), cA (a 5) G.2.1.1 100 (F 6), cA (a 6) G.2.1.1 100 (F 7), cO (a 7) 3 [vI (c 9), vI (c 10), vI (c 11), .ref (a 8)], cA (a 8) G.2.1.2.1 101 (F 1), cO (a 9) 3 [vI (c 12), vI (c 13), vI (c 14), .ref (a 10)], cA (a 10) G.2.1.2.1 101 (F 2), cA (a 11) G.2.1.1 3 (F 0)]
              exact s_iret C E dX6_primary_99 ⟨congrArg (fun z => some (vI z)) (by rw [sp_prim, if_pos (by omega), if_neg (by omega), if_pos (by omega)]; exact q_gV hR ⟨by omega, by omega⟩ hk0), rfl⟩
            · refine s_aload_n 3 C dX6_primary_81 rfl 2 rfl ?_
              refine s_iload_n 2 C dX6_primary_82 rfl 5 rfl ?_
              refine s_aload_n 3 C dX6_primary_83 rfl 2 rfl ?_
              refine s_get C dX6_primary_84 1 rfl hinX1 2 rfl 0 (by decide) (by decide +kernel) rfl ?_
              refine s_callV (As := [vI y, vI (c 0)]) (rest := []) C dX6_primary_87 (c_X1_valueAt l G (a 1) (a 2) (a 3) (a 4) (a 5) (a 6) (c 0) (F 3) (F 4) (F 5) (F 6) (F 7) y (c 0) (by first | assumption | omega) (by first | assumption | omega) (by first | assumption | omega) (by first | assumption | omega) (by first | assumption | omega) (by first | assumption | omega) (by first | assumption | omega) (by first | assumption | omega)) gX6_primary_X1_valueAt rfl 2 (by decide +kernel) (by decide) 2 1 rfl rfl rfl [2, 3, 4, 5, 6, 7] rfl (by decide) rfl (Nat.le_of_ble_eq_true rfl) ⟨Nat.zero_le _, Nat.zero_le _⟩ ?_
              intro v0 w0 hq
              obtain ⟨rfl, rfl⟩ := hq
              refine ⟨rfl, ?_⟩
              show fSt l G X 0 0 90 [(5, vI (mL f (f (k + 9)) y)), (4, vI (f (k + 9))), (3, .ref (a 1)), (0, .ref x0), (1, vI k), (2, vI y)] [vI (vA (c 0) (F 3) (F 4) (F 5) (F 6) y (c 0))] [cO x0 6 [.ref (a 0), .ref h0, y2, y3, y4, y5], cO (a 0) 4 [.ref (a 1), .ref (a 7), .ref (a 9), .ref (a 11), vI (c 1), vI (c 2), vI (c 3), vI (c 4), vI (c 5), vI (c 6), vI (c 7), vI (c 8)], cO (a 1) 1 [vI (c 0), .ref (a 2), .ref (a 3), .ref (a 4), .ref (a 5), .ref (a 6)], cA (a 2) G.2.1.1 100 (F 3), cA (a 3) G.2.1.1 100 (F 4), cA (a 4) G.2.1.1 100 (F 5), cA (a 5) G.2.1.1 100 (F 6), cA (a 6) G.2.1.1 100 (F 7), cO (a 7) 3 [vI (c 9), vI (c 10), vI (c 11), .ref (a 8)], cA (a 8) G.2.1.2.1 101 (F 1), cO (a 9) 3 [vI (c 12), vI (c 13), vI (c 14), .ref (a 10)], cA (a 10) G.2.1.2.1 101 (F 2), cA (a 11) G.2.1.1 3 (F 0)]
              refine s_goto 99 C dX6_primary_90 (by decide) ?_
              exact s_iret C E dX6_primary_99 ⟨congrArg (fun z => some (vI z)) (by rw [sp_prim, if_pos (by omega), if_neg (by omega), if_neg (by omega)]; rw [← en]; exact q_vA hR hI (by omega)), rfl⟩
          · refine s_ldc (z := -1000002) C (by decide +kernel) dX6_primary_60 ?_
            exact s_iret C E dX6_primary_62 ⟨congrArg (fun z => some (vI z)) (by rw [sp_prim, if_pos (by omega), if_pos (by omega)]), rfl⟩
        · refine s_aload_n 3 C dX6_primary_35 rfl 0 rfl ?_
          refine s_iload_n 2 C dX6_primary_36 rfl 3 rfl ?_
          refine s_aload_n 3 C dX6_primary_37 rfl 0 rfl ?_
          refine s_get C dX6_primary_38 1 rfl hinX1 2 rfl 0 (by decide) (by decide +kernel) rfl ?_
          refine s_callV (As := [vI y, vI (c 0)]) (rest := []) C dX6_primary_41 (c_X1_valueAt l G (a 1) (a 2) (a 3) (a 4) (a 5) (a 6) (c 0) (F 3) (F 4) (F 5) (F 6) (F 7) y (c 0) (by first | assumption | omega) (by first | assumption | omega) (by first | assumption | omega) (by first | assumption | omega) (by first | assumption | omega) (by first | assumption | omega) (by first | assumption | omega) (by first | assumption | omega)) gX6_primary_X1_valueAt rfl 2 (by decide +kernel) (by decide) 2 1 rfl rfl rfl [2, 3, 4, 5, 6, 7] rfl (by decide) rfl (Nat.le_of_ble_eq_true rfl) ⟨Nat.zero_le _, Nat.zero_le _⟩ ?_
          intro v0 w0 hq
          obtain ⟨rfl, rfl⟩ := hq
          refine ⟨rfl, ?_⟩
          show fSt l G X 0 0 44 [(3, .ref (a 1)), (0, .ref x0), (1, vI k), (2, vI y)] [vI (vA (c 0) (F 3) (F 4) (F 5) (F 6) y (c 0))] [cO x0 6 [.ref (a 0), .ref h0, y2, y3, y4, y5], cO (a 0) 4 [.ref (a 1), .ref (a 7), .ref (a 9), .ref (a 11), vI (c 1), vI (c 2), vI (c 3), vI (c 4), vI (c 5), vI (c 6), vI (c 7), vI (c 8)], cO (a 1) 1 [vI (c 0), .ref (a 2), .ref (a 3), .ref (a 4), .ref (a 5), .ref (a 6)], cA (a 2) G.2.1.1 100 (F 3), cA (a 3) G.2.1.1 100 (F 4), cA (a 4) G.2.1.1 100 (F 5), cA (a 5) G.2.1.1 100 (F 6), cA (a 6) G.2.1.1 100 (F 7), cO (a 7) 3 [vI (c 9), vI (c 10), vI (c 11), .ref (a 8)], cA (a 8) G.2.1.2.1 101 (F 1), cO (a 9) 3 [vI (c 12), vI (c 13), vI (c 14), .ref (a 10)], cA (a 10) G.2.1.2.1 101 (F 2), cA (a 11) G.2.1.1 3 (F 0)]
          exact s_iret C E dX6_primary_44 ⟨congrArg (fun z => some (vI z)) (by rw [sp_prim, if_pos (by omega), if_neg (by omega), if_neg (by omega)]; rw [← en]; exact q_vA hR hI (by omega)), rfl⟩
      · have h_16 := bI_f h_16
        refine s_ldc (z := -1000001) C (by decide +kernel) dX6_primary_19 ?_
        exact s_iret C E dX6_primary_21 ⟨congrArg (fun z => some (vI z)) (by rw [sp_prim, if_neg (by omega)]), rfl⟩

set_option maxHeartbeats 4000000 in
set_option maxRecDepth 100000 in
theorem c_X6_recordOf (l : Launch) (G : fG) (x0 h0 : Nat) (y2 y3 y4 y5 : Value) (a : Nat → Nat) (c : Nat → Int) (F : Nat → Int → Int) (B : Int) (f : Int → Int) (r wh : Int) (hR : RSb f c F) (hI : Inv B f) (hB : B ≤ 1073000000) (hr : -2147483648 ≤ r ∧ r < 2147483648) (hwh : -2147483648 ≤ wh ∧ wh < 2147483648) : fCt l G yX6_recordOf wsX6_recordOf 2 42 0 0 [.ref x0, vI r, vI wh] [cO x0 6 [.ref (a 0), .ref h0, y2, y3, y4, y5], cO (a 0) 4 [.ref (a 1), .ref (a 7), .ref (a 9), .ref (a 11), vI (c 1), vI (c 2), vI (c 3), vI (c 4), vI (c 5), vI (c 6), vI (c 7), vI (c 8)], cO (a 1) 1 [vI (c 0), .ref (a 2), .ref (a 3), .ref (a 4), .ref (a 5), .ref (a 6)], cA (a 2) G.2.1.1 100 (F 3), cA (a 3) G.2.1.1 100 (F 4), cA (a 4) G.2.1.1 100 (F 5), cA (a 5) G.2.1.1 100 (F 6), cA (a 6) G.2.1.1 100 (F 7), cO (a 7) 3 [vI (c 9), vI (c 10), vI (c 11), .ref (a 8)], cA (a 8) G.2.1.2.1 101 (F 1), cO (a 9) 3 [vI (c 12), vI (c 13), vI (c 14), .ref (a 10)], cA (a 10) G.2.1.2.1 101 (F 2), cA (a 11) G.2.1.1 3 (F 0)] (fun (v0 : Option Value) (w0 : va_W) => v0 = some (vI (sp_rec f r wh)) ∧ w0 = [cO x0 6 [.ref (a 0), .ref h0, y2, y3, y4, y5], cO (a 0) 4 [.ref (a 1), .ref (a 7), .ref (a 9), .ref (a 11), vI (c 1), vI (c 2), vI (c 3), vI (c 4), vI (c 5), vI (c 6), vI (c 7), vI (c 8)], cO (a 1) 1 [vI (c 0), .ref (a 2), .ref (a 3), .ref (a 4), .ref (a 5), .ref (a 6)], cA (a 2) G.2.1.1 100 (F 3), cA (a 3) G.2.1.1 100 (F 4), cA (a 4) G.2.1.1 100 (F 5), cA (a 5) G.2.1.1 100 (F 6), cA (a 6) G.2.1.1 100 (F 7), cO (a 7) 3 [vI (c 9), vI (c 10), vI (c 11), .ref (a 8)], cA (a 8) G.2.1.2.1 101 (F 1), cO (a 9) 3 [vI (c 12), vI (c 13), vI (c 14), .ref (a 10)], cA (a 10) G.2.1.2.1 101 (F 2), cA (a 11) G.2.1.1 3 (F 0)]) := by
  refine fs_met (cc := cX6_recordOf) (nL := 5) (ret := (some .int)) (by decide) rfl (Nat.le_of_ble_eq_true rfl) ?_
  intro X C E
  show fSt l G X 0 0 0 [(0, .ref x0), (1, vI r), (2, vI wh)] [] [cO x0 6 [.ref (a 0), .ref h0, y2, y3, y4, y5], cO (a 0) 4 [.ref (a 1), .ref (a 7), .ref (a 9), .ref (a 11), vI (c 1), vI (c 2), vI (c 3), vI (c 4), vI (c 5), vI (c 6), vI (c 7), vI (c 8)], cO (a 1) 1 [vI (c 0), .ref (a 2), .ref (a 3), .ref (a 4), .ref (a 5), .ref (a 6)], cA (a 2) G.2.1.1 100 (F 3), cA (a 3) G.2.1.1 100 (F 4), cA (a 4) G.2.1.1 100 (F 5), cA (a 5) G.2.1.1 100 (F 6), cA (a 6) G.2.1.1 100 (F 7), cO (a 7) 3 [vI (c 9), vI (c 10), vI (c 11), .ref (a 8)], cA (a 8) G.2.1.2.1 101 (F 1), cO (a 9) 3 [vI (c 12), vI (c 13), vI (c 14), .ref (a 10)], cA (a 10) G.2.1.2.1 101 (F 2), cA (a 11) G.2.1.1 3 (F 0)]
  have hinX4 : ∀ w ∈ u_ws RX4 TX4 12, w ∈ wsX6_recordOf := by decide +kernel
  have hinX6 : ∀ w ∈ u_ws RX6 TX6 6, w ∈ wsX6_recordOf := by decide +kernel
  obtain ⟨hn, htk, hln, htr, hlc, hlo, hap, hrt, hdl, hS0, hS1⟩ := RS.scal hR hI
  have hK : rF (F 3) := RS.hrK hR
  have hT : rF (F 4) := RS.hrT hR
  have hY : rF (F 5) := RS.hrY hR
  have hV : rF (F 6) := RS.hrV hR
  have hA : rF (F 7) := RS.hrA hR
  have hsl : rF (F 0) := RS.hrs hR
  have hg0 : gF (F 1) := RS.hG0 hR
  have hg1 : gF (F 2) := RS.hG1 hR
  have hb0 := RS.b0 hR
  have hb1 := RS.b1 hR
  have en := RS.e_n hR
  have hin := hI.n
  refine s_iload_n 1 C dX6_recordOf_0 rfl 1 rfl ?_
  refine s_iconst C dX6_recordOf_1 ?_
  refine s_icmp_lt 14 C dX6_recordOf_2 (by decide) (by omega) (by omega) (fun h_2 => ?_) (fun h_2 => ?_)
  · refine s_ldc (z := -1000001) C (by decide +kernel) dX6_recordOf_14 ?_
    exact s_iret C E dX6_recordOf_16 ⟨congrArg (fun z => some (vI z)) (by rw [sp_rec, if_neg (by omega)]), rfl⟩
  · refine s_iload_n 2 C dX6_recordOf_5 rfl 2 rfl ?_
    refine s_if_lt 14 C dX6_recordOf_6 (by decide) (by omega) (fun h_6 => ?_) (fun h_6 => ?_)
    · refine s_ldc (z := -1000001) C (by decide +kernel) dX6_recordOf_14 ?_
      exact s_iret C E dX6_recordOf_16 ⟨congrArg (fun z => some (vI z)) (by rw [sp_rec, if_neg (by omega)]), rfl⟩
    · refine s_iload_n 2 C dX6_recordOf_9 rfl 2 rfl ?_
      refine s_iconst C dX6_recordOf_10 ?_
      refine s_icmp_le 17 C dX6_recordOf_11 (by decide) (by omega) (by omega) (fun h_11 => ?_) (fun h_11 => ?_)
      · refine s_aload_n 0 C dX6_recordOf_17 rfl 0 rfl ?_
        refine s_get C dX6_recordOf_18 6 rfl hinX6 0 rfl 0 (by decide) (by decide +kernel) rfl ?_
        refine s_get C dX6_recordOf_21 4 rfl hinX4 1 rfl 0 (by decide) (by decide +kernel) rfl ?_
        refine s_astore_n 3 [(3, .ref (a 1)), (0, .ref x0), (1, vI r), (2, vI wh)] C dX6_recordOf_24 rfl (by decide) rfl ?_
        refine s_iload_n 2 C dX6_recordOf_25 rfl 3 rfl ?_
        refine s_iconst C dX6_recordOf_26 ?_
        refine s_icmp_eq 35 C dX6_recordOf_27 (by decide) (by omega) (by omega) (fun h_27 => ?_) (fun h_27 => ?_)
        · refine s_iconst C dX6_recordOf_35 ?_
          refine s_goto 40 C dX6_recordOf_36 (by decide) ?_
          refine s_istore [(4, vI 1), (3, .ref (a 1)), (0, .ref x0), (1, vI r), (2, vI wh)] C dX6_recordOf_40 (by decide) rfl ?_
          refine s_aload_n 3 C dX6_recordOf_42 rfl 1 rfl ?_
          refine s_iload_n 1 C dX6_recordOf_43 rfl 3 rfl ?_
          refine s_callV (As := [vI r]) (rest := []) C dX6_recordOf_44 (c_X1_has l G (a 1) (a 2) (a 3) (a 4) (a 5) (a 6) (c 0) (F 3) (F 4) (F 5) (F 6) (F 7) r (by first | assumption | omega) (by first | assumption | omega)) gX6_recordOf_X1_has rfl 1 (by decide +kernel) (by decide) 2 1 rfl rfl rfl [2, 3, 4, 5, 6, 7] rfl (by decide) rfl (Nat.le_of_ble_eq_true rfl) ⟨Nat.zero_le _, Nat.zero_le _⟩ ?_
          intro v0 w0 hq
          obtain ⟨rfl, rfl⟩ := hq
          refine ⟨rfl, ?_⟩
          show fSt l G X 0 0 47 [(4, vI 1), (3, .ref (a 1)), (0, .ref x0), (1, vI r), (2, vI wh)] [vI (bI (1 ≤ r ∧ r ≤ (c 0)))] [cO x0 6 [.ref (a 0), .ref h0, y2, y3, y4, y5], cO (a 0) 4 [.ref (a 1), .ref (a 7), .ref (a 9), .ref (a 11), vI (c 1), vI (c 2), vI (c 3), vI (c 4), vI (c 5), vI (c 6), vI (c 7), vI (c 8)], cO (a 1) 1 [vI (c 0), .ref (a 2), .ref (a 3), .ref (a 4), .ref (a 5), .ref (a 6)], cA (a 2) G.2.1.1 100 (F 3), cA (a 3) G.2.1.1 100 (F 4), cA (a 4) G.2.1.1 100 (F 5), cA (a 5) G.2.1.1 100 (F 6), cA (a 6) G.2.1.1 100 (F 7), cO (a 7) 3 [vI (c 9), vI (c 10), vI (c 11), .ref (a 8)], cA (a 8) G.2.1.2.1 101 (F 1), cO (a 9) 3 [vI (c 12), vI (c 13), vI (c 14), .ref (a 10)], cA (a 10) G.2.1.2.1 101 (F 2), cA (a 11) G.2.1.1 3 (F 0)]
          refine s_if_eq 63 C dX6_recordOf_47 (by decide) bI_rng (fun h_47 => ?_) (fun h_47 => ?_)
          · have h_47 := bI_f h_47
            refine s_ldc (z := -1000004) C (by decide +kernel) dX6_recordOf_63 ?_
            exact s_iret C E dX6_recordOf_65 ⟨congrArg (fun z => some (vI z)) (by first | (rw [sp_rec, if_pos (by omega), if_pos (by omega)]; done) | (have hre := hI.Re r (by omega) (by omega) (by rw [← q_gK hR (r := r) ⟨by omega, by omega⟩]; omega); rw [sp_rec, if_pos (by omega), if_neg (by omega)]; rcases (by omega : wh = 2 ∨ wh = 3) with e | e <;> rw [e] <;> omega)), rfl⟩
          · have h_47 := bI_t h_47
            refine s_iload C dX6_recordOf_50 0 rfl ?_
            refine s_if_eq 66 C dX6_recordOf_52 (by decide) (by decide) (fun h => absurd h (by decide)) (fun h => ?_)
            refine s_aload_n 3 C dX6_recordOf_55 rfl 1 rfl ?_
            refine s_iload_n 1 C dX6_recordOf_56 rfl 3 rfl ?_
            refine s_callV (As := [vI r]) (rest := []) C dX6_recordOf_57 (c_X1_kindOf l G (a 1) (a 2) (a 3) (a 4) (a 5) (a 6) (c 0) (F 3) (F 4) (F 5) (F 6) (F 7) r (by first | assumption | omega) (by first | assumption | omega)) gX6_recordOf_X1_kindOf rfl 1 (by decide +kernel) (by decide) 2 1 rfl rfl rfl [2, 3, 4, 5, 6, 7] rfl (by decide) rfl (Nat.le_of_ble_eq_true rfl) ⟨Nat.zero_le _, Nat.zero_le _⟩ ?_
            intro v0 w0 hq
            obtain ⟨rfl, rfl⟩ := hq
            refine ⟨rfl, ?_⟩
            show fSt l G X 0 0 60 [(4, vI 1), (3, .ref (a 1)), (0, .ref x0), (1, vI r), (2, vI wh)] [vI (gR (c 0) (F 3) r)] [cO x0 6 [.ref (a 0), .ref h0, y2, y3, y4, y5], cO (a 0) 4 [.ref (a 1), .ref (a 7), .ref (a 9), .ref (a 11), vI (c 1), vI (c 2), vI (c 3), vI (c 4), vI (c 5), vI (c 6), vI (c 7), vI (c 8)], cO (a 1) 1 [vI (c 0), .ref (a 2), .ref (a 3), .ref (a 4), .ref (a 5), .ref (a 6)], cA (a 2) G.2.1.1 100 (F 3), cA (a 3) G.2.1.1 100 (F 4), cA (a 4) G.2.1.1 100 (F 5), cA (a 5) G.2.1.1 100 (F 6), cA (a 6) G.2.1.1 100 (F 7), cO (a 7) 3 [vI (c 9), vI (c 10), vI (c 11), .ref (a 8)], cA (a 8) G.2.1.2.1 101 (F 1), cO (a 9) 3 [vI (c 12), vI (c 13), vI (c 14), .ref (a 10)], cA (a 10) G.2.1.2.1 101 (F 2), cA (a 11) G.2.1.1 3 (F 0)]
            refine s_if_eq 66 C dX6_recordOf_60 (by decide) (by omega) (fun h_60 => ?_) (fun h_60 => ?_)
            · refine s_iload_n 2 C dX6_recordOf_66 rfl 4 rfl ?_
              rcases (by omega : wh = 0 ∨ wh = 1 ∨ wh = 2 ∨ wh = 3 ∨ (wh < 0 ∨ 3 < wh)) with h_67 | h_67 | h_67 | h_67 | h_67
              · refine s_tabIn 96 (off := 29) C dX6_recordOf_67 (by omega) (by omega) (by omega) (by rw [h_67]; rfl) (by decide) ?_
                refine s_aload_n 3 C dX6_recordOf_96 rfl 1 rfl ?_
                refine s_iload_n 1 C dX6_recordOf_97 rfl 3 rfl ?_
                refine s_callV (As := [vI r]) (rest := []) C dX6_recordOf_98 (c_X1_kindOf l G (a 1) (a 2) (a 3) (a 4) (a 5) (a 6) (c 0) (F 3) (F 4) (F 5) (F 6) (F 7) r (by first | assumption | omega) (by first | assumption | omega)) gX6_recordOf_X1_kindOf rfl 1 (by decide +kernel) (by decide) 2 1 rfl rfl rfl [2, 3, 4, 5, 6, 7] rfl (by decide) rfl (Nat.le_of_ble_eq_true rfl) ⟨Nat.zero_le _, Nat.zero_le _⟩ ?_
                intro v0 w0 hq
                obtain ⟨rfl, rfl⟩ := hq
                refine ⟨rfl, ?_⟩
                show fSt l G X 0 0 101 [(4, vI 1), (3, .ref (a 1)), (0, .ref x0), (1, vI r), (2, vI wh)] [vI (gR (c 0) (F 3) r)] [cO x0 6 [.ref (a 0), .ref h0, y2, y3, y4, y5], cO (a 0) 4 [.ref (a 1), .ref (a 7), .ref (a 9), .ref (a 11), vI (c 1), vI (c 2), vI (c 3), vI (c 4), vI (c 5), vI (c 6), vI (c 7), vI (c 8)], cO (a 1) 1 [vI (c 0), .ref (a 2), .ref (a 3), .ref (a 4), .ref (a 5), .ref (a 6)], cA (a 2) G.2.1.1 100 (F 3), cA (a 3) G.2.1.1 100 (F 4), cA (a 4) G.2.1.1 100 (F 5), cA (a 5) G.2.1.1 100 (F 6), cA (a 6) G.2.1.1 100 (F 7), cO (a 7) 3 [vI (c 9), vI (c 10), vI (c 11), .ref (a 8)], cA (a 8) G.2.1.2.1 101 (F 1), cO (a 9) 3 [vI (c 12), vI (c 13), vI (c 14), .ref (a 10)], cA (a 10) G.2.1.2.1 101 (F 2), cA (a 11) G.2.1.1 3 (F 0)]
                exact s_iret C E dX6_recordOf_101 ⟨congrArg (fun z => some (vI z)) (by rw [sp_rec, if_pos (by omega), if_neg (by omega), h_67]; exact q_gK hR ⟨by omega, by omega⟩), rfl⟩
              · refine s_tabIn 102 (off := 35) C dX6_recordOf_67 (by omega) (by omega) (by omega) (by rw [h_67]; rfl) (by decide) ?_
                refine s_aload_n 3 C dX6_recordOf_102 rfl 1 rfl ?_
                refine s_iload_n 1 C dX6_recordOf_103 rfl 3 rfl ?_
                refine s_callV (As := [vI r]) (rest := []) C dX6_recordOf_104 (c_X1_transactionOf l G (a 1) (a 2) (a 3) (a 4) (a 5) (a 6) (c 0) (F 3) (F 4) (F 5) (F 6) (F 7) r (by first | assumption | omega) (by first | assumption | omega)) gX6_recordOf_X1_transactionOf rfl 1 (by decide +kernel) (by decide) 2 1 rfl rfl rfl [2, 3, 4, 5, 6, 7] rfl (by decide) rfl (Nat.le_of_ble_eq_true rfl) ⟨Nat.zero_le _, Nat.zero_le _⟩ ?_
                intro v0 w0 hq
                obtain ⟨rfl, rfl⟩ := hq
                refine ⟨rfl, ?_⟩
                show fSt l G X 0 0 107 [(4, vI 1), (3, .ref (a 1)), (0, .ref x0), (1, vI r), (2, vI wh)] [vI (gR (c 0) (F 4) r)] [cO x0 6 [.ref (a 0), .ref h0, y2, y3, y4, y5], cO (a 0) 4 [.ref (a 1), .ref (a 7), .ref (a 9), .ref (a 11), vI (c 1), vI (c 2), vI (c 3), vI (c 4), vI (c 5), vI (c 6), vI (c 7), vI (c 8)], cO (a 1) 1 [vI (c 0), .ref (a 2), .ref (a 3), .ref (a 4), .ref (a 5), .ref (a 6)], cA (a 2) G.2.1.1 100 (F 3), cA (a 3) G.2.1.1 100 (F 4), cA (a 4) G.2.1.1 100 (F 5), cA (a 5) G.2.1.1 100 (F 6), cA (a 6) G.2.1.1 100 (F 7), cO (a 7) 3 [vI (c 9), vI (c 10), vI (c 11), .ref (a 8)], cA (a 8) G.2.1.2.1 101 (F 1), cO (a 9) 3 [vI (c 12), vI (c 13), vI (c 14), .ref (a 10)], cA (a 10) G.2.1.2.1 101 (F 2), cA (a 11) G.2.1.1 3 (F 0)]
                exact s_iret C E dX6_recordOf_107 ⟨congrArg (fun z => some (vI z)) (by rw [sp_rec, if_pos (by omega), if_neg (by omega), h_67]; exact q_gT hR ⟨by omega, by omega⟩), rfl⟩
              · refine s_tabIn 108 (off := 41) C dX6_recordOf_67 (by omega) (by omega) (by omega) (by rw [h_67]; rfl) (by decide) ?_
                refine s_aload_n 3 C dX6_recordOf_108 rfl 1 rfl ?_
                refine s_iload_n 1 C dX6_recordOf_109 rfl 3 rfl ?_
                refine s_callV (As := [vI r]) (rest := []) C dX6_recordOf_110 (c_X1_keyOf l G (a 1) (a 2) (a 3) (a 4) (a 5) (a 6) (c 0) (F 3) (F 4) (F 5) (F 6) (F 7) r (by first | assumption | omega) (by first | assumption | omega)) gX6_recordOf_X1_keyOf rfl 1 (by decide +kernel) (by decide) 2 1 rfl rfl rfl [2, 3, 4, 5, 6, 7] rfl (by decide) rfl (Nat.le_of_ble_eq_true rfl) ⟨Nat.zero_le _, Nat.zero_le _⟩ ?_
                intro v0 w0 hq
                obtain ⟨rfl, rfl⟩ := hq
                refine ⟨rfl, ?_⟩
                show fSt l G X 0 0 113 [(4, vI 1), (3, .ref (a 1)), (0, .ref x0), (1, vI r), (2, vI wh)] [vI (gR (c 0) (F 5) r)] [cO x0 6 [.ref (a 0), .ref h0, y2, y3, y4, y5], cO (a 0) 4 [.ref (a 1), .ref (a 7), .ref (a 9), .ref (a 11), vI (c 1), vI (c 2), vI (c 3), vI (c 4), vI (c 5), vI (c 6), vI (c 7), vI (c 8)], cO (a 1) 1 [vI (c 0), .ref (a 2), .ref (a 3), .ref (a 4), .ref (a 5), .ref (a 6)], cA (a 2) G.2.1.1 100 (F 3), cA (a 3) G.2.1.1 100 (F 4), cA (a 4) G.2.1.1 100 (F 5), cA (a 5) G.2.1.1 100 (F 6), cA (a 6) G.2.1.1 100 (F 7), cO (a 7) 3 [vI (c 9), vI (c 10), vI (c 11), .ref (a 8)], cA (a 8) G.2.1.2.1 101 (F 1), cO (a 9) 3 [vI (c 12), vI (c 13), vI (c 14), .ref (a 10)], cA (a 10) G.2.1.2.1 101 (F 2), cA (a 11) G.2.1.1 3 (F 0)]
                exact s_iret C E dX6_recordOf_113 ⟨congrArg (fun z => some (vI z)) (by rw [sp_rec, if_pos (by omega), if_neg (by omega), h_67]; exact q_gY hR ⟨by omega, by omega⟩ (by rw [← q_gK hR (r := r) ⟨by omega, by omega⟩]; omega)), rfl⟩
              · refine s_tabIn 114 (off := 47) C dX6_recordOf_67 (by omega) (by omega) (by omega) (by rw [h_67]; rfl) (by decide) ?_
                refine s_aload_n 3 C dX6_recordOf_114 rfl 1 rfl ?_
                refine s_iload_n 1 C dX6_recordOf_115 rfl 3 rfl ?_
                refine s_callV (As := [vI r]) (rest := []) C dX6_recordOf_116 (c_X1_valueIn l G (a 1) (a 2) (a 3) (a 4) (a 5) (a 6) (c 0) (F 3) (F 4) (F 5) (F 6) (F 7) r (by first | assumption | omega) (by first | assumption | omega)) gX6_recordOf_X1_valueIn rfl 1 (by decide +kernel) (by decide) 2 1 rfl rfl rfl [2, 3, 4, 5, 6, 7] rfl (by decide) rfl (Nat.le_of_ble_eq_true rfl) ⟨Nat.zero_le _, Nat.zero_le _⟩ ?_
                intro v0 w0 hq
                obtain ⟨rfl, rfl⟩ := hq
                refine ⟨rfl, ?_⟩
                show fSt l G X 0 0 119 [(4, vI 1), (3, .ref (a 1)), (0, .ref x0), (1, vI r), (2, vI wh)] [vI (gR (c 0) (F 6) r)] [cO x0 6 [.ref (a 0), .ref h0, y2, y3, y4, y5], cO (a 0) 4 [.ref (a 1), .ref (a 7), .ref (a 9), .ref (a 11), vI (c 1), vI (c 2), vI (c 3), vI (c 4), vI (c 5), vI (c 6), vI (c 7), vI (c 8)], cO (a 1) 1 [vI (c 0), .ref (a 2), .ref (a 3), .ref (a 4), .ref (a 5), .ref (a 6)], cA (a 2) G.2.1.1 100 (F 3), cA (a 3) G.2.1.1 100 (F 4), cA (a 4) G.2.1.1 100 (F 5), cA (a 5) G.2.1.1 100 (F 6), cA (a 6) G.2.1.1 100 (F 7), cO (a 7) 3 [vI (c 9), vI (c 10), vI (c 11), .ref (a 8)], cA (a 8) G.2.1.2.1 101 (F 1), cO (a 9) 3 [vI (c 12), vI (c 13), vI (c 14), .ref (a 10)], cA (a 10) G.2.1.2.1 101 (F 2), cA (a 11) G.2.1.1 3 (F 0)]
                exact s_iret C E dX6_recordOf_119 ⟨congrArg (fun z => some (vI z)) (by rw [sp_rec, if_pos (by omega), if_neg (by omega), h_67]; exact q_gV hR ⟨by omega, by omega⟩ (by rw [← q_gK hR (r := r) ⟨by omega, by omega⟩]; omega)), rfl⟩
              · refine s_tabOut 120 C dX6_recordOf_67 (by omega) h_67 (by decide) ?_
                refine s_aload_n 3 C dX6_recordOf_120 rfl 1 rfl ?_
                refine s_iload_n 1 C dX6_recordOf_121 rfl 3 rfl ?_
                refine s_callV (As := [vI r]) (rest := []) C dX6_recordOf_122 (c_X1_tickOf l G (a 1) (a 2) (a 3) (a 4) (a 5) (a 6) (c 0) (F 3) (F 4) (F 5) (F 6) (F 7) r (by first | assumption | omega) (by first | assumption | omega)) gX6_recordOf_X1_tickOf rfl 1 (by decide +kernel) (by decide) 2 1 rfl rfl rfl [2, 3, 4, 5, 6, 7] rfl (by decide) rfl (Nat.le_of_ble_eq_true rfl) ⟨Nat.zero_le _, Nat.zero_le _⟩ ?_
                intro v0 w0 hq
                obtain ⟨rfl, rfl⟩ := hq
                refine ⟨rfl, ?_⟩
                show fSt l G X 0 0 125 [(4, vI 1), (3, .ref (a 1)), (0, .ref x0), (1, vI r), (2, vI wh)] [vI (gR (c 0) (F 7) r)] [cO x0 6 [.ref (a 0), .ref h0, y2, y3, y4, y5], cO (a 0) 4 [.ref (a 1), .ref (a 7), .ref (a 9), .ref (a 11), vI (c 1), vI (c 2), vI (c 3), vI (c 4), vI (c 5), vI (c 6), vI (c 7), vI (c 8)], cO (a 1) 1 [vI (c 0), .ref (a 2), .ref (a 3), .ref (a 4), .ref (a 5), .ref (a 6)], cA (a 2) G.2.1.1 100 (F 3), cA (a 3) G.2.1.1 100 (F 4), cA (a 4) G.2.1.1 100 (F 5), cA (a 5) G.2.1.1 100 (F 6), cA (a 6) G.2.1.1 100 (F 7), cO (a 7) 3 [vI (c 9), vI (c 10), vI (c 11), .ref (a 8)], cA (a 8) G.2.1.2.1 101 (F 1), cO (a 9) 3 [vI (c 12), vI (c 13), vI (c 14), .ref (a 10)], cA (a 10) G.2.1.2.1 101 (F 2), cA (a 11) G.2.1.1 3 (F 0)]
                exact s_iret C E dX6_recordOf_125 ⟨congrArg (fun z => some (vI z)) (by rw [sp_rec, if_pos (by omega), if_neg (by omega), show wh = 4 by omega]; exact q_gA hR ⟨by omega, by omega⟩), rfl⟩
            · refine s_ldc (z := -1000004) C (by decide +kernel) dX6_recordOf_63 ?_
              exact s_iret C E dX6_recordOf_65 ⟨congrArg (fun z => some (vI z)) (by first | (rw [sp_rec, if_pos (by omega), if_pos (by omega)]; done) | (have hre := hI.Re r (by omega) (by omega) (by rw [← q_gK hR (r := r) ⟨by omega, by omega⟩]; omega); rw [sp_rec, if_pos (by omega), if_neg (by omega)]; rcases (by omega : wh = 2 ∨ wh = 3) with e | e <;> rw [e] <;> omega)), rfl⟩
        · refine s_iload_n 2 C dX6_recordOf_30 rfl 3 rfl ?_
          refine s_iconst C dX6_recordOf_31 ?_
          refine s_icmp_ne 39 C dX6_recordOf_32 (by decide) (by omega) (by omega) (fun h_32 => ?_) (fun h_32 => ?_)
          · refine s_iconst C dX6_recordOf_39 ?_
            refine s_istore [(4, vI 0), (3, .ref (a 1)), (0, .ref x0), (1, vI r), (2, vI wh)] C dX6_recordOf_40 (by decide) rfl ?_
            refine s_aload_n 3 C dX6_recordOf_42 rfl 1 rfl ?_
            refine s_iload_n 1 C dX6_recordOf_43 rfl 3 rfl ?_
            refine s_callV (As := [vI r]) (rest := []) C dX6_recordOf_44 (c_X1_has l G (a 1) (a 2) (a 3) (a 4) (a 5) (a 6) (c 0) (F 3) (F 4) (F 5) (F 6) (F 7) r (by first | assumption | omega) (by first | assumption | omega)) gX6_recordOf_X1_has rfl 1 (by decide +kernel) (by decide) 2 1 rfl rfl rfl [2, 3, 4, 5, 6, 7] rfl (by decide) rfl (Nat.le_of_ble_eq_true rfl) ⟨Nat.zero_le _, Nat.zero_le _⟩ ?_
            intro v0 w0 hq
            obtain ⟨rfl, rfl⟩ := hq
            refine ⟨rfl, ?_⟩
            show fSt l G X 0 0 47 [(4, vI 0), (3, .ref (a 1)), (0, .ref x0), (1, vI r), (2, vI wh)] [vI (bI (1 ≤ r ∧ r ≤ (c 0)))] [cO x0 6 [.ref (a 0), .ref h0, y2, y3, y4, y5], cO (a 0) 4 [.ref (a 1), .ref (a 7), .ref (a 9), .ref (a 11), vI (c 1), vI (c 2), vI (c 3), vI (c 4), vI (c 5), vI (c 6), vI (c 7), vI (c 8)], cO (a 1) 1 [vI (c 0), .ref (a 2), .ref (a 3), .ref (a 4), .ref (a 5), .ref (a 6)], cA (a 2) G.2.1.1 100 (F 3), cA (a 3) G.2.1.1 100 (F 4), cA (a 4) G.2.1.1 100 (F 5), cA (a 5) G.2.1.1 100 (F 6), cA (a 6) G.2.1.1 100 (F 7), cO (a 7) 3 [vI (c 9), vI (c 10), vI (c 11), .ref (a 8)], cA (a 8) G.2.1.2.1 101 (F 1), cO (a 9) 3 [vI (c 12), vI (c 13), vI (c 14), .ref (a 10)], cA (a 10) G.2.1.2.1 101 (F 2), cA (a 11) G.2.1.1 3 (F 0)]
            refine s_if_eq 63 C dX6_recordOf_47 (by decide) bI_rng (fun h_47 => ?_) (fun h_47 => ?_)
            · have h_47 := bI_f h_47
              refine s_ldc (z := -1000004) C (by decide +kernel) dX6_recordOf_63 ?_
              exact s_iret C E dX6_recordOf_65 ⟨congrArg (fun z => some (vI z)) (by first | (rw [sp_rec, if_pos (by omega), if_pos (by omega)]; done) | (have hre := hI.Re r (by omega) (by omega) (by rw [← q_gK hR (r := r) ⟨by omega, by omega⟩]; omega); rw [sp_rec, if_pos (by omega), if_neg (by omega)]; rcases (by omega : wh = 2 ∨ wh = 3) with e | e <;> rw [e] <;> omega)), rfl⟩
            · have h_47 := bI_t h_47
              refine s_iload C dX6_recordOf_50 0 rfl ?_
              refine s_if_eq 66 C dX6_recordOf_52 (by decide) (by decide) (fun h => ?_) (fun h => absurd h (by decide))
              refine s_iload_n 2 C dX6_recordOf_66 rfl 4 rfl ?_
              rcases (by omega : wh = 0 ∨ wh = 1 ∨ wh = 2 ∨ wh = 3 ∨ (wh < 0 ∨ 3 < wh)) with h_67 | h_67 | h_67 | h_67 | h_67
              · refine s_tabIn 96 (off := 29) C dX6_recordOf_67 (by omega) (by omega) (by omega) (by rw [h_67]; rfl) (by decide) ?_
                refine s_aload_n 3 C dX6_recordOf_96 rfl 1 rfl ?_
                refine s_iload_n 1 C dX6_recordOf_97 rfl 3 rfl ?_
                refine s_callV (As := [vI r]) (rest := []) C dX6_recordOf_98 (c_X1_kindOf l G (a 1) (a 2) (a 3) (a 4) (a 5) (a 6) (c 0) (F 3) (F 4) (F 5) (F 6) (F 7) r (by first | assumption | omega) (by first | assumption | omega)) gX6_recordOf_X1_kindOf rfl 1 (by decide +kernel) (by decide) 2 1 rfl rfl rfl [2, 3, 4, 5, 6, 7] rfl (by decide) rfl (Nat.le_of_ble_eq_true rfl) ⟨Nat.zero_le _, Nat.zero_le _⟩ ?_
                intro v0 w0 hq
                obtain ⟨rfl, rfl⟩ := hq
                refine ⟨rfl, ?_⟩
                show fSt l G X 0 0 101 [(4, vI 0), (3, .ref (a 1)), (0, .ref x0), (1, vI r), (2, vI wh)] [vI (gR (c 0) (F 3) r)] [cO x0 6 [.ref (a 0), .ref h0, y2, y3, y4, y5], cO (a 0) 4 [.ref (a 1), .ref (a 7), .ref (a 9), .ref (a 11), vI (c 1), vI (c 2), vI (c 3), vI (c 4), vI (c 5), vI (c 6), vI (c 7), vI (c 8)], cO (a 1) 1 [vI (c 0), .ref (a 2), .ref (a 3), .ref (a 4), .ref (a 5), .ref (a 6)], cA (a 2) G.2.1.1 100 (F 3), cA (a 3) G.2.1.1 100 (F 4), cA (a 4) G.2.1.1 100 (F 5), cA (a 5) G.2.1.1 100 (F 6), cA (a 6) G.2.1.1 100 (F 7), cO (a 7) 3 [vI (c 9), vI (c 10), vI (c 11), .ref (a 8)], cA (a 8) G.2.1.2.1 101 (F 1), cO (a 9) 3 [vI (c 12), vI (c 13), vI (c 14), .ref (a 10)], cA (a 10) G.2.1.2.1 101 (F 2), cA (a 11) G.2.1.1 3 (F 0)]
                exact s_iret C E dX6_recordOf_101 ⟨congrArg (fun z => some (vI z)) (by rw [sp_rec, if_pos (by omega), if_neg (by omega), h_67]; exact q_gK hR ⟨by omega, by omega⟩), rfl⟩
              · refine s_tabIn 102 (off := 35) C dX6_recordOf_67 (by omega) (by omega) (by omega) (by rw [h_67]; rfl) (by decide) ?_
                refine s_aload_n 3 C dX6_recordOf_102 rfl 1 rfl ?_
                refine s_iload_n 1 C dX6_recordOf_103 rfl 3 rfl ?_
                refine s_callV (As := [vI r]) (rest := []) C dX6_recordOf_104 (c_X1_transactionOf l G (a 1) (a 2) (a 3) (a 4) (a 5) (a 6) (c 0) (F 3) (F 4) (F 5) (F 6) (F 7) r (by first | assumption | omega) (by first | assumption | omega)) gX6_recordOf_X1_transactionOf rfl 1 (by decide +kernel) (by decide) 2 1 rfl rfl rfl [2, 3, 4, 5, 6, 7] rfl (by decide) rfl (Nat.le_of_ble_eq_true rfl) ⟨Nat.zero_le _, Nat.zero_le _⟩ ?_
                intro v0 w0 hq
                obtain ⟨rfl, rfl⟩ := hq
                refine ⟨rfl, ?_⟩
                show fSt l G X 0 0 107 [(4, vI 0), (3, .ref (a 1)), (0, .ref x0), (1, vI r), (2, vI wh)] [vI (gR (c 0) (F 4) r)] [cO x0 6 [.ref (a 0), .ref h0, y2, y3, y4, y5], cO (a 0) 4 [.ref (a 1), .ref (a 7), .ref (a 9), .ref (a 11), vI (c 1), vI (c 2), vI (c 3), vI (c 4), vI (c 5), vI (c 6), vI (c 7), vI (c 8)], cO (a 1) 1 [vI (c 0), .ref (a 2), .ref (a 3), .ref (a 4), .ref (a 5), .ref (a 6)], cA (a 2) G.2.1.1 100 (F 3), cA (a 3) G.2.1.1 100 (F 4), cA (a 4) G.2.1.1 100 (F 5), cA (a 5) G.2.1.1 100 (F 6), cA (a 6) G.2.1.1 100 (F 7), cO (a 7) 3 [vI (c 9), vI (c 10), vI (c 11), .ref (a 8)], cA (a 8) G.2.1.2.1 101 (F 1), cO (a 9) 3 [vI (c 12), vI (c 13), vI (c 14), .ref (a 10)], cA (a 10) G.2.1.2.1 101 (F 2), cA (a 11) G.2.1.1 3 (F 0)]
                exact s_iret C E dX6_recordOf_107 ⟨congrArg (fun z => some (vI z)) (by rw [sp_rec, if_pos (by omega), if_neg (by omega), h_67]; exact q_gT hR ⟨by omega, by omega⟩), rfl⟩
              · refine s_tabIn 108 (off := 41) C dX6_recordOf_67 (by omega) (by omega) (by omega) (by rw [h_67]; rfl) (by decide) ?_
                refine s_aload_n 3 C dX6_recordOf_108 rfl 1 rfl ?_
                refine s_iload_n 1 C dX6_recordOf_109 rfl 3 rfl ?_
                refine s_callV (As := [vI r]) (rest := []) C dX6_recordOf_110 (c_X1_keyOf l G (a 1) (a 2) (a 3) (a 4) (a 5) (a 6) (c 0) (F 3) (F 4) (F 5) (F 6) (F 7) r (by first | assumption | omega) (by first | assumption | omega)) gX6_recordOf_X1_keyOf rfl 1 (by decide +kernel) (by decide) 2 1 rfl rfl rfl [2, 3, 4, 5, 6, 7] rfl (by decide) rfl (Nat.le_of_ble_eq_true rfl) ⟨Nat.zero_le _, Nat.zero_le _⟩ ?_
                intro v0 w0 hq
                obtain ⟨rfl, rfl⟩ := hq
                refine ⟨rfl, ?_⟩
                show fSt l G X 0 0 113 [(4, vI 0), (3, .ref (a 1)), (0, .ref x0), (1, vI r), (2, vI wh)] [vI (gR (c 0) (F 5) r)] [cO x0 6 [.ref (a 0), .ref h0, y2, y3, y4, y5], cO (a 0) 4 [.ref (a 1), .ref (a 7), .ref (a 9), .ref (a 11), vI (c 1), vI (c 2), vI (c 3), vI (c 4), vI (c 5), vI (c 6), vI (c 7), vI (c 8)], cO (a 1) 1 [vI (c 0), .ref (a 2), .ref (a 3), .ref (a 4), .ref (a 5), .ref (a 6)], cA (a 2) G.2.1.1 100 (F 3), cA (a 3) G.2.1.1 100 (F 4), cA (a 4) G.2.1.1 100 (F 5), cA (a 5) G.2.1.1 100 (F 6), cA (a 6) G.2.1.1 100 (F 7), cO (a 7) 3 [vI (c 9), vI (c 10), vI (c 11), .ref (a 8)], cA (a 8) G.2.1.2.1 101 (F 1), cO (a 9) 3 [vI (c 12), vI (c 13), vI (c 14), .ref (a 10)], cA (a 10) G.2.1.2.1 101 (F 2), cA (a 11) G.2.1.1 3 (F 0)]
                exact s_iret C E dX6_recordOf_113 ⟨congrArg (fun z => some (vI z)) (by rw [sp_rec, if_pos (by omega), if_neg (by omega), h_67]; exact q_gY hR ⟨by omega, by omega⟩ (by rw [← q_gK hR (r := r) ⟨by omega, by omega⟩]; omega)), rfl⟩
              · refine s_tabIn 114 (off := 47) C dX6_recordOf_67 (by omega) (by omega) (by omega) (by rw [h_67]; rfl) (by decide) ?_
                refine s_aload_n 3 C dX6_recordOf_114 rfl 1 rfl ?_
                refine s_iload_n 1 C dX6_recordOf_115 rfl 3 rfl ?_
                refine s_callV (As := [vI r]) (rest := []) C dX6_recordOf_116 (c_X1_valueIn l G (a 1) (a 2) (a 3) (a 4) (a 5) (a 6) (c 0) (F 3) (F 4) (F 5) (F 6) (F 7) r (by first | assumption | omega) (by first | assumption | omega)) gX6_recordOf_X1_valueIn rfl 1 (by decide +kernel) (by decide) 2 1 rfl rfl rfl [2, 3, 4, 5, 6, 7] rfl (by decide) rfl (Nat.le_of_ble_eq_true rfl) ⟨Nat.zero_le _, Nat.zero_le _⟩ ?_
                intro v0 w0 hq
                obtain ⟨rfl, rfl⟩ := hq
                refine ⟨rfl, ?_⟩
                show fSt l G X 0 0 119 [(4, vI 0), (3, .ref (a 1)), (0, .ref x0), (1, vI r), (2, vI wh)] [vI (gR (c 0) (F 6) r)] [cO x0 6 [.ref (a 0), .ref h0, y2, y3, y4, y5], cO (a 0) 4 [.ref (a 1), .ref (a 7), .ref (a 9), .ref (a 11), vI (c 1), vI (c 2), vI (c 3), vI (c 4), vI (c 5), vI (c 6), vI (c 7), vI (c 8)], cO (a 1) 1 [vI (c 0), .ref (a 2), .ref (a 3), .ref (a 4), .ref (a 5), .ref (a 6)], cA (a 2) G.2.1.1 100 (F 3), cA (a 3) G.2.1.1 100 (F 4), cA (a 4) G.2.1.1 100 (F 5), cA (a 5) G.2.1.1 100 (F 6), cA (a 6) G.2.1.1 100 (F 7), cO (a 7) 3 [vI (c 9), vI (c 10), vI (c 11), .ref (a 8)], cA (a 8) G.2.1.2.1 101 (F 1), cO (a 9) 3 [vI (c 12), vI (c 13), vI (c 14), .ref (a 10)], cA (a 10) G.2.1.2.1 101 (F 2), cA (a 11) G.2.1.1 3 (F 0)]
                exact s_iret C E dX6_recordOf_119 ⟨congrArg (fun z => some (vI z)) (by rw [sp_rec, if_pos (by omega), if_neg (by omega), h_67]; exact q_gV hR ⟨by omega, by omega⟩ (by rw [← q_gK hR (r := r) ⟨by omega, by omega⟩]; omega)), rfl⟩
              · refine s_tabOut 120 C dX6_recordOf_67 (by omega) h_67 (by decide) ?_
                refine s_aload_n 3 C dX6_recordOf_120 rfl 1 rfl ?_
                refine s_iload_n 1 C dX6_recordOf_121 rfl 3 rfl ?_
                refine s_callV (As := [vI r]) (rest := []) C dX6_recordOf_122 (c_X1_tickOf l G (a 1) (a 2) (a 3) (a 4) (a 5) (a 6) (c 0) (F 3) (F 4) (F 5) (F 6) (F 7) r (by first | assumption | omega) (by first | assumption | omega)) gX6_recordOf_X1_tickOf rfl 1 (by decide +kernel) (by decide) 2 1 rfl rfl rfl [2, 3, 4, 5, 6, 7] rfl (by decide) rfl (Nat.le_of_ble_eq_true rfl) ⟨Nat.zero_le _, Nat.zero_le _⟩ ?_
                intro v0 w0 hq
                obtain ⟨rfl, rfl⟩ := hq
                refine ⟨rfl, ?_⟩
                show fSt l G X 0 0 125 [(4, vI 0), (3, .ref (a 1)), (0, .ref x0), (1, vI r), (2, vI wh)] [vI (gR (c 0) (F 7) r)] [cO x0 6 [.ref (a 0), .ref h0, y2, y3, y4, y5], cO (a 0) 4 [.ref (a 1), .ref (a 7), .ref (a 9), .ref (a 11), vI (c 1), vI (c 2), vI (c 3), vI (c 4), vI (c 5), vI (c 6), vI (c 7), vI (c 8)], cO (a 1) 1 [vI (c 0), .ref (a 2), .ref (a 3), .ref (a 4), .ref (a 5), .ref (a 6)], cA (a 2) G.2.1.1 100 (F 3), cA (a 3) G.2.1.1 100 (F 4), cA (a 4) G.2.1.1 100 (F 5), cA (a 5) G.2.1.1 100 (F 6), cA (a 6) G.2.1.1 100 (F 7), cO (a 7) 3 [vI (c 9), vI (c 10), vI (c 11), .ref (a 8)], cA (a 8) G.2.1.2.1 101 (F 1), cO (a 9) 3 [vI (c 12), vI (c 13), vI (c 14), .ref (a 10)], cA (a 10) G.2.1.2.1 101 (F 2), cA (a 11) G.2.1.1 3 (F 0)]
                exact s_iret C E dX6_recordOf_125 ⟨congrArg (fun z => some (vI z)) (by rw [sp_rec, if_pos (by omega), if_neg (by omega), show wh = 4 by omega]; exact q_gA hR ⟨by omega, by omega⟩), rfl⟩
          · refine s_iconst C dX6_recordOf_35 ?_
            refine s_goto 40 C dX6_recordOf_36 (by decide) ?_
            refine s_istore [(4, vI 1), (3, .ref (a 1)), (0, .ref x0), (1, vI r), (2, vI wh)] C dX6_recordOf_40 (by decide) rfl ?_
            refine s_aload_n 3 C dX6_recordOf_42 rfl 1 rfl ?_
            refine s_iload_n 1 C dX6_recordOf_43 rfl 3 rfl ?_
            refine s_callV (As := [vI r]) (rest := []) C dX6_recordOf_44 (c_X1_has l G (a 1) (a 2) (a 3) (a 4) (a 5) (a 6) (c 0) (F 3) (F 4) (F 5) (F 6) (F 7) r (by first | assumption | omega) (by first | assumption | omega)) gX6_recordOf_X1_has rfl 1 (by decide +kernel) (by decide) 2 1 rfl rfl rfl [2, 3, 4, 5, 6, 7] rfl (by decide) rfl (Nat.le_of_ble_eq_true rfl) ⟨Nat.zero_le _, Nat.zero_le _⟩ ?_
            intro v0 w0 hq
            obtain ⟨rfl, rfl⟩ := hq
            refine ⟨rfl, ?_⟩
            show fSt l G X 0 0 47 [(4, vI 1), (3, .ref (a 1)), (0, .ref x0), (1, vI r), (2, vI wh)] [vI (bI (1 ≤ r ∧ r ≤ (c 0)))] [cO x0 6 [.ref (a 0), .ref h0, y2, y3, y4, y5], cO (a 0) 4 [.ref (a 1), .ref (a 7), .ref (a 9), .ref (a 11), vI (c 1), vI (c 2), vI (c 3), vI (c 4), vI (c 5), vI (c 6), vI (c 7), vI (c 8)], cO (a 1) 1 [vI (c 0), .ref (a 2), .ref (a 3), .ref (a 4), .ref (a 5), .ref (a 6)], cA (a 2) G.2.1.1 100 (F 3), cA (a 3) G.2.1.1 100 (F 4), cA (a 4) G.2.1.1 100 (F 5), cA (a 5) G.2.1.1 100 (F 6), cA (a 6) G.2.1.1 100 (F 7), cO (a 7) 3 [vI (c 9), vI (c 10), vI (c 11), .ref (a 8)], cA (a 8) G.2.1.2.1 101 (F 1), cO (a 9) 3 [vI (c 12), vI (c 13), vI (c 14), .ref (a 10)], cA (a 10) G.2.1.2.1 101 (F 2), cA (a 11) G.2.1.1 3 (F 0)]
            refine s_if_eq 63 C dX6_recordOf_47 (by decide) bI_rng (fun h_47 => ?_) (fun h_47 => ?_)
            · have h_47 := bI_f h_47
              refine s_ldc (z := -1000004) C (by decide +kernel) dX6_recordOf_63 ?_
              exact s_iret C E dX6_recordOf_65 ⟨congrArg (fun z => some (vI z)) (by first | (rw [sp_rec, if_pos (by omega), if_pos (by omega)]; done) | (have hre := hI.Re r (by omega) (by omega) (by rw [← q_gK hR (r := r) ⟨by omega, by omega⟩]; omega); rw [sp_rec, if_pos (by omega), if_neg (by omega)]; rcases (by omega : wh = 2 ∨ wh = 3) with e | e <;> rw [e] <;> omega)), rfl⟩
            · have h_47 := bI_t h_47
              refine s_iload C dX6_recordOf_50 0 rfl ?_
              refine s_if_eq 66 C dX6_recordOf_52 (by decide) (by decide) (fun h => absurd h (by decide)) (fun h => ?_)
              refine s_aload_n 3 C dX6_recordOf_55 rfl 1 rfl ?_
              refine s_iload_n 1 C dX6_recordOf_56 rfl 3 rfl ?_
              refine s_callV (As := [vI r]) (rest := []) C dX6_recordOf_57 (c_X1_kindOf l G (a 1) (a 2) (a 3) (a 4) (a 5) (a 6) (c 0) (F 3) (F 4) (F 5) (F 6) (F 7) r (by first | assumption | omega) (by first | assumption | omega)) gX6_recordOf_X1_kindOf rfl 1 (by decide +kernel) (by decide) 2 1 rfl rfl rfl [2, 3, 4, 5, 6, 7] rfl (by decide) rfl (Nat.le_of_ble_eq_true rfl) ⟨Nat.zero_le _, Nat.zero_le _⟩ ?_
              intro v0 w0 hq
              obtain ⟨rfl, rfl⟩ := hq
              refine ⟨rfl, ?_⟩
              show fSt l G X 0 0 60 [(4, vI 1), (3, .ref (a 1)), (0, .ref x0), (1, vI r), (2, vI wh)] [vI (gR (c 0) (F 3) r)] [cO x0 6 [.ref (a 0), .ref h0, y2, y3, y4, y5], cO (a 0) 4 [.ref (a 1), .ref (a 7), .ref (a 9), .ref (a 11), vI (c 1), vI (c 2), vI (c 3), vI (c 4), vI (c 5), vI (c 6), vI (c 7), vI (c 8)], cO (a 1) 1 [vI (c 0), .ref (a 2), .ref (a 3), .ref (a 4), .ref (a 5), .ref (a 6)], cA (a 2) G.2.1.1 100 (F 3), cA (a 3) G.2.1.1 100 (F 4), cA (a 4) G.2.1.1 100 (F 5), cA (a 5) G.2.1.1 100 (F 6), cA (a 6) G.2.1.1 100 (F 7), cO (a 7) 3 [vI (c 9), vI (c 10), vI (c 11), .ref (a 8)], cA (a 8) G.2.1.2.1 101 (F 1), cO (a 9) 3 [vI (c 12), vI (c 13), vI (c 14), .ref (a 10)], cA (a 10) G.2.1.2.1 101 (F 2), cA (a 11) G.2.1.1 3 (F 0)]
              refine s_if_eq 66 C dX6_recordOf_60 (by decide) (by omega) (fun h_60 => ?_) (fun h_60 => ?_)
              · refine s_iload_n 2 C dX6_recordOf_66 rfl 4 rfl ?_
                rcases (by omega : wh = 0 ∨ wh = 1 ∨ wh = 2 ∨ wh = 3 ∨ (wh < 0 ∨ 3 < wh)) with h_67 | h_67 | h_67 | h_67 | h_67
                · refine s_tabIn 96 (off := 29) C dX6_recordOf_67 (by omega) (by omega) (by omega) (by rw [h_67]; rfl) (by decide) ?_
                  refine s_aload_n 3 C dX6_recordOf_96 rfl 1 rfl ?_
                  refine s_iload_n 1 C dX6_recordOf_97 rfl 3 rfl ?_
                  refine s_callV (As := [vI r]) (rest := []) C dX6_recordOf_98 (c_X1_kindOf l G (a 1) (a 2) (a 3) (a 4) (a 5) (a 6) (c 0) (F 3) (F 4) (F 5) (F 6) (F 7) r (by first | assumption | omega) (by first | assumption | omega)) gX6_recordOf_X1_kindOf rfl 1 (by decide +kernel) (by decide) 2 1 rfl rfl rfl [2, 3, 4, 5, 6, 7] rfl (by decide) rfl (Nat.le_of_ble_eq_true rfl) ⟨Nat.zero_le _, Nat.zero_le _⟩ ?_
                  intro v0 w0 hq
                  obtain ⟨rfl, rfl⟩ := hq
                  refine ⟨rfl, ?_⟩
                  show fSt l G X 0 0 101 [(4, vI 1), (3, .ref (a 1)), (0, .ref x0), (1, vI r), (2, vI wh)] [vI (gR (c 0) (F 3) r)] [cO x0 6 [.ref (a 0), .ref h0, y2, y3, y4, y5], cO (a 0) 4 [.ref (a 1), .ref (a 7), .ref (a 9), .ref (a 11), vI (c 1), vI (c 2), vI (c 3), vI (c 4), vI (c 5), vI (c 6), vI (c 7), vI (c 8)], cO (a 1) 1 [vI (c 0), .ref (a 2), .ref (a 3), .ref (a 4), .ref (a 5), .ref (a 6)], cA (a 2) G.2.1.1 100 (F 3), cA (a 3) G.2.1.1 100 (F 4), cA (a 4) G.2.1.1 100 (F 5), cA (a 5) G.2.1.1 100 (F 6), cA (a 6) G.2.1.1 100 (F 7), cO (a 7) 3 [vI (c 9), vI (c 10), vI (c 11), .ref (a 8)], cA (a 8) G.2.1.2.1 101 (F 1), cO (a 9) 3 [vI (c 12), vI (c 13), vI (c 14), .ref (a 10)], cA (a 10) G.2.1.2.1 101 (F 2), cA (a 11) G.2.1.1 3 (F 0)]
                  exact s_iret C E dX6_recordOf_101 ⟨congrArg (fun z => some (vI z)) (by rw [sp_rec, if_pos (by omega), if_neg (by omega), h_67]; exact q_gK hR ⟨by omega, by omega⟩), rfl⟩
                · refine s_tabIn 102 (off := 35) C dX6_recordOf_67 (by omega) (by omega) (by omega) (by rw [h_67]; rfl) (by decide) ?_
                  refine s_aload_n 3 C dX6_recordOf_102 rfl 1 rfl ?_
                  refine s_iload_n 1 C dX6_recordOf_103 rfl 3 rfl ?_
                  refine s_callV (As := [vI r]) (rest := []) C dX6_recordOf_104 (c_X1_transactionOf l G (a 1) (a 2) (a 3) (a 4) (a 5) (a 6) (c 0) (F 3) (F 4) (F 5) (F 6) (F 7) r (by first | assumption | omega) (by first | assumption | omega)) gX6_recordOf_X1_transactionOf rfl 1 (by decide +kernel) (by decide) 2 1 rfl rfl rfl [2, 3, 4, 5, 6, 7] rfl (by decide) rfl (Nat.le_of_ble_eq_true rfl) ⟨Nat.zero_le _, Nat.zero_le _⟩ ?_
                  intro v0 w0 hq
                  obtain ⟨rfl, rfl⟩ := hq
                  refine ⟨rfl, ?_⟩
                  show fSt l G X 0 0 107 [(4, vI 1), (3, .ref (a 1)), (0, .ref x0), (1, vI r), (2, vI wh)] [vI (gR (c 0) (F 4) r)] [cO x0 6 [.ref (a 0), .ref h0, y2, y3, y4, y5], cO (a 0) 4 [.ref (a 1), .ref (a 7), .ref (a 9), .ref (a 11), vI (c 1), vI (c 2), vI (c 3), vI (c 4), vI (c 5), vI (c 6), vI (c 7), vI (c 8)], cO (a 1) 1 [vI (c 0), .ref (a 2), .ref (a 3), .ref (a 4), .ref (a 5), .ref (a 6)], cA (a 2) G.2.1.1 100 (F 3), cA (a 3) G.2.1.1 100 (F 4), cA (a 4) G.2.1.1 100 (F 5), cA (a 5) G.2.1.1 100 (F 6), cA (a 6) G.2.1.1 100 (F 7), cO (a 7) 3 [vI (c 9), vI (c 10), vI (c 11), .ref (a 8)], cA (a 8) G.2.1.2.1 101 (F 1), cO (a 9) 3 [vI (c 12), vI (c 13), vI (c 14), .ref (a 10)], cA (a 10) G.2.1.2.1 101 (F 2), cA (a 11) G.2.1.1 3 (F 0)]
                  exact s_iret C E dX6_recordOf_107 ⟨congrArg (fun z => some (vI z)) (by rw [sp_rec, if_pos (by omega), if_neg (by omega), h_67]; exact q_gT hR ⟨by omega, by omega⟩), rfl⟩
                · refine s_tabIn 108 (off := 41) C dX6_recordOf_67 (by omega) (by omega) (by omega) (by rw [h_67]; rfl) (by decide) ?_
                  refine s_aload_n 3 C dX6_recordOf_108 rfl 1 rfl ?_
                  refine s_iload_n 1 C dX6_recordOf_109 rfl 3 rfl ?_
                  refine s_callV (As := [vI r]) (rest := []) C dX6_recordOf_110 (c_X1_keyOf l G (a 1) (a 2) (a 3) (a 4) (a 5) (a 6) (c 0) (F 3) (F 4) (F 5) (F 6) (F 7) r (by first | assumption | omega) (by first | assumption | omega)) gX6_recordOf_X1_keyOf rfl 1 (by decide +kernel) (by decide) 2 1 rfl rfl rfl [2, 3, 4, 5, 6, 7] rfl (by decide) rfl (Nat.le_of_ble_eq_true rfl) ⟨Nat.zero_le _, Nat.zero_le _⟩ ?_
                  intro v0 w0 hq
                  obtain ⟨rfl, rfl⟩ := hq
                  refine ⟨rfl, ?_⟩
                  show fSt l G X 0 0 113 [(4, vI 1), (3, .ref (a 1)), (0, .ref x0), (1, vI r), (2, vI wh)] [vI (gR (c 0) (F 5) r)] [cO x0 6 [.ref (a 0), .ref h0, y2, y3, y4, y5], cO (a 0) 4 [.ref (a 1), .ref (a 7), .ref (a 9), .ref (a 11), vI (c 1), vI (c 2), vI (c 3), vI (c 4), vI (c 5), vI (c 6), vI (c 7), vI (c 8)], cO (a 1) 1 [vI (c 0), .ref (a 2), .ref (a 3), .ref (a 4), .ref (a 5), .ref (a 6)], cA (a 2) G.2.1.1 100 (F 3), cA (a 3) G.2.1.1 100 (F 4), cA (a 4) G.2.1.1 100 (F 5), cA (a 5) G.2.1.1 100 (F 6), cA (a 6) G.2.1.1 100 (F 7), cO (a 7) 3 [vI (c 9), vI (c 10), vI (c 11), .ref (a 8)], cA (a 8) G.2.1.2.1 101 (F 1), cO (a 9) 3 [vI (c 12), vI (c 13), vI (c 14), .ref (a 10)], cA (a 10) G.2.1.2.1 101 (F 2), cA (a 11) G.2.1.1 3 (F 0)]
                  exact s_iret C E dX6_recordOf_113 ⟨congrArg (fun z => some (vI z)) (by rw [sp_rec, if_pos (by omega), if_neg (by omega), h_67]; exact q_gY hR ⟨by omega, by omega⟩ (by rw [← q_gK hR (r := r) ⟨by omega, by omega⟩]; omega)), rfl⟩
                · refine s_tabIn 114 (off := 47) C dX6_recordOf_67 (by omega) (by omega) (by omega) (by rw [h_67]; rfl) (by decide) ?_
                  refine s_aload_n 3 C dX6_recordOf_114 rfl 1 rfl ?_
                  refine s_iload_n 1 C dX6_recordOf_115 rfl 3 rfl ?_
                  refine s_callV (As := [vI r]) (rest := []) C dX6_recordOf_116 (c_X1_valueIn l G (a 1) (a 2) (a 3) (a 4) (a 5) (a 6) (c 0) (F 3) (F 4) (F 5) (F 6) (F 7) r (by first | assumption | omega) (by first | assumption | omega)) gX6_recordOf_X1_valueIn rfl 1 (by decide +kernel) (by decide) 2 1 rfl rfl rfl [2, 3, 4, 5, 6, 7] rfl (by decide) rfl (Nat.le_of_ble_eq_true rfl) ⟨Nat.zero_le _, Nat.zero_le _⟩ ?_
                  intro v0 w0 hq
                  obtain ⟨rfl, rfl⟩ := hq
                  refine ⟨rfl, ?_⟩
                  show fSt l G X 0 0 119 [(4, vI 1), (3, .ref (a 1)), (0, .ref x0), (1, vI r), (2, vI wh)] [vI (gR (c 0) (F 6) r)] [cO x0 6 [.ref (a 0), .ref h0, y2, y3, y4, y5], cO (a 0) 4 [.ref (a 1), .ref (a 7), .ref (a 9), .ref (a 11), vI (c 1), vI (c 2), vI (c 3), vI (c 4), vI (c 5), vI (c 6), vI (c 7), vI (c 8)], cO (a 1) 1 [vI (c 0), .ref (a 2), .ref (a 3), .ref (a 4), .ref (a 5), .ref (a 6)], cA (a 2) G.2.1.1 100 (F 3), cA (a 3) G.2.1.1 100 (F 4), cA (a 4) G.2.1.1 100 (F 5), cA (a 5) G.2.1.1 100 (F 6), cA (a 6) G.2.1.1 100 (F 7), cO (a 7) 3 [vI (c 9), vI (c 10), vI (c 11), .ref (a 8)], cA (a 8) G.2.1.2.1 101 (F 1), cO (a 9) 3 [vI (c 12), vI (c 13), vI (c 14), .ref (a 10)], cA (a 10) G.2.1.2.1 101 (F 2), cA (a 11) G.2.1.1 3 (F 0)]
                  exact s_iret C E dX6_recordOf_119 ⟨congrArg (fun z => some (vI z)) (by rw [sp_rec, if_pos (by omega), if_neg (by omega), h_67]; exact q_gV hR ⟨by omega, by omega⟩ (by rw [← q_gK hR (r := r) ⟨by omega, by omega⟩]; omega)), rfl⟩
                · refine s_tabOut 120 C dX6_recordOf_67 (by omega) h_67 (by decide) ?_
                  refine s_aload_n 3 C dX6_recordOf_120 rfl 1 rfl ?_
                  refine s_iload_n 1 C dX6_recordOf_121 rfl 3 rfl ?_
                  refine s_callV (As := [vI r]) (rest := []) C dX6_recordOf_122 (c_X1_tickOf l G (a 1) (a 2) (a 3) (a 4) (a 5) (a 6) (c 0) (F 3) (F 4) (F 5) (F 6) (F 7) r (by first | assumption | omega) (by first | assumption | omega)) gX6_recordOf_X1_tickOf rfl 1 (by decide +kernel) (by decide) 2 1 rfl rfl rfl [2, 3, 4, 5, 6, 7] rfl (by decide) rfl (Nat.le_of_ble_eq_true rfl) ⟨Nat.zero_le _, Nat.zero_le _⟩ ?_
                  intro v0 w0 hq
                  obtain ⟨rfl, rfl⟩ := hq
                  refine ⟨rfl, ?_⟩
                  show fSt l G X 0 0 125 [(4, vI 1), (3, .ref (a 1)), (0, .ref x0), (1, vI r), (2, vI wh)] [vI (gR (c 0) (F 7) r)] [cO x0 6 [.ref (a 0), .ref h0, y2, y3, y4, y5], cO (a 0) 4 [.ref (a 1), .ref (a 7), .ref (a 9), .ref (a 11), vI (c 1), vI (c 2), vI (c 3), vI (c 4), vI (c 5), vI (c 6), vI (c 7), vI (c 8)], cO (a 1) 1 [vI (c 0), .ref (a 2), .ref (a 3), .ref (a 4), .ref (a 5), .ref (a 6)], cA (a 2) G.2.1.1 100 (F 3), cA (a 3) G.2.1.1 100 (F 4), cA (a 4) G.2.1.1 100 (F 5), cA (a 5) G.2.1.1 100 (F 6), cA (a 6) G.2.1.1 100 (F 7), cO (a 7) 3 [vI (c 9), vI (c 10), vI (c 11), .ref (a 8)], cA (a 8) G.2.1.2.1 101 (F 1), cO (a 9) 3 [vI (c 12), vI (c 13), vI (c 14), .ref (a 10)], cA (a 10) G.2.1.2.1 101 (F 2), cA (a 11) G.2.1.1 3 (F 0)]
                  exact s_iret C E dX6_recordOf_125 ⟨congrArg (fun z => some (vI z)) (by rw [sp_rec, if_pos (by omega), if_neg (by omega), show wh = 4 by omega]; exact q_gA hR ⟨by omega, by omega⟩), rfl⟩
              · refine s_ldc (z := -1000004) C (by decide +kernel) dX6_recordOf_63 ?_
                exact s_iret C E dX6_recordOf_65 ⟨congrArg (fun z => some (vI z)) (by first | (rw [sp_rec, if_pos (by omega), if_pos (by omega)]; done) | (have hre := hI.Re r (by omega) (by omega) (by rw [← q_gK hR (r := r) ⟨by omega, by omega⟩]; omega); rw [sp_rec, if_pos (by omega), if_neg (by omega)]; rcases (by omega : wh = 2 ∨ wh = 3) with e | e <;> rw [e] <;> omega)), rfl⟩
      · refine s_ldc (z := -1000001) C (by decide +kernel) dX6_recordOf_14 ?_
        exact s_iret C E dX6_recordOf_16 ⟨congrArg (fun z => some (vI z)) (by rw [sp_rec, if_neg (by omega)]), rfl⟩

set_option maxHeartbeats 4000000 in
set_option maxRecDepth 100000 in
theorem c_X6_count (l : Launch) (G : fG) (x0 h0 h1 o0 o1 o2 : Nat) (y3 y4 y5 : Value) (a : Nat → Nat) (c : Nat → Int) (F : Nat → Int → Int) (B ps n at9 kd nr : Int) (f : Int → Int) (wh : Int) (hR : RSb f c F) (hI : Inv B f) (hB : B ≤ 1073000000) (hwh : -2147483648 ≤ wh ∧ wh < 2147483648) : fCt l G yX6_count wsX6_count 3 65 0 0 [.ref x0, vI wh] [cO x0 6 [.ref (a 0), .ref h0, .ref o0, y3, y4, y5], cO h0 0 [.ref h1, vI ps], cO o0 2 [.ref o1, vI n, vI at9, vI kd, .ref o2, vI nr], cO (a 0) 4 [.ref (a 1), .ref (a 7), .ref (a 9), .ref (a 11), vI (c 1), vI (c 2), vI (c 3), vI (c 4), vI (c 5), vI (c 6), vI (c 7), vI (c 8)], cO (a 1) 1 [vI (c 0), .ref (a 2), .ref (a 3), .ref (a 4), .ref (a 5), .ref (a 6)], cA (a 2) G.2.1.1 100 (F 3), cA (a 3) G.2.1.1 100 (F 4), cA (a 4) G.2.1.1 100 (F 5), cA (a 5) G.2.1.1 100 (F 6), cA (a 6) G.2.1.1 100 (F 7), cO (a 7) 3 [vI (c 9), vI (c 10), vI (c 11), .ref (a 8)], cA (a 8) G.2.1.2.1 101 (F 1), cO (a 9) 3 [vI (c 12), vI (c 13), vI (c 14), .ref (a 10)], cA (a 10) G.2.1.2.1 101 (F 2), cA (a 11) G.2.1.1 3 (F 0)] (fun (v0 : Option Value) (w0 : va_W) => v0 = some (vI (sp_count f ps n wh)) ∧ w0 = [cO x0 6 [.ref (a 0), .ref h0, .ref o0, y3, y4, y5], cO h0 0 [.ref h1, vI ps], cO o0 2 [.ref o1, vI n, vI at9, vI kd, .ref o2, vI nr], cO (a 0) 4 [.ref (a 1), .ref (a 7), .ref (a 9), .ref (a 11), vI (c 1), vI (c 2), vI (c 3), vI (c 4), vI (c 5), vI (c 6), vI (c 7), vI (c 8)], cO (a 1) 1 [vI (c 0), .ref (a 2), .ref (a 3), .ref (a 4), .ref (a 5), .ref (a 6)], cA (a 2) G.2.1.1 100 (F 3), cA (a 3) G.2.1.1 100 (F 4), cA (a 4) G.2.1.1 100 (F 5), cA (a 5) G.2.1.1 100 (F 6), cA (a 6) G.2.1.1 100 (F 7), cO (a 7) 3 [vI (c 9), vI (c 10), vI (c 11), .ref (a 8)], cA (a 8) G.2.1.2.1 101 (F 1), cO (a 9) 3 [vI (c 12), vI (c 13), vI (c 14), .ref (a 10)], cA (a 10) G.2.1.2.1 101 (F 2), cA (a 11) G.2.1.1 3 (F 0)]) := by
  refine fs_met (cc := cX6_count) (nL := 2) (ret := (some .int)) (by decide) rfl (Nat.le_of_ble_eq_true rfl) ?_
  intro X C E
  show fSt l G X 0 0 0 [(0, .ref x0), (1, vI wh)] [] [cO x0 6 [.ref (a 0), .ref h0, .ref o0, y3, y4, y5], cO h0 0 [.ref h1, vI ps], cO o0 2 [.ref o1, vI n, vI at9, vI kd, .ref o2, vI nr], cO (a 0) 4 [.ref (a 1), .ref (a 7), .ref (a 9), .ref (a 11), vI (c 1), vI (c 2), vI (c 3), vI (c 4), vI (c 5), vI (c 6), vI (c 7), vI (c 8)], cO (a 1) 1 [vI (c 0), .ref (a 2), .ref (a 3), .ref (a 4), .ref (a 5), .ref (a 6)], cA (a 2) G.2.1.1 100 (F 3), cA (a 3) G.2.1.1 100 (F 4), cA (a 4) G.2.1.1 100 (F 5), cA (a 5) G.2.1.1 100 (F 6), cA (a 6) G.2.1.1 100 (F 7), cO (a 7) 3 [vI (c 9), vI (c 10), vI (c 11), .ref (a 8)], cA (a 8) G.2.1.2.1 101 (F 1), cO (a 9) 3 [vI (c 12), vI (c 13), vI (c 14), .ref (a 10)], cA (a 10) G.2.1.2.1 101 (F 2), cA (a 11) G.2.1.1 3 (F 0)]
  have hinX0 : ∀ w ∈ u_ws RX0 TX0 2, w ∈ wsX6_count := by decide +kernel
  have hinX1 : ∀ w ∈ u_ws RX1 TX1 6, w ∈ wsX6_count := by decide +kernel
  have hinX2 : ∀ w ∈ u_ws RX2 TX2 6, w ∈ wsX6_count := by decide +kernel
  have hinX4 : ∀ w ∈ u_ws RX4 TX4 12, w ∈ wsX6_count := by decide +kernel
  have hinX6 : ∀ w ∈ u_ws RX6 TX6 6, w ∈ wsX6_count := by decide +kernel
  obtain ⟨hn, htk, hln, htr, hlc, hlo, hap, hrt, hdl, hS0, hS1⟩ := RS.scal hR hI
  have hK : rF (F 3) := RS.hrK hR
  have hT : rF (F 4) := RS.hrT hR
  have hY : rF (F 5) := RS.hrY hR
  have hV : rF (F 6) := RS.hrV hR
  have hA : rF (F 7) := RS.hrA hR
  have hsl : rF (F 0) := RS.hrs hR
  have hg0 : gF (F 1) := RS.hG0 hR
  have hg1 : gF (F 2) := RS.hG1 hR
  have hb0 := RS.b0 hR
  have hb1 := RS.b1 hR
  have en := RS.e_n hR
  have hin := hI.n
  refine s_iload_n 1 C dX6_count_0 rfl 1 rfl ?_
  rcases (by omega : wh = 0 ∨ wh = 1 ∨ wh = 2 ∨ wh = 3 ∨ wh = 4 ∨ wh = 5 ∨ wh = 6 ∨ wh = 7 ∨ wh = 8 ∨ wh = 9 ∨ wh = 10 ∨ wh = 11 ∨ wh = 12 ∨ wh = 13 ∨ wh = 14 ∨ wh = 15 ∨ wh = 16 ∨ wh = 17 ∨ wh = 18 ∨ wh = 19 ∨ wh = 20 ∨ wh = 21 ∨ (wh < 0 ∨ 21 < wh)) with h_1 | h_1 | h_1 | h_1 | h_1 | h_1 | h_1 | h_1 | h_1 | h_1 | h_1 | h_1 | h_1 | h_1 | h_1 | h_1 | h_1 | h_1 | h_1 | h_1 | h_1 | h_1 | h_1
  · refine s_tabIn 104 (off := 103) C dX6_count_1 (by omega) (by omega) (by omega) (by rw [h_1]; rfl) (by decide) ?_
    refine s_aload_n 0 C dX6_count_104 rfl 0 rfl ?_
    refine s_get C dX6_count_105 6 rfl hinX6 0 rfl 0 (by decide) (by decide +kernel) rfl ?_
    refine s_get C dX6_count_108 4 rfl hinX4 3 rfl 0 (by decide) (by decide +kernel) rfl ?_
    refine s_get C dX6_count_111 1 rfl hinX1 4 rfl 0 (by decide) (by decide +kernel) rfl ?_
    exact s_iret C E dX6_count_114 ⟨congrArg (fun z => some (vI z)) (by rw [sp_count, if_pos (by omega), h_1, ← en]), rfl⟩
  · refine s_tabIn 115 (off := 114) C dX6_count_1 (by omega) (by omega) (by omega) (by rw [h_1]; rfl) (by decide) ?_
    refine s_aload_n 0 C dX6_count_115 rfl 0 rfl ?_
    refine s_get C dX6_count_116 6 rfl hinX6 0 rfl 0 (by decide) (by decide +kernel) rfl ?_
    refine s_get C dX6_count_119 4 rfl hinX4 3 rfl 4 (by decide) (by decide +kernel) rfl ?_
    exact s_iret C E dX6_count_122 ⟨congrArg (fun z => some (vI z)) (by rw [sp_count, if_pos (by omega), h_1, RS.e_tk hR]), rfl⟩
  · refine s_tabIn 123 (off := 122) C dX6_count_1 (by omega) (by omega) (by omega) (by rw [h_1]; rfl) (by decide) ?_
    refine s_aload_n 0 C dX6_count_123 rfl 0 rfl ?_
    refine s_get C dX6_count_124 6 rfl hinX6 0 rfl 0 (by decide) (by decide +kernel) rfl ?_
    refine s_get C dX6_count_127 4 rfl hinX4 3 rfl 5 (by decide) (by decide +kernel) rfl ?_
    exact s_iret C E dX6_count_130 ⟨congrArg (fun z => some (vI z)) (by rw [sp_count, if_pos (by omega), h_1, RS.e_ln hR]), rfl⟩
  · refine s_tabIn 131 (off := 130) C dX6_count_1 (by omega) (by omega) (by omega) (by rw [h_1]; rfl) (by decide) ?_
    refine s_aload_n 0 C dX6_count_131 rfl 0 rfl ?_
    refine s_get C dX6_count_132 6 rfl hinX6 0 rfl 0 (by decide) (by decide +kernel) rfl ?_
    refine s_get C dX6_count_135 4 rfl hinX4 3 rfl 6 (by decide) (by decide +kernel) rfl ?_
    exact s_iret C E dX6_count_138 ⟨congrArg (fun z => some (vI z)) (by rw [sp_count, if_pos (by omega), h_1, RS.e_tr hR]), rfl⟩
  · refine s_tabIn 139 (off := 138) C dX6_count_1 (by omega) (by omega) (by omega) (by rw [h_1]; rfl) (by decide) ?_
    refine s_aload_n 0 C dX6_count_139 rfl 0 rfl ?_
    refine s_get C dX6_count_140 6 rfl hinX6 0 rfl 0 (by decide) (by decide +kernel) rfl ?_
    refine s_get C dX6_count_143 4 rfl hinX4 3 rfl 0 (by decide) (by decide +kernel) rfl ?_
    refine s_iconst C dX6_count_146 ?_
    refine s_callV (As := [vI 0]) (rest := []) C dX6_count_147 (c_X1_commitsBehind l G (a 1) (a 2) (a 3) (a 4) (a 5) (a 6) (c 0) (F 3) (F 4) (F 5) (F 6) (F 7) 0 (by first | assumption | omega) (by first | assumption | omega) (by first | assumption | omega) (by first | assumption | omega) (by first | assumption | omega) (by first | assumption | omega) (by first | assumption | omega)) gX6_count_X1_commitsBehind rfl 1 (by decide +kernel) (by decide) 4 1 rfl rfl rfl [4, 5, 6, 7, 8, 9] rfl (by decide) rfl (Nat.le_of_ble_eq_true rfl) ⟨Nat.zero_le _, Nat.zero_le _⟩ ?_
    intro v0 w0 hq
    obtain ⟨rfl, rfl⟩ := hq
    refine ⟨rfl, ?_⟩
    show fSt l G X 0 0 150 [(0, .ref x0), (1, vI wh)] [vI (cB (c 0) (F 3) 0)] [cO x0 6 [.ref (a 0), .ref h0, .ref o0, y3, y4, y5], cO h0 0 [.ref h1, vI ps], cO o0 2 [.ref o1, vI n, vI at9, vI kd, .ref o2, vI nr], cO (a 0) 4 [.ref (a 1), .ref (a 7), .ref (a 9), .ref (a 11), vI (c 1), vI (c 2), vI (c 3), vI (c 4), vI (c 5), vI (c 6), vI (c 7), vI (c 8)], cO (a 1) 1 [vI (c 0), .ref (a 2), .ref (a 3), .ref (a 4), .ref (a 5), .ref (a 6)], cA (a 2) G.2.1.1 100 (F 3), cA (a 3) G.2.1.1 100 (F 4), cA (a 4) G.2.1.1 100 (F 5), cA (a 5) G.2.1.1 100 (F 6), cA (a 6) G.2.1.1 100 (F 7), cO (a 7) 3 [vI (c 9), vI (c 10), vI (c 11), .ref (a 8)], cA (a 8) G.2.1.2.1 101 (F 1), cO (a 9) 3 [vI (c 12), vI (c 13), vI (c 14), .ref (a 10)], cA (a 10) G.2.1.2.1 101 (F 2), cA (a 11) G.2.1.1 3 (F 0)]
    exact s_iret C E dX6_count_150 ⟨congrArg (fun z => some (vI z)) (by rw [sp_count, if_neg (by omega), if_pos (by omega), q_cB hR (by omega)] <;> rfl), rfl⟩
  · refine s_tabIn 151 (off := 150) C dX6_count_1 (by omega) (by omega) (by omega) (by rw [h_1]; rfl) (by decide) ?_
    refine s_aload_n 0 C dX6_count_151 rfl 0 rfl ?_
    refine s_get C dX6_count_152 6 rfl hinX6 0 rfl 0 (by decide) (by decide +kernel) rfl ?_
    refine s_get C dX6_count_155 4 rfl hinX4 3 rfl 7 (by decide) (by decide +kernel) rfl ?_
    exact s_iret C E dX6_count_158 ⟨congrArg (fun z => some (vI z)) (by rw [sp_count, if_neg (by omega), if_neg (by omega), if_pos (by omega), h_1, RS.e_lc hR] <;> rfl), rfl⟩
  · refine s_tabIn 159 (off := 158) C dX6_count_1 (by omega) (by omega) (by omega) (by rw [h_1]; rfl) (by decide) ?_
    refine s_aload_n 0 C dX6_count_159 rfl 0 rfl ?_
    refine s_get C dX6_count_160 6 rfl hinX6 0 rfl 0 (by decide) (by decide +kernel) rfl ?_
    refine s_get C dX6_count_163 4 rfl hinX4 3 rfl 8 (by decide) (by decide +kernel) rfl ?_
    exact s_iret C E dX6_count_166 ⟨congrArg (fun z => some (vI z)) (by rw [sp_count, if_neg (by omega), if_neg (by omega), if_pos (by omega), h_1, RS.e_lo hR] <;> rfl), rfl⟩
  · refine s_tabIn 167 (off := 166) C dX6_count_1 (by omega) (by omega) (by omega) (by rw [h_1]; rfl) (by decide) ?_
    refine s_aload_n 0 C dX6_count_167 rfl 0 rfl ?_
    refine s_get C dX6_count_168 6 rfl hinX6 0 rfl 0 (by decide) (by decide +kernel) rfl ?_
    refine s_get C dX6_count_171 4 rfl hinX4 3 rfl 9 (by decide) (by decide +kernel) rfl ?_
    exact s_iret C E dX6_count_174 ⟨congrArg (fun z => some (vI z)) (by rw [sp_count, if_neg (by omega), if_neg (by omega), if_pos (by omega), h_1, RS.e_ap hR] <;> rfl), rfl⟩
  · refine s_tabIn 175 (off := 174) C dX6_count_1 (by omega) (by omega) (by omega) (by rw [h_1]; rfl) (by decide) ?_
    refine s_aload_n 0 C dX6_count_175 rfl 0 rfl ?_
    refine s_get C dX6_count_176 6 rfl hinX6 0 rfl 1 (by decide) (by decide +kernel) rfl ?_
    refine s_get C dX6_count_179 0 rfl hinX0 1 rfl 1 (by decide) (by decide +kernel) rfl ?_
    exact s_iret C E dX6_count_182 ⟨congrArg (fun z => some (vI z)) (by rw [sp_count, if_neg (by omega), if_neg (by omega), if_neg (by omega), if_pos (by omega)]), rfl⟩
  · refine s_tabIn 183 (off := 182) C dX6_count_1 (by omega) (by omega) (by omega) (by rw [h_1]; rfl) (by decide) ?_
    refine s_aload_n 0 C dX6_count_183 rfl 0 rfl ?_
    refine s_get C dX6_count_184 6 rfl hinX6 0 rfl 2 (by decide) (by decide +kernel) rfl ?_
    refine s_get C dX6_count_187 2 rfl hinX2 2 rfl 1 (by decide) (by decide +kernel) rfl ?_
    exact s_iret C E dX6_count_190 ⟨congrArg (fun z => some (vI z)) (by rw [sp_count, if_neg (by omega), if_neg (by omega), if_neg (by omega), if_neg (by omega), if_pos (by omega)]), rfl⟩
  · refine s_tabIn 207 (off := 206) C dX6_count_1 (by omega) (by omega) (by omega) (by rw [h_1]; rfl) (by decide) ?_
    refine s_ldc (z := -1000001) C (by decide +kernel) dX6_count_207 ?_
    exact s_iret C E dX6_count_209 ⟨congrArg (fun z => some (vI z)) (by rw [sp_count, if_neg (by omega), if_neg (by omega), if_neg (by omega), if_neg (by omega), if_neg (by omega), if_neg (by omega)]), rfl⟩
  · refine s_tabIn 207 (off := 206) C dX6_count_1 (by omega) (by omega) (by omega) (by rw [h_1]; rfl) (by decide) ?_
    refine s_ldc (z := -1000001) C (by decide +kernel) dX6_count_207 ?_
    exact s_iret C E dX6_count_209 ⟨congrArg (fun z => some (vI z)) (by rw [sp_count, if_neg (by omega), if_neg (by omega), if_neg (by omega), if_neg (by omega), if_neg (by omega), if_neg (by omega)]), rfl⟩
  · refine s_tabIn 207 (off := 206) C dX6_count_1 (by omega) (by omega) (by omega) (by rw [h_1]; rfl) (by decide) ?_
    refine s_ldc (z := -1000001) C (by decide +kernel) dX6_count_207 ?_
    exact s_iret C E dX6_count_209 ⟨congrArg (fun z => some (vI z)) (by rw [sp_count, if_neg (by omega), if_neg (by omega), if_neg (by omega), if_neg (by omega), if_neg (by omega), if_neg (by omega)]), rfl⟩
  · refine s_tabIn 207 (off := 206) C dX6_count_1 (by omega) (by omega) (by omega) (by rw [h_1]; rfl) (by decide) ?_
    refine s_ldc (z := -1000001) C (by decide +kernel) dX6_count_207 ?_
    exact s_iret C E dX6_count_209 ⟨congrArg (fun z => some (vI z)) (by rw [sp_count, if_neg (by omega), if_neg (by omega), if_neg (by omega), if_neg (by omega), if_neg (by omega), if_neg (by omega)]), rfl⟩
  · refine s_tabIn 207 (off := 206) C dX6_count_1 (by omega) (by omega) (by omega) (by rw [h_1]; rfl) (by decide) ?_
    refine s_ldc (z := -1000001) C (by decide +kernel) dX6_count_207 ?_
    exact s_iret C E dX6_count_209 ⟨congrArg (fun z => some (vI z)) (by rw [sp_count, if_neg (by omega), if_neg (by omega), if_neg (by omega), if_neg (by omega), if_neg (by omega), if_neg (by omega)]), rfl⟩
  · refine s_tabIn 207 (off := 206) C dX6_count_1 (by omega) (by omega) (by omega) (by rw [h_1]; rfl) (by decide) ?_
    refine s_ldc (z := -1000001) C (by decide +kernel) dX6_count_207 ?_
    exact s_iret C E dX6_count_209 ⟨congrArg (fun z => some (vI z)) (by rw [sp_count, if_neg (by omega), if_neg (by omega), if_neg (by omega), if_neg (by omega), if_neg (by omega), if_neg (by omega)]), rfl⟩
  · refine s_tabIn 207 (off := 206) C dX6_count_1 (by omega) (by omega) (by omega) (by rw [h_1]; rfl) (by decide) ?_
    refine s_ldc (z := -1000001) C (by decide +kernel) dX6_count_207 ?_
    exact s_iret C E dX6_count_209 ⟨congrArg (fun z => some (vI z)) (by rw [sp_count, if_neg (by omega), if_neg (by omega), if_neg (by omega), if_neg (by omega), if_neg (by omega), if_neg (by omega)]), rfl⟩
  · refine s_tabIn 207 (off := 206) C dX6_count_1 (by omega) (by omega) (by omega) (by rw [h_1]; rfl) (by decide) ?_
    refine s_ldc (z := -1000001) C (by decide +kernel) dX6_count_207 ?_
    exact s_iret C E dX6_count_209 ⟨congrArg (fun z => some (vI z)) (by rw [sp_count, if_neg (by omega), if_neg (by omega), if_neg (by omega), if_neg (by omega), if_neg (by omega), if_neg (by omega)]), rfl⟩
  · refine s_tabIn 207 (off := 206) C dX6_count_1 (by omega) (by omega) (by omega) (by rw [h_1]; rfl) (by decide) ?_
    refine s_ldc (z := -1000001) C (by decide +kernel) dX6_count_207 ?_
    exact s_iret C E dX6_count_209 ⟨congrArg (fun z => some (vI z)) (by rw [sp_count, if_neg (by omega), if_neg (by omega), if_neg (by omega), if_neg (by omega), if_neg (by omega), if_neg (by omega)]), rfl⟩
  · refine s_tabIn 207 (off := 206) C dX6_count_1 (by omega) (by omega) (by omega) (by rw [h_1]; rfl) (by decide) ?_
    refine s_ldc (z := -1000001) C (by decide +kernel) dX6_count_207 ?_
    exact s_iret C E dX6_count_209 ⟨congrArg (fun z => some (vI z)) (by rw [sp_count, if_neg (by omega), if_neg (by omega), if_neg (by omega), if_neg (by omega), if_neg (by omega), if_neg (by omega)]), rfl⟩
  · refine s_tabIn 191 (off := 190) C dX6_count_1 (by omega) (by omega) (by omega) (by rw [h_1]; rfl) (by decide) ?_
    refine s_aload_n 0 C dX6_count_191 rfl 0 rfl ?_
    refine s_get C dX6_count_192 6 rfl hinX6 0 rfl 0 (by decide) (by decide +kernel) rfl ?_
    refine s_get C dX6_count_195 4 rfl hinX4 3 rfl 10 (by decide) (by decide +kernel) rfl ?_
    exact s_iret C E dX6_count_198 ⟨congrArg (fun z => some (vI z)) (by rw [sp_count, if_neg (by omega), if_neg (by omega), if_neg (by omega), if_neg (by omega), if_neg (by omega), if_pos (by omega), h_1, RS.e_rt hR] <;> rfl), rfl⟩
  · refine s_tabIn 199 (off := 198) C dX6_count_1 (by omega) (by omega) (by omega) (by rw [h_1]; rfl) (by decide) ?_
    refine s_aload_n 0 C dX6_count_199 rfl 0 rfl ?_
    refine s_get C dX6_count_200 6 rfl hinX6 0 rfl 0 (by decide) (by decide +kernel) rfl ?_
    refine s_get C dX6_count_203 4 rfl hinX4 3 rfl 11 (by decide) (by decide +kernel) rfl ?_
    exact s_iret C E dX6_count_206 ⟨congrArg (fun z => some (vI z)) (by rw [sp_count, if_neg (by omega), if_neg (by omega), if_neg (by omega), if_neg (by omega), if_neg (by omega), if_pos (by omega), h_1, RS.e_dl hR] <;> rfl), rfl⟩
  · refine s_tabOut 207 C dX6_count_1 (by omega) h_1 (by decide) ?_
    refine s_ldc (z := -1000001) C (by decide +kernel) dX6_count_207 ?_
    exact s_iret C E dX6_count_209 ⟨congrArg (fun z => some (vI z)) (by rw [sp_count, if_neg (by omega), if_neg (by omega), if_neg (by omega), if_neg (by omega), if_neg (by omega), if_neg (by omega)]), rfl⟩

set_option maxHeartbeats 4000000 in
set_option maxRecDepth 100000 in
theorem c_X6_type (l : Launch) (G : fG) (x0 o0 o1 o2 : Nat) (y0 y1 y3 y4 y5 : Value) (n at9 kd nr : Int) (tx : Int → Int) (c : Int) (hn : 0 ≤ n ∧ n ≤ 60) (hX : rX tx) (hc : -2147483648 ≤ c ∧ c < 2147483648) : fCt l G yX6_type wsX6_type 1 21 0 0 [.ref x0, vI c] [cO x0 6 [y0, y1, .ref o0, y3, y4, y5], cO o0 2 [.ref o1, vI n, vI at9, vI kd, .ref o2, vI nr], cA o1 G.2.1.2.2.1 60 tx] (fun (v0 : Option Value) (w0 : va_W) => ∃ (z n2 : Int) (X2 : Int → Int), v0 = some (vI z) ∧ w0 = [cO x0 6 [y0, y1, .ref o0, y3, y4, y5], cO o0 2 [.ref o1, vI n2, vI at9, vI kd, .ref o2, vI nr], cA o1 G.2.1.2.2.1 60 X2] ∧ ((¬ (32 ≤ c ∧ c ≤ 126) ∧ z = -1000001 ∧ X2 = tx ∧ n2 = n) ∨ ((32 ≤ c ∧ c ≤ 126) ∧ n = 60 ∧ z = -1000003 ∧ X2 = tx ∧ n2 = n) ∨ ((32 ≤ c ∧ c ≤ 126) ∧ n < 60 ∧ z = n + 1 ∧ X2 = uZ tx n c ∧ n2 = n + 1))) := by
  refine fs_met (cc := cX6_type) (nL := 2) (ret := (some .int)) (by decide) rfl (Nat.le_of_ble_eq_true rfl) ?_
  intro X C E
  show fSt l G X 0 0 0 [(0, .ref x0), (1, vI c)] [] [cO x0 6 [y0, y1, .ref o0, y3, y4, y5], cO o0 2 [.ref o1, vI n, vI at9, vI kd, .ref o2, vI nr], cA o1 G.2.1.2.2.1 60 tx]
  have hinX2 : ∀ w ∈ u_ws RX2 TX2 6, w ∈ wsX6_type := by decide +kernel
  have hinX6 : ∀ w ∈ u_ws RX6 TX6 6, w ∈ wsX6_type := by decide +kernel
  refine s_iload_n 1 C dX6_type_0 rfl 1 rfl ?_
  refine s_bipush (z := 32) C dX6_type_1 rfl ?_
  refine s_icmp_lt 12 C dX6_type_3 (by decide) (by omega) (by omega) (fun h_3 => ?_) (fun h_3 => ?_)
  · refine s_ldc (z := -1000001) C (by decide +kernel) dX6_type_12 ?_
    exact s_iret C E dX6_type_14 ⟨(-1000001), n, tx, rfl, rfl, Or.inl ⟨by omega, rfl, rfl, rfl⟩⟩
  · refine s_iload_n 1 C dX6_type_6 rfl 1 rfl ?_
    refine s_bipush (z := 126) C dX6_type_7 rfl ?_
    refine s_icmp_le 15 C dX6_type_9 (by decide) (by omega) (by omega) (fun h_9 => ?_) (fun h_9 => ?_)
    · refine s_aload_n 0 C dX6_type_15 rfl 0 rfl ?_
      refine s_get C dX6_type_16 6 rfl hinX6 0 rfl 2 (by decide) (by decide +kernel) rfl ?_
      refine s_iload_n 1 C dX6_type_19 rfl 1 rfl ?_
      refine s_i2c C dX6_type_20 (by omega) (by omega) ?_
      refine s_callV (As := [vI c]) (rest := []) C dX6_type_21 (c_X2_append l G o0 o1 o2 n at9 kd nr tx c (by first | assumption | omega) hX (by first | assumption | omega)) gX6_type_X2_append rfl 1 (by decide +kernel) (by decide) 1 2 rfl rfl rfl [1, 2] rfl (by decide) rfl (Nat.le_of_ble_eq_true rfl) ⟨Nat.zero_le _, Nat.zero_le _⟩ ?_
      intro v0 w0 hq
      obtain ⟨z_21, n2_21, X2_21, rfl, rfl, hq0_21⟩ := hq
      refine ⟨(fst_k (fst_k rfl)), ?_⟩
      show fSt l G X 0 0 24 [(0, .ref x0), (1, vI c)] [vI z_21] [cO x0 6 [y0, y1, .ref o0, y3, y4, y5], cO o0 2 [.ref o1, vI n2_21, vI at9, vI kd, .ref o2, vI nr], cA o1 G.2.1.2.2.1 60 X2_21]
      refine s_if_eq 37 C dX6_type_24 (by decide) (by rcases hq0_21 with ⟨-, g, -⟩ | ⟨-, g, -⟩ <;> omega) (fun h_24 => ?_) (fun h_24 => ?_)
      · refine s_ldc (z := -1000003) C (by decide +kernel) dX6_type_37 ?_
        exact s_iret C E dX6_type_39 ⟨(-1000003), n2_21, X2_21, rfl, rfl, (by rcases hq0_21 with ⟨g1, g2, g3, g4⟩ | ⟨g1, g2, g3, g4⟩; (· exact (Or.inr (Or.inl ⟨by omega, g1, rfl, g3, g4⟩))); (· exact absurd g2 (by omega)))⟩
      · refine s_aload_n 0 C dX6_type_27 rfl 0 rfl ?_
        refine s_get C dX6_type_28 6 rfl hinX6 0 rfl 2 (by decide) (by decide +kernel) rfl ?_
        refine s_get C dX6_type_31 2 rfl hinX2 1 rfl 1 (by decide) (by decide +kernel) rfl ?_
        refine s_goto 39 C dX6_type_34 (by decide) ?_
        exact s_iret C E dX6_type_39 ⟨n2_21, n2_21, X2_21, rfl, rfl, (by rcases hq0_21 with ⟨g1, g2, g3, g4⟩ | ⟨g1, g2, g3, g4⟩; (· exact absurd g2 (by omega)); (· exact (Or.inr (Or.inr ⟨by omega, g1, g4, g3, g4⟩))))⟩
    · refine s_ldc (z := -1000001) C (by decide +kernel) dX6_type_12 ?_
      exact s_iret C E dX6_type_14 ⟨(-1000001), n, tx, rfl, rfl, Or.inl ⟨by omega, rfl, rfl, rfl⟩⟩

set_option maxHeartbeats 4000000 in
set_option maxRecDepth 100000 in
theorem c_X6_clearText (l : Launch) (G : fG) (x0 o0 o1 o2 : Nat) (y0 y1 y3 y4 y5 : Value) (n at9 kd nr : Int) (tx : Int → Int)  : fCt l G yX6_clearText wsX6_clearText 0 0 0 0 [.ref x0] [cO x0 6 [y0, y1, .ref o0, y3, y4, y5], cO o0 2 [.ref o1, vI n, vI at9, vI kd, .ref o2, vI nr]] (fun (v0 : Option Value) (w0 : va_W) => v0 = some (vI n) ∧ w0 = [cO x0 6 [y0, y1, .ref o0, y3, y4, y5], cO o0 2 [.ref o1, vI 0, vI at9, vI kd, .ref o2, vI nr]]) := by
  refine fs_met (cc := cX6_clearText) (nL := 2) (ret := (some .int)) (by decide) rfl (Nat.le_of_ble_eq_true rfl) ?_
  intro X C E
  show fSt l G X 0 0 0 [(0, .ref x0)] [] [cO x0 6 [y0, y1, .ref o0, y3, y4, y5], cO o0 2 [.ref o1, vI n, vI at9, vI kd, .ref o2, vI nr]]
  have hinX2 : ∀ w ∈ u_ws RX2 TX2 6, w ∈ wsX6_clearText := by decide +kernel
  have hinX6 : ∀ w ∈ u_ws RX6 TX6 6, w ∈ wsX6_clearText := by decide +kernel
  refine s_aload_n 0 C dX6_clearText_0 rfl 0 rfl ?_
  refine s_get C dX6_clearText_1 6 rfl hinX6 0 rfl 2 (by decide) (by decide +kernel) rfl ?_
  refine s_get C dX6_clearText_4 2 rfl hinX2 1 rfl 1 (by decide) (by decide +kernel) rfl ?_
  refine s_istore_n 1 [(1, vI n), (0, .ref x0)] C dX6_clearText_7 rfl (by decide) rfl ?_
  refine s_aload_n 0 C dX6_clearText_8 rfl 1 rfl ?_
  refine s_get C dX6_clearText_9 6 rfl hinX6 0 rfl 2 (by decide) (by decide +kernel) rfl ?_
  refine s_iconst C dX6_clearText_12 ?_
  refine s_put [cO x0 6 [y0, y1, .ref o0, y3, y4, y5], cO o0 2 [.ref o1, vI 0, vI at9, vI kd, .ref o2, vI nr]] C dX6_clearText_13 2 rfl hinX2 tyX2 tyX2_ok nmX2 1 rfl 1 (by decide) (by decide +kernel) rfl rfl rfl (Nat.le_of_ble_eq_true rfl) rfl ?_
  refine s_iload_n 1 C dX6_clearText_16 rfl 0 rfl ?_
  exact s_iret C E dX6_clearText_17 ⟨rfl, rfl⟩

set_option maxHeartbeats 4000000 in
set_option maxRecDepth 100000 in
theorem c_X6_keysNotAsAtEnd (l : Launch) (G : fG) (x0 h0 e8 e9 : Nat) (y2 y3 : Value) (a : Nat → Nat) (c : Nat → Int) (F : Nat → Int → Int) (B : Int) (f U0 U1 : Int → Int) (b p : Int) (hR : RSb f c F) (hI : Inv B f) (hB : B ≤ 1073000000) (hb : 0 ≤ b ∧ b ≤ 1) (hp : p = oS f b 1) : fCt l G yX6_keysNotAsAtEnd wsX6_keysNotAsAtEnd 5 111 0 0 [.ref x0, vI p] ([[cO x0 6 [.ref (a 0), .ref h0, y2, y3, .ref e8, .ref e9]], [cA e8 G.2.1.1 24 U0], [cA e9 G.2.1.1 24 U1], stW G a c F] : List va_W).flatten (fun (v0 : Option Value) (w0 : va_W) => ∃ (z : Int) (U2 U3 : Int → Int), v0 = some (vI z) ∧ w0 = ([[cO x0 6 [.ref (a 0), .ref h0, y2, y3, .ref e8, .ref e9]], [cA e8 G.2.1.1 24 U2], [cA e9 G.2.1.1 24 U3], stW G a c F] : List va_W).flatten ∧ (z = mU f b)) := by
  refine fs_met (cc := cX6_keysNotAsAtEnd) (nL := 4) (ret := (some .int)) (by decide) rfl (Nat.le_of_ble_eq_true rfl) ?_
  intro X C E
  show fSt l G X 0 0 0 [(0, .ref x0), (1, vI p)] [] ([[cO x0 6 [.ref (a 0), .ref h0, y2, y3, .ref e8, .ref e9]], [cA e8 G.2.1.1 24 U0], [cA e9 G.2.1.1 24 U1], stW G a c F] : List va_W).flatten
  have hinX1 : ∀ w ∈ u_ws RX1 TX1 6, w ∈ wsX6_keysNotAsAtEnd := by decide +kernel
  have hinX4 : ∀ w ∈ u_ws RX4 TX4 12, w ∈ wsX6_keysNotAsAtEnd := by decide +kernel
  have hinX6 : ∀ w ∈ u_ws RX6 TX6 6, w ∈ wsX6_keysNotAsAtEnd := by decide +kernel
  obtain ⟨hn, htk, hln, htr, hlc, hlo, hap, hrt, hdl, hS0, hS1⟩ := RS.scal hR hI
  have hK : rF (F 3) := RS.hrK hR
  have hT : rF (F 4) := RS.hrT hR
  have hY : rF (F 5) := RS.hrY hR
  have hV : rF (F 6) := RS.hrV hR
  have hA : rF (F 7) := RS.hrA hR
  have hsl : rF (F 0) := RS.hrs hR
  have hg0 : gF (F 1) := RS.hG0 hR
  have hg1 : gF (F 2) := RS.hG1 hR
  have hb0 := RS.b0 hR
  have hb1 := RS.b1 hR
  have en := RS.e_n hR
  have hin := hI.n
  have hSb := hI.S b hb.1 hb.2
  refine s_aload_n 0 C dX6_keysNotAsAtEnd_0 rfl 0 rfl ?_
  refine s_get C dX6_keysNotAsAtEnd_1 6 rfl hinX6 0 rfl 0 (by decide) (by decide +kernel) rfl ?_
  refine s_get C dX6_keysNotAsAtEnd_4 4 rfl hinX4 3 rfl 0 (by decide) (by decide +kernel) rfl ?_
  refine s_iload_n 1 C dX6_keysNotAsAtEnd_7 rfl 1 rfl ?_
  refine s_aload_n 0 C dX6_keysNotAsAtEnd_8 rfl 0 rfl ?_
  refine s_get C dX6_keysNotAsAtEnd_9 6 rfl hinX6 0 rfl 4 (by decide) (by decide +kernel) rfl ?_
  refine s_callV (As := [vI p, .ref e8]) (rest := []) C dX6_keysNotAsAtEnd_12 (c_X1_fillValues l G (a 1) (a 2) (a 3) (a 4) (a 5) (a 6) (c 0) (F 3) (F 4) (F 5) (F 6) (F 7) e8 U0 p (by first | assumption | omega) (by first | assumption | omega) (by first | assumption | omega) (by first | assumption | omega) (by first | assumption | omega) (by first | assumption | omega) (by first | assumption | omega)) gX6_keysNotAsAtEnd_X1_fillValues rfl 2 (by decide +kernel) (by decide) 4 1 rfl rfl rfl [4, 5, 6, 7, 8, 9, 1] rfl (by decide) rfl (Nat.le_of_ble_eq_true rfl) ⟨Nat.zero_le _, Nat.zero_le _⟩ ?_
  intro v0 w0 hq
  obtain ⟨W2_12, rfl, rfl, hq0_12⟩ := hq
  refine ⟨(fst_k (fst_k (fst_k (fst_k (fst_k (fst_k (fst_k rfl))))))), ?_⟩
  show fSt l G X 0 0 15 [(0, .ref x0), (1, vI p)] [] ([[cO x0 6 [.ref (a 0), .ref h0, y2, y3, .ref e8, .ref e9]], [cA e8 G.2.1.1 24 W2_12], [cA e9 G.2.1.1 24 U1], stW G a c F] : List va_W).flatten
  refine s_aload_n 0 C dX6_keysNotAsAtEnd_15 rfl 0 rfl ?_
  refine s_get C dX6_keysNotAsAtEnd_16 6 rfl hinX6 0 rfl 0 (by decide) (by decide +kernel) rfl ?_
  refine s_get C dX6_keysNotAsAtEnd_19 4 rfl hinX4 3 rfl 0 (by decide) (by decide +kernel) rfl ?_
  refine s_aload_n 0 C dX6_keysNotAsAtEnd_22 rfl 0 rfl ?_
  refine s_get C dX6_keysNotAsAtEnd_23 6 rfl hinX6 0 rfl 0 (by decide) (by decide +kernel) rfl ?_
  refine s_get C dX6_keysNotAsAtEnd_26 4 rfl hinX4 3 rfl 0 (by decide) (by decide +kernel) rfl ?_
  refine s_get C dX6_keysNotAsAtEnd_29 1 rfl hinX1 4 rfl 0 (by decide) (by decide +kernel) rfl ?_
  refine s_aload_n 0 C dX6_keysNotAsAtEnd_32 rfl 0 rfl ?_
  refine s_get C dX6_keysNotAsAtEnd_33 6 rfl hinX6 0 rfl 5 (by decide) (by decide +kernel) rfl ?_
  refine s_callV (As := [vI (c 0), .ref e9]) (rest := []) C dX6_keysNotAsAtEnd_36 (c_X1_fillValues l G (a 1) (a 2) (a 3) (a 4) (a 5) (a 6) (c 0) (F 3) (F 4) (F 5) (F 6) (F 7) e9 U1 (c 0) (by first | assumption | omega) (by first | assumption | omega) (by first | assumption | omega) (by first | assumption | omega) (by first | assumption | omega) (by first | assumption | omega) (by first | assumption | omega)) gX6_keysNotAsAtEnd_X1_fillValues rfl 2 (by decide +kernel) (by decide) 4 1 rfl rfl rfl [4, 5, 6, 7, 8, 9, 2] rfl (by decide) rfl (Nat.le_of_ble_eq_true rfl) ⟨Nat.zero_le _, Nat.zero_le _⟩ ?_
  intro v0 w0 hq
  obtain ⟨W2_36, rfl, rfl, hq0_36⟩ := hq
  refine ⟨(fst_k (fst_k (fst_k (fst_k (fst_k (fst_k (fst_k rfl))))))), ?_⟩
  show fSt l G X 0 0 39 [(0, .ref x0), (1, vI p)] [] ([[cO x0 6 [.ref (a 0), .ref h0, y2, y3, .ref e8, .ref e9]], [cA e8 G.2.1.1 24 W2_12], [cA e9 G.2.1.1 24 W2_36], stW G a c F] : List va_W).flatten
  have hv1 : ∀ y, 0 ≤ y → y < 24 → W2_12 y = mV f (oS f b 1) y := fun y h0 h1 => by rw [← hp, hq0_12 y h0 h1]; exact q_vA hR hI (by omega)
  have hv2 : ∀ y, 0 ≤ y → y < 24 → W2_36 y = mV f (f 0) y := fun y h0 h1 => by rw [← en, hq0_36 y h0 h1]; exact q_vA hR hI (by omega)
  refine s_iconst C dX6_keysNotAsAtEnd_39 ?_
  refine s_istore_n 2 [(2, vI 0), (0, .ref x0), (1, vI p)] C dX6_keysNotAsAtEnd_40 rfl (by decide) rfl ?_
  refine s_iconst C dX6_keysNotAsAtEnd_41 ?_
  refine s_istore_n 3 [(3, vI 0), (2, vI 0), (0, .ref x0), (1, vI p)] C dX6_keysNotAsAtEnd_42 rfl (by decide) rfl ?_
  have loop_43 : ∀ (fuel : Nat) (y k : Int), (0 ≤ y ∧ y ≤ 24) → (k = cnt (fun y => decide (mV f (oS f b 1) y ≠ mV f (f 0) y)) 0 (y - 0).toNat) → (0 ≤ k ∧ k ≤ y) → (24 - y < (fuel : Int)) → fSt l G X 0 0 43 [(0, .ref x0), (1, vI p), (2, vI k), (3, vI y)] [] ([[cO x0 6 [.ref (a 0), .ref h0, y2, y3, .ref e8, .ref e9]], [cA e8 G.2.1.1 24 W2_12], [cA e9 G.2.1.1 24 W2_36], stW G a c F] : List va_W).flatten := by
    intro fuel
    induction fuel with
    | zero =>
      intro y k hy hc hcr hm
      exfalso
      omega
    | succ fuel ih_43 =>
      intro y k hy hc hcr hm
      refine s_iload_n 3 C dX6_keysNotAsAtEnd_43 rfl 3 rfl ?_
      refine s_bipush (z := 24) C dX6_keysNotAsAtEnd_44 rfl ?_
      refine s_icmp_ge 73 C dX6_keysNotAsAtEnd_46 (by decide) (by omega) (by omega) (fun h_46 => ?_) (fun h_46 => ?_)
      · refine s_iload_n 2 C dX6_keysNotAsAtEnd_73 rfl 2 rfl ?_
        exact s_iret C E dX6_keysNotAsAtEnd_74 ⟨k, W2_12, W2_36, rfl, rfl, (by rw [hc, mU, show (y - 0).toNat = 24 by omega])⟩
      · refine s_aload_n 0 C dX6_keysNotAsAtEnd_49 rfl 0 rfl ?_
        refine s_get C dX6_keysNotAsAtEnd_50 6 rfl hinX6 0 rfl 4 (by decide) (by decide +kernel) rfl ?_
        refine s_iload_n 3 C dX6_keysNotAsAtEnd_53 rfl 3 rfl ?_
        have hvy1 := hv1 y (by omega) (by omega)
        have hvy2 := hv2 y (by omega) (by omega)
        have hr1 := mV_r (p := oS f b 1) (y := y) hI.rf
        have hr2 := mV_r (p := f 0) (y := y) hI.rf
        refine s_iald C dX6_keysNotAsAtEnd_54 1 rfl y rfl (by omega) (by omega) (by omega) ?_
        refine s_aload_n 0 C dX6_keysNotAsAtEnd_55 rfl 0 rfl ?_
        refine s_get C dX6_keysNotAsAtEnd_56 6 rfl hinX6 0 rfl 5 (by decide) (by decide +kernel) rfl ?_
        refine s_iload_n 3 C dX6_keysNotAsAtEnd_59 rfl 3 rfl ?_
        refine s_iald C dX6_keysNotAsAtEnd_60 2 rfl y rfl (by omega) (by omega) (by omega) ?_
        refine s_icmp_eq 67 C dX6_keysNotAsAtEnd_61 (by decide) (by omega) (by omega) (fun h_61 => ?_) (fun h_61 => ?_)
        · refine s_iinc [(3, vI (y + 1)), (0, .ref x0), (1, vI p), (2, vI k)] C dX6_keysNotAsAtEnd_67 3 rfl (by decide) rfl ?_
          refine s_goto 43 C dX6_keysNotAsAtEnd_70 (by decide) ?_
          refine s_lv [(0, .ref x0), (1, vI p), (2, vI k), (3, vI (y + 1))] [1, 2, 3, 0] rfl ?_
          exact ih_43 (y + 1) k (by omega) (cnt_nx (by omega) hc (Or.inr ⟨(by simp only [decide_eq_true_eq]; omega), rfl⟩)) (by omega) (by omega)
        · refine s_iinc [(2, vI (k + 1)), (0, .ref x0), (1, vI p), (3, vI y)] C dX6_keysNotAsAtEnd_64 2 rfl (by decide) rfl ?_
          refine s_iinc [(3, vI (y + 1)), (2, vI (k + 1)), (0, .ref x0), (1, vI p)] C dX6_keysNotAsAtEnd_67 3 rfl (by decide) rfl ?_
          refine s_goto 43 C dX6_keysNotAsAtEnd_70 (by decide) ?_
          refine s_lv [(0, .ref x0), (1, vI p), (2, vI (k + 1)), (3, vI (y + 1))] [2, 3, 1, 0] rfl ?_
          exact ih_43 (y + 1) (k + 1) (by omega) (cnt_nx (by omega) hc (Or.inl ⟨(by simp only [decide_eq_true_eq]; omega), rfl⟩)) (by omega) (by omega)
  refine s_lv [(0, .ref x0), (1, vI p), (2, vI 0), (3, vI 0)] [2, 3, 1, 0] rfl ?_
  exact loop_43 (24 - 0 + 1 : Int).toNat 0 0 (by omega) rfl (by omega) (by omega)

set_option maxHeartbeats 4000000 in
set_option maxRecDepth 100000 in
theorem c_X6_standbyOf_0 (l : Launch) (G : fG) (x0 h0 e8 e9 : Nat) (y2 y3 : Value) (a : Nat → Nat) (c : Nat → Int) (F : Nat → Int → Int) (B : Int) (f U0 U1 : Int → Int) (wh : Int) (hR : RSb f c F) (hI : Inv B f) (hB : B ≤ 1073000000) (hwh : -2147483648 ≤ wh ∧ wh < 2147483648) : fCt l G yX6_standbyOf wsX6_standbyOf 6 134 0 0 [.ref x0, vI 0, vI wh] ([[cO x0 6 [.ref (a 0), .ref h0, y2, y3, .ref e8, .ref e9]], [cA e8 G.2.1.1 24 U0], [cA e9 G.2.1.1 24 U1], stW G a c F] : List va_W).flatten (fun (v0 : Option Value) (w0 : va_W) => ∃ (U2 U3 : Int → Int), v0 = some (vI (sp_stb f 0 wh)) ∧ w0 = ([[cO x0 6 [.ref (a 0), .ref h0, y2, y3, .ref e8, .ref e9]], [cA e8 G.2.1.1 24 U2], [cA e9 G.2.1.1 24 U3], stW G a c F] : List va_W).flatten) := by
  refine fs_met (cc := cX6_standbyOf) (nL := 5) (ret := (some .int)) (by decide) rfl (Nat.le_of_ble_eq_true rfl) ?_
  intro X C E
  show fSt l G X 0 0 0 [(0, .ref x0), (1, vI 0), (2, vI wh)] [] ([[cO x0 6 [.ref (a 0), .ref h0, y2, y3, .ref e8, .ref e9]], [cA e8 G.2.1.1 24 U0], [cA e9 G.2.1.1 24 U1], stW G a c F] : List va_W).flatten
  have hinX1 : ∀ w ∈ u_ws RX1 TX1 6, w ∈ wsX6_standbyOf := by decide +kernel
  have hinX3 : ∀ w ∈ u_ws RX3 TX3 4, w ∈ wsX6_standbyOf := by decide +kernel
  have hinX4 : ∀ w ∈ u_ws RX4 TX4 12, w ∈ wsX6_standbyOf := by decide +kernel
  have hinX6 : ∀ w ∈ u_ws RX6 TX6 6, w ∈ wsX6_standbyOf := by decide +kernel
  obtain ⟨hn, htk, hln, htr, hlc, hlo, hap, hrt, hdl, hS0, hS1⟩ := RS.scal hR hI
  have hK : rF (F 3) := RS.hrK hR
  have hT : rF (F 4) := RS.hrT hR
  have hY : rF (F 5) := RS.hrY hR
  have hV : rF (F 6) := RS.hrV hR
  have hA : rF (F 7) := RS.hrA hR
  have hsl : rF (F 0) := RS.hrs hR
  have hg0 : gF (F 1) := RS.hG0 hR
  have hg1 : gF (F 2) := RS.hG1 hR
  have hb0 := RS.b0 hR
  have hb1 := RS.b1 hR
  have en := RS.e_n hR
  have hin := hI.n
  have hSS := hI.S 0 (by omega) (by omega)
  refine s_iload_n 1 C dX6_standbyOf_0 rfl 1 rfl ?_
  refine s_callS (As := [vI 0]) (rest := []) C dX6_standbyOf_1 (c_X6_isStandby l G 0 (by first | assumption | omega)) gX6_standbyOf_X6_isStandby rfl 1 (by decide +kernel) (by decide) [] rfl (by decide) rfl (Nat.le_of_ble_eq_true rfl) ⟨Nat.zero_le _, Nat.zero_le _⟩ ?_
  intro v0 w0 hq
  obtain ⟨rfl, rfl⟩ := hq
  refine ⟨rfl, ?_⟩
  show fSt l G X 0 0 4 [(0, .ref x0), (1, vI 0), (2, vI wh)] [vI (bI (0 ≤ 0 ∧ 0 ≤ 1))] ([[cO x0 6 [.ref (a 0), .ref h0, y2, y3, .ref e8, .ref e9]], [cA e8 G.2.1.1 24 U0], [cA e9 G.2.1.1 24 U1], stW G a c F] : List va_W).flatten
  refine s_if_eq 17 C dX6_standbyOf_4 (by decide) bI_rng (fun h_4 => ?_) (fun h_4 => ?_)
  · have h_4 := bI_f h_4
    refine s_ldc (z := -1000001) C (by decide +kernel) dX6_standbyOf_17 ?_
    exact s_iret C E dX6_standbyOf_19 ⟨U0, U1, (congrArg (fun z => some (vI z)) (by rw [sp_stb, if_neg (by omega)])), rfl⟩
  · have h_4 := bI_t h_4
    refine s_iload_n 2 C dX6_standbyOf_7 rfl 2 rfl ?_
    refine s_if_lt 17 C dX6_standbyOf_8 (by decide) (by omega) (fun h_8 => ?_) (fun h_8 => ?_)
    · refine s_ldc (z := -1000001) C (by decide +kernel) dX6_standbyOf_17 ?_
      exact s_iret C E dX6_standbyOf_19 ⟨U0, U1, (congrArg (fun z => some (vI z)) (by rw [sp_stb, if_neg (by omega)])), rfl⟩
    · refine s_iload_n 2 C dX6_standbyOf_11 rfl 2 rfl ?_
      refine s_bipush (z := 8) C dX6_standbyOf_12 rfl ?_
      refine s_icmp_le 20 C dX6_standbyOf_14 (by decide) (by omega) (by omega) (fun h_14 => ?_) (fun h_14 => ?_)
      · refine s_aload_n 0 C dX6_standbyOf_20 rfl 0 rfl ?_
        refine s_get C dX6_standbyOf_21 6 rfl hinX6 0 rfl 0 (by decide) (by decide +kernel) rfl ?_
        refine s_iload_n 1 C dX6_standbyOf_24 rfl 1 rfl ?_
        refine s_callV (As := [vI 0]) (rest := []) C dX6_standbyOf_25 (c_X4_standby0 l G (a 0) (a 1) (a 7) (a 9) [.ref (a 11), vI (c 1), vI (c 2), vI (c 3), vI (c 4), vI (c 5), vI (c 6), vI (c 7), vI (c 8)] 0 (by first | assumption | omega)) gX6_standbyOf_X4_standby rfl 1 (by decide +kernel) (by decide) 3 4 rfl rfl rfl [3] rfl (by decide) rfl (Nat.le_of_ble_eq_true rfl) ⟨Nat.zero_le _, Nat.zero_le _⟩ ?_
        intro v0 w0 hq
        obtain ⟨rfl, rfl⟩ := hq
        refine ⟨rfl, ?_⟩
        show fSt l G X 0 0 28 [(0, .ref x0), (1, vI 0), (2, vI wh)] [.ref (a 7)] ([[cO x0 6 [.ref (a 0), .ref h0, y2, y3, .ref e8, .ref e9]], [cA e8 G.2.1.1 24 U0], [cA e9 G.2.1.1 24 U1], stW G a c F] : List va_W).flatten
        refine s_astore_n 3 [(3, .ref (a 7)), (0, .ref x0), (1, vI 0), (2, vI wh)] C dX6_standbyOf_28 rfl (by decide) rfl ?_
        refine s_aload_n 0 C dX6_standbyOf_29 rfl 1 rfl ?_
        refine s_get C dX6_standbyOf_30 6 rfl hinX6 0 rfl 0 (by decide) (by decide +kernel) rfl ?_
        refine s_get C dX6_standbyOf_33 4 rfl hinX4 3 rfl 0 (by decide) (by decide +kernel) rfl ?_
        refine s_astore [(4, .ref (a 1)), (3, .ref (a 7)), (0, .ref x0), (1, vI 0), (2, vI wh)] C dX6_standbyOf_36 (by decide) rfl ?_
        refine s_iload_n 2 C dX6_standbyOf_38 rfl 4 rfl ?_
        rcases (by omega : wh = 0 ∨ wh = 1 ∨ wh = 2 ∨ wh = 3 ∨ wh = 4 ∨ wh = 5 ∨ wh = 6 ∨ wh = 7 ∨ (wh < 0 ∨ 7 < wh)) with h_39 | h_39 | h_39 | h_39 | h_39 | h_39 | h_39 | h_39 | h_39
        · refine s_tabIn 84 (off := 45) C dX6_standbyOf_39 (by omega) (by omega) (by omega) (by rw [h_39]; rfl) (by decide) ?_
          refine s_aload_n 3 C dX6_standbyOf_84 rfl 1 rfl ?_
          refine s_get C dX6_standbyOf_85 3 rfl hinX3 10 rfl 0 (by decide) (by decide +kernel) rfl ?_
          exact s_iret C E dX6_standbyOf_88 ⟨U0, U1, (congrArg (fun z => some (vI z)) (by rw [sp_stb, if_pos (by omega), if_pos (by omega)]; exact hb0.1)), rfl⟩
        · refine s_tabIn 89 (off := 50) C dX6_standbyOf_39 (by omega) (by omega) (by omega) (by rw [h_39]; rfl) (by decide) ?_
          refine s_aload_n 3 C dX6_standbyOf_89 rfl 1 rfl ?_
          refine s_get C dX6_standbyOf_90 3 rfl hinX3 10 rfl 1 (by decide) (by decide +kernel) rfl ?_
          exact s_iret C E dX6_standbyOf_93 ⟨U0, U1, (congrArg (fun z => some (vI z)) (by rw [sp_stb, if_pos (by omega), if_neg (by omega), if_pos (by omega)]; exact hb0.2.1)), rfl⟩
        · refine s_tabIn 94 (off := 55) C dX6_standbyOf_39 (by omega) (by omega) (by omega) (by rw [h_39]; rfl) (by decide) ?_
          refine s_aload_n 3 C dX6_standbyOf_94 rfl 1 rfl ?_
          refine s_callV (As := []) (rest := []) C dX6_standbyOf_95 (c_X3_gapCount l G (a 7) (a 8) (c 9) (c 10) (c 11) (F 1) (by first | assumption | omega)) gX6_standbyOf_X3_gapCount rfl 0 (by decide +kernel) (by decide) 10 3 rfl rfl rfl [10, 11] rfl (by decide) rfl (Nat.le_of_ble_eq_true rfl) ⟨Nat.zero_le _, Nat.zero_le _⟩ ?_
          intro v0 w0 hq
          obtain ⟨rfl, rfl⟩ := hq
          refine ⟨rfl, ?_⟩
          show fSt l G X 0 0 98 [(4, .ref (a 1)), (3, .ref (a 7)), (0, .ref x0), (1, vI 0), (2, vI wh)] [vI (sC (F 1))] ([[cO x0 6 [.ref (a 0), .ref h0, y2, y3, .ref e8, .ref e9]], [cA e8 G.2.1.1 24 U0], [cA e9 G.2.1.1 24 U1], stW G a c F] : List va_W).flatten
          exact s_iret C E dX6_standbyOf_98 ⟨U0, U1, (congrArg (fun z => some (vI z)) (by rw [sp_stb, if_pos (by omega), if_neg (by omega), if_neg (by omega), if_pos (by omega)]; exact q_sC0 hR hI)), rfl⟩
        · refine s_tabIn 99 (off := 60) C dX6_standbyOf_39 (by omega) (by omega) (by omega) (by rw [h_39]; rfl) (by decide) ?_
          refine s_aload_n 3 C dX6_standbyOf_99 rfl 1 rfl ?_
          refine s_callV (As := []) (rest := []) C dX6_standbyOf_100 (c_X3_lowestGap l G (a 7) (a 8) (c 9) (c 10) (c 11) (F 1) (by first | assumption | omega)) gX6_standbyOf_X3_lowestGap rfl 0 (by decide +kernel) (by decide) 10 3 rfl rfl rfl [10, 11] rfl (by decide) rfl (Nat.le_of_ble_eq_true rfl) ⟨Nat.zero_le _, Nat.zero_le _⟩ ?_
          intro v0 w0 hq
          obtain ⟨rfl, rfl⟩ := hq
          refine ⟨rfl, ?_⟩
          show fSt l G X 0 0 103 [(4, .ref (a 1)), (3, .ref (a 7)), (0, .ref x0), (1, vI 0), (2, vI wh)] [vI (sW (F 1))] ([[cO x0 6 [.ref (a 0), .ref h0, y2, y3, .ref e8, .ref e9]], [cA e8 G.2.1.1 24 U0], [cA e9 G.2.1.1 24 U1], stW G a c F] : List va_W).flatten
          refine s_callS (As := [vI (sW (F 1))]) (rest := []) C dX6_standbyOf_103 (c_X6_found l G (sW (F 1)) (by first | assumption | omega)) gX6_standbyOf_X6_found rfl 1 (by decide +kernel) (by decide) [] rfl (by decide) rfl (Nat.le_of_ble_eq_true rfl) ⟨Nat.zero_le _, Nat.zero_le _⟩ ?_
          intro v0 w0 hq
          obtain ⟨rfl, rfl⟩ := hq
          refine ⟨rfl, ?_⟩
          show fSt l G X 0 0 106 [(4, .ref (a 1)), (3, .ref (a 7)), (0, .ref x0), (1, vI 0), (2, vI wh)] [vI (if (sW (F 1)) = 0 then -1000004 else (sW (F 1)))] ([[cO x0 6 [.ref (a 0), .ref h0, y2, y3, .ref e8, .ref e9]], [cA e8 G.2.1.1 24 U0], [cA e9 G.2.1.1 24 U1], stW G a c F] : List va_W).flatten
          exact s_iret C E dX6_standbyOf_106 ⟨U0, U1, (congrArg (fun z => some (vI z)) (by rw [sp_stb, if_pos (by omega), if_neg (by omega), if_neg (by omega), if_neg (by omega), if_pos (by omega)]; exact q_sW (q_h0 hR hI))), rfl⟩
        · refine s_tabIn 107 (off := 68) C dX6_standbyOf_39 (by omega) (by omega) (by omega) (by rw [h_39]; rfl) (by decide) ?_
          refine s_aload_n 3 C dX6_standbyOf_107 rfl 1 rfl ?_
          refine s_get C dX6_standbyOf_108 3 rfl hinX3 10 rfl 2 (by decide) (by decide +kernel) rfl ?_
          refine s_if_eq 118 C dX6_standbyOf_111 (by decide) (by omega) (fun h_111 => ?_) (fun h_111 => ?_)
          · refine s_iconst C dX6_standbyOf_118 ?_
            exact s_iret C E dX6_standbyOf_119 ⟨U0, U1, (congrArg (fun z => some (vI z)) (by rw [sp_stb, if_pos (by omega), if_neg (by omega), if_neg (by omega), if_neg (by omega), if_neg (by omega), if_pos (by omega)]; rw [← hb0.2.2]; omega)), rfl⟩
          · refine s_iconst C dX6_standbyOf_114 ?_
            refine s_goto 119 C dX6_standbyOf_115 (by decide) ?_
            exact s_iret C E dX6_standbyOf_119 ⟨U0, U1, (congrArg (fun z => some (vI z)) (by rw [sp_stb, if_pos (by omega), if_neg (by omega), if_neg (by omega), if_neg (by omega), if_neg (by omega), if_pos (by omega)]; rw [← hb0.2.2]; omega)), rfl⟩
        · refine s_tabIn 120 (off := 81) C dX6_standbyOf_39 (by omega) (by omega) (by omega) (by rw [h_39]; rfl) (by decide) ?_
          refine s_aload C dX6_standbyOf_120 0 rfl ?_
          refine s_get C dX6_standbyOf_122 1 rfl hinX1 4 rfl 0 (by decide) (by decide +kernel) rfl ?_
          refine s_aload_n 3 C dX6_standbyOf_125 rfl 1 rfl ?_
          refine s_get C dX6_standbyOf_126 3 rfl hinX3 10 rfl 1 (by decide) (by decide +kernel) rfl ?_
          refine s_isub C dX6_standbyOf_129 ?_
          exact s_iret C E dX6_standbyOf_130 ⟨U0, U1, (congrArg (fun z => some (vI z)) (by rw [sp_stb, if_pos (by omega), if_neg (by omega), if_neg (by omega), if_neg (by omega), if_neg (by omega), if_neg (by omega), if_pos (by omega)]; rw [← hb0.2.1, ← en])), rfl⟩
        · refine s_tabIn 131 (off := 92) C dX6_standbyOf_39 (by omega) (by omega) (by omega) (by rw [h_39]; rfl) (by decide) ?_
          refine s_aload C dX6_standbyOf_131 0 rfl ?_
          refine s_aload_n 3 C dX6_standbyOf_133 rfl 1 rfl ?_
          refine s_get C dX6_standbyOf_134 3 rfl hinX3 10 rfl 1 (by decide) (by decide +kernel) rfl ?_
          refine s_callV (As := [vI (c 10)]) (rest := []) C dX6_standbyOf_137 (c_X1_commitsBehind l G (a 1) (a 2) (a 3) (a 4) (a 5) (a 6) (c 0) (F 3) (F 4) (F 5) (F 6) (F 7) (c 10) (by first | assumption | omega) (by first | assumption | omega) (by first | assumption | omega) (by first | assumption | omega) (by first | assumption | omega) (by first | assumption | omega) (by first | assumption | omega)) gX6_standbyOf_X1_commitsBehind rfl 1 (by decide +kernel) (by decide) 4 1 rfl rfl rfl [4, 5, 6, 7, 8, 9] rfl (by decide) rfl (Nat.le_of_ble_eq_true rfl) ⟨Nat.zero_le _, Nat.zero_le _⟩ ?_
          intro v0 w0 hq
          obtain ⟨rfl, rfl⟩ := hq
          refine ⟨rfl, ?_⟩
          show fSt l G X 0 0 140 [(4, .ref (a 1)), (3, .ref (a 7)), (0, .ref x0), (1, vI 0), (2, vI wh)] [vI (cB (c 0) (F 3) (c 10))] ([[cO x0 6 [.ref (a 0), .ref h0, y2, y3, .ref e8, .ref e9]], [cA e8 G.2.1.1 24 U0], [cA e9 G.2.1.1 24 U1], stW G a c F] : List va_W).flatten
          exact s_iret C E dX6_standbyOf_140 ⟨U0, U1, (congrArg (fun z => some (vI z)) (by rw [sp_stb, if_pos (by omega), if_neg (by omega), if_neg (by omega), if_neg (by omega), if_neg (by omega), if_neg (by omega), if_neg (by omega), if_pos (by omega)]; rw [← hb0.2.1]; exact q_cB hR (by omega))), rfl⟩
        · refine s_tabIn 141 (off := 102) C dX6_standbyOf_39 (by omega) (by omega) (by omega) (by rw [h_39]; rfl) (by decide) ?_
          refine s_aload C dX6_standbyOf_141 0 rfl ?_
          refine s_aload_n 3 C dX6_standbyOf_143 rfl 1 rfl ?_
          refine s_get C dX6_standbyOf_144 3 rfl hinX3 10 rfl 1 (by decide) (by decide +kernel) rfl ?_
          refine s_iconst C dX6_standbyOf_147 ?_
          refine s_iadd C dX6_standbyOf_148 ?_
          refine s_callV (As := [vI ((c 10) + 1)]) (rest := []) C dX6_standbyOf_149 (c_X1_has l G (a 1) (a 2) (a 3) (a 4) (a 5) (a 6) (c 0) (F 3) (F 4) (F 5) (F 6) (F 7) ((c 10) + 1) (by first | assumption | omega) (by first | assumption | omega)) gX6_standbyOf_X1_has rfl 1 (by decide +kernel) (by decide) 4 1 rfl rfl rfl [4, 5, 6, 7, 8, 9] rfl (by decide) rfl (Nat.le_of_ble_eq_true rfl) ⟨Nat.zero_le _, Nat.zero_le _⟩ ?_
          intro v0 w0 hq
          obtain ⟨rfl, rfl⟩ := hq
          refine ⟨rfl, ?_⟩
          show fSt l G X 0 0 152 [(4, .ref (a 1)), (3, .ref (a 7)), (0, .ref x0), (1, vI 0), (2, vI wh)] [vI (bI (1 ≤ ((c 10) + 1) ∧ ((c 10) + 1) ≤ (c 0)))] ([[cO x0 6 [.ref (a 0), .ref h0, y2, y3, .ref e8, .ref e9]], [cA e8 G.2.1.1 24 U0], [cA e9 G.2.1.1 24 U1], stW G a c F] : List va_W).flatten
          refine s_if_eq 177 C dX6_standbyOf_152 (by decide) bI_rng (fun h_152 => ?_) (fun h_152 => ?_)
          · have h_152 := bI_f h_152
            refine s_ldc (z := -1000004) C (by decide +kernel) dX6_standbyOf_177 ?_
            exact s_iret C E dX6_standbyOf_179 ⟨U0, U1, (congrArg (fun z => some (vI z)) (by rw [sp_stb, if_pos (by omega), if_neg (by omega), if_neg (by omega), if_neg (by omega), if_neg (by omega), if_neg (by omega), if_neg (by omega), if_neg (by omega), if_pos (by omega), if_pos (by omega)])), rfl⟩
          · have h_152 := bI_t h_152
            refine s_aload_n 0 C dX6_standbyOf_155 rfl 2 rfl ?_
            refine s_get C dX6_standbyOf_156 6 rfl hinX6 0 rfl 0 (by decide) (by decide +kernel) rfl ?_
            refine s_get C dX6_standbyOf_159 4 rfl hinX4 3 rfl 4 (by decide) (by decide +kernel) rfl ?_
            refine s_aload C dX6_standbyOf_162 0 rfl ?_
            refine s_aload_n 3 C dX6_standbyOf_164 rfl 1 rfl ?_
            refine s_get C dX6_standbyOf_165 3 rfl hinX3 10 rfl 1 (by decide) (by decide +kernel) rfl ?_
            refine s_iconst C dX6_standbyOf_168 ?_
            refine s_iadd C dX6_standbyOf_169 ?_
            refine s_callV (As := [vI ((c 10) + 1)]) (rest := [vI (c 1)]) C dX6_standbyOf_170 (c_X1_tickOf l G (a 1) (a 2) (a 3) (a 4) (a 5) (a 6) (c 0) (F 3) (F 4) (F 5) (F 6) (F 7) ((c 10) + 1) (by first | assumption | omega) (by first | assumption | omega)) gX6_standbyOf_X1_tickOf rfl 1 (by decide +kernel) (by decide) 4 1 rfl rfl rfl [4, 5, 6, 7, 8, 9] rfl (by decide) rfl (Nat.le_of_ble_eq_true rfl) ⟨Nat.zero_le _, Nat.zero_le _⟩ ?_
            intro v0 w0 hq
            obtain ⟨rfl, rfl⟩ := hq
            refine ⟨rfl, ?_⟩
            show fSt l G X 0 0 173 [(4, .ref (a 1)), (3, .ref (a 7)), (0, .ref x0), (1, vI 0), (2, vI wh)] [vI (gR (c 0) (F 7) ((c 10) + 1)), vI (c 1)] ([[cO x0 6 [.ref (a 0), .ref h0, y2, y3, .ref e8, .ref e9]], [cA e8 G.2.1.1 24 U0], [cA e9 G.2.1.1 24 U1], stW G a c F] : List va_W).flatten
            refine s_isub C dX6_standbyOf_173 ?_
            refine s_goto 179 C dX6_standbyOf_174 (by decide) ?_
            exact s_iret C E dX6_standbyOf_179 ⟨U0, U1, (congrArg (fun z => some (vI z)) (by rw [sp_stb, if_pos (by omega), if_neg (by omega), if_neg (by omega), if_neg (by omega), if_neg (by omega), if_neg (by omega), if_neg (by omega), if_neg (by omega), if_pos (by omega), if_neg (by omega), ← hb0.2.1, q_gA hR ⟨by omega, by omega⟩, RS.e_tk hR])), rfl⟩
        · refine s_tabOut 180 C dX6_standbyOf_39 (by omega) h_39 (by decide) ?_
          refine s_aload_n 0 C dX6_standbyOf_180 rfl 2 rfl ?_
          refine s_aload_n 3 C dX6_standbyOf_181 rfl 1 rfl ?_
          refine s_get C dX6_standbyOf_182 3 rfl hinX3 10 rfl 1 (by decide) (by decide +kernel) rfl ?_
          refine s_callVP (As := [vI (c 10)]) (rest := []) (segs := [[cO x0 6 [.ref (a 0), .ref h0, y2, y3, .ref e8, .ref e9]], [cA e8 G.2.1.1 24 U0], [cA e9 G.2.1.1 24 U1], stW G a c F]) C dX6_standbyOf_185 (c_X6_keysNotAsAtEnd l G x0 h0 e8 e9 (y2) (y3) a c F B f U0 U1 0 (c 10) (by first | assumption | omega) (by first | assumption | omega) (by first | assumption | omega) (by first | assumption | omega) hb0.2.1) gX6_standbyOf_X6_keysNotAsAtEnd rfl 1 (by decide +kernel) (by decide) 0 6 rfl rfl rfl [0, 1, 2, 3] [] rfl rfl rfl (Nat.le_of_ble_eq_true rfl) ⟨Nat.zero_le _, Nat.zero_le _⟩ ?_
          intro v0 w0 hq
          obtain ⟨z_185, U2_185, U3_185, rfl, rfl, hq0_185⟩ := hq
          refine ⟨(fst_f (fst_c rfl (fst_c (fst_k rfl) (fst_c (fst_k rfl) rfl)))), [[cO x0 6 [.ref (a 0), .ref h0, y2, y3, .ref e8, .ref e9]], [cA e8 G.2.1.1 24 U2_185], [cA e9 G.2.1.1 24 U3_185], stW G a c F], (rfl : (4 : Nat) = 4), rfl, Eq.trans (b := ([] : List va_W)) rfl rfl, ?_⟩
          show fSt l G X 0 0 188 [(4, .ref (a 1)), (3, .ref (a 7)), (0, .ref x0), (1, vI 0), (2, vI wh)] [vI z_185] ([[cO x0 6 [.ref (a 0), .ref h0, y2, y3, .ref e8, .ref e9]], [cA e8 G.2.1.1 24 U2_185], [cA e9 G.2.1.1 24 U3_185], stW G a c F] : List va_W).flatten
          exact s_iret C E dX6_standbyOf_188 ⟨U2_185, U3_185, (congrArg (fun z => some (vI z)) (by rw [sp_stb, if_pos (by omega), if_neg (by omega), if_neg (by omega), if_neg (by omega), if_neg (by omega), if_neg (by omega), if_neg (by omega), if_neg (by omega), if_neg (by omega)]; exact hq0_185)), rfl⟩
      · refine s_ldc (z := -1000001) C (by decide +kernel) dX6_standbyOf_17 ?_
        exact s_iret C E dX6_standbyOf_19 ⟨U0, U1, (congrArg (fun z => some (vI z)) (by rw [sp_stb, if_neg (by omega)])), rfl⟩

set_option maxHeartbeats 4000000 in
set_option maxRecDepth 100000 in
theorem c_X6_standbyOf_1 (l : Launch) (G : fG) (x0 h0 e8 e9 : Nat) (y2 y3 : Value) (a : Nat → Nat) (c : Nat → Int) (F : Nat → Int → Int) (B : Int) (f U0 U1 : Int → Int) (wh : Int) (hR : RSb f c F) (hI : Inv B f) (hB : B ≤ 1073000000) (hwh : -2147483648 ≤ wh ∧ wh < 2147483648) : fCt l G yX6_standbyOf wsX6_standbyOf 6 134 0 0 [.ref x0, vI 1, vI wh] ([[cO x0 6 [.ref (a 0), .ref h0, y2, y3, .ref e8, .ref e9]], [cA e8 G.2.1.1 24 U0], [cA e9 G.2.1.1 24 U1], stW G a c F] : List va_W).flatten (fun (v0 : Option Value) (w0 : va_W) => ∃ (U2 U3 : Int → Int), v0 = some (vI (sp_stb f 1 wh)) ∧ w0 = ([[cO x0 6 [.ref (a 0), .ref h0, y2, y3, .ref e8, .ref e9]], [cA e8 G.2.1.1 24 U2], [cA e9 G.2.1.1 24 U3], stW G a c F] : List va_W).flatten) := by
  refine fs_met (cc := cX6_standbyOf) (nL := 5) (ret := (some .int)) (by decide) rfl (Nat.le_of_ble_eq_true rfl) ?_
  intro X C E
  show fSt l G X 0 0 0 [(0, .ref x0), (1, vI 1), (2, vI wh)] [] ([[cO x0 6 [.ref (a 0), .ref h0, y2, y3, .ref e8, .ref e9]], [cA e8 G.2.1.1 24 U0], [cA e9 G.2.1.1 24 U1], stW G a c F] : List va_W).flatten
  have hinX1 : ∀ w ∈ u_ws RX1 TX1 6, w ∈ wsX6_standbyOf := by decide +kernel
  have hinX3 : ∀ w ∈ u_ws RX3 TX3 4, w ∈ wsX6_standbyOf := by decide +kernel
  have hinX4 : ∀ w ∈ u_ws RX4 TX4 12, w ∈ wsX6_standbyOf := by decide +kernel
  have hinX6 : ∀ w ∈ u_ws RX6 TX6 6, w ∈ wsX6_standbyOf := by decide +kernel
  obtain ⟨hn, htk, hln, htr, hlc, hlo, hap, hrt, hdl, hS0, hS1⟩ := RS.scal hR hI
  have hK : rF (F 3) := RS.hrK hR
  have hT : rF (F 4) := RS.hrT hR
  have hY : rF (F 5) := RS.hrY hR
  have hV : rF (F 6) := RS.hrV hR
  have hA : rF (F 7) := RS.hrA hR
  have hsl : rF (F 0) := RS.hrs hR
  have hg0 : gF (F 1) := RS.hG0 hR
  have hg1 : gF (F 2) := RS.hG1 hR
  have hb0 := RS.b0 hR
  have hb1 := RS.b1 hR
  have en := RS.e_n hR
  have hin := hI.n
  have hSS := hI.S 1 (by omega) (by omega)
  refine s_iload_n 1 C dX6_standbyOf_0 rfl 1 rfl ?_
  refine s_callS (As := [vI 1]) (rest := []) C dX6_standbyOf_1 (c_X6_isStandby l G 1 (by first | assumption | omega)) gX6_standbyOf_X6_isStandby rfl 1 (by decide +kernel) (by decide) [] rfl (by decide) rfl (Nat.le_of_ble_eq_true rfl) ⟨Nat.zero_le _, Nat.zero_le _⟩ ?_
  intro v0 w0 hq
  obtain ⟨rfl, rfl⟩ := hq
  refine ⟨rfl, ?_⟩
  show fSt l G X 0 0 4 [(0, .ref x0), (1, vI 1), (2, vI wh)] [vI (bI (0 ≤ 1 ∧ 1 ≤ 1))] ([[cO x0 6 [.ref (a 0), .ref h0, y2, y3, .ref e8, .ref e9]], [cA e8 G.2.1.1 24 U0], [cA e9 G.2.1.1 24 U1], stW G a c F] : List va_W).flatten
  refine s_if_eq 17 C dX6_standbyOf_4 (by decide) bI_rng (fun h_4 => ?_) (fun h_4 => ?_)
  · have h_4 := bI_f h_4
    refine s_ldc (z := -1000001) C (by decide +kernel) dX6_standbyOf_17 ?_
    exact s_iret C E dX6_standbyOf_19 ⟨U0, U1, (congrArg (fun z => some (vI z)) (by rw [sp_stb, if_neg (by omega)])), rfl⟩
  · have h_4 := bI_t h_4
    refine s_iload_n 2 C dX6_standbyOf_7 rfl 2 rfl ?_
    refine s_if_lt 17 C dX6_standbyOf_8 (by decide) (by omega) (fun h_8 => ?_) (fun h_8 => ?_)
    · refine s_ldc (z := -1000001) C (by decide +kernel) dX6_standbyOf_17 ?_
      exact s_iret C E dX6_standbyOf_19 ⟨U0, U1, (congrArg (fun z => some (vI z)) (by rw [sp_stb, if_neg (by omega)])), rfl⟩
    · refine s_iload_n 2 C dX6_standbyOf_11 rfl 2 rfl ?_
      refine s_bipush (z := 8) C dX6_standbyOf_12 rfl ?_
      refine s_icmp_le 20 C dX6_standbyOf_14 (by decide) (by omega) (by omega) (fun h_14 => ?_) (fun h_14 => ?_)
      · refine s_aload_n 0 C dX6_standbyOf_20 rfl 0 rfl ?_
        refine s_get C dX6_standbyOf_21 6 rfl hinX6 0 rfl 0 (by decide) (by decide +kernel) rfl ?_
        refine s_iload_n 1 C dX6_standbyOf_24 rfl 1 rfl ?_
        refine s_callV (As := [vI 1]) (rest := []) C dX6_standbyOf_25 (c_X4_standby1 l G (a 0) (a 1) (a 7) (a 9) [.ref (a 11), vI (c 1), vI (c 2), vI (c 3), vI (c 4), vI (c 5), vI (c 6), vI (c 7), vI (c 8)] 1 (by first | assumption | omega)) gX6_standbyOf_X4_standby rfl 1 (by decide +kernel) (by decide) 3 4 rfl rfl rfl [3] rfl (by decide) rfl (Nat.le_of_ble_eq_true rfl) ⟨Nat.zero_le _, Nat.zero_le _⟩ ?_
        intro v0 w0 hq
        obtain ⟨rfl, rfl⟩ := hq
        refine ⟨rfl, ?_⟩
        show fSt l G X 0 0 28 [(0, .ref x0), (1, vI 1), (2, vI wh)] [.ref (a 9)] ([[cO x0 6 [.ref (a 0), .ref h0, y2, y3, .ref e8, .ref e9]], [cA e8 G.2.1.1 24 U0], [cA e9 G.2.1.1 24 U1], stW G a c F] : List va_W).flatten
        refine s_astore_n 3 [(3, .ref (a 9)), (0, .ref x0), (1, vI 1), (2, vI wh)] C dX6_standbyOf_28 rfl (by decide) rfl ?_
        refine s_aload_n 0 C dX6_standbyOf_29 rfl 1 rfl ?_
        refine s_get C dX6_standbyOf_30 6 rfl hinX6 0 rfl 0 (by decide) (by decide +kernel) rfl ?_
        refine s_get C dX6_standbyOf_33 4 rfl hinX4 3 rfl 0 (by decide) (by decide +kernel) rfl ?_
        refine s_astore [(4, .ref (a 1)), (3, .ref (a 9)), (0, .ref x0), (1, vI 1), (2, vI wh)] C dX6_standbyOf_36 (by decide) rfl ?_
        refine s_iload_n 2 C dX6_standbyOf_38 rfl 4 rfl ?_
        rcases (by omega : wh = 0 ∨ wh = 1 ∨ wh = 2 ∨ wh = 3 ∨ wh = 4 ∨ wh = 5 ∨ wh = 6 ∨ wh = 7 ∨ (wh < 0 ∨ 7 < wh)) with h_39 | h_39 | h_39 | h_39 | h_39 | h_39 | h_39 | h_39 | h_39
        · refine s_tabIn 84 (off := 45) C dX6_standbyOf_39 (by omega) (by omega) (by omega) (by rw [h_39]; rfl) (by decide) ?_
          refine s_aload_n 3 C dX6_standbyOf_84 rfl 1 rfl ?_
          refine s_get C dX6_standbyOf_85 3 rfl hinX3 12 rfl 0 (by decide) (by decide +kernel) rfl ?_
          exact s_iret C E dX6_standbyOf_88 ⟨U0, U1, (congrArg (fun z => some (vI z)) (by rw [sp_stb, if_pos (by omega), if_pos (by omega)]; exact hb1.1)), rfl⟩
        · refine s_tabIn 89 (off := 50) C dX6_standbyOf_39 (by omega) (by omega) (by omega) (by rw [h_39]; rfl) (by decide) ?_
          refine s_aload_n 3 C dX6_standbyOf_89 rfl 1 rfl ?_
          refine s_get C dX6_standbyOf_90 3 rfl hinX3 12 rfl 1 (by decide) (by decide +kernel) rfl ?_
          exact s_iret C E dX6_standbyOf_93 ⟨U0, U1, (congrArg (fun z => some (vI z)) (by rw [sp_stb, if_pos (by omega), if_neg (by omega), if_pos (by omega)]; exact hb1.2.1)), rfl⟩
        · refine s_tabIn 94 (off := 55) C dX6_standbyOf_39 (by omega) (by omega) (by omega) (by rw [h_39]; rfl) (by decide) ?_
          refine s_aload_n 3 C dX6_standbyOf_94 rfl 1 rfl ?_
          refine s_callV (As := []) (rest := []) C dX6_standbyOf_95 (c_X3_gapCount l G (a 9) (a 10) (c 12) (c 13) (c 14) (F 2) (by first | assumption | omega)) gX6_standbyOf_X3_gapCount rfl 0 (by decide +kernel) (by decide) 12 3 rfl rfl rfl [12, 13] rfl (by decide) rfl (Nat.le_of_ble_eq_true rfl) ⟨Nat.zero_le _, Nat.zero_le _⟩ ?_
          intro v0 w0 hq
          obtain ⟨rfl, rfl⟩ := hq
          refine ⟨rfl, ?_⟩
          show fSt l G X 0 0 98 [(4, .ref (a 1)), (3, .ref (a 9)), (0, .ref x0), (1, vI 1), (2, vI wh)] [vI (sC (F 2))] ([[cO x0 6 [.ref (a 0), .ref h0, y2, y3, .ref e8, .ref e9]], [cA e8 G.2.1.1 24 U0], [cA e9 G.2.1.1 24 U1], stW G a c F] : List va_W).flatten
          exact s_iret C E dX6_standbyOf_98 ⟨U0, U1, (congrArg (fun z => some (vI z)) (by rw [sp_stb, if_pos (by omega), if_neg (by omega), if_neg (by omega), if_pos (by omega)]; exact q_sC1 hR hI)), rfl⟩
        · refine s_tabIn 99 (off := 60) C dX6_standbyOf_39 (by omega) (by omega) (by omega) (by rw [h_39]; rfl) (by decide) ?_
          refine s_aload_n 3 C dX6_standbyOf_99 rfl 1 rfl ?_
          refine s_callV (As := []) (rest := []) C dX6_standbyOf_100 (c_X3_lowestGap l G (a 9) (a 10) (c 12) (c 13) (c 14) (F 2) (by first | assumption | omega)) gX6_standbyOf_X3_lowestGap rfl 0 (by decide +kernel) (by decide) 12 3 rfl rfl rfl [12, 13] rfl (by decide) rfl (Nat.le_of_ble_eq_true rfl) ⟨Nat.zero_le _, Nat.zero_le _⟩ ?_
          intro v0 w0 hq
          obtain ⟨rfl, rfl⟩ := hq
          refine ⟨rfl, ?_⟩
          show fSt l G X 0 0 103 [(4, .ref (a 1)), (3, .ref (a 9)), (0, .ref x0), (1, vI 1), (2, vI wh)] [vI (sW (F 2))] ([[cO x0 6 [.ref (a 0), .ref h0, y2, y3, .ref e8, .ref e9]], [cA e8 G.2.1.1 24 U0], [cA e9 G.2.1.1 24 U1], stW G a c F] : List va_W).flatten
          refine s_callS (As := [vI (sW (F 2))]) (rest := []) C dX6_standbyOf_103 (c_X6_found l G (sW (F 2)) (by first | assumption | omega)) gX6_standbyOf_X6_found rfl 1 (by decide +kernel) (by decide) [] rfl (by decide) rfl (Nat.le_of_ble_eq_true rfl) ⟨Nat.zero_le _, Nat.zero_le _⟩ ?_
          intro v0 w0 hq
          obtain ⟨rfl, rfl⟩ := hq
          refine ⟨rfl, ?_⟩
          show fSt l G X 0 0 106 [(4, .ref (a 1)), (3, .ref (a 9)), (0, .ref x0), (1, vI 1), (2, vI wh)] [vI (if (sW (F 2)) = 0 then -1000004 else (sW (F 2)))] ([[cO x0 6 [.ref (a 0), .ref h0, y2, y3, .ref e8, .ref e9]], [cA e8 G.2.1.1 24 U0], [cA e9 G.2.1.1 24 U1], stW G a c F] : List va_W).flatten
          exact s_iret C E dX6_standbyOf_106 ⟨U0, U1, (congrArg (fun z => some (vI z)) (by rw [sp_stb, if_pos (by omega), if_neg (by omega), if_neg (by omega), if_neg (by omega), if_pos (by omega)]; exact q_sW (q_h1 hR hI))), rfl⟩
        · refine s_tabIn 107 (off := 68) C dX6_standbyOf_39 (by omega) (by omega) (by omega) (by rw [h_39]; rfl) (by decide) ?_
          refine s_aload_n 3 C dX6_standbyOf_107 rfl 1 rfl ?_
          refine s_get C dX6_standbyOf_108 3 rfl hinX3 12 rfl 2 (by decide) (by decide +kernel) rfl ?_
          refine s_if_eq 118 C dX6_standbyOf_111 (by decide) (by omega) (fun h_111 => ?_) (fun h_111 => ?_)
          · refine s_iconst C dX6_standbyOf_118 ?_
            exact s_iret C E dX6_standbyOf_119 ⟨U0, U1, (congrArg (fun z => some (vI z)) (by rw [sp_stb, if_pos (by omega), if_neg (by omega), if_neg (by omega), if_neg (by omega), if_neg (by omega), if_pos (by omega)]; rw [← hb1.2.2]; omega)), rfl⟩
          · refine s_iconst C dX6_standbyOf_114 ?_
            refine s_goto 119 C dX6_standbyOf_115 (by decide) ?_
            exact s_iret C E dX6_standbyOf_119 ⟨U0, U1, (congrArg (fun z => some (vI z)) (by rw [sp_stb, if_pos (by omega), if_neg (by omega), if_neg (by omega), if_neg (by omega), if_neg (by omega), if_pos (by omega)]; rw [← hb1.2.2]; omega)), rfl⟩
        · refine s_tabIn 120 (off := 81) C dX6_standbyOf_39 (by omega) (by omega) (by omega) (by rw [h_39]; rfl) (by decide) ?_
          refine s_aload C dX6_standbyOf_120 0 rfl ?_
          refine s_get C dX6_standbyOf_122 1 rfl hinX1 4 rfl 0 (by decide) (by decide +kernel) rfl ?_
          refine s_aload_n 3 C dX6_standbyOf_125 rfl 1 rfl ?_
          refine s_get C dX6_standbyOf_126 3 rfl hinX3 12 rfl 1 (by decide) (by decide +kernel) rfl ?_
          refine s_isub C dX6_standbyOf_129 ?_
          exact s_iret C E dX6_standbyOf_130 ⟨U0, U1, (congrArg (fun z => some (vI z)) (by rw [sp_stb, if_pos (by omega), if_neg (by omega), if_neg (by omega), if_neg (by omega), if_neg (by omega), if_neg (by omega), if_pos (by omega)]; rw [← hb1.2.1, ← en])), rfl⟩
        · refine s_tabIn 131 (off := 92) C dX6_standbyOf_39 (by omega) (by omega) (by omega) (by rw [h_39]; rfl) (by decide) ?_
          refine s_aload C dX6_standbyOf_131 0 rfl ?_
          refine s_aload_n 3 C dX6_standbyOf_133 rfl 1 rfl ?_
          refine s_get C dX6_standbyOf_134 3 rfl hinX3 12 rfl 1 (by decide) (by decide +kernel) rfl ?_
          refine s_callV (As := [vI (c 13)]) (rest := []) C dX6_standbyOf_137 (c_X1_commitsBehind l G (a 1) (a 2) (a 3) (a 4) (a 5) (a 6) (c 0) (F 3) (F 4) (F 5) (F 6) (F 7) (c 13) (by first | assumption | omega) (by first | assumption | omega) (by first | assumption | omega) (by first | assumption | omega) (by first | assumption | omega) (by first | assumption | omega) (by first | assumption | omega)) gX6_standbyOf_X1_commitsBehind rfl 1 (by decide +kernel) (by decide) 4 1 rfl rfl rfl [4, 5, 6, 7, 8, 9] rfl (by decide) rfl (Nat.le_of_ble_eq_true rfl) ⟨Nat.zero_le _, Nat.zero_le _⟩ ?_
          intro v0 w0 hq
          obtain ⟨rfl, rfl⟩ := hq
          refine ⟨rfl, ?_⟩
          show fSt l G X 0 0 140 [(4, .ref (a 1)), (3, .ref (a 9)), (0, .ref x0), (1, vI 1), (2, vI wh)] [vI (cB (c 0) (F 3) (c 13))] ([[cO x0 6 [.ref (a 0), .ref h0, y2, y3, .ref e8, .ref e9]], [cA e8 G.2.1.1 24 U0], [cA e9 G.2.1.1 24 U1], stW G a c F] : List va_W).flatten
          exact s_iret C E dX6_standbyOf_140 ⟨U0, U1, (congrArg (fun z => some (vI z)) (by rw [sp_stb, if_pos (by omega), if_neg (by omega), if_neg (by omega), if_neg (by omega), if_neg (by omega), if_neg (by omega), if_neg (by omega), if_pos (by omega)]; rw [← hb1.2.1]; exact q_cB hR (by omega))), rfl⟩
        · refine s_tabIn 141 (off := 102) C dX6_standbyOf_39 (by omega) (by omega) (by omega) (by rw [h_39]; rfl) (by decide) ?_
          refine s_aload C dX6_standbyOf_141 0 rfl ?_
          refine s_aload_n 3 C dX6_standbyOf_143 rfl 1 rfl ?_
          refine s_get C dX6_standbyOf_144 3 rfl hinX3 12 rfl 1 (by decide) (by decide +kernel) rfl ?_
          refine s_iconst C dX6_standbyOf_147 ?_
          refine s_iadd C dX6_standbyOf_148 ?_
          refine s_callV (As := [vI ((c 13) + 1)]) (rest := []) C dX6_standbyOf_149 (c_X1_has l G (a 1) (a 2) (a 3) (a 4) (a 5) (a 6) (c 0) (F 3) (F 4) (F 5) (F 6) (F 7) ((c 13) + 1) (by first | assumption | omega) (by first | assumption | omega)) gX6_standbyOf_X1_has rfl 1 (by decide +kernel) (by decide) 4 1 rfl rfl rfl [4, 5, 6, 7, 8, 9] rfl (by decide) rfl (Nat.le_of_ble_eq_true rfl) ⟨Nat.zero_le _, Nat.zero_le _⟩ ?_
          intro v0 w0 hq
          obtain ⟨rfl, rfl⟩ := hq
          refine ⟨rfl, ?_⟩
          show fSt l G X 0 0 152 [(4, .ref (a 1)), (3, .ref (a 9)), (0, .ref x0), (1, vI 1), (2, vI wh)] [vI (bI (1 ≤ ((c 13) + 1) ∧ ((c 13) + 1) ≤ (c 0)))] ([[cO x0 6 [.ref (a 0), .ref h0, y2, y3, .ref e8, .ref e9]], [cA e8 G.2.1.1 24 U0], [cA e9 G.2.1.1 24 U1], stW G a c F] : List va_W).flatten
          refine s_if_eq 177 C dX6_standbyOf_152 (by decide) bI_rng (fun h_152 => ?_) (fun h_152 => ?_)
          · have h_152 := bI_f h_152
            refine s_ldc (z := -1000004) C (by decide +kernel) dX6_standbyOf_177 ?_
            exact s_iret C E dX6_standbyOf_179 ⟨U0, U1, (congrArg (fun z => some (vI z)) (by rw [sp_stb, if_pos (by omega), if_neg (by omega), if_neg (by omega), if_neg (by omega), if_neg (by omega), if_neg (by omega), if_neg (by omega), if_neg (by omega), if_pos (by omega), if_pos (by omega)])), rfl⟩
          · have h_152 := bI_t h_152
            refine s_aload_n 0 C dX6_standbyOf_155 rfl 2 rfl ?_
            refine s_get C dX6_standbyOf_156 6 rfl hinX6 0 rfl 0 (by decide) (by decide +kernel) rfl ?_
            refine s_get C dX6_standbyOf_159 4 rfl hinX4 3 rfl 4 (by decide) (by decide +kernel) rfl ?_
            refine s_aload C dX6_standbyOf_162 0 rfl ?_
            refine s_aload_n 3 C dX6_standbyOf_164 rfl 1 rfl ?_
            refine s_get C dX6_standbyOf_165 3 rfl hinX3 12 rfl 1 (by decide) (by decide +kernel) rfl ?_
            refine s_iconst C dX6_standbyOf_168 ?_
            refine s_iadd C dX6_standbyOf_169 ?_
            refine s_callV (As := [vI ((c 13) + 1)]) (rest := [vI (c 1)]) C dX6_standbyOf_170 (c_X1_tickOf l G (a 1) (a 2) (a 3) (a 4) (a 5) (a 6) (c 0) (F 3) (F 4) (F 5) (F 6) (F 7) ((c 13) + 1) (by first | assumption | omega) (by first | assumption | omega)) gX6_standbyOf_X1_tickOf rfl 1 (by decide +kernel) (by decide) 4 1 rfl rfl rfl [4, 5, 6, 7, 8, 9] rfl (by decide) rfl (Nat.le_of_ble_eq_true rfl) ⟨Nat.zero_le _, Nat.zero_le _⟩ ?_
            intro v0 w0 hq
            obtain ⟨rfl, rfl⟩ := hq
            refine ⟨rfl, ?_⟩
            show fSt l G X 0 0 173 [(4, .ref (a 1)), (3, .ref (a 9)), (0, .ref x0), (1, vI 1), (2, vI wh)] [vI (gR (c 0) (F 7) ((c 13) + 1)), vI (c 1)] ([[cO x0 6 [.ref (a 0), .ref h0, y2, y3, .ref e8, .ref e9]], [cA e8 G.2.1.1 24 U0], [cA e9 G.2.1.1 24 U1], stW G a c F] : List va_W).flatten
            refine s_isub C dX6_standbyOf_173 ?_
            refine s_goto 179 C dX6_standbyOf_174 (by decide) ?_
            exact s_iret C E dX6_standbyOf_179 ⟨U0, U1, (congrArg (fun z => some (vI z)) (by rw [sp_stb, if_pos (by omega), if_neg (by omega), if_neg (by omega), if_neg (by omega), if_neg (by omega), if_neg (by omega), if_neg (by omega), if_neg (by omega), if_pos (by omega), if_neg (by omega), ← hb1.2.1, q_gA hR ⟨by omega, by omega⟩, RS.e_tk hR])), rfl⟩
        · refine s_tabOut 180 C dX6_standbyOf_39 (by omega) h_39 (by decide) ?_
          refine s_aload_n 0 C dX6_standbyOf_180 rfl 2 rfl ?_
          refine s_aload_n 3 C dX6_standbyOf_181 rfl 1 rfl ?_
          refine s_get C dX6_standbyOf_182 3 rfl hinX3 12 rfl 1 (by decide) (by decide +kernel) rfl ?_
          refine s_callVP (As := [vI (c 13)]) (rest := []) (segs := [[cO x0 6 [.ref (a 0), .ref h0, y2, y3, .ref e8, .ref e9]], [cA e8 G.2.1.1 24 U0], [cA e9 G.2.1.1 24 U1], stW G a c F]) C dX6_standbyOf_185 (c_X6_keysNotAsAtEnd l G x0 h0 e8 e9 (y2) (y3) a c F B f U0 U1 1 (c 13) (by first | assumption | omega) (by first | assumption | omega) (by first | assumption | omega) (by first | assumption | omega) hb1.2.1) gX6_standbyOf_X6_keysNotAsAtEnd rfl 1 (by decide +kernel) (by decide) 0 6 rfl rfl rfl [0, 1, 2, 3] [] rfl rfl rfl (Nat.le_of_ble_eq_true rfl) ⟨Nat.zero_le _, Nat.zero_le _⟩ ?_
          intro v0 w0 hq
          obtain ⟨z_185, U2_185, U3_185, rfl, rfl, hq0_185⟩ := hq
          refine ⟨(fst_f (fst_c rfl (fst_c (fst_k rfl) (fst_c (fst_k rfl) rfl)))), [[cO x0 6 [.ref (a 0), .ref h0, y2, y3, .ref e8, .ref e9]], [cA e8 G.2.1.1 24 U2_185], [cA e9 G.2.1.1 24 U3_185], stW G a c F], (rfl : (4 : Nat) = 4), rfl, Eq.trans (b := ([] : List va_W)) rfl rfl, ?_⟩
          show fSt l G X 0 0 188 [(4, .ref (a 1)), (3, .ref (a 9)), (0, .ref x0), (1, vI 1), (2, vI wh)] [vI z_185] ([[cO x0 6 [.ref (a 0), .ref h0, y2, y3, .ref e8, .ref e9]], [cA e8 G.2.1.1 24 U2_185], [cA e9 G.2.1.1 24 U3_185], stW G a c F] : List va_W).flatten
          exact s_iret C E dX6_standbyOf_188 ⟨U2_185, U3_185, (congrArg (fun z => some (vI z)) (by rw [sp_stb, if_pos (by omega), if_neg (by omega), if_neg (by omega), if_neg (by omega), if_neg (by omega), if_neg (by omega), if_neg (by omega), if_neg (by omega), if_neg (by omega)]; exact hq0_185)), rfl⟩
      · refine s_ldc (z := -1000001) C (by decide +kernel) dX6_standbyOf_17 ?_
        exact s_iret C E dX6_standbyOf_19 ⟨U0, U1, (congrArg (fun z => some (vI z)) (by rw [sp_stb, if_neg (by omega)])), rfl⟩

set_option maxHeartbeats 4000000 in
set_option maxRecDepth 100000 in
theorem c_X6_standbyOf_x (l : Launch) (G : fG) (x0 h0 e8 e9 : Nat) (y2 y3 : Value) (a : Nat → Nat) (c : Nat → Int) (F : Nat → Int → Int) (B : Int) (f U0 U1 : Int → Int) (b wh : Int) (hR : RSb f c F) (hI : Inv B f) (hB : B ≤ 1073000000) (hb : -2147483648 ≤ b ∧ b < 2147483648) (hwh : -2147483648 ≤ wh ∧ wh < 2147483648) (hbx : ¬ (0 ≤ b ∧ b ≤ 1)) : fCt l G yX6_standbyOf wsX6_standbyOf 6 134 0 0 [.ref x0, vI b, vI wh] ([[cO x0 6 [.ref (a 0), .ref h0, y2, y3, .ref e8, .ref e9]], [cA e8 G.2.1.1 24 U0], [cA e9 G.2.1.1 24 U1], stW G a c F] : List va_W).flatten (fun (v0 : Option Value) (w0 : va_W) => ∃ (U2 U3 : Int → Int), v0 = some (vI (sp_stb f b wh)) ∧ w0 = ([[cO x0 6 [.ref (a 0), .ref h0, y2, y3, .ref e8, .ref e9]], [cA e8 G.2.1.1 24 U2], [cA e9 G.2.1.1 24 U3], stW G a c F] : List va_W).flatten) := by
  refine fs_met (cc := cX6_standbyOf) (nL := 5) (ret := (some .int)) (by decide) rfl (Nat.le_of_ble_eq_true rfl) ?_
  intro X C E
  show fSt l G X 0 0 0 [(0, .ref x0), (1, vI b), (2, vI wh)] [] ([[cO x0 6 [.ref (a 0), .ref h0, y2, y3, .ref e8, .ref e9]], [cA e8 G.2.1.1 24 U0], [cA e9 G.2.1.1 24 U1], stW G a c F] : List va_W).flatten
  obtain ⟨hn, htk, hln, htr, hlc, hlo, hap, hrt, hdl, hS0, hS1⟩ := RS.scal hR hI
  have hK : rF (F 3) := RS.hrK hR
  have hT : rF (F 4) := RS.hrT hR
  have hY : rF (F 5) := RS.hrY hR
  have hV : rF (F 6) := RS.hrV hR
  have hA : rF (F 7) := RS.hrA hR
  have hsl : rF (F 0) := RS.hrs hR
  have hg0 : gF (F 1) := RS.hG0 hR
  have hg1 : gF (F 2) := RS.hG1 hR
  have hb0 := RS.b0 hR
  have hb1 := RS.b1 hR
  have en := RS.e_n hR
  have hin := hI.n
  refine s_iload_n 1 C dX6_standbyOf_0 rfl 1 rfl ?_
  refine s_callS (As := [vI b]) (rest := []) C dX6_standbyOf_1 (c_X6_isStandby l G b (by first | assumption | omega)) gX6_standbyOf_X6_isStandby rfl 1 (by decide +kernel) (by decide) [] rfl (by decide) rfl (Nat.le_of_ble_eq_true rfl) ⟨Nat.zero_le _, Nat.zero_le _⟩ ?_
  intro v0 w0 hq
  obtain ⟨rfl, rfl⟩ := hq
  refine ⟨rfl, ?_⟩
  show fSt l G X 0 0 4 [(0, .ref x0), (1, vI b), (2, vI wh)] [vI (bI (0 ≤ b ∧ b ≤ 1))] ([[cO x0 6 [.ref (a 0), .ref h0, y2, y3, .ref e8, .ref e9]], [cA e8 G.2.1.1 24 U0], [cA e9 G.2.1.1 24 U1], stW G a c F] : List va_W).flatten
  refine s_if_eq 17 C dX6_standbyOf_4 (by decide) bI_rng (fun h_4 => ?_) (fun h_4 => ?_)
  · have h_4 := bI_f h_4
    refine s_ldc (z := -1000001) C (by decide +kernel) dX6_standbyOf_17 ?_
    exact s_iret C E dX6_standbyOf_19 ⟨U0, U1, (congrArg (fun z => some (vI z)) (by rw [sp_stb, if_neg (by omega)])), rfl⟩
  · have h_4 := bI_t h_4
    exfalso
    omega

theorem w_X6_standbyOf (l : Launch) (G : fG) (x0 h0 e8 e9 : Nat) (y2 y3 : Value) (a : Nat → Nat) (c : Nat → Int) (F : Nat → Int → Int) (B : Int) (f U0 U1 : Int → Int) (b wh : Int) (hR : RSb f c F) (hI : Inv B f) (hB : B ≤ 1073000000) (hb : -2147483648 ≤ b ∧ b < 2147483648) (hwh : -2147483648 ≤ wh ∧ wh < 2147483648) : fCt l G yX6_standbyOf wsX6_standbyOf 6 134 0 0 [.ref x0, vI b, vI wh] ([[cO x0 6 [.ref (a 0), .ref h0, y2, y3, .ref e8, .ref e9]], [cA e8 G.2.1.1 24 U0], [cA e9 G.2.1.1 24 U1], stW G a c F] : List va_W).flatten (fun (v0 : Option Value) (w0 : va_W) => ∃ (U2 U3 : Int → Int), v0 = some (vI (sp_stb f b wh)) ∧ w0 = ([[cO x0 6 [.ref (a 0), .ref h0, y2, y3, .ref e8, .ref e9]], [cA e8 G.2.1.1 24 U2], [cA e9 G.2.1.1 24 U3], stW G a c F] : List va_W).flatten) := by
  rcases (by omega : b = 0 ∨ b = 1 ∨ ¬ (0 ≤ b ∧ b ≤ 1)) with e | e | hbx
  · subst e
    exact c_X6_standbyOf_0 l G x0 h0 e8 e9 y2 y3 a c F B f U0 U1 wh hR hI hB hwh
  · subst e
    exact c_X6_standbyOf_1 l G x0 h0 e8 e9 y2 y3 a c F B f U0 U1 wh hR hI hB hwh
  · exact c_X6_standbyOf_x l G x0 h0 e8 e9 y2 y3 a c F B f U0 U1 b wh hR hI hB hb hwh hbx

set_option maxHeartbeats 4000000 in
set_option maxRecDepth 100000 in
theorem c_X6_fault (l : Launch) (G : fG) (x0 h0 u0 o0 o1 o2 : Nat) (y4 y5 : Value) (a b : Nat → Nat) (c cj : Nat → Int) (F Fj : Nat → Int → Int) (B : Int) (f tx W : Int → Int) (n at0 k0 r0 od po rs ca wh : Int) (hR : RSb f c F) (hI : Inv B f) (hB : B ≤ 1000000000) (hJ : Jb Fj) (hX : rX tx) (hn : 0 ≤ n ∧ n ≤ 60) (hW : rF W) (hwh : -2147483648 ≤ wh ∧ wh < 2147483648) : fCt l G yX6_fault wsX6_fault 6 140 0 0 [.ref x0, vI wh] ([[cO x0 6 [.ref (a 0), .ref h0, .ref o0, .ref u0, y4, y5]], [cO u0 5 [.ref (b 0), vI od, vI po, vI rs, vI ca]], stW G b cj Fj, [cO o0 2 [.ref o1, vI n, vI at0, vI k0, .ref o2, vI r0]], [cA o1 G.2.1.2.2.1 60 tx], [cA o2 G.2.1.1 3 W], stW G a c F] : List va_W).flatten (fun (v0 : Option Value) (w0 : va_W) => ∃ (c2 : Nat → Int) (F2 : Nat → Int → Int) (W2 : Int → Int) (t2 k2 n2 o9 pp2 rs2 ca2 : Int), v0 = some (vI (flt (plR tx n 60 f 0 0) wh)) ∧ w0 = ([[cO x0 6 [.ref (a 0), .ref h0, .ref o0, .ref u0, y4, y5]], [cO u0 5 [.ref (b 0), vI o9, vI pp2, vI rs2, vI ca2]], stW G b c2 F2, [cO o0 2 [.ref o1, vI n, vI t2, vI k2, .ref o2, vI n2]], [cA o1 G.2.1.2.2.1 60 tx], [cA o2 G.2.1.1 3 W2], stW G a c F] : List va_W).flatten ∧ (Jb F2) ∧ (rF W2)) := by
  refine fs_met (cc := cX6_fault) (nL := 2) (ret := (some .int)) (by decide) rfl (Nat.le_of_ble_eq_true rfl) ?_
  intro X C E
  show fSt l G X 0 0 0 [(0, .ref x0), (1, vI wh)] [] ([[cO x0 6 [.ref (a 0), .ref h0, .ref o0, .ref u0, y4, y5]], [cO u0 5 [.ref (b 0), vI od, vI po, vI rs, vI ca]], stW G b cj Fj, [cO o0 2 [.ref o1, vI n, vI at0, vI k0, .ref o2, vI r0]], [cA o1 G.2.1.2.2.1 60 tx], [cA o2 G.2.1.1 3 W], stW G a c F] : List va_W).flatten
  have hinX5 : ∀ w ∈ u_ws RX5 TX5 5, w ∈ wsX6_fault := by decide +kernel
  have hinX6 : ∀ w ∈ u_ws RX6 TX6 6, w ∈ wsX6_fault := by decide +kernel
  refine s_iload_n 1 C dX6_fault_0 rfl 1 rfl ?_
  refine s_if_lt 9 C dX6_fault_1 (by decide) (by omega) (fun h_1 => ?_) (fun h_1 => ?_)
  · refine s_ldc (z := -1000001) C (by decide +kernel) dX6_fault_9 ?_
    exact s_iret C E dX6_fault_11 ⟨cj, Fj, W, at0, k0, r0, od, po, rs, ca, (congrArg (fun z => some (vI z)) (flt_o (by omega)).symm), rfl, hJ, hW⟩
  · refine s_iload_n 1 C dX6_fault_4 rfl 1 rfl ?_
    refine s_iconst C dX6_fault_5 ?_
    refine s_icmp_le 12 C dX6_fault_6 (by decide) (by omega) (by omega) (fun h_6 => ?_) (fun h_6 => ?_)
    · refine s_aload_n 0 C dX6_fault_12 rfl 0 rfl ?_
      refine s_get C dX6_fault_13 6 rfl hinX6 0 rfl 3 (by decide) (by decide +kernel) rfl ?_
      refine s_aload_n 0 C dX6_fault_16 rfl 0 rfl ?_
      refine s_get C dX6_fault_17 6 rfl hinX6 0 rfl 2 (by decide) (by decide +kernel) rfl ?_
      refine s_aload_n 0 C dX6_fault_20 rfl 0 rfl ?_
      refine s_get C dX6_fault_21 6 rfl hinX6 0 rfl 0 (by decide) (by decide +kernel) rfl ?_
      refine s_callVP (As := [.ref o0, .ref (a 0)]) (rest := []) (segs := [[cO x0 6 [.ref (a 0), .ref h0, .ref o0, .ref u0, y4, y5]], [cO u0 5 [.ref (b 0), vI od, vI po, vI rs, vI ca]], stW G b cj Fj, [cO o0 2 [.ref o1, vI n, vI at0, vI k0, .ref o2, vI r0]], [cA o1 G.2.1.2.2.1 60 tx], [cA o2 G.2.1.1 3 W], stW G a c F]) C dX6_fault_24 (c_X5_run l G u0 o0 o1 o2 a b c cj F Fj B f tx W n at0 k0 r0 od po rs ca (by first | assumption | omega) (by first | assumption | omega) (by first | assumption | omega) (by first | assumption | omega) hX (by first | assumption | omega) hW) gX6_fault_X5_run rfl 2 (by decide +kernel) (by decide) 1 5 rfl rfl rfl [1, 2, 3, 4, 5, 6] [0] rfl rfl rfl (Nat.le_of_ble_eq_true rfl) ⟨Nat.zero_le _, Nat.zero_le _⟩ ?_
      intro v0 w0 hq
      obtain ⟨f2_24, c2_24, F2_24, W2_24, t2_24, k2_24, n2_24, o9_24, pp2_24, rs2_24, ca2_24, rfl, rfl, hq0_24, hq1_24, hq2_24, hq3_24⟩ := hq
      refine ⟨(fst_f (fst_c (fst_k rfl) (fst_c stW_fst (fst_c (fst_k rfl) (fst_c rfl (fst_c (fst_k rfl) rfl)))))), [[cO x0 6 [.ref (a 0), .ref h0, .ref o0, .ref u0, y4, y5]], [cO u0 5 [.ref (b 0), vI o9_24, vI pp2_24, vI rs2_24, vI ca2_24]], stW G b c2_24 F2_24, [cO o0 2 [.ref o1, vI n, vI t2_24, vI k2_24, .ref o2, vI n2_24]], [cA o1 G.2.1.2.2.1 60 tx], [cA o2 G.2.1.1 3 W2_24], stW G a c F], (rfl : (7 : Nat) = 7), rfl, Eq.trans (b := ([[cO x0 6 [.ref (a 0), .ref h0, .ref o0, .ref u0, y4, y5]]] : List va_W)) rfl rfl, ?_⟩
      show fSt l G X 0 0 27 [(0, .ref x0), (1, vI wh)] [] ([[cO x0 6 [.ref (a 0), .ref h0, .ref o0, .ref u0, y4, y5]], [cO u0 5 [.ref (b 0), vI o9_24, vI pp2_24, vI rs2_24, vI ca2_24]], stW G b c2_24 F2_24, [cO o0 2 [.ref o1, vI n, vI t2_24, vI k2_24, .ref o2, vI n2_24]], [cA o1 G.2.1.2.2.1 60 tx], [cA o2 G.2.1.1 3 W2_24], stW G a c F] : List va_W).flatten
      have hrs := plR_rs (X := tx) (n := n) 60 f 0 0
      rw [hq3_24] at hrs
      dsimp only at hrs
      refine s_aload_n 0 C dX6_fault_27 rfl 0 rfl ?_
      refine s_get C dX6_fault_28 6 rfl hinX6 0 rfl 3 (by decide) (by decide +kernel) rfl ?_
      refine s_get C dX6_fault_31 5 rfl hinX5 1 rfl 3 (by decide) (by decide +kernel) rfl ?_
      refine s_if_ne 40 C dX6_fault_34 (by decide) (by omega) (fun h_34 => ?_) (fun h_34 => ?_)
      · refine s_iload_n 1 C dX6_fault_40 rfl 1 rfl ?_
        rcases (by omega : wh = 0 ∨ wh = 1 ∨ (wh ≠ 0 ∧ wh ≠ 1)) with h_41 | h_41 | h_41
        · refine s_look 68 (off := 27) C dX6_fault_41 (by decide) (by omega) (by rw [h_41]; rfl) (by decide) ?_
          refine s_aload_n 0 C dX6_fault_68 rfl 0 rfl ?_
          refine s_get C dX6_fault_69 6 rfl hinX6 0 rfl 3 (by decide) (by decide +kernel) rfl ?_
          refine s_get C dX6_fault_72 5 rfl hinX5 1 rfl 2 (by decide) (by decide +kernel) rfl ?_
          exact s_iret C E dX6_fault_75 ⟨c2_24, F2_24, W2_24, t2_24, k2_24, n2_24, o9_24, pp2_24, rs2_24, ca2_24, (congrArg (fun z => some (vI z)) (by rw [fltB hq3_24 (by omega) h_34, if_pos (by omega)])), rfl, hq0_24.J, hq2_24⟩
        · refine s_look 76 (off := 35) C dX6_fault_41 (by decide) (by omega) (by rw [h_41]; rfl) (by decide) ?_
          refine s_aload_n 0 C dX6_fault_76 rfl 0 rfl ?_
          refine s_get C dX6_fault_77 6 rfl hinX6 0 rfl 3 (by decide) (by decide +kernel) rfl ?_
          refine s_get C dX6_fault_80 5 rfl hinX5 1 rfl 3 (by decide) (by decide +kernel) rfl ?_
          exact s_iret C E dX6_fault_83 ⟨c2_24, F2_24, W2_24, t2_24, k2_24, n2_24, o9_24, pp2_24, rs2_24, ca2_24, (congrArg (fun z => some (vI z)) (by rw [fltB hq3_24 (by omega) h_34, if_neg (by omega), if_pos (by omega)])), rfl, hq0_24.J, hq2_24⟩
        · refine s_look 84 (off := 43) C dX6_fault_41 (by decide) (by omega) (lk_none (l := [(0, 27), (1, 35)]) (by simp only [List.all_cons, List.all_nil, Bool.and_true, Bool.and_eq_true, bne_iff_ne, ne_eq]; omega)) (by decide) ?_
          refine s_aload_n 0 C dX6_fault_84 rfl 0 rfl ?_
          refine s_get C dX6_fault_85 6 rfl hinX6 0 rfl 3 (by decide) (by decide +kernel) rfl ?_
          refine s_get C dX6_fault_88 5 rfl hinX5 1 rfl 4 (by decide) (by decide +kernel) rfl ?_
          exact s_iret C E dX6_fault_91 ⟨c2_24, F2_24, W2_24, t2_24, k2_24, n2_24, o9_24, pp2_24, rs2_24, ca2_24, (congrArg (fun z => some (vI z)) (by rw [fltB hq3_24 (by omega) h_34, if_neg (by omega), if_neg (by omega)])), rfl, hq0_24.J, hq2_24⟩
      · refine s_ldc (z := -1000004) C (by decide +kernel) dX6_fault_37 ?_
        exact s_iret C E dX6_fault_39 ⟨c2_24, F2_24, W2_24, t2_24, k2_24, n2_24, o9_24, pp2_24, rs2_24, ca2_24, (congrArg (fun z => some (vI z)) (fltA hq3_24 (by omega) h_34).symm), rfl, hq0_24.J, hq2_24⟩
    · refine s_ldc (z := -1000001) C (by decide +kernel) dX6_fault_9 ?_
      exact s_iret C E dX6_fault_11 ⟨cj, Fj, W, at0, k0, r0, od, po, rs, ca, (congrArg (fun z => some (vI z)) (flt_o (by omega)).symm), rfl, hJ, hW⟩

set_option maxHeartbeats 4000000 in
set_option maxRecDepth 100000 in
theorem c_X6_play (l : Launch) (G : fG) (x0 h0 h1 u0 o0 o1 o2 : Nat) (y4 y5 : Value) (ps : Int) (Q : Nat → Option Nat) (S : Nat → Nat → Nat) (cs : Nat → Nat → Int) (Fs : Nat → Nat → Int → Int) (p a b : Nat → Nat) (c cj : Nat → Int) (F Fj : Nat → Int → Int) (B : Int) (f P tx W : Int → Int) (n at0 k0 r0 od po rs ca : Int) (hR : RSb f c F) (hI : Inv B f) (hB : B ≤ 1000000000) (hH : HRel B P ps S Q p cs Fs) (hJ : Jb Fj) (hX : rX tx) (hn : 0 ≤ n ∧ n ≤ 60) (hW : rF W) : fCt l G yX6_play wsX6_play 6 140 0 0 [.ref x0] ([[cO x0 6 [.ref (a 0), .ref h0, .ref o0, .ref u0, y4, y5]], [cO h0 0 [.ref h1, vI ps]], [cQ h1 G.2.1.2.2.2 5 Q], stW G (S 0) (cs 0) (Fs 0), stW G (S 1) (cs 1) (Fs 1), stW G (S 2) (cs 2) (Fs 2), stW G (S 3) (cs 3) (Fs 3), stW G (S 4) (cs 4) (Fs 4), stW G a c F, [cO u0 5 [.ref (b 0), vI od, vI po, vI rs, vI ca]], stW G b cj Fj, [cO o0 2 [.ref o1, vI n, vI at0, vI k0, .ref o2, vI r0]], [cA o1 G.2.1.2.2.1 60 tx], [cA o2 G.2.1.1 3 W]] : List va_W).flatten (fun (v0 : Option Value) (w0 : va_W) => ∃ (z ps2 : Int) (Q2 : Nat → Option Nat) (f3 : Int → Int) (pp3 : Nat → Nat) (P3 : Int → Int) (c3 : Nat → Int) (F3 : Nat → Int → Int) (cs2 : Nat → Nat → Int) (Fs2 : Nat → Nat → Int → Int) (c2 : Nat → Int) (F2 : Nat → Int → Int) (W2 : Int → Int) (t2 k2 n2 o9 pp2 rs2 ca2 : Int), v0 = some (vI z) ∧ w0 = ([[cO x0 6 [.ref (a 0), .ref h0, .ref o0, .ref u0, y4, y5]], [cO h0 0 [.ref h1, vI ps2]], [cQ h1 G.2.1.2.2.2 5 Q2], stW G (S 0) (cs2 0) (Fs2 0), stW G (S 1) (cs2 1) (Fs2 1), stW G (S 2) (cs2 2) (Fs2 2), stW G (S 3) (cs2 3) (Fs2 3), stW G (S 4) (cs2 4) (Fs2 4), stW G a c3 F3, [cO u0 5 [.ref (b 0), vI o9, vI pp2, vI rs2, vI ca2]], stW G b c2 F2, [cO o0 2 [.ref o1, vI n, vI t2, vI k2, .ref o2, vI n2]], [cA o1 G.2.1.2.2.1 60 tx], [cA o2 G.2.1.1 3 W2]] : List va_W).flatten ∧ (Jb F2) ∧ (rF W2) ∧ (RSb f3 c3 F3) ∧ (Inv (B + 18300) f3) ∧ (HRel B P3 ps2 S Q2 pp3 cs2 Fs2) ∧ (((plR tx n 60 f 0 0).1 = true ∧ z = (plR tx n 60 f 0 0).2.2.2.2.2 ∧ f3 = (plR tx n 60 f 0 0).2.1 ∧ P3 = pS P ps f ∧ ps2 = pQ ps) ∨ ((plR tx n 60 f 0 0).1 = false ∧ z = -1000002 ∧ f3 = f ∧ P3 = P ∧ ps2 = ps))) := by
  refine fs_met (cc := cX6_play) (nL := 1) (ret := (some .int)) (by decide) rfl (Nat.le_of_ble_eq_true rfl) ?_
  intro X C E
  show fSt l G X 0 0 0 [(0, .ref x0)] [] ([[cO x0 6 [.ref (a 0), .ref h0, .ref o0, .ref u0, y4, y5]], [cO h0 0 [.ref h1, vI ps]], [cQ h1 G.2.1.2.2.2 5 Q], stW G (S 0) (cs 0) (Fs 0), stW G (S 1) (cs 1) (Fs 1), stW G (S 2) (cs 2) (Fs 2), stW G (S 3) (cs 3) (Fs 3), stW G (S 4) (cs 4) (Fs 4), stW G a c F, [cO u0 5 [.ref (b 0), vI od, vI po, vI rs, vI ca]], stW G b cj Fj, [cO o0 2 [.ref o1, vI n, vI at0, vI k0, .ref o2, vI r0]], [cA o1 G.2.1.2.2.1 60 tx], [cA o2 G.2.1.1 3 W]] : List va_W).flatten
  have hinX5 : ∀ w ∈ u_ws RX5 TX5 5, w ∈ wsX6_play := by decide +kernel
  have hinX6 : ∀ w ∈ u_ws RX6 TX6 6, w ∈ wsX6_play := by decide +kernel
  have hps := hH.ps
  refine s_aload_n 0 C dX6_play_0 rfl 0 rfl ?_
  refine s_get C dX6_play_1 6 rfl hinX6 0 rfl 3 (by decide) (by decide +kernel) rfl ?_
  refine s_aload_n 0 C dX6_play_4 rfl 0 rfl ?_
  refine s_get C dX6_play_5 6 rfl hinX6 0 rfl 2 (by decide) (by decide +kernel) rfl ?_
  refine s_aload_n 0 C dX6_play_8 rfl 0 rfl ?_
  refine s_get C dX6_play_9 6 rfl hinX6 0 rfl 0 (by decide) (by decide +kernel) rfl ?_
  refine s_callVP (As := [.ref o0, .ref (a 0)]) (rest := []) (segs := [[cO x0 6 [.ref (a 0), .ref h0, .ref o0, .ref u0, y4, y5]], [cO h0 0 [.ref h1, vI ps]], [cQ h1 G.2.1.2.2.2 5 Q], stW G (S 0) (cs 0) (Fs 0), stW G (S 1) (cs 1) (Fs 1), stW G (S 2) (cs 2) (Fs 2), stW G (S 3) (cs 3) (Fs 3), stW G (S 4) (cs 4) (Fs 4), stW G a c F, [cO u0 5 [.ref (b 0), vI od, vI po, vI rs, vI ca]], stW G b cj Fj, [cO o0 2 [.ref o1, vI n, vI at0, vI k0, .ref o2, vI r0]], [cA o1 G.2.1.2.2.1 60 tx], [cA o2 G.2.1.1 3 W]]) C dX6_play_12 (c_X5_run l G u0 o0 o1 o2 a b c cj F Fj B f tx W n at0 k0 r0 od po rs ca (by first | assumption | omega) (by first | assumption | omega) (by first | assumption | omega) (by first | assumption | omega) hX (by first | assumption | omega) hW) gX6_play_X5_run rfl 2 (by decide +kernel) (by decide) 75 5 rfl rfl rfl [9, 10, 11, 12, 13, 8] [0, 1, 2, 3, 4, 5, 6, 7] rfl rfl rfl (Nat.le_of_ble_eq_true rfl) ⟨Nat.zero_le _, Nat.zero_le _⟩ ?_
  intro v0 w0 hq
  obtain ⟨f2_12, c2_12, F2_12, W2_12, t2_12, k2_12, n2_12, o9_12, pp2_12, rs2_12, ca2_12, rfl, rfl, hq0_12, hq1_12, hq2_12, hq3_12⟩ := hq
  refine ⟨(fst_f (fst_c (fst_k rfl) (fst_c stW_fst (fst_c (fst_k rfl) (fst_c rfl (fst_c (fst_k rfl) rfl)))))), [[cO x0 6 [.ref (a 0), .ref h0, .ref o0, .ref u0, y4, y5]], [cO h0 0 [.ref h1, vI ps]], [cQ h1 G.2.1.2.2.2 5 Q], stW G (S 0) (cs 0) (Fs 0), stW G (S 1) (cs 1) (Fs 1), stW G (S 2) (cs 2) (Fs 2), stW G (S 3) (cs 3) (Fs 3), stW G (S 4) (cs 4) (Fs 4), stW G a c F, [cO u0 5 [.ref (b 0), vI o9_12, vI pp2_12, vI rs2_12, vI ca2_12]], stW G b c2_12 F2_12, [cO o0 2 [.ref o1, vI n, vI t2_12, vI k2_12, .ref o2, vI n2_12]], [cA o1 G.2.1.2.2.1 60 tx], [cA o2 G.2.1.1 3 W2_12]], (rfl : (14 : Nat) = 14), rfl, Eq.trans (b := ([[cO x0 6 [.ref (a 0), .ref h0, .ref o0, .ref u0, y4, y5]], [cO h0 0 [.ref h1, vI ps]], [cQ h1 G.2.1.2.2.2 5 Q], stW G (S 0) (cs 0) (Fs 0), stW G (S 1) (cs 1) (Fs 1), stW G (S 2) (cs 2) (Fs 2), stW G (S 3) (cs 3) (Fs 3), stW G (S 4) (cs 4) (Fs 4)] : List va_W)) rfl rfl, ?_⟩
  show fSt l G X 0 0 15 [(0, .ref x0)] [] ([[cO x0 6 [.ref (a 0), .ref h0, .ref o0, .ref u0, y4, y5]], [cO h0 0 [.ref h1, vI ps]], [cQ h1 G.2.1.2.2.2 5 Q], stW G (S 0) (cs 0) (Fs 0), stW G (S 1) (cs 1) (Fs 1), stW G (S 2) (cs 2) (Fs 2), stW G (S 3) (cs 3) (Fs 3), stW G (S 4) (cs 4) (Fs 4), stW G a c F, [cO u0 5 [.ref (b 0), vI o9_12, vI pp2_12, vI rs2_12, vI ca2_12]], stW G b c2_12 F2_12, [cO o0 2 [.ref o1, vI n, vI t2_12, vI k2_12, .ref o2, vI n2_12]], [cA o1 G.2.1.2.2.1 60 tx], [cA o2 G.2.1.1 3 W2_12]] : List va_W).flatten
  have hrs := plR_rs (X := tx) (n := n) 60 f 0 0
  rw [hq3_12] at hrs
  dsimp only at hrs
  refine s_aload_n 0 C dX6_play_15 rfl 0 rfl ?_
  refine s_get C dX6_play_16 6 rfl hinX6 0 rfl 3 (by decide) (by decide +kernel) rfl ?_
  refine s_get C dX6_play_19 5 rfl hinX5 75 rfl 3 (by decide) (by decide +kernel) rfl ?_
  refine s_if_eq 28 C dX6_play_22 (by decide) (by omega) (fun h_22 => ?_) (fun h_22 => ?_)
  · refine s_aload_n 0 C dX6_play_28 rfl 0 rfl ?_
    refine s_get C dX6_play_29 6 rfl hinX6 0 rfl 1 (by decide) (by decide +kernel) rfl ?_
    refine s_aload_n 0 C dX6_play_32 rfl 0 rfl ?_
    refine s_get C dX6_play_33 6 rfl hinX6 0 rfl 0 (by decide) (by decide +kernel) rfl ?_
    refine s_callVP (As := [.ref (a 0)]) (rest := []) (segs := [[cO x0 6 [.ref (a 0), .ref h0, .ref o0, .ref u0, y4, y5]], [cO h0 0 [.ref h1, vI ps]], [cQ h1 G.2.1.2.2.2 5 Q], stW G (S 0) (cs 0) (Fs 0), stW G (S 1) (cs 1) (Fs 1), stW G (S 2) (cs 2) (Fs 2), stW G (S 3) (cs 3) (Fs 3), stW G (S 4) (cs 4) (Fs 4), stW G a c F, [cO u0 5 [.ref (b 0), vI o9_12, vI pp2_12, vI rs2_12, vI ca2_12]], stW G b c2_12 F2_12, [cO o0 2 [.ref o1, vI n, vI t2_12, vI k2_12, .ref o2, vI n2_12]], [cA o1 G.2.1.2.2.1 60 tx], [cA o2 G.2.1.1 3 W2_12]]) C dX6_play_36 (c_X0_prepare l G h0 h1 ps Q S cs Fs p a c F B f P (by first | assumption | omega) (by first | assumption | omega) (by first | assumption | omega) hH) gX6_play_X0_prepare rfl 1 (by decide +kernel) (by decide) 1 0 rfl rfl rfl [1, 2, 3, 4, 5, 6, 7, 8] [0, 9, 10, 11, 12, 13] rfl rfl rfl (Nat.le_of_ble_eq_true rfl) ⟨Nat.zero_le _, Nat.zero_le _⟩ ?_
    intro v0 w0 hq
    obtain ⟨cs2_36, Fs2_36, rfl, rfl, hq0_36, hq1_36⟩ := hq
    refine ⟨(fst_f (fst_c rfl (fst_c rfl (fst_c stW_fst (fst_c stW_fst (fst_c stW_fst (fst_c stW_fst (fst_c stW_fst rfl)))))))), [[cO x0 6 [.ref (a 0), .ref h0, .ref o0, .ref u0, y4, y5]], [cO h0 0 [.ref h1, vI ps]], [cQ h1 G.2.1.2.2.2 5 Q], stW G (S 0) (cs2_36 0) (Fs2_36 0), stW G (S 1) (cs2_36 1) (Fs2_36 1), stW G (S 2) (cs2_36 2) (Fs2_36 2), stW G (S 3) (cs2_36 3) (Fs2_36 3), stW G (S 4) (cs2_36 4) (Fs2_36 4), stW G a c F, [cO u0 5 [.ref (b 0), vI o9_12, vI pp2_12, vI rs2_12, vI ca2_12]], stW G b c2_12 F2_12, [cO o0 2 [.ref o1, vI n, vI t2_12, vI k2_12, .ref o2, vI n2_12]], [cA o1 G.2.1.2.2.1 60 tx], [cA o2 G.2.1.1 3 W2_12]], (rfl : (14 : Nat) = 14), rfl, Eq.trans (b := ([[cO x0 6 [.ref (a 0), .ref h0, .ref o0, .ref u0, y4, y5]], [cO u0 5 [.ref (b 0), vI o9_12, vI pp2_12, vI rs2_12, vI ca2_12]], stW G b c2_12 F2_12, [cO o0 2 [.ref o1, vI n, vI t2_12, vI k2_12, .ref o2, vI n2_12]], [cA o1 G.2.1.2.2.1 60 tx], [cA o2 G.2.1.1 3 W2_12]] : List va_W)) rfl rfl, ?_⟩
    show fSt l G X 0 0 39 [(0, .ref x0)] [] ([[cO x0 6 [.ref (a 0), .ref h0, .ref o0, .ref u0, y4, y5]], [cO h0 0 [.ref h1, vI ps]], [cQ h1 G.2.1.2.2.2 5 Q], stW G (S 0) (cs2_36 0) (Fs2_36 0), stW G (S 1) (cs2_36 1) (Fs2_36 1), stW G (S 2) (cs2_36 2) (Fs2_36 2), stW G (S 3) (cs2_36 3) (Fs2_36 3), stW G (S 4) (cs2_36 4) (Fs2_36 4), stW G a c F, [cO u0 5 [.ref (b 0), vI o9_12, vI pp2_12, vI rs2_12, vI ca2_12]], stW G b c2_12 F2_12, [cO o0 2 [.ref o1, vI n, vI t2_12, vI k2_12, .ref o2, vI n2_12]], [cA o1 G.2.1.2.2.1 60 tx], [cA o2 G.2.1.1 3 W2_12]] : List va_W).flatten
    refine s_aload_n 0 C dX6_play_39 rfl 0 rfl ?_
    refine s_get C dX6_play_40 6 rfl hinX6 0 rfl 0 (by decide) (by decide +kernel) rfl ?_
    refine s_aload_n 0 C dX6_play_43 rfl 0 rfl ?_
    refine s_get C dX6_play_44 6 rfl hinX6 0 rfl 3 (by decide) (by decide +kernel) rfl ?_
    refine s_get C dX6_play_47 5 rfl hinX5 75 rfl 0 (by decide) (by decide +kernel) rfl ?_
    refine s_callVP (As := [.ref (b 0)]) (rest := []) (segs := [[cO x0 6 [.ref (a 0), .ref h0, .ref o0, .ref u0, y4, y5]], [cO h0 0 [.ref h1, vI ps]], [cQ h1 G.2.1.2.2.2 5 Q], stW G (S 0) (cs2_36 0) (Fs2_36 0), stW G (S 1) (cs2_36 1) (Fs2_36 1), stW G (S 2) (cs2_36 2) (Fs2_36 2), stW G (S 3) (cs2_36 3) (Fs2_36 3), stW G (S 4) (cs2_36 4) (Fs2_36 4), stW G a c F, [cO u0 5 [.ref (b 0), vI o9_12, vI pp2_12, vI rs2_12, vI ca2_12]], stW G b c2_12 F2_12, [cO o0 2 [.ref o1, vI n, vI t2_12, vI k2_12, .ref o2, vI n2_12]], [cA o1 G.2.1.2.2.1 60 tx], [cA o2 G.2.1.1 3 W2_12]]) C dX6_play_50 (w_X4_copyFrom l G a b c2_12 c F2_12 F (B + 18300) f2_12 hq0_12 hq1_12 (by first | assumption | omega) hR.J) gX6_play_X4_copyFrom rfl 1 (by decide +kernel) (by decide) 63 4 rfl rfl rfl [8, 10] [0, 1, 2, 3, 4, 5, 6, 7, 9, 11, 12, 13] rfl rfl rfl (Nat.le_of_ble_eq_true rfl) ⟨Nat.zero_le _, Nat.zero_le _⟩ ?_
    intro v0 w0 hq
    obtain ⟨F2_50, rfl, rfl, hq0_50⟩ := hq
    refine ⟨(fst_k (fst_k (fst_k (fst_k (fst_k (fst_k (fst_k (fst_k (fst_k (fst_k (fst_k (fst_k rfl)))))))))))), [[cO x0 6 [.ref (a 0), .ref h0, .ref o0, .ref u0, y4, y5]], [cO h0 0 [.ref h1, vI ps]], [cQ h1 G.2.1.2.2.2 5 Q], stW G (S 0) (cs2_36 0) (Fs2_36 0), stW G (S 1) (cs2_36 1) (Fs2_36 1), stW G (S 2) (cs2_36 2) (Fs2_36 2), stW G (S 3) (cs2_36 3) (Fs2_36 3), stW G (S 4) (cs2_36 4) (Fs2_36 4), stW G a c2_12 F2_50, [cO u0 5 [.ref (b 0), vI o9_12, vI pp2_12, vI rs2_12, vI ca2_12]], stW G b c2_12 F2_12, [cO o0 2 [.ref o1, vI n, vI t2_12, vI k2_12, .ref o2, vI n2_12]], [cA o1 G.2.1.2.2.1 60 tx], [cA o2 G.2.1.1 3 W2_12]], (rfl : (14 : Nat) = 14), rfl, Eq.trans (b := ([[cO x0 6 [.ref (a 0), .ref h0, .ref o0, .ref u0, y4, y5]], [cO h0 0 [.ref h1, vI ps]], [cQ h1 G.2.1.2.2.2 5 Q], stW G (S 0) (cs2_36 0) (Fs2_36 0), stW G (S 1) (cs2_36 1) (Fs2_36 1), stW G (S 2) (cs2_36 2) (Fs2_36 2), stW G (S 3) (cs2_36 3) (Fs2_36 3), stW G (S 4) (cs2_36 4) (Fs2_36 4), [cO u0 5 [.ref (b 0), vI o9_12, vI pp2_12, vI rs2_12, vI ca2_12]], [cO o0 2 [.ref o1, vI n, vI t2_12, vI k2_12, .ref o2, vI n2_12]], [cA o1 G.2.1.2.2.1 60 tx], [cA o2 G.2.1.1 3 W2_12]] : List va_W)) rfl rfl, ?_⟩
    show fSt l G X 0 0 53 [(0, .ref x0)] [] ([[cO x0 6 [.ref (a 0), .ref h0, .ref o0, .ref u0, y4, y5]], [cO h0 0 [.ref h1, vI ps]], [cQ h1 G.2.1.2.2.2 5 Q], stW G (S 0) (cs2_36 0) (Fs2_36 0), stW G (S 1) (cs2_36 1) (Fs2_36 1), stW G (S 2) (cs2_36 2) (Fs2_36 2), stW G (S 3) (cs2_36 3) (Fs2_36 3), stW G (S 4) (cs2_36 4) (Fs2_36 4), stW G a c2_12 F2_50, [cO u0 5 [.ref (b 0), vI o9_12, vI pp2_12, vI rs2_12, vI ca2_12]], stW G b c2_12 F2_12, [cO o0 2 [.ref o1, vI n, vI t2_12, vI k2_12, .ref o2, vI n2_12]], [cA o1 G.2.1.2.2.1 60 tx], [cA o2 G.2.1.1 3 W2_12]] : List va_W).flatten
    refine s_aload_n 0 C dX6_play_53 rfl 0 rfl ?_
    refine s_aload_n 0 C dX6_play_54 rfl 0 rfl ?_
    refine s_get C dX6_play_55 6 rfl hinX6 0 rfl 3 (by decide) (by decide +kernel) rfl ?_
    refine s_get C dX6_play_58 5 rfl hinX5 75 rfl 1 (by decide) (by decide +kernel) rfl ?_
    refine s_callVP (As := [vI o9_12]) (rest := []) (segs := [[cO x0 6 [.ref (a 0), .ref h0, .ref o0, .ref u0, y4, y5]], [cO h0 0 [.ref h1, vI ps]], [cQ h1 G.2.1.2.2.2 5 Q], stW G (S 0) (cs2_36 0) (Fs2_36 0), stW G (S 1) (cs2_36 1) (Fs2_36 1), stW G (S 2) (cs2_36 2) (Fs2_36 2), stW G (S 3) (cs2_36 3) (Fs2_36 3), stW G (S 4) (cs2_36 4) (Fs2_36 4), stW G a c2_12 F2_50, [cO u0 5 [.ref (b 0), vI o9_12, vI pp2_12, vI rs2_12, vI ca2_12]], stW G b c2_12 F2_12, [cO o0 2 [.ref o1, vI n, vI t2_12, vI k2_12, .ref o2, vI n2_12]], [cA o1 G.2.1.2.2.1 60 tx], [cA o2 G.2.1.1 3 W2_12]]) C dX6_play_61 (c_X6_changed l G x0 h0 h1 (a 0) (.ref o0) (.ref u0) (y4) (y5) ps Q S cs2_36 Fs2_36 o9_12 (by first | assumption | omega) (by first | assumption | omega) (hq0_36.Q5)) gX6_play_X6_changed rfl 1 (by decide +kernel) (by decide) 0 6 rfl rfl rfl [0, 1, 2, 3, 4, 5, 6, 7] [8, 9, 10, 11, 12, 13] rfl rfl rfl (Nat.le_of_ble_eq_true rfl) ⟨Nat.zero_le _, Nat.zero_le _⟩ ?_
    intro v0 w0 hq
    obtain ⟨ps2_61, Q2_61, rfl, rfl, hq0_61, hq1_61⟩ := hq
    refine ⟨(fst_f (fst_c rfl (fst_c (fst_k rfl) (fst_c (fst_k rfl) rfl)))), [[cO x0 6 [.ref (a 0), .ref h0, .ref o0, .ref u0, y4, y5]], [cO h0 0 [.ref h1, vI ps2_61]], [cQ h1 G.2.1.2.2.2 5 Q2_61], stW G (S 0) (cs2_36 0) (Fs2_36 0), stW G (S 1) (cs2_36 1) (Fs2_36 1), stW G (S 2) (cs2_36 2) (Fs2_36 2), stW G (S 3) (cs2_36 3) (Fs2_36 3), stW G (S 4) (cs2_36 4) (Fs2_36 4), stW G a c2_12 F2_50, [cO u0 5 [.ref (b 0), vI o9_12, vI pp2_12, vI rs2_12, vI ca2_12]], stW G b c2_12 F2_12, [cO o0 2 [.ref o1, vI n, vI t2_12, vI k2_12, .ref o2, vI n2_12]], [cA o1 G.2.1.2.2.1 60 tx], [cA o2 G.2.1.1 3 W2_12]], (rfl : (14 : Nat) = 14), rfl, Eq.trans (b := ([stW G a c2_12 F2_50, [cO u0 5 [.ref (b 0), vI o9_12, vI pp2_12, vI rs2_12, vI ca2_12]], stW G b c2_12 F2_12, [cO o0 2 [.ref o1, vI n, vI t2_12, vI k2_12, .ref o2, vI n2_12]], [cA o1 G.2.1.2.2.1 60 tx], [cA o2 G.2.1.1 3 W2_12]] : List va_W)) rfl rfl, ?_⟩
    show fSt l G X 0 0 64 [(0, .ref x0)] [vI o9_12] ([[cO x0 6 [.ref (a 0), .ref h0, .ref o0, .ref u0, y4, y5]], [cO h0 0 [.ref h1, vI ps2_61]], [cQ h1 G.2.1.2.2.2 5 Q2_61], stW G (S 0) (cs2_36 0) (Fs2_36 0), stW G (S 1) (cs2_36 1) (Fs2_36 1), stW G (S 2) (cs2_36 2) (Fs2_36 2), stW G (S 3) (cs2_36 3) (Fs2_36 3), stW G (S 4) (cs2_36 4) (Fs2_36 4), stW G a c2_12 F2_50, [cO u0 5 [.ref (b 0), vI o9_12, vI pp2_12, vI rs2_12, vI ca2_12]], stW G b c2_12 F2_12, [cO o0 2 [.ref o1, vI n, vI t2_12, vI k2_12, .ref o2, vI n2_12]], [cA o1 G.2.1.2.2.1 60 tx], [cA o2 G.2.1.1 3 W2_12]] : List va_W).flatten
    exact s_iret C E dX6_play_64 ⟨o9_12, ps2_61, Q2_61, f2_12, (fun i => if ps = 4 then p (if i = 4 then 0 else i + 1) else p i), (pS P ps f), c2_12, F2_50, cs2_36, Fs2_36, c2_12, F2_12, W2_12, t2_12, k2_12, n2_12, o9_12, pp2_12, rs2_12, ca2_12, rfl, rfl, hq0_12.J, hq2_12, hq0_50, hq1_12, (hq0_36.keep hq1_36 hI (hq0_61.trans (if_neg (by omega))) (fun i hi => by rw [hq1_61 i hi, if_neg (by omega)])), (Or.inl ⟨by rw [hq3_12]; exact decide_eq_true h_22, by rw [hq3_12], by rw [hq3_12], rfl, hq0_61.trans (if_neg (by omega))⟩)⟩
  · refine s_ldc (z := -1000002) C (by decide +kernel) dX6_play_25 ?_
    exact s_iret C E dX6_play_27 ⟨(-1000002), ps, Q, f, p, P, c, F, cs, Fs, c2_12, F2_12, W2_12, t2_12, k2_12, n2_12, o9_12, pp2_12, rs2_12, ca2_12, rfl, rfl, hq0_12.J, hq2_12, hR, (hI.mono (by omega)), hH, (Or.inr ⟨by rw [hq3_12]; exact decide_eq_false h_22, rfl, rfl, rfl, rfl⟩)⟩

set_option maxHeartbeats 4000000 in
set_option maxRecDepth 100000 in
theorem c_X6_recordOf (l : Launch) (G : fG) (x0 h0 : Nat) (y2 y3 y4 y5 : Value) (a : Nat → Nat) (c : Nat → Int) (F : Nat → Int → Int) (B : Int) (f : Int → Int) (r wh : Int) (hR : RSb f c F) (hI : Inv B f) (hB : B ≤ 1073000000) (hr : -2147483648 ≤ r ∧ r < 2147483648) (hwh : -2147483648 ≤ wh ∧ wh < 2147483648) : fCt l G yX6_recordOf wsX6_recordOf 2 42 0 0 [.ref x0, vI r, vI wh] [cO x0 6 [.ref (a 0), .ref h0, y2, y3, y4, y5], cO (a 0) 4 [.ref (a 1), .ref (a 7), .ref (a 9), .ref (a 11), vI (c 1), vI (c 2), vI (c 3), vI (c 4), vI (c 5), vI (c 6), vI (c 7), vI (c 8)], cO (a 1) 1 [vI (c 0), .ref (a 2), .ref (a 3), .ref (a 4), .ref (a 5), .ref (a 6)], cA (a 2) G.2.1.1 100 (F 3), cA (a 3) G.2.1.1 100 (F 4), cA (a 4) G.2.1.1 100 (F 5), cA (a 5) G.2.1.1 100 (F 6), cA (a 6) G.2.1.1 100 (F 7), cO (a 7) 3 [vI (c 9), vI (c 10), vI (c 11), .ref (a 8)], cA (a 8) G.2.1.2.1 101 (F 1), cO (a 9) 3 [vI (c 12), vI (c 13), vI (c 14), .ref (a 10)], cA (a 10) G.2.1.2.1 101 (F 2), cA (a 11) G.2.1.1 3 (F 0)] (fun (v0 : Option Value) (w0 : va_W) => v0 = some (vI (sp_rec f r wh)) ∧ w0 = [cO x0 6 [.ref (a 0), .ref h0, y2, y3, y4, y5], cO (a 0) 4 [.ref (a 1), .ref (a 7), .ref (a 9), .ref (a 11), vI (c 1), vI (c 2), vI (c 3), vI (c 4), vI (c 5), vI (c 6), vI (c 7), vI (c 8)], cO (a 1) 1 [vI (c 0), .ref (a 2), .ref (a 3), .ref (a 4), .ref (a 5), .ref (a 6)], cA (a 2) G.2.1.1 100 (F 3), cA (a 3) G.2.1.1 100 (F 4), cA (a 4) G.2.1.1 100 (F 5), cA (a 5) G.2.1.1 100 (F 6), cA (a 6) G.2.1.1 100 (F 7), cO (a 7) 3 [vI (c 9), vI (c 10), vI (c 11), .ref (a 8)], cA (a 8) G.2.1.2.1 101 (F 1), cO (a 9) 3 [vI (c 12), vI (c 13), vI (c 14), .ref (a 10)], cA (a 10) G.2.1.2.1 101 (F 2), cA (a 11) G.2.1.1 3 (F 0)]) := by
  refine fs_met (cc := cX6_recordOf) (nL := 5) (ret := (some .int)) (by decide) rfl (Nat.le_of_ble_eq_true rfl) ?_
  intro X C E
  show fSt l G X 0 0 0 [(0, .ref x0), (1, vI r), (2, vI wh)] [] [cO x0 6 [.ref (a 0), .ref h0, y2, y3, y4, y5], cO (a 0) 4 [.ref (a 1), .ref (a 7), .ref (a 9), .ref (a 11), vI (c 1), vI (c 2), vI (c 3), vI (c 4), vI (c 5), vI (c 6), vI (c 7), vI (c 8)], cO (a 1) 1 [vI (c 0), .ref (a 2), .ref (a 3), .ref (a 4), .ref (a 5), .ref (a 6)], cA (a 2) G.2.1.1 100 (F 3), cA (a 3) G.2.1.1 100 (F 4), cA (a 4) G.2.1.1 100 (F 5), cA (a 5) G.2.1.1 100 (F 6), cA (a 6) G.2.1.1 100 (F 7), cO (a 7) 3 [vI (c 9), vI (c 10), vI (c 11), .ref (a 8)], cA (a 8) G.2.1.2.1 101 (F 1), cO (a 9) 3 [vI (c 12), vI (c 13), vI (c 14), .ref (a 10)], cA (a 10) G.2.1.2.1 101 (F 2), cA (a 11) G.2.1.1 3 (F 0)]
  have hinX4 : ∀ w ∈ u_ws RX4 TX4 12, w ∈ wsX6_recordOf := by decide +kernel
  have hinX6 : ∀ w ∈ u_ws RX6 TX6 6, w ∈ wsX6_recordOf := by decide +kernel
  obtain ⟨hn, htk, hln, htr, hlc, hlo, hap, hrt, hdl, hS0, hS1⟩ := RS.scal hR hI
  have hK : rF (F 3) := RS.hrK hR
  have hT : rF (F 4) := RS.hrT hR
  have hY : rF (F 5) := RS.hrY hR
  have hV : rF (F 6) := RS.hrV hR
  have hA : rF (F 7) := RS.hrA hR
  have hsl : rF (F 0) := RS.hrs hR
  have hg0 : gF (F 1) := RS.hG0 hR
  have hg1 : gF (F 2) := RS.hG1 hR
  have hb0 := RS.b0 hR
  have hb1 := RS.b1 hR
  have en := RS.e_n hR
  have hin := hI.n
  refine s_iload_n 1 C dX6_recordOf_0 rfl 1 rfl ?_
  refine s_iconst C dX6_recordOf_1 ?_
  refine s_icmp_lt 14 C dX6_recordOf_2 (by decide) (by omega) (by omega) (fun h_2 => ?_) (fun h_2 => ?_)
  · refine s_ldc (z := -1000001) C (by decide +kernel) dX6_recordOf_14 ?_
    exact s_iret C E dX6_recordOf_16 ⟨congrArg (fun z => some (vI z)) (by rw [sp_rec, if_neg (by omega)]), rfl⟩
  · refine s_iload_n 2 C dX6_recordOf_5 rfl 2 rfl ?_
    refine s_if_lt 14 C dX6_recordOf_6 (by decide) (by omega) (fun h_6 => ?_) (fun h_6 => ?_)
    · refine s_ldc (z := -1000001) C (by decide +kernel) dX6_recordOf_14 ?_
      exact s_iret C E dX6_recordOf_16 ⟨congrArg (fun z => some (vI z)) (by rw [sp_rec, if_neg (by omega)]), rfl⟩
    · refine s_iload_n 2 C dX6_recordOf_9 rfl 2 rfl ?_
      refine s_iconst C dX6_recordOf_10 ?_
      refine s_icmp_le 17 C dX6_recordOf_11 (by decide) (by omega) (by omega) (fun h_11 => ?_) (fun h_11 => ?_)
      · refine s_aload_n 0 C dX6_recordOf_17 rfl 0 rfl ?_
        refine s_get C dX6_recordOf_18 6 rfl hinX6 0 rfl 0 (by decide) (by decide +kernel) rfl ?_
        refine s_get C dX6_recordOf_21 4 rfl hinX4 1 rfl 0 (by decide) (by decide +kernel) rfl ?_
        refine s_astore_n 3 [(3, .ref (a 1)), (0, .ref x0), (1, vI r), (2, vI wh)] C dX6_recordOf_24 rfl (by decide) rfl ?_
        refine s_iload_n 2 C dX6_recordOf_25 rfl 3 rfl ?_
        refine s_iconst C dX6_recordOf_26 ?_
        refine s_icmp_eq 35 C dX6_recordOf_27 (by decide) (by omega) (by omega) (fun h_27 => ?_) (fun h_27 => ?_)
        · refine s_iconst C dX6_recordOf_35 ?_
          refine s_goto 40 C dX6_recordOf_36 (by decide) ?_
          refine s_istore [(4, vI 1), (3, .ref (a 1)), (0, .ref x0), (1, vI r), (2, vI wh)] C dX6_recordOf_40 (by decide) rfl ?_
          refine s_aload_n 3 C dX6_recordOf_42 rfl 1 rfl ?_
          refine s_iload_n 1 C dX6_recordOf_43 rfl 3 rfl ?_
          refine s_callV (As := [vI r]) (rest := []) C dX6_recordOf_44 (c_X1_has l G (a 1) (a 2) (a 3) (a 4) (a 5) (a 6) (c 0) (F 3) (F 4) (F 5) (F 6) (F 7) r (by first | assumption | omega) (by first | assumption | omega)) gX6_recordOf_X1_has rfl 1 (by decide +kernel) (by decide) 2 1 rfl rfl rfl [2, 3, 4, 5, 6, 7] rfl (by decide) rfl (Nat.le_of_ble_eq_true rfl) ⟨Nat.zero_le _, Nat.zero_le _⟩ ?_
          intro v0 w0 hq
          obtain ⟨rfl, rfl⟩ := hq
          refine ⟨rfl, ?_⟩
          show fSt l G X 0 0 47 [(4, vI 1), (3, .ref (a 1)), (0, .ref x0), (1, vI r), (2, vI wh)] [vI (bI (1 ≤ r ∧ r ≤ (c 0)))] [cO x0 6 [.ref (a 0), .ref h0, y2, y3, y4, y5], cO (a 0) 4 [.ref (a 1), .ref (a 7), .ref (a 9), .ref (a 11), vI (c 1), vI (c 2), vI (c 3), vI (c 4), vI (c 5), vI (c 6), vI (c 7), vI (c 8)], cO (a 1) 1 [vI (c 0), .ref (a 2), .ref (a 3), .ref (a 4), .ref (a 5), .ref (a 6)], cA (a 2) G.2.1.1 100 (F 3), cA (a 3) G.2.1.1 100 (F 4), cA (a 4) G.2.1.1 100 (F 5), cA (a 5) G.2.1.1 100 (F 6), cA (a 6) G.2.1.1 100 (F 7), cO (a 7) 3 [vI (c 9), vI (c 10), vI (c 11), .ref (a 8)], cA (a 8) G.2.1.2.1 101 (F 1), cO (a 9) 3 [vI (c 12), vI (c 13), vI (c 14), .ref (a 10)], cA (a 10) G.2.1.2.1 101 (F 2), cA (a 11) G.2.1.1 3 (F 0)]
          refine s_if_eq 63 C dX6_recordOf_47 (by decide) bI_rng (fun h_47 => ?_) (fun h_47 => ?_)
          · have h_47 := bI_f h_47
            refine s_ldc (z := -1000004) C (by decide +kernel) dX6_recordOf_63 ?_
            exact s_iret C E dX6_recordOf_65 ⟨congrArg (fun z => some (vI z)) (by first | (rw [sp_rec, if_pos (by omega), if_pos (by omega)]; done) | (have hre := hI.Re r (by omega) (by omega) (by rw [← q_gK hR (r := r) ⟨by omega, by omega⟩]; omega); rw [sp_rec, if_pos (by omega), if_neg (by omega)]; rcases (by omega : wh = 2 ∨ wh = 3) with e | e <;> rw [e] <;> omega)), rfl⟩
          · have h_47 := bI_t h_47
            refine s_iload C dX6_recordOf_50 0 rfl ?_
            refine s_if_eq 66 C dX6_recordOf_52 (by decide) (by decide) (fun h => absurd h (by decide)) (fun h => ?_)
            refine s_aload_n 3 C dX6_recordOf_55 rfl 1 rfl ?_
            refine s_iload_n 1 C dX6_recordOf_56 rfl 3 rfl ?_
            refine s_callV (As := [vI r]) (rest := []) C dX6_recordOf_57 (c_X1_kindOf l G (a 1) (a 2) (a 3) (a 4) (a 5) (a 6) (c 0) (F 3) (F 4) (F 5) (F 6) (F 7) r (by first | assumption | omega) (by first | assumption | omega)) gX6_recordOf_X1_kindOf rfl 1 (by decide +kernel) (by decide) 2 1 rfl rfl rfl [2, 3, 4, 5, 6, 7] rfl (by decide) rfl (Nat.le_of_ble_eq_true rfl) ⟨Nat.zero_le _, Nat.zero_le _⟩ ?_
            intro v0 w0 hq
            obtain ⟨rfl, rfl⟩ := hq
            refine ⟨rfl, ?_⟩
            show fSt l G X 0 0 60 [(4, vI 1), (3, .ref (a 1)), (0, .ref x0), (1, vI r), (2, vI wh)] [vI (gR (c 0) (F 3) r)] [cO x0 6 [.ref (a 0), .ref h0, y2, y3, y4, y5], cO (a 0) 4 [.ref (a 1), .ref (a 7), .ref (a 9), .ref (a 11), vI (c 1), vI (c 2), vI (c 3), vI (c 4), vI (c 5), vI (c 6), vI (c 7), vI (c 8)], cO (a 1) 1 [vI (c 0), .ref (a 2), .ref (a 3), .ref (a 4), .ref (a 5), .ref (a 6)], cA (a 2) G.2.1.1 100 (F 3), cA (a 3) G.2.1.1 100 (F 4), cA (a 4) G.2.1.1 100 (F 5), cA (a 5) G.2.1.1 100 (F 6), cA (a 6) G.2.1.1 100 (F 7), cO (a 7) 3 [vI (c 9), vI (c 10), vI (c 11), .ref (a 8)], cA (a 8) G.2.1.2.1 101 (F 1), cO (a 9) 3 [vI (c 12), vI (c 13), vI (c 14), .ref (a 10)], cA (a 10) G.2.1.2.1 101 (F 2), cA (a 11) G.2.1.1 3 (F 0)]
            refine s_if_eq 66 C dX6_recordOf_60 (by decide) (gR_r hK _) (fun h_60 => ?_) (fun h_60 => ?_)
            · refine s_iload_n 2 C dX6_recordOf_66 rfl 4 rfl ?_
              rcases (by omega : wh = 0 ∨ wh = 1 ∨ wh = 2 ∨ wh = 3 ∨ (wh < 0 ∨ 3 < wh)) with h_67 | h_67 | h_67 | h_67 | h_67
              · refine s_tabIn 96 (off := 29) C dX6_recordOf_67 (by omega) (by omega) (by omega) (by rw [h_67]; rfl) (by decide) ?_
                refine s_aload_n 3 C dX6_recordOf_96 rfl 1 rfl ?_
                refine s_iload_n 1 C dX6_recordOf_97 rfl 3 rfl ?_
                refine s_callV (As := [vI r]) (rest := []) C dX6_recordOf_98 (c_X1_kindOf l G (a 1) (a 2) (a 3) (a 4) (a 5) (a 6) (c 0) (F 3) (F 4) (F 5) (F 6) (F 7) r (by first | assumption | omega) (by first | assumption | omega)) gX6_recordOf_X1_kindOf rfl 1 (by decide +kernel) (by decide) 2 1 rfl rfl rfl [2, 3, 4, 5, 6, 7] rfl (by decide) rfl (Nat.le_of_ble_eq_true rfl) ⟨Nat.zero_le _, Nat.zero_le _⟩ ?_
                intro v0 w0 hq
                obtain ⟨rfl, rfl⟩ := hq
                refine ⟨rfl, ?_⟩
                show fSt l G X 0 0 101 [(4, vI 1), (3, .ref (a 1)), (0, .ref x0), (1, vI r), (2, vI wh)] [vI (gR (c 0) (F 3) r)] [cO x0 6 [.ref (a 0), .ref h0, y2, y3, y4, y5], cO (a 0) 4 [.ref (a 1), .ref (a 7), .ref (a 9), .ref (a 11), vI (c 1), vI (c 2), vI (c 3), vI (c 4), vI (c 5), vI (c 6), vI (c 7), vI (c 8)], cO (a 1) 1 [vI (c 0), .ref (a 2), .ref (a 3), .ref (a 4), .ref (a 5), .ref (a 6)], cA (a 2) G.2.1.1 100 (F 3), cA (a 3) G.2.1.1 100 (F 4), cA (a 4) G.2.1.1 100 (F 5), cA (a 5) G.2.1.1 100 (F 6), cA (a 6) G.2.1.1 100 (F 7), cO (a 7) 3 [vI (c 9), vI (c 10), vI (c 11), .ref (a 8)], cA (a 8) G.2.1.2.1 101 (F 1), cO (a 9) 3 [vI (c 12), vI (c 13), vI (c 14), .ref (a 10)], cA (a 10) G.2.1.2.1 101 (F 2), cA (a 11) G.2.1.1 3 (F 0)]
                exact s_iret C E dX6_recordOf_101 ⟨congrArg (fun z => some (vI z)) (by rw [sp_rec, if_pos (by omega), if_neg (by omega), h_67]; exact q_gK hR ⟨by omega, by omega⟩), rfl⟩
              · refine s_tabIn 102 (off := 35) C dX6_recordOf_67 (by omega) (by omega) (by omega) (by rw [h_67]; rfl) (by decide) ?_
                refine s_aload_n 3 C dX6_recordOf_102 rfl 1 rfl ?_
                refine s_iload_n 1 C dX6_recordOf_103 rfl 3 rfl ?_
                refine s_callV (As := [vI r]) (rest := []) C dX6_recordOf_104 (c_X1_transactionOf l G (a 1) (a 2) (a 3) (a 4) (a 5) (a 6) (c 0) (F 3) (F 4) (F 5) (F 6) (F 7) r (by first | assumption | omega) (by first | assumption | omega)) gX6_recordOf_X1_transactionOf rfl 1 (by decide +kernel) (by decide) 2 1 rfl rfl rfl [2, 3, 4, 5, 6, 7] rfl (by decide) rfl (Nat.le_of_ble_eq_true rfl) ⟨Nat.zero_le _, Nat.zero_le _⟩ ?_
                intro v0 w0 hq
                obtain ⟨rfl, rfl⟩ := hq
                refine ⟨rfl, ?_⟩
                show fSt l G X 0 0 107 [(4, vI 1), (3, .ref (a 1)), (0, .ref x0), (1, vI r), (2, vI wh)] [vI (gR (c 0) (F 4) r)] [cO x0 6 [.ref (a 0), .ref h0, y2, y3, y4, y5], cO (a 0) 4 [.ref (a 1), .ref (a 7), .ref (a 9), .ref (a 11), vI (c 1), vI (c 2), vI (c 3), vI (c 4), vI (c 5), vI (c 6), vI (c 7), vI (c 8)], cO (a 1) 1 [vI (c 0), .ref (a 2), .ref (a 3), .ref (a 4), .ref (a 5), .ref (a 6)], cA (a 2) G.2.1.1 100 (F 3), cA (a 3) G.2.1.1 100 (F 4), cA (a 4) G.2.1.1 100 (F 5), cA (a 5) G.2.1.1 100 (F 6), cA (a 6) G.2.1.1 100 (F 7), cO (a 7) 3 [vI (c 9), vI (c 10), vI (c 11), .ref (a 8)], cA (a 8) G.2.1.2.1 101 (F 1), cO (a 9) 3 [vI (c 12), vI (c 13), vI (c 14), .ref (a 10)], cA (a 10) G.2.1.2.1 101 (F 2), cA (a 11) G.2.1.1 3 (F 0)]
                exact s_iret C E dX6_recordOf_107 ⟨congrArg (fun z => some (vI z)) (by rw [sp_rec, if_pos (by omega), if_neg (by omega), h_67]; exact q_gT hR ⟨by omega, by omega⟩), rfl⟩
              · refine s_tabIn 108 (off := 41) C dX6_recordOf_67 (by omega) (by omega) (by omega) (by rw [h_67]; rfl) (by decide) ?_
                refine s_aload_n 3 C dX6_recordOf_108 rfl 1 rfl ?_
                refine s_iload_n 1 C dX6_recordOf_109 rfl 3 rfl ?_
                refine s_callV (As := [vI r]) (rest := []) C dX6_recordOf_110 (c_X1_keyOf l G (a 1) (a 2) (a 3) (a 4) (a 5) (a 6) (c 0) (F 3) (F 4) (F 5) (F 6) (F 7) r (by first | assumption | omega) (by first | assumption | omega)) gX6_recordOf_X1_keyOf rfl 1 (by decide +kernel) (by decide) 2 1 rfl rfl rfl [2, 3, 4, 5, 6, 7] rfl (by decide) rfl (Nat.le_of_ble_eq_true rfl) ⟨Nat.zero_le _, Nat.zero_le _⟩ ?_
                intro v0 w0 hq
                obtain ⟨rfl, rfl⟩ := hq
                refine ⟨rfl, ?_⟩
                show fSt l G X 0 0 113 [(4, vI 1), (3, .ref (a 1)), (0, .ref x0), (1, vI r), (2, vI wh)] [vI (gR (c 0) (F 5) r)] [cO x0 6 [.ref (a 0), .ref h0, y2, y3, y4, y5], cO (a 0) 4 [.ref (a 1), .ref (a 7), .ref (a 9), .ref (a 11), vI (c 1), vI (c 2), vI (c 3), vI (c 4), vI (c 5), vI (c 6), vI (c 7), vI (c 8)], cO (a 1) 1 [vI (c 0), .ref (a 2), .ref (a 3), .ref (a 4), .ref (a 5), .ref (a 6)], cA (a 2) G.2.1.1 100 (F 3), cA (a 3) G.2.1.1 100 (F 4), cA (a 4) G.2.1.1 100 (F 5), cA (a 5) G.2.1.1 100 (F 6), cA (a 6) G.2.1.1 100 (F 7), cO (a 7) 3 [vI (c 9), vI (c 10), vI (c 11), .ref (a 8)], cA (a 8) G.2.1.2.1 101 (F 1), cO (a 9) 3 [vI (c 12), vI (c 13), vI (c 14), .ref (a 10)], cA (a 10) G.2.1.2.1 101 (F 2), cA (a 11) G.2.1.1 3 (F 0)]
                exact s_iret C E dX6_recordOf_113 ⟨congrArg (fun z => some (vI z)) (by rw [sp_rec, if_pos (by omega), if_neg (by omega), h_67]; exact q_gY hR ⟨by omega, by omega⟩ (by rw [← q_gK hR (r := r) ⟨by omega, by omega⟩]; omega)), rfl⟩
              · refine s_tabIn 114 (off := 47) C dX6_recordOf_67 (by omega) (by omega) (by omega) (by rw [h_67]; rfl) (by decide) ?_
                refine s_aload_n 3 C dX6_recordOf_114 rfl 1 rfl ?_
                refine s_iload_n 1 C dX6_recordOf_115 rfl 3 rfl ?_
                refine s_callV (As := [vI r]) (rest := []) C dX6_recordOf_116 (c_X1_valueIn l G (a 1) (a 2) (a 3) (a 4) (a 5) (a 6) (c 0) (F 3) (F 4) (F 5) (F 6) (F 7) r (by first | assumption | omega) (by first | assumption | omega)) gX6_recordOf_X1_valueIn rfl 1 (by decide +kernel) (by decide) 2 1 rfl rfl rfl [2, 3, 4, 5, 6, 7] rfl (by decide) rfl (Nat.le_of_ble_eq_true rfl) ⟨Nat.zero_le _, Nat.zero_le _⟩ ?_
                intro v0 w0 hq
                obtain ⟨rfl, rfl⟩ := hq
                refine ⟨rfl, ?_⟩
                show fSt l G X 0 0 119 [(4, vI 1), (3, .ref (a 1)), (0, .ref x0), (1, vI r), (2, vI wh)] [vI (gR (c 0) (F 6) r)] [cO x0 6 [.ref (a 0), .ref h0, y2, y3, y4, y5], cO (a 0) 4 [.ref (a 1), .ref (a 7), .ref (a 9), .ref (a 11), vI (c 1), vI (c 2), vI (c 3), vI (c 4), vI (c 5), vI (c 6), vI (c 7), vI (c 8)], cO (a 1) 1 [vI (c 0), .ref (a 2), .ref (a 3), .ref (a 4), .ref (a 5), .ref (a 6)], cA (a 2) G.2.1.1 100 (F 3), cA (a 3) G.2.1.1 100 (F 4), cA (a 4) G.2.1.1 100 (F 5), cA (a 5) G.2.1.1 100 (F 6), cA (a 6) G.2.1.1 100 (F 7), cO (a 7) 3 [vI (c 9), vI (c 10), vI (c 11), .ref (a 8)], cA (a 8) G.2.1.2.1 101 (F 1), cO (a 9) 3 [vI (c 12), vI (c 13), vI (c 14), .ref (a 10)], cA (a 10) G.2.1.2.1 101 (F 2), cA (a 11) G.2.1.1 3 (F 0)]
                exact s_iret C E dX6_recordOf_119 ⟨congrArg (fun z => some (vI z)) (by rw [sp_rec, if_pos (by omega), if_neg (by omega), h_67]; exact q_gV hR ⟨by omega, by omega⟩ (by rw [← q_gK hR (r := r) ⟨by omega, by omega⟩]; omega)), rfl⟩
              · refine s_tabOut 120 C dX6_recordOf_67 (by omega) h_67 (by decide) ?_
                refine s_aload_n 3 C dX6_recordOf_120 rfl 1 rfl ?_
                refine s_iload_n 1 C dX6_recordOf_121 rfl 3 rfl ?_
                refine s_callV (As := [vI r]) (rest := []) C dX6_recordOf_122 (c_X1_tickOf l G (a 1) (a 2) (a 3) (a 4) (a 5) (a 6) (c 0) (F 3) (F 4) (F 5) (F 6) (F 7) r (by first | assumption | omega) (by first | assumption | omega)) gX6_recordOf_X1_tickOf rfl 1 (by decide +kernel) (by decide) 2 1 rfl rfl rfl [2, 3, 4, 5, 6, 7] rfl (by decide) rfl (Nat.le_of_ble_eq_true rfl) ⟨Nat.zero_le _, Nat.zero_le _⟩ ?_
                intro v0 w0 hq
                obtain ⟨rfl, rfl⟩ := hq
                refine ⟨rfl, ?_⟩
                show fSt l G X 0 0 125 [(4, vI 1), (3, .ref (a 1)), (0, .ref x0), (1, vI r), (2, vI wh)] [vI (gR (c 0) (F 7) r)] [cO x0 6 [.ref (a 0), .ref h0, y2, y3, y4, y5], cO (a 0) 4 [.ref (a 1), .ref (a 7), .ref (a 9), .ref (a 11), vI (c 1), vI (c 2), vI (c 3), vI (c 4), vI (c 5), vI (c 6), vI (c 7), vI (c 8)], cO (a 1) 1 [vI (c 0), .ref (a 2), .ref (a 3), .ref (a 4), .ref (a 5), .ref (a 6)], cA (a 2) G.2.1.1 100 (F 3), cA (a 3) G.2.1.1 100 (F 4), cA (a 4) G.2.1.1 100 (F 5), cA (a 5) G.2.1.1 100 (F 6), cA (a 6) G.2.1.1 100 (F 7), cO (a 7) 3 [vI (c 9), vI (c 10), vI (c 11), .ref (a 8)], cA (a 8) G.2.1.2.1 101 (F 1), cO (a 9) 3 [vI (c 12), vI (c 13), vI (c 14), .ref (a 10)], cA (a 10) G.2.1.2.1 101 (F 2), cA (a 11) G.2.1.1 3 (F 0)]
                exact s_iret C E dX6_recordOf_125 ⟨congrArg (fun z => some (vI z)) (by rw [sp_rec, if_pos (by omega), if_neg (by omega), show wh = 4 by omega]; exact q_gA hR ⟨by omega, by omega⟩), rfl⟩
            · refine s_ldc (z := -1000004) C (by decide +kernel) dX6_recordOf_63 ?_
              exact s_iret C E dX6_recordOf_65 ⟨congrArg (fun z => some (vI z)) (by first | (rw [sp_rec, if_pos (by omega), if_pos (by omega)]; done) | (have hre := hI.Re r (by omega) (by omega) (by rw [← q_gK hR (r := r) ⟨by omega, by omega⟩]; omega); rw [sp_rec, if_pos (by omega), if_neg (by omega)]; rcases (by omega : wh = 2 ∨ wh = 3) with e | e <;> rw [e] <;> omega)), rfl⟩
        · refine s_iload_n 2 C dX6_recordOf_30 rfl 3 rfl ?_
          refine s_iconst C dX6_recordOf_31 ?_
          refine s_icmp_ne 39 C dX6_recordOf_32 (by decide) (by omega) (by omega) (fun h_32 => ?_) (fun h_32 => ?_)
          · refine s_iconst C dX6_recordOf_39 ?_
            refine s_istore [(4, vI 0), (3, .ref (a 1)), (0, .ref x0), (1, vI r), (2, vI wh)] C dX6_recordOf_40 (by decide) rfl ?_
            refine s_aload_n 3 C dX6_recordOf_42 rfl 1 rfl ?_
            refine s_iload_n 1 C dX6_recordOf_43 rfl 3 rfl ?_
            refine s_callV (As := [vI r]) (rest := []) C dX6_recordOf_44 (c_X1_has l G (a 1) (a 2) (a 3) (a 4) (a 5) (a 6) (c 0) (F 3) (F 4) (F 5) (F 6) (F 7) r (by first | assumption | omega) (by first | assumption | omega)) gX6_recordOf_X1_has rfl 1 (by decide +kernel) (by decide) 2 1 rfl rfl rfl [2, 3, 4, 5, 6, 7] rfl (by decide) rfl (Nat.le_of_ble_eq_true rfl) ⟨Nat.zero_le _, Nat.zero_le _⟩ ?_
            intro v0 w0 hq
            obtain ⟨rfl, rfl⟩ := hq
            refine ⟨rfl, ?_⟩
            show fSt l G X 0 0 47 [(4, vI 0), (3, .ref (a 1)), (0, .ref x0), (1, vI r), (2, vI wh)] [vI (bI (1 ≤ r ∧ r ≤ (c 0)))] [cO x0 6 [.ref (a 0), .ref h0, y2, y3, y4, y5], cO (a 0) 4 [.ref (a 1), .ref (a 7), .ref (a 9), .ref (a 11), vI (c 1), vI (c 2), vI (c 3), vI (c 4), vI (c 5), vI (c 6), vI (c 7), vI (c 8)], cO (a 1) 1 [vI (c 0), .ref (a 2), .ref (a 3), .ref (a 4), .ref (a 5), .ref (a 6)], cA (a 2) G.2.1.1 100 (F 3), cA (a 3) G.2.1.1 100 (F 4), cA (a 4) G.2.1.1 100 (F 5), cA (a 5) G.2.1.1 100 (F 6), cA (a 6) G.2.1.1 100 (F 7), cO (a 7) 3 [vI (c 9), vI (c 10), vI (c 11), .ref (a 8)], cA (a 8) G.2.1.2.1 101 (F 1), cO (a 9) 3 [vI (c 12), vI (c 13), vI (c 14), .ref (a 10)], cA (a 10) G.2.1.2.1 101 (F 2), cA (a 11) G.2.1.1 3 (F 0)]
            refine s_if_eq 63 C dX6_recordOf_47 (by decide) bI_rng (fun h_47 => ?_) (fun h_47 => ?_)
            · have h_47 := bI_f h_47
              refine s_ldc (z := -1000004) C (by decide +kernel) dX6_recordOf_63 ?_
              exact s_iret C E dX6_recordOf_65 ⟨congrArg (fun z => some (vI z)) (by first | (rw [sp_rec, if_pos (by omega), if_pos (by omega)]; done) | (have hre := hI.Re r (by omega) (by omega) (by rw [← q_gK hR (r := r) ⟨by omega, by omega⟩]; omega); rw [sp_rec, if_pos (by omega), if_neg (by omega)]; rcases (by omega : wh = 2 ∨ wh = 3) with e | e <;> rw [e] <;> omega)), rfl⟩
            · have h_47 := bI_t h_47
              refine s_iload C dX6_recordOf_50 0 rfl ?_
              refine s_if_eq 66 C dX6_recordOf_52 (by decide) (by decide) (fun h => ?_) (fun h => absurd h (by decide))
              refine s_iload_n 2 C dX6_recordOf_66 rfl 4 rfl ?_
              rcases (by omega : wh = 0 ∨ wh = 1 ∨ wh = 2 ∨ wh = 3 ∨ (wh < 0 ∨ 3 < wh)) with h_67 | h_67 | h_67 | h_67 | h_67
              · refine s_tabIn 96 (off := 29) C dX6_recordOf_67 (by omega) (by omega) (by omega) (by rw [h_67]; rfl) (by decide) ?_
                refine s_aload_n 3 C dX6_recordOf_96 rfl 1 rfl ?_
                refine s_iload_n 1 C dX6_recordOf_97 rfl 3 rfl ?_
                refine s_callV (As := [vI r]) (rest := []) C dX6_recordOf_98 (c_X1_kindOf l G (a 1) (a 2) (a 3) (a 4) (a 5) (a 6) (c 0) (F 3) (F 4) (F 5) (F 6) (F 7) r (by first | assumption | omega) (by first | assumption | omega)) gX6_recordOf_X1_kindOf rfl 1 (by decide +kernel) (by decide) 2 1 rfl rfl rfl [2, 3, 4, 5, 6, 7] rfl (by decide) rfl (Nat.le_of_ble_eq_true rfl) ⟨Nat.zero_le _, Nat.zero_le _⟩ ?_
                intro v0 w0 hq
                obtain ⟨rfl, rfl⟩ := hq
                refine ⟨rfl, ?_⟩
                show fSt l G X 0 0 101 [(4, vI 0), (3, .ref (a 1)), (0, .ref x0), (1, vI r), (2, vI wh)] [vI (gR (c 0) (F 3) r)] [cO x0 6 [.ref (a 0), .ref h0, y2, y3, y4, y5], cO (a 0) 4 [.ref (a 1), .ref (a 7), .ref (a 9), .ref (a 11), vI (c 1), vI (c 2), vI (c 3), vI (c 4), vI (c 5), vI (c 6), vI (c 7), vI (c 8)], cO (a 1) 1 [vI (c 0), .ref (a 2), .ref (a 3), .ref (a 4), .ref (a 5), .ref (a 6)], cA (a 2) G.2.1.1 100 (F 3), cA (a 3) G.2.1.1 100 (F 4), cA (a 4) G.2.1.1 100 (F 5), cA (a 5) G.2.1.1 100 (F 6), cA (a 6) G.2.1.1 100 (F 7), cO (a 7) 3 [vI (c 9), vI (c 10), vI (c 11), .ref (a 8)], cA (a 8) G.2.1.2.1 101 (F 1), cO (a 9) 3 [vI (c 12), vI (c 13), vI (c 14), .ref (a 10)], cA (a 10) G.2.1.2.1 101 (F 2), cA (a 11) G.2.1.1 3 (F 0)]
                exact s_iret C E dX6_recordOf_101 ⟨congrArg (fun z => some (vI z)) (by rw [sp_rec, if_pos (by omega), if_neg (by omega), h_67]; exact q_gK hR ⟨by omega, by omega⟩), rfl⟩
              · refine s_tabIn 102 (off := 35) C dX6_recordOf_67 (by omega) (by omega) (by omega) (by rw [h_67]; rfl) (by decide) ?_
                refine s_aload_n 3 C dX6_recordOf_102 rfl 1 rfl ?_
                refine s_iload_n 1 C dX6_recordOf_103 rfl 3 rfl ?_
                refine s_callV (As := [vI r]) (rest := []) C dX6_recordOf_104 (c_X1_transactionOf l G (a 1) (a 2) (a 3) (a 4) (a 5) (a 6) (c 0) (F 3) (F 4) (F 5) (F 6) (F 7) r (by first | assumption | omega) (by first | assumption | omega)) gX6_recordOf_X1_transactionOf rfl 1 (by decide +kernel) (by decide) 2 1 rfl rfl rfl [2, 3, 4, 5, 6, 7] rfl (by decide) rfl (Nat.le_of_ble_eq_true rfl) ⟨Nat.zero_le _, Nat.zero_le _⟩ ?_
                intro v0 w0 hq
                obtain ⟨rfl, rfl⟩ := hq
                refine ⟨rfl, ?_⟩
                show fSt l G X 0 0 107 [(4, vI 0), (3, .ref (a 1)), (0, .ref x0), (1, vI r), (2, vI wh)] [vI (gR (c 0) (F 4) r)] [cO x0 6 [.ref (a 0), .ref h0, y2, y3, y4, y5], cO (a 0) 4 [.ref (a 1), .ref (a 7), .ref (a 9), .ref (a 11), vI (c 1), vI (c 2), vI (c 3), vI (c 4), vI (c 5), vI (c 6), vI (c 7), vI (c 8)], cO (a 1) 1 [vI (c 0), .ref (a 2), .ref (a 3), .ref (a 4), .ref (a 5), .ref (a 6)], cA (a 2) G.2.1.1 100 (F 3), cA (a 3) G.2.1.1 100 (F 4), cA (a 4) G.2.1.1 100 (F 5), cA (a 5) G.2.1.1 100 (F 6), cA (a 6) G.2.1.1 100 (F 7), cO (a 7) 3 [vI (c 9), vI (c 10), vI (c 11), .ref (a 8)], cA (a 8) G.2.1.2.1 101 (F 1), cO (a 9) 3 [vI (c 12), vI (c 13), vI (c 14), .ref (a 10)], cA (a 10) G.2.1.2.1 101 (F 2), cA (a 11) G.2.1.1 3 (F 0)]
                exact s_iret C E dX6_recordOf_107 ⟨congrArg (fun z => some (vI z)) (by rw [sp_rec, if_pos (by omega), if_neg (by omega), h_67]; exact q_gT hR ⟨by omega, by omega⟩), rfl⟩
              · refine s_tabIn 108 (off := 41) C dX6_recordOf_67 (by omega) (by omega) (by omega) (by rw [h_67]; rfl) (by decide) ?_
                refine s_aload_n 3 C dX6_recordOf_108 rfl 1 rfl ?_
                refine s_iload_n 1 C dX6_recordOf_109 rfl 3 rfl ?_
                refine s_callV (As := [vI r]) (rest := []) C dX6_recordOf_110 (c_X1_keyOf l G (a 1) (a 2) (a 3) (a 4) (a 5) (a 6) (c 0) (F 3) (F 4) (F 5) (F 6) (F 7) r (by first | assumption | omega) (by first | assumption | omega)) gX6_recordOf_X1_keyOf rfl 1 (by decide +kernel) (by decide) 2 1 rfl rfl rfl [2, 3, 4, 5, 6, 7] rfl (by decide) rfl (Nat.le_of_ble_eq_true rfl) ⟨Nat.zero_le _, Nat.zero_le _⟩ ?_
                intro v0 w0 hq
                obtain ⟨rfl, rfl⟩ := hq
                refine ⟨rfl, ?_⟩
                show fSt l G X 0 0 113 [(4, vI 0), (3, .ref (a 1)), (0, .ref x0), (1, vI r), (2, vI wh)] [vI (gR (c 0) (F 5) r)] [cO x0 6 [.ref (a 0), .ref h0, y2, y3, y4, y5], cO (a 0) 4 [.ref (a 1), .ref (a 7), .ref (a 9), .ref (a 11), vI (c 1), vI (c 2), vI (c 3), vI (c 4), vI (c 5), vI (c 6), vI (c 7), vI (c 8)], cO (a 1) 1 [vI (c 0), .ref (a 2), .ref (a 3), .ref (a 4), .ref (a 5), .ref (a 6)], cA (a 2) G.2.1.1 100 (F 3), cA (a 3) G.2.1.1 100 (F 4), cA (a 4) G.2.1.1 100 (F 5), cA (a 5) G.2.1.1 100 (F 6), cA (a 6) G.2.1.1 100 (F 7), cO (a 7) 3 [vI (c 9), vI (c 10), vI (c 11), .ref (a 8)], cA (a 8) G.2.1.2.1 101 (F 1), cO (a 9) 3 [vI (c 12), vI (c 13), vI (c 14), .ref (a 10)], cA (a 10) G.2.1.2.1 101 (F 2), cA (a 11) G.2.1.1 3 (F 0)]
                exact s_iret C E dX6_recordOf_113 ⟨congrArg (fun z => some (vI z)) (by rw [sp_rec, if_pos (by omega), if_neg (by omega), h_67]; exact q_gY hR ⟨by omega, by omega⟩ (by rw [← q_gK hR (r := r) ⟨by omega, by omega⟩]; omega)), rfl⟩
              · refine s_tabIn 114 (off := 47) C dX6_recordOf_67 (by omega) (by omega) (by omega) (by rw [h_67]; rfl) (by decide) ?_
                refine s_aload_n 3 C dX6_recordOf_114 rfl 1 rfl ?_
                refine s_iload_n 1 C dX6_recordOf_115 rfl 3 rfl ?_
                refine s_callV (As := [vI r]) (rest := []) C dX6_recordOf_116 (c_X1_valueIn l G (a 1) (a 2) (a 3) (a 4) (a 5) (a 6) (c 0) (F 3) (F 4) (F 5) (F 6) (F 7) r (by first | assumption | omega) (by first | assumption | omega)) gX6_recordOf_X1_valueIn rfl 1 (by decide +kernel) (by decide) 2 1 rfl rfl rfl [2, 3, 4, 5, 6, 7] rfl (by decide) rfl (Nat.le_of_ble_eq_true rfl) ⟨Nat.zero_le _, Nat.zero_le _⟩ ?_
                intro v0 w0 hq
                obtain ⟨rfl, rfl⟩ := hq
                refine ⟨rfl, ?_⟩
                show fSt l G X 0 0 119 [(4, vI 0), (3, .ref (a 1)), (0, .ref x0), (1, vI r), (2, vI wh)] [vI (gR (c 0) (F 6) r)] [cO x0 6 [.ref (a 0), .ref h0, y2, y3, y4, y5], cO (a 0) 4 [.ref (a 1), .ref (a 7), .ref (a 9), .ref (a 11), vI (c 1), vI (c 2), vI (c 3), vI (c 4), vI (c 5), vI (c 6), vI (c 7), vI (c 8)], cO (a 1) 1 [vI (c 0), .ref (a 2), .ref (a 3), .ref (a 4), .ref (a 5), .ref (a 6)], cA (a 2) G.2.1.1 100 (F 3), cA (a 3) G.2.1.1 100 (F 4), cA (a 4) G.2.1.1 100 (F 5), cA (a 5) G.2.1.1 100 (F 6), cA (a 6) G.2.1.1 100 (F 7), cO (a 7) 3 [vI (c 9), vI (c 10), vI (c 11), .ref (a 8)], cA (a 8) G.2.1.2.1 101 (F 1), cO (a 9) 3 [vI (c 12), vI (c 13), vI (c 14), .ref (a 10)], cA (a 10) G.2.1.2.1 101 (F 2), cA (a 11) G.2.1.1 3 (F 0)]
                exact s_iret C E dX6_recordOf_119 ⟨congrArg (fun z => some (vI z)) (by rw [sp_rec, if_pos (by omega), if_neg (by omega), h_67]; exact q_gV hR ⟨by omega, by omega⟩ (by rw [← q_gK hR (r := r) ⟨by omega, by omega⟩]; omega)), rfl⟩
              · refine s_tabOut 120 C dX6_recordOf_67 (by omega) h_67 (by decide) ?_
                refine s_aload_n 3 C dX6_recordOf_120 rfl 1 rfl ?_
                refine s_iload_n 1 C dX6_recordOf_121 rfl 3 rfl ?_
                refine s_callV (As := [vI r]) (rest := []) C dX6_recordOf_122 (c_X1_tickOf l G (a 1) (a 2) (a 3) (a 4) (a 5) (a 6) (c 0) (F 3) (F 4) (F 5) (F 6) (F 7) r (by first | assumption | omega) (by first | assumption | omega)) gX6_recordOf_X1_tickOf rfl 1 (by decide +kernel) (by decide) 2 1 rfl rfl rfl [2, 3, 4, 5, 6, 7] rfl (by decide) rfl (Nat.le_of_ble_eq_true rfl) ⟨Nat.zero_le _, Nat.zero_le _⟩ ?_
                intro v0 w0 hq
                obtain ⟨rfl, rfl⟩ := hq
                refine ⟨rfl, ?_⟩
                show fSt l G X 0 0 125 [(4, vI 0), (3, .ref (a 1)), (0, .ref x0), (1, vI r), (2, vI wh)] [vI (gR (c 0) (F 7) r)] [cO x0 6 [.ref (a 0), .ref h0, y2, y3, y4, y5], cO (a 0) 4 [.ref (a 1), .ref (a 7), .ref (a 9), .ref (a 11), vI (c 1), vI (c 2), vI (c 3), vI (c 4), vI (c 5), vI (c 6), vI (c 7), vI (c 8)], cO (a 1) 1 [vI (c 0), .ref (a 2), .ref (a 3), .ref (a 4), .ref (a 5), .ref (a 6)], cA (a 2) G.2.1.1 100 (F 3), cA (a 3) G.2.1.1 100 (F 4), cA (a 4) G.2.1.1 100 (F 5), cA (a 5) G.2.1.1 100 (F 6), cA (a 6) G.2.1.1 100 (F 7), cO (a 7) 3 [vI (c 9), vI (c 10), vI (c 11), .ref (a 8)], cA (a 8) G.2.1.2.1 101 (F 1), cO (a 9) 3 [vI (c 12), vI (c 13), vI (c 14), .ref (a 10)], cA (a 10) G.2.1.2.1 101 (F 2), cA (a 11) G.2.1.1 3 (F 0)]
                exact s_iret C E dX6_recordOf_125 ⟨congrArg (fun z => some (vI z)) (by rw [sp_rec, if_pos (by omega), if_neg (by omega), show wh = 4 by omega]; exact q_gA hR ⟨by omega, by omega⟩), rfl⟩
          · refine s_iconst C dX6_recordOf_35 ?_
            refine s_goto 40 C dX6_recordOf_36 (by decide) ?_
            refine s_istore [(4, vI 1), (3, .ref (a 1)), (0, .ref x0), (1, vI r), (2, vI wh)] C dX6_recordOf_40 (by decide) rfl ?_
            refine s_aload_n 3 C dX6_recordOf_42 rfl 1 rfl ?_
            refine s_iload_n 1 C dX6_recordOf_43 rfl 3 rfl ?_
            refine s_callV (As := [vI r]) (rest := []) C dX6_recordOf_44 (c_X1_has l G (a 1) (a 2) (a 3) (a 4) (a 5) (a 6) (c 0) (F 3) (F 4) (F 5) (F 6) (F 7) r (by first | assumption | omega) (by first | assumption | omega)) gX6_recordOf_X1_has rfl 1 (by decide +kernel) (by decide) 2 1 rfl rfl rfl [2, 3, 4, 5, 6, 7] rfl (by decide) rfl (Nat.le_of_ble_eq_true rfl) ⟨Nat.zero_le _, Nat.zero_le _⟩ ?_
            intro v0 w0 hq
            obtain ⟨rfl, rfl⟩ := hq
            refine ⟨rfl, ?_⟩
            show fSt l G X 0 0 47 [(4, vI 1), (3, .ref (a 1)), (0, .ref x0), (1, vI r), (2, vI wh)] [vI (bI (1 ≤ r ∧ r ≤ (c 0)))] [cO x0 6 [.ref (a 0), .ref h0, y2, y3, y4, y5], cO (a 0) 4 [.ref (a 1), .ref (a 7), .ref (a 9), .ref (a 11), vI (c 1), vI (c 2), vI (c 3), vI (c 4), vI (c 5), vI (c 6), vI (c 7), vI (c 8)], cO (a 1) 1 [vI (c 0), .ref (a 2), .ref (a 3), .ref (a 4), .ref (a 5), .ref (a 6)], cA (a 2) G.2.1.1 100 (F 3), cA (a 3) G.2.1.1 100 (F 4), cA (a 4) G.2.1.1 100 (F 5), cA (a 5) G.2.1.1 100 (F 6), cA (a 6) G.2.1.1 100 (F 7), cO (a 7) 3 [vI (c 9), vI (c 10), vI (c 11), .ref (a 8)], cA (a 8) G.2.1.2.1 101 (F 1), cO (a 9) 3 [vI (c 12), vI (c 13), vI (c 14), .ref (a 10)], cA (a 10) G.2.1.2.1 101 (F 2), cA (a 11) G.2.1.1 3 (F 0)]
            refine s_if_eq 63 C dX6_recordOf_47 (by decide) bI_rng (fun h_47 => ?_) (fun h_47 => ?_)
            · have h_47 := bI_f h_47
              refine s_ldc (z := -1000004) C (by decide +kernel) dX6_recordOf_63 ?_
              exact s_iret C E dX6_recordOf_65 ⟨congrArg (fun z => some (vI z)) (by first | (rw [sp_rec, if_pos (by omega), if_pos (by omega)]; done) | (have hre := hI.Re r (by omega) (by omega) (by rw [← q_gK hR (r := r) ⟨by omega, by omega⟩]; omega); rw [sp_rec, if_pos (by omega), if_neg (by omega)]; rcases (by omega : wh = 2 ∨ wh = 3) with e | e <;> rw [e] <;> omega)), rfl⟩
            · have h_47 := bI_t h_47
              refine s_iload C dX6_recordOf_50 0 rfl ?_
              refine s_if_eq 66 C dX6_recordOf_52 (by decide) (by decide) (fun h => absurd h (by decide)) (fun h => ?_)
              refine s_aload_n 3 C dX6_recordOf_55 rfl 1 rfl ?_
              refine s_iload_n 1 C dX6_recordOf_56 rfl 3 rfl ?_
              refine s_callV (As := [vI r]) (rest := []) C dX6_recordOf_57 (c_X1_kindOf l G (a 1) (a 2) (a 3) (a 4) (a 5) (a 6) (c 0) (F 3) (F 4) (F 5) (F 6) (F 7) r (by first | assumption | omega) (by first | assumption | omega)) gX6_recordOf_X1_kindOf rfl 1 (by decide +kernel) (by decide) 2 1 rfl rfl rfl [2, 3, 4, 5, 6, 7] rfl (by decide) rfl (Nat.le_of_ble_eq_true rfl) ⟨Nat.zero_le _, Nat.zero_le _⟩ ?_
              intro v0 w0 hq
              obtain ⟨rfl, rfl⟩ := hq
              refine ⟨rfl, ?_⟩
              show fSt l G X 0 0 60 [(4, vI 1), (3, .ref (a 1)), (0, .ref x0), (1, vI r), (2, vI wh)] [vI (gR (c 0) (F 3) r)] [cO x0 6 [.ref (a 0), .ref h0, y2, y3, y4, y5], cO (a 0) 4 [.ref (a 1), .ref (a 7), .ref (a 9), .ref (a 11), vI (c 1), vI (c 2), vI (c 3), vI (c 4), vI (c 5), vI (c 6), vI (c 7), vI (c 8)], cO (a 1) 1 [vI (c 0), .ref (a 2), .ref (a 3), .ref (a 4), .ref (a 5), .ref (a 6)], cA (a 2) G.2.1.1 100 (F 3), cA (a 3) G.2.1.1 100 (F 4), cA (a 4) G.2.1.1 100 (F 5), cA (a 5) G.2.1.1 100 (F 6), cA (a 6) G.2.1.1 100 (F 7), cO (a 7) 3 [vI (c 9), vI (c 10), vI (c 11), .ref (a 8)], cA (a 8) G.2.1.2.1 101 (F 1), cO (a 9) 3 [vI (c 12), vI (c 13), vI (c 14), .ref (a 10)], cA (a 10) G.2.1.2.1 101 (F 2), cA (a 11) G.2.1.1 3 (F 0)]
              refine s_if_eq 66 C dX6_recordOf_60 (by decide) (gR_r hK _) (fun h_60 => ?_) (fun h_60 => ?_)
              · refine s_iload_n 2 C dX6_recordOf_66 rfl 4 rfl ?_
                rcases (by omega : wh = 0 ∨ wh = 1 ∨ wh = 2 ∨ wh = 3 ∨ (wh < 0 ∨ 3 < wh)) with h_67 | h_67 | h_67 | h_67 | h_67
                · refine s_tabIn 96 (off := 29) C dX6_recordOf_67 (by omega) (by omega) (by omega) (by rw [h_67]; rfl) (by decide) ?_
                  refine s_aload_n 3 C dX6_recordOf_96 rfl 1 rfl ?_
                  refine s_iload_n 1 C dX6_recordOf_97 rfl 3 rfl ?_
                  refine s_callV (As := [vI r]) (rest := []) C dX6_recordOf_98 (c_X1_kindOf l G (a 1) (a 2) (a 3) (a 4) (a 5) (a 6) (c 0) (F 3) (F 4) (F 5) (F 6) (F 7) r (by first | assumption | omega) (by first | assumption | omega)) gX6_recordOf_X1_kindOf rfl 1 (by decide +kernel) (by decide) 2 1 rfl rfl rfl [2, 3, 4, 5, 6, 7] rfl (by decide) rfl (Nat.le_of_ble_eq_true rfl) ⟨Nat.zero_le _, Nat.zero_le _⟩ ?_
                  intro v0 w0 hq
                  obtain ⟨rfl, rfl⟩ := hq
                  refine ⟨rfl, ?_⟩
                  show fSt l G X 0 0 101 [(4, vI 1), (3, .ref (a 1)), (0, .ref x0), (1, vI r), (2, vI wh)] [vI (gR (c 0) (F 3) r)] [cO x0 6 [.ref (a 0), .ref h0, y2, y3, y4, y5], cO (a 0) 4 [.ref (a 1), .ref (a 7), .ref (a 9), .ref (a 11), vI (c 1), vI (c 2), vI (c 3), vI (c 4), vI (c 5), vI (c 6), vI (c 7), vI (c 8)], cO (a 1) 1 [vI (c 0), .ref (a 2), .ref (a 3), .ref (a 4), .ref (a 5), .ref (a 6)], cA (a 2) G.2.1.1 100 (F 3), cA (a 3) G.2.1.1 100 (F 4), cA (a 4) G.2.1.1 100 (F 5), cA (a 5) G.2.1.1 100 (F 6), cA (a 6) G.2.1.1 100 (F 7), cO (a 7) 3 [vI (c 9), vI (c 10), vI (c 11), .ref (a 8)], cA (a 8) G.2.1.2.1 101 (F 1), cO (a 9) 3 [vI (c 12), vI (c 13), vI (c 14), .ref (a 10)], cA (a 10) G.2.1.2.1 101 (F 2), cA (a 11) G.2.1.1 3 (F 0)]
                  exact s_iret C E dX6_recordOf_101 ⟨congrArg (fun z => some (vI z)) (by rw [sp_rec, if_pos (by omega), if_neg (by omega), h_67]; exact q_gK hR ⟨by omega, by omega⟩), rfl⟩
                · refine s_tabIn 102 (off := 35) C dX6_recordOf_67 (by omega) (by omega) (by omega) (by rw [h_67]; rfl) (by decide) ?_
                  refine s_aload_n 3 C dX6_recordOf_102 rfl 1 rfl ?_
                  refine s_iload_n 1 C dX6_recordOf_103 rfl 3 rfl ?_
                  refine s_callV (As := [vI r]) (rest := []) C dX6_recordOf_104 (c_X1_transactionOf l G (a 1) (a 2) (a 3) (a 4) (a 5) (a 6) (c 0) (F 3) (F 4) (F 5) (F 6) (F 7) r (by first | assumption | omega) (by first | assumption | omega)) gX6_recordOf_X1_transactionOf rfl 1 (by decide +kernel) (by decide) 2 1 rfl rfl rfl [2, 3, 4, 5, 6, 7] rfl (by decide) rfl (Nat.le_of_ble_eq_true rfl) ⟨Nat.zero_le _, Nat.zero_le _⟩ ?_
                  intro v0 w0 hq
                  obtain ⟨rfl, rfl⟩ := hq
                  refine ⟨rfl, ?_⟩
                  show fSt l G X 0 0 107 [(4, vI 1), (3, .ref (a 1)), (0, .ref x0), (1, vI r), (2, vI wh)] [vI (gR (c 0) (F 4) r)] [cO x0 6 [.ref (a 0), .ref h0, y2, y3, y4, y5], cO (a 0) 4 [.ref (a 1), .ref (a 7), .ref (a 9), .ref (a 11), vI (c 1), vI (c 2), vI (c 3), vI (c 4), vI (c 5), vI (c 6), vI (c 7), vI (c 8)], cO (a 1) 1 [vI (c 0), .ref (a 2), .ref (a 3), .ref (a 4), .ref (a 5), .ref (a 6)], cA (a 2) G.2.1.1 100 (F 3), cA (a 3) G.2.1.1 100 (F 4), cA (a 4) G.2.1.1 100 (F 5), cA (a 5) G.2.1.1 100 (F 6), cA (a 6) G.2.1.1 100 (F 7), cO (a 7) 3 [vI (c 9), vI (c 10), vI (c 11), .ref (a 8)], cA (a 8) G.2.1.2.1 101 (F 1), cO (a 9) 3 [vI (c 12), vI (c 13), vI (c 14), .ref (a 10)], cA (a 10) G.2.1.2.1 101 (F 2), cA (a 11) G.2.1.1 3 (F 0)]
                  exact s_iret C E dX6_recordOf_107 ⟨congrArg (fun z => some (vI z)) (by rw [sp_rec, if_pos (by omega), if_neg (by omega), h_67]; exact q_gT hR ⟨by omega, by omega⟩), rfl⟩
                · refine s_tabIn 108 (off := 41) C dX6_recordOf_67 (by omega) (by omega) (by omega) (by rw [h_67]; rfl) (by decide) ?_
                  refine s_aload_n 3 C dX6_recordOf_108 rfl 1 rfl ?_
                  refine s_iload_n 1 C dX6_recordOf_109 rfl 3 rfl ?_
                  refine s_callV (As := [vI r]) (rest := []) C dX6_recordOf_110 (c_X1_keyOf l G (a 1) (a 2) (a 3) (a 4) (a 5) (a 6) (c 0) (F 3) (F 4) (F 5) (F 6) (F 7) r (by first | assumption | omega) (by first | assumption | omega)) gX6_recordOf_X1_keyOf rfl 1 (by decide +kernel) (by decide) 2 1 rfl rfl rfl [2, 3, 4, 5, 6, 7] rfl (by decide) rfl (Nat.le_of_ble_eq_true rfl) ⟨Nat.zero_le _, Nat.zero_le _⟩ ?_
                  intro v0 w0 hq
                  obtain ⟨rfl, rfl⟩ := hq
                  refine ⟨rfl, ?_⟩
                  show fSt l G X 0 0 113 [(4, vI 1), (3, .ref (a 1)), (0, .ref x0), (1, vI r), (2, vI wh)] [vI (gR (c 0) (F 5) r)] [cO x0 6 [.ref (a 0), .ref h0, y2, y3, y4, y5], cO (a 0) 4 [.ref (a 1), .ref (a 7), .ref (a 9), .ref (a 11), vI (c 1), vI (c 2), vI (c 3), vI (c 4), vI (c 5), vI (c 6), vI (c 7), vI (c 8)], cO (a 1) 1 [vI (c 0), .ref (a 2), .ref (a 3), .ref (a 4), .ref (a 5), .ref (a 6)], cA (a 2) G.2.1.1 100 (F 3), cA (a 3) G.2.1.1 100 (F 4), cA (a 4) G.2.1.1 100 (F 5), cA (a 5) G.2.1.1 100 (F 6), cA (a 6) G.2.1.1 100 (F 7), cO (a 7) 3 [vI (c 9), vI (c 10), vI (c 11), .ref (a 8)], cA (a 8) G.2.1.2.1 101 (F 1), cO (a 9) 3 [vI (c 12), vI (c 13), vI (c 14), .ref (a 10)], cA (a 10) G.2.1.2.1 101 (F 2), cA (a 11) G.2.1.1 3 (F 0)]
                  exact s_iret C E dX6_recordOf_113 ⟨congrArg (fun z => some (vI z)) (by rw [sp_rec, if_pos (by omega), if_neg (by omega), h_67]; exact q_gY hR ⟨by omega, by omega⟩ (by rw [← q_gK hR (r := r) ⟨by omega, by omega⟩]; omega)), rfl⟩
                · refine s_tabIn 114 (off := 47) C dX6_recordOf_67 (by omega) (by omega) (by omega) (by rw [h_67]; rfl) (by decide) ?_
                  refine s_aload_n 3 C dX6_recordOf_114 rfl 1 rfl ?_
                  refine s_iload_n 1 C dX6_recordOf_115 rfl 3 rfl ?_
                  refine s_callV (As := [vI r]) (rest := []) C dX6_recordOf_116 (c_X1_valueIn l G (a 1) (a 2) (a 3) (a 4) (a 5) (a 6) (c 0) (F 3) (F 4) (F 5) (F 6) (F 7) r (by first | assumption | omega) (by first | assumption | omega)) gX6_recordOf_X1_valueIn rfl 1 (by decide +kernel) (by decide) 2 1 rfl rfl rfl [2, 3, 4, 5, 6, 7] rfl (by decide) rfl (Nat.le_of_ble_eq_true rfl) ⟨Nat.zero_le _, Nat.zero_le _⟩ ?_
                  intro v0 w0 hq
                  obtain ⟨rfl, rfl⟩ := hq
                  refine ⟨rfl, ?_⟩
                  show fSt l G X 0 0 119 [(4, vI 1), (3, .ref (a 1)), (0, .ref x0), (1, vI r), (2, vI wh)] [vI (gR (c 0) (F 6) r)] [cO x0 6 [.ref (a 0), .ref h0, y2, y3, y4, y5], cO (a 0) 4 [.ref (a 1), .ref (a 7), .ref (a 9), .ref (a 11), vI (c 1), vI (c 2), vI (c 3), vI (c 4), vI (c 5), vI (c 6), vI (c 7), vI (c 8)], cO (a 1) 1 [vI (c 0), .ref (a 2), .ref (a 3), .ref (a 4), .ref (a 5), .ref (a 6)], cA (a 2) G.2.1.1 100 (F 3), cA (a 3) G.2.1.1 100 (F 4), cA (a 4) G.2.1.1 100 (F 5), cA (a 5) G.2.1.1 100 (F 6), cA (a 6) G.2.1.1 100 (F 7), cO (a 7) 3 [vI (c 9), vI (c 10), vI (c 11), .ref (a 8)], cA (a 8) G.2.1.2.1 101 (F 1), cO (a 9) 3 [vI (c 12), vI (c 13), vI (c 14), .ref (a 10)], cA (a 10) G.2.1.2.1 101 (F 2), cA (a 11) G.2.1.1 3 (F 0)]
                  exact s_iret C E dX6_recordOf_119 ⟨congrArg (fun z => some (vI z)) (by rw [sp_rec, if_pos (by omega), if_neg (by omega), h_67]; exact q_gV hR ⟨by omega, by omega⟩ (by rw [← q_gK hR (r := r) ⟨by omega, by omega⟩]; omega)), rfl⟩
                · refine s_tabOut 120 C dX6_recordOf_67 (by omega) h_67 (by decide) ?_
                  refine s_aload_n 3 C dX6_recordOf_120 rfl 1 rfl ?_
                  refine s_iload_n 1 C dX6_recordOf_121 rfl 3 rfl ?_
                  refine s_callV (As := [vI r]) (rest := []) C dX6_recordOf_122 (c_X1_tickOf l G (a 1) (a 2) (a 3) (a 4) (a 5) (a 6) (c 0) (F 3) (F 4) (F 5) (F 6) (F 7) r (by first | assumption | omega) (by first | assumption | omega)) gX6_recordOf_X1_tickOf rfl 1 (by decide +kernel) (by decide) 2 1 rfl rfl rfl [2, 3, 4, 5, 6, 7] rfl (by decide) rfl (Nat.le_of_ble_eq_true rfl) ⟨Nat.zero_le _, Nat.zero_le _⟩ ?_
                  intro v0 w0 hq
                  obtain ⟨rfl, rfl⟩ := hq
                  refine ⟨rfl, ?_⟩
                  show fSt l G X 0 0 125 [(4, vI 1), (3, .ref (a 1)), (0, .ref x0), (1, vI r), (2, vI wh)] [vI (gR (c 0) (F 7) r)] [cO x0 6 [.ref (a 0), .ref h0, y2, y3, y4, y5], cO (a 0) 4 [.ref (a 1), .ref (a 7), .ref (a 9), .ref (a 11), vI (c 1), vI (c 2), vI (c 3), vI (c 4), vI (c 5), vI (c 6), vI (c 7), vI (c 8)], cO (a 1) 1 [vI (c 0), .ref (a 2), .ref (a 3), .ref (a 4), .ref (a 5), .ref (a 6)], cA (a 2) G.2.1.1 100 (F 3), cA (a 3) G.2.1.1 100 (F 4), cA (a 4) G.2.1.1 100 (F 5), cA (a 5) G.2.1.1 100 (F 6), cA (a 6) G.2.1.1 100 (F 7), cO (a 7) 3 [vI (c 9), vI (c 10), vI (c 11), .ref (a 8)], cA (a 8) G.2.1.2.1 101 (F 1), cO (a 9) 3 [vI (c 12), vI (c 13), vI (c 14), .ref (a 10)], cA (a 10) G.2.1.2.1 101 (F 2), cA (a 11) G.2.1.1 3 (F 0)]
                  exact s_iret C E dX6_recordOf_125 ⟨congrArg (fun z => some (vI z)) (by rw [sp_rec, if_pos (by omega), if_neg (by omega), show wh = 4 by omega]; exact q_gA hR ⟨by omega, by omega⟩), rfl⟩
              · refine s_ldc (z := -1000004) C (by decide +kernel) dX6_recordOf_63 ?_
                exact s_iret C E dX6_recordOf_65 ⟨congrArg (fun z => some (vI z)) (by first | (rw [sp_rec, if_pos (by omega), if_pos (by omega)]; done) | (have hre := hI.Re r (by omega) (by omega) (by rw [← q_gK hR (r := r) ⟨by omega, by omega⟩]; omega); rw [sp_rec, if_pos (by omega), if_neg (by omega)]; rcases (by omega : wh = 2 ∨ wh = 3) with e | e <;> rw [e] <;> omega)), rfl⟩
      · refine s_ldc (z := -1000001) C (by decide +kernel) dX6_recordOf_14 ?_
        exact s_iret C E dX6_recordOf_16 ⟨congrArg (fun z => some (vI z)) (by rw [sp_rec, if_neg (by omega)]), rfl⟩


set_option maxHeartbeats 4000000 in
set_option maxRecDepth 100000 in
theorem c_X6_count (l : Launch) (G : fG) (x0 h0 h1 o0 o1 o2 : Nat) (y3 y4 y5 : Value) (a : Nat → Nat) (c : Nat → Int) (F : Nat → Int → Int) (B ps n at9 kd nr : Int) (f : Int → Int) (wh : Int) (hR : RSb f c F) (hI : Inv B f) (hB : B ≤ 1073000000) (hwh : -2147483648 ≤ wh ∧ wh < 2147483648) : fCt l G yX6_count wsX6_count 3 65 0 0 [.ref x0, vI wh] [cO x0 6 [.ref (a 0), .ref h0, .ref o0, y3, y4, y5], cO h0 0 [.ref h1, vI ps], cO o0 2 [.ref o1, vI n, vI at9, vI kd, .ref o2, vI nr], cO (a 0) 4 [.ref (a 1), .ref (a 7), .ref (a 9), .ref (a 11), vI (c 1), vI (c 2), vI (c 3), vI (c 4), vI (c 5), vI (c 6), vI (c 7), vI (c 8)], cO (a 1) 1 [vI (c 0), .ref (a 2), .ref (a 3), .ref (a 4), .ref (a 5), .ref (a 6)], cA (a 2) G.2.1.1 100 (F 3), cA (a 3) G.2.1.1 100 (F 4), cA (a 4) G.2.1.1 100 (F 5), cA (a 5) G.2.1.1 100 (F 6), cA (a 6) G.2.1.1 100 (F 7), cO (a 7) 3 [vI (c 9), vI (c 10), vI (c 11), .ref (a 8)], cA (a 8) G.2.1.2.1 101 (F 1), cO (a 9) 3 [vI (c 12), vI (c 13), vI (c 14), .ref (a 10)], cA (a 10) G.2.1.2.1 101 (F 2), cA (a 11) G.2.1.1 3 (F 0)] (fun (v0 : Option Value) (w0 : va_W) => v0 = some (vI (sp_count f ps n wh)) ∧ w0 = [cO x0 6 [.ref (a 0), .ref h0, .ref o0, y3, y4, y5], cO h0 0 [.ref h1, vI ps], cO o0 2 [.ref o1, vI n, vI at9, vI kd, .ref o2, vI nr], cO (a 0) 4 [.ref (a 1), .ref (a 7), .ref (a 9), .ref (a 11), vI (c 1), vI (c 2), vI (c 3), vI (c 4), vI (c 5), vI (c 6), vI (c 7), vI (c 8)], cO (a 1) 1 [vI (c 0), .ref (a 2), .ref (a 3), .ref (a 4), .ref (a 5), .ref (a 6)], cA (a 2) G.2.1.1 100 (F 3), cA (a 3) G.2.1.1 100 (F 4), cA (a 4) G.2.1.1 100 (F 5), cA (a 5) G.2.1.1 100 (F 6), cA (a 6) G.2.1.1 100 (F 7), cO (a 7) 3 [vI (c 9), vI (c 10), vI (c 11), .ref (a 8)], cA (a 8) G.2.1.2.1 101 (F 1), cO (a 9) 3 [vI (c 12), vI (c 13), vI (c 14), .ref (a 10)], cA (a 10) G.2.1.2.1 101 (F 2), cA (a 11) G.2.1.1 3 (F 0)]) := by
  refine fs_met (cc := cX6_count) (nL := 2) (ret := (some .int)) (by decide) rfl (Nat.le_of_ble_eq_true rfl) ?_
  intro X C E
  show fSt l G X 0 0 0 [(0, .ref x0), (1, vI wh)] [] [cO x0 6 [.ref (a 0), .ref h0, .ref o0, y3, y4, y5], cO h0 0 [.ref h1, vI ps], cO o0 2 [.ref o1, vI n, vI at9, vI kd, .ref o2, vI nr], cO (a 0) 4 [.ref (a 1), .ref (a 7), .ref (a 9), .ref (a 11), vI (c 1), vI (c 2), vI (c 3), vI (c 4), vI (c 5), vI (c 6), vI (c 7), vI (c 8)], cO (a 1) 1 [vI (c 0), .ref (a 2), .ref (a 3), .ref (a 4), .ref (a 5), .ref (a 6)], cA (a 2) G.2.1.1 100 (F 3), cA (a 3) G.2.1.1 100 (F 4), cA (a 4) G.2.1.1 100 (F 5), cA (a 5) G.2.1.1 100 (F 6), cA (a 6) G.2.1.1 100 (F 7), cO (a 7) 3 [vI (c 9), vI (c 10), vI (c 11), .ref (a 8)], cA (a 8) G.2.1.2.1 101 (F 1), cO (a 9) 3 [vI (c 12), vI (c 13), vI (c 14), .ref (a 10)], cA (a 10) G.2.1.2.1 101 (F 2), cA (a 11) G.2.1.1 3 (F 0)]
  have hinX0 : ∀ w ∈ u_ws RX0 TX0 2, w ∈ wsX6_count := by decide +kernel
  have hinX1 : ∀ w ∈ u_ws RX1 TX1 6, w ∈ wsX6_count := by decide +kernel
  have hinX2 : ∀ w ∈ u_ws RX2 TX2 6, w ∈ wsX6_count := by decide +kernel
  have hinX4 : ∀ w ∈ u_ws RX4 TX4 12, w ∈ wsX6_count := by decide +kernel
  have hinX6 : ∀ w ∈ u_ws RX6 TX6 6, w ∈ wsX6_count := by decide +kernel
  obtain ⟨hn, htk, hln, htr, hlc, hlo, hap, hrt, hdl, hS0, hS1⟩ := RS.scal hR hI
  have hK : rF (F 3) := RS.hrK hR
  have hT : rF (F 4) := RS.hrT hR
  have hY : rF (F 5) := RS.hrY hR
  have hV : rF (F 6) := RS.hrV hR
  have hA : rF (F 7) := RS.hrA hR
  have hsl : rF (F 0) := RS.hrs hR
  have hg0 : gF (F 1) := RS.hG0 hR
  have hg1 : gF (F 2) := RS.hG1 hR
  have hb0 := RS.b0 hR
  have hb1 := RS.b1 hR
  have en := RS.e_n hR
  have hin := hI.n
  refine s_iload_n 1 C dX6_count_0 rfl 1 rfl ?_
  rcases (by omega : wh = 0 ∨ wh = 1 ∨ wh = 2 ∨ wh = 3 ∨ wh = 4 ∨ wh = 5 ∨ wh = 6 ∨ wh = 7 ∨ wh = 8 ∨ wh = 9 ∨ wh = 10 ∨ wh = 11 ∨ wh = 12 ∨ wh = 13 ∨ wh = 14 ∨ wh = 15 ∨ wh = 16 ∨ wh = 17 ∨ wh = 18 ∨ wh = 19 ∨ wh = 20 ∨ wh = 21 ∨ (wh < 0 ∨ 21 < wh)) with h_1 | h_1 | h_1 | h_1 | h_1 | h_1 | h_1 | h_1 | h_1 | h_1 | h_1 | h_1 | h_1 | h_1 | h_1 | h_1 | h_1 | h_1 | h_1 | h_1 | h_1 | h_1 | h_1
  · refine s_tabIn 104 (off := 103) C dX6_count_1 (by omega) (by omega) (by omega) (by rw [h_1]; rfl) (by decide) ?_
    refine s_aload_n 0 C dX6_count_104 rfl 0 rfl ?_
    refine s_get C dX6_count_105 6 rfl hinX6 0 rfl 0 (by decide) (by decide +kernel) rfl ?_
    refine s_get C dX6_count_108 4 rfl hinX4 3 rfl 0 (by decide) (by decide +kernel) rfl ?_
    refine s_get C dX6_count_111 1 rfl hinX1 4 rfl 0 (by decide) (by decide +kernel) rfl ?_
    exact s_iret C E dX6_count_114 ⟨congrArg (fun z => some (vI z)) (by rw [sp_count, if_pos (by omega), h_1, ← en]), rfl⟩
  · refine s_tabIn 115 (off := 114) C dX6_count_1 (by omega) (by omega) (by omega) (by rw [h_1]; rfl) (by decide) ?_
    refine s_aload_n 0 C dX6_count_115 rfl 0 rfl ?_
    refine s_get C dX6_count_116 6 rfl hinX6 0 rfl 0 (by decide) (by decide +kernel) rfl ?_
    refine s_get C dX6_count_119 4 rfl hinX4 3 rfl 4 (by decide) (by decide +kernel) rfl ?_
    exact s_iret C E dX6_count_122 ⟨congrArg (fun z => some (vI z)) (by rw [sp_count, if_pos (by omega), h_1, RS.e_tk hR]), rfl⟩
  · refine s_tabIn 123 (off := 122) C dX6_count_1 (by omega) (by omega) (by omega) (by rw [h_1]; rfl) (by decide) ?_
    refine s_aload_n 0 C dX6_count_123 rfl 0 rfl ?_
    refine s_get C dX6_count_124 6 rfl hinX6 0 rfl 0 (by decide) (by decide +kernel) rfl ?_
    refine s_get C dX6_count_127 4 rfl hinX4 3 rfl 5 (by decide) (by decide +kernel) rfl ?_
    exact s_iret C E dX6_count_130 ⟨congrArg (fun z => some (vI z)) (by rw [sp_count, if_pos (by omega), h_1, RS.e_ln hR]), rfl⟩
  · refine s_tabIn 131 (off := 130) C dX6_count_1 (by omega) (by omega) (by omega) (by rw [h_1]; rfl) (by decide) ?_
    refine s_aload_n 0 C dX6_count_131 rfl 0 rfl ?_
    refine s_get C dX6_count_132 6 rfl hinX6 0 rfl 0 (by decide) (by decide +kernel) rfl ?_
    refine s_get C dX6_count_135 4 rfl hinX4 3 rfl 6 (by decide) (by decide +kernel) rfl ?_
    exact s_iret C E dX6_count_138 ⟨congrArg (fun z => some (vI z)) (by rw [sp_count, if_pos (by omega), h_1, RS.e_tr hR]), rfl⟩
  · refine s_tabIn 139 (off := 138) C dX6_count_1 (by omega) (by omega) (by omega) (by rw [h_1]; rfl) (by decide) ?_
    refine s_aload_n 0 C dX6_count_139 rfl 0 rfl ?_
    refine s_get C dX6_count_140 6 rfl hinX6 0 rfl 0 (by decide) (by decide +kernel) rfl ?_
    refine s_get C dX6_count_143 4 rfl hinX4 3 rfl 0 (by decide) (by decide +kernel) rfl ?_
    refine s_iconst C dX6_count_146 ?_
    refine s_callV (As := [vI 0]) (rest := []) C dX6_count_147 (c_X1_commitsBehind l G (a 1) (a 2) (a 3) (a 4) (a 5) (a 6) (c 0) (F 3) (F 4) (F 5) (F 6) (F 7) 0 (by first | assumption | omega) (by first | assumption | omega) (by first | assumption | omega) (by first | assumption | omega) (by first | assumption | omega) (by first | assumption | omega) (by first | assumption | omega)) gX6_count_X1_commitsBehind rfl 1 (by decide +kernel) (by decide) 4 1 rfl rfl rfl [4, 5, 6, 7, 8, 9] rfl (by decide) rfl (Nat.le_of_ble_eq_true rfl) ⟨Nat.zero_le _, Nat.zero_le _⟩ ?_
    intro v0 w0 hq
    obtain ⟨rfl, rfl⟩ := hq
    refine ⟨rfl, ?_⟩
    show fSt l G X 0 0 150 [(0, .ref x0), (1, vI wh)] [vI (cB (c 0) (F 3) 0)] [cO x0 6 [.ref (a 0), .ref h0, .ref o0, y3, y4, y5], cO h0 0 [.ref h1, vI ps], cO o0 2 [.ref o1, vI n, vI at9, vI kd, .ref o2, vI nr], cO (a 0) 4 [.ref (a 1), .ref (a 7), .ref (a 9), .ref (a 11), vI (c 1), vI (c 2), vI (c 3), vI (c 4), vI (c 5), vI (c 6), vI (c 7), vI (c 8)], cO (a 1) 1 [vI (c 0), .ref (a 2), .ref (a 3), .ref (a 4), .ref (a 5), .ref (a 6)], cA (a 2) G.2.1.1 100 (F 3), cA (a 3) G.2.1.1 100 (F 4), cA (a 4) G.2.1.1 100 (F 5), cA (a 5) G.2.1.1 100 (F 6), cA (a 6) G.2.1.1 100 (F 7), cO (a 7) 3 [vI (c 9), vI (c 10), vI (c 11), .ref (a 8)], cA (a 8) G.2.1.2.1 101 (F 1), cO (a 9) 3 [vI (c 12), vI (c 13), vI (c 14), .ref (a 10)], cA (a 10) G.2.1.2.1 101 (F 2), cA (a 11) G.2.1.1 3 (F 0)]
    exact s_iret C E dX6_count_150 ⟨congrArg (fun z => some (vI z)) (by rw [sp_count, if_neg (by omega), if_pos (by omega), q_cB hR (by omega)] <;> rfl), rfl⟩
  · refine s_tabIn 151 (off := 150) C dX6_count_1 (by omega) (by omega) (by omega) (by rw [h_1]; rfl) (by decide) ?_
    refine s_aload_n 0 C dX6_count_151 rfl 0 rfl ?_
    refine s_get C dX6_count_152 6 rfl hinX6 0 rfl 0 (by decide) (by decide +kernel) rfl ?_
    refine s_get C dX6_count_155 4 rfl hinX4 3 rfl 7 (by decide) (by decide +kernel) rfl ?_
    exact s_iret C E dX6_count_158 ⟨congrArg (fun z => some (vI z)) (by rw [sp_count, if_neg (by omega), if_neg (by omega), if_pos (by omega), h_1, RS.e_lc hR] <;> rfl), rfl⟩
  · refine s_tabIn 159 (off := 158) C dX6_count_1 (by omega) (by omega) (by omega) (by rw [h_1]; rfl) (by decide) ?_
    refine s_aload_n 0 C dX6_count_159 rfl 0 rfl ?_
    refine s_get C dX6_count_160 6 rfl hinX6 0 rfl 0 (by decide) (by decide +kernel) rfl ?_
    refine s_get C dX6_count_163 4 rfl hinX4 3 rfl 8 (by decide) (by decide +kernel) rfl ?_
    exact s_iret C E dX6_count_166 ⟨congrArg (fun z => some (vI z)) (by rw [sp_count, if_neg (by omega), if_neg (by omega), if_pos (by omega), h_1, RS.e_lo hR] <;> rfl), rfl⟩
  · refine s_tabIn 167 (off := 166) C dX6_count_1 (by omega) (by omega) (by omega) (by rw [h_1]; rfl) (by decide) ?_
    refine s_aload_n 0 C dX6_count_167 rfl 0 rfl ?_
    refine s_get C dX6_count_168 6 rfl hinX6 0 rfl 0 (by decide) (by decide +kernel) rfl ?_
    refine s_get C dX6_count_171 4 rfl hinX4 3 rfl 9 (by decide) (by decide +kernel) rfl ?_
    exact s_iret C E dX6_count_174 ⟨congrArg (fun z => some (vI z)) (by rw [sp_count, if_neg (by omega), if_neg (by omega), if_pos (by omega), h_1, RS.e_ap hR] <;> rfl), rfl⟩
  · refine s_tabIn 175 (off := 174) C dX6_count_1 (by omega) (by omega) (by omega) (by rw [h_1]; rfl) (by decide) ?_
    refine s_aload_n 0 C dX6_count_175 rfl 0 rfl ?_
    refine s_get C dX6_count_176 6 rfl hinX6 0 rfl 1 (by decide) (by decide +kernel) rfl ?_
    refine s_get C dX6_count_179 0 rfl hinX0 1 rfl 1 (by decide) (by decide +kernel) rfl ?_
    exact s_iret C E dX6_count_182 ⟨congrArg (fun z => some (vI z)) (by rw [sp_count, if_neg (by omega), if_neg (by omega), if_neg (by omega), if_pos (by omega)]), rfl⟩
  · refine s_tabIn 183 (off := 182) C dX6_count_1 (by omega) (by omega) (by omega) (by rw [h_1]; rfl) (by decide) ?_
    refine s_aload_n 0 C dX6_count_183 rfl 0 rfl ?_
    refine s_get C dX6_count_184 6 rfl hinX6 0 rfl 2 (by decide) (by decide +kernel) rfl ?_
    refine s_get C dX6_count_187 2 rfl hinX2 2 rfl 1 (by decide) (by decide +kernel) rfl ?_
    exact s_iret C E dX6_count_190 ⟨congrArg (fun z => some (vI z)) (by rw [sp_count, if_neg (by omega), if_neg (by omega), if_neg (by omega), if_neg (by omega), if_pos (by omega)]), rfl⟩
  · refine s_tabIn 207 (off := 206) C dX6_count_1 (by omega) (by omega) (by omega) (by rw [h_1]; rfl) (by decide) ?_
    refine s_ldc (z := -1000001) C (by decide +kernel) dX6_count_207 ?_
    exact s_iret C E dX6_count_209 ⟨congrArg (fun z => some (vI z)) (by rw [sp_count, if_neg (by omega), if_neg (by omega), if_neg (by omega), if_neg (by omega), if_neg (by omega), if_neg (by omega)]), rfl⟩
  · refine s_tabIn 207 (off := 206) C dX6_count_1 (by omega) (by omega) (by omega) (by rw [h_1]; rfl) (by decide) ?_
    refine s_ldc (z := -1000001) C (by decide +kernel) dX6_count_207 ?_
    exact s_iret C E dX6_count_209 ⟨congrArg (fun z => some (vI z)) (by rw [sp_count, if_neg (by omega), if_neg (by omega), if_neg (by omega), if_neg (by omega), if_neg (by omega), if_neg (by omega)]), rfl⟩
  · refine s_tabIn 207 (off := 206) C dX6_count_1 (by omega) (by omega) (by omega) (by rw [h_1]; rfl) (by decide) ?_
    refine s_ldc (z := -1000001) C (by decide +kernel) dX6_count_207 ?_
    exact s_iret C E dX6_count_209 ⟨congrArg (fun z => some (vI z)) (by rw [sp_count, if_neg (by omega), if_neg (by omega), if_neg (by omega), if_neg (by omega), if_neg (by omega), if_neg (by omega)]), rfl⟩
  · refine s_tabIn 207 (off := 206) C dX6_count_1 (by omega) (by omega) (by omega) (by rw [h_1]; rfl) (by decide) ?_
    refine s_ldc (z := -1000001) C (by decide +kernel) dX6_count_207 ?_
    exact s_iret C E dX6_count_209 ⟨congrArg (fun z => some (vI z)) (by rw [sp_count, if_neg (by omega), if_neg (by omega), if_neg (by omega), if_neg (by omega), if_neg (by omega), if_neg (by omega)]), rfl⟩
  · refine s_tabIn 207 (off := 206) C dX6_count_1 (by omega) (by omega) (by omega) (by rw [h_1]; rfl) (by decide) ?_
    refine s_ldc (z := -1000001) C (by decide +kernel) dX6_count_207 ?_
    exact s_iret C E dX6_count_209 ⟨congrArg (fun z => some (vI z)) (by rw [sp_count, if_neg (by omega), if_neg (by omega), if_neg (by omega), if_neg (by omega), if_neg (by omega), if_neg (by omega)]), rfl⟩
  · refine s_tabIn 207 (off := 206) C dX6_count_1 (by omega) (by omega) (by omega) (by rw [h_1]; rfl) (by decide) ?_
    refine s_ldc (z := -1000001) C (by decide +kernel) dX6_count_207 ?_
    exact s_iret C E dX6_count_209 ⟨congrArg (fun z => some (vI z)) (by rw [sp_count, if_neg (by omega), if_neg (by omega), if_neg (by omega), if_neg (by omega), if_neg (by omega), if_neg (by omega)]), rfl⟩
  · refine s_tabIn 207 (off := 206) C dX6_count_1 (by omega) (by omega) (by omega) (by rw [h_1]; rfl) (by decide) ?_
    refine s_ldc (z := -1000001) C (by decide +kernel) dX6_count_207 ?_
    exact s_iret C E dX6_count_209 ⟨congrArg (fun z => some (vI z)) (by rw [sp_count, if_neg (by omega), if_neg (by omega), if_neg (by omega), if_neg (by omega), if_neg (by omega), if_neg (by omega)]), rfl⟩
  · refine s_tabIn 207 (off := 206) C dX6_count_1 (by omega) (by omega) (by omega) (by rw [h_1]; rfl) (by decide) ?_
    refine s_ldc (z := -1000001) C (by decide +kernel) dX6_count_207 ?_
    exact s_iret C E dX6_count_209 ⟨congrArg (fun z => some (vI z)) (by rw [sp_count, if_neg (by omega), if_neg (by omega), if_neg (by omega), if_neg (by omega), if_neg (by omega), if_neg (by omega)]), rfl⟩
  · refine s_tabIn 207 (off := 206) C dX6_count_1 (by omega) (by omega) (by omega) (by rw [h_1]; rfl) (by decide) ?_
    refine s_ldc (z := -1000001) C (by decide +kernel) dX6_count_207 ?_
    exact s_iret C E dX6_count_209 ⟨congrArg (fun z => some (vI z)) (by rw [sp_count, if_neg (by omega), if_neg (by omega), if_neg (by omega), if_neg (by omega), if_neg (by omega), if_neg (by omega)]), rfl⟩
  · refine s_tabIn 207 (off := 206) C dX6_count_1 (by omega) (by omega) (by omega) (by rw [h_1]; rfl) (by decide) ?_
    refine s_ldc (z := -1000001) C (by decide +kernel) dX6_count_207 ?_
    exact s_iret C E dX6_count_209 ⟨congrArg (fun z => some (vI z)) (by rw [sp_count, if_neg (by omega), if_neg (by omega), if_neg (by omega), if_neg (by omega), if_neg (by omega), if_neg (by omega)]), rfl⟩
  · refine s_tabIn 191 (off := 190) C dX6_count_1 (by omega) (by omega) (by omega) (by rw [h_1]; rfl) (by decide) ?_
    refine s_aload_n 0 C dX6_count_191 rfl 0 rfl ?_
    refine s_get C dX6_count_192 6 rfl hinX6 0 rfl 0 (by decide) (by decide +kernel) rfl ?_
    refine s_get C dX6_count_195 4 rfl hinX4 3 rfl 10 (by decide) (by decide +kernel) rfl ?_
    exact s_iret C E dX6_count_198 ⟨congrArg (fun z => some (vI z)) (by rw [sp_count, if_neg (by omega), if_neg (by omega), if_neg (by omega), if_neg (by omega), if_neg (by omega), if_pos (by omega), h_1, RS.e_rt hR] <;> rfl), rfl⟩
  · refine s_tabIn 199 (off := 198) C dX6_count_1 (by omega) (by omega) (by omega) (by rw [h_1]; rfl) (by decide) ?_
    refine s_aload_n 0 C dX6_count_199 rfl 0 rfl ?_
    refine s_get C dX6_count_200 6 rfl hinX6 0 rfl 0 (by decide) (by decide +kernel) rfl ?_
    refine s_get C dX6_count_203 4 rfl hinX4 3 rfl 11 (by decide) (by decide +kernel) rfl ?_
    exact s_iret C E dX6_count_206 ⟨congrArg (fun z => some (vI z)) (by rw [sp_count, if_neg (by omega), if_neg (by omega), if_neg (by omega), if_neg (by omega), if_neg (by omega), if_pos (by omega), h_1, RS.e_dl hR] <;> rfl), rfl⟩
  · refine s_tabOut 207 C dX6_count_1 (by omega) h_1 (by decide) ?_
    refine s_ldc (z := -1000001) C (by decide +kernel) dX6_count_207 ?_
    exact s_iret C E dX6_count_209 ⟨congrArg (fun z => some (vI z)) (by rw [sp_count, if_neg (by omega), if_neg (by omega), if_neg (by omega), if_neg (by omega), if_neg (by omega), if_neg (by omega)]), rfl⟩

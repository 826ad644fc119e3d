set_option maxHeartbeats 4000000 in
set_option maxRecDepth 100000 in
theorem c_X6_slotOf (l : Launch) (G : fG) (x0 h0 : Nat) (y2 y3 y4 y5 : Value) (a : Nat → Nat) (c : Nat → Int) (F : Nat → Int → Int) (B : Int) (f : Int → Int) (k wh : Int) (hR : RSb f c F) (hI : Inv B f) (hB : B ≤ 1073000000) (hk : -2147483648 ≤ k ∧ k < 2147483648) (hwh : -2147483648 ≤ wh ∧ wh < 2147483648) : fCt l G yX6_slotOf wsX6_slotOf 4 87 0 0 [.ref x0, vI k, vI wh] [cO x0 6 [.ref (a 0), .ref h0, y2, y3, y4, y5], cO (a 0) 4 [.ref (a 1), .ref (a 7), .ref (a 9), .ref (a 11), vI (c 1), vI (c 2), vI (c 3), vI (c 4), vI (c 5), vI (c 6), vI (c 7), vI (c 8)], cO (a 1) 1 [vI (c 0), .ref (a 2), .ref (a 3), .ref (a 4), .ref (a 5), .ref (a 6)], cA (a 2) G.2.1.1 100 (F 3), cA (a 3) G.2.1.1 100 (F 4), cA (a 4) G.2.1.1 100 (F 5), cA (a 5) G.2.1.1 100 (F 6), cA (a 6) G.2.1.1 100 (F 7), cO (a 7) 3 [vI (c 9), vI (c 10), vI (c 11), .ref (a 8)], cA (a 8) G.2.1.2.1 101 (F 1), cO (a 9) 3 [vI (c 12), vI (c 13), vI (c 14), .ref (a 10)], cA (a 10) G.2.1.2.1 101 (F 2), cA (a 11) G.2.1.1 3 (F 0)] (fun (v0 : Option Value) (w0 : va_W) => v0 = some (vI (sp_slot f k wh)) ∧ w0 = [cO x0 6 [.ref (a 0), .ref h0, y2, y3, y4, y5], cO (a 0) 4 [.ref (a 1), .ref (a 7), .ref (a 9), .ref (a 11), vI (c 1), vI (c 2), vI (c 3), vI (c 4), vI (c 5), vI (c 6), vI (c 7), vI (c 8)], cO (a 1) 1 [vI (c 0), .ref (a 2), .ref (a 3), .ref (a 4), .ref (a 5), .ref (a 6)], cA (a 2) G.2.1.1 100 (F 3), cA (a 3) G.2.1.1 100 (F 4), cA (a 4) G.2.1.1 100 (F 5), cA (a 5) G.2.1.1 100 (F 6), cA (a 6) G.2.1.1 100 (F 7), cO (a 7) 3 [vI (c 9), vI (c 10), vI (c 11), .ref (a 8)], cA (a 8) G.2.1.2.1 101 (F 1), cO (a 9) 3 [vI (c 12), vI (c 13), vI (c 14), .ref (a 10)], cA (a 10) G.2.1.2.1 101 (F 2), cA (a 11) G.2.1.1 3 (F 0)]) := by
  refine fs_met (cc := cX6_slotOf) (nL := 4) (ret := (some .int)) (by decide) rfl (Nat.le_of_ble_eq_true rfl) ?_
  intro X C E
  show fSt l G X 0 0 0 [(0, .ref x0), (1, vI k), (2, vI wh)] [] [cO x0 6 [.ref (a 0), .ref h0, y2, y3, y4, y5], cO (a 0) 4 [.ref (a 1), .ref (a 7), .ref (a 9), .ref (a 11), vI (c 1), vI (c 2), vI (c 3), vI (c 4), vI (c 5), vI (c 6), vI (c 7), vI (c 8)], cO (a 1) 1 [vI (c 0), .ref (a 2), .ref (a 3), .ref (a 4), .ref (a 5), .ref (a 6)], cA (a 2) G.2.1.1 100 (F 3), cA (a 3) G.2.1.1 100 (F 4), cA (a 4) G.2.1.1 100 (F 5), cA (a 5) G.2.1.1 100 (F 6), cA (a 6) G.2.1.1 100 (F 7), cO (a 7) 3 [vI (c 9), vI (c 10), vI (c 11), .ref (a 8)], cA (a 8) G.2.1.2.1 101 (F 1), cO (a 9) 3 [vI (c 12), vI (c 13), vI (c 14), .ref (a 10)], cA (a 10) G.2.1.2.1 101 (F 2), cA (a 11) G.2.1.1 3 (F 0)]
  have hinX4 : ∀ w ∈ u_ws RX4 TX4 12, w ∈ wsX6_slotOf := by decide +kernel
  have hinX6 : ∀ w ∈ u_ws RX6 TX6 6, w ∈ wsX6_slotOf := by decide +kernel
  obtain ⟨hn, htk, hln, htr, hlc, hlo, hap, hrt, hdl, hS0, hS1⟩ := RS.scal hR hI
  have hK : rF (F 3) := RS.hrK hR
  have hT : rF (F 4) := RS.hrT hR
  have hY : rF (F 5) := RS.hrY hR
  have hV : rF (F 6) := RS.hrV hR
  have hA : rF (F 7) := RS.hrA hR
  have hsl : rF (F 0) := RS.hrs hR
  have hg0 : gF (F 1) := RS.hG0 hR
  have hg1 : gF (F 2) := RS.hG1 hR
  have hb0 := RS.b0 hR
  have hb1 := RS.b1 hR
  have en := RS.e_n hR
  have hin := hI.n
  have htr3 := hI.tr
  refine s_iload_n 1 C dX6_slotOf_0 rfl 1 rfl ?_
  refine s_callS (As := [vI k]) (rest := []) C dX6_slotOf_1 (c_X6_isSlot l G k (by first | assumption | omega)) gX6_slotOf_X6_isSlot rfl 1 (by decide +kernel) (by decide) [] rfl (by decide) rfl (Nat.le_of_ble_eq_true rfl) ⟨Nat.zero_le _, Nat.zero_le _⟩ ?_
  intro v0 w0 hq
  obtain ⟨rfl, rfl⟩ := hq
  refine ⟨rfl, ?_⟩
  show fSt l G X 0 0 4 [(0, .ref x0), (1, vI k), (2, vI wh)] [vI (bI (0 ≤ k ∧ k ≤ 2))] [cO x0 6 [.ref (a 0), .ref h0, y2, y3, y4, y5], cO (a 0) 4 [.ref (a 1), .ref (a 7), .ref (a 9), .ref (a 11), vI (c 1), vI (c 2), vI (c 3), vI (c 4), vI (c 5), vI (c 6), vI (c 7), vI (c 8)], cO (a 1) 1 [vI (c 0), .ref (a 2), .ref (a 3), .ref (a 4), .ref (a 5), .ref (a 6)], cA (a 2) G.2.1.1 100 (F 3), cA (a 3) G.2.1.1 100 (F 4), cA (a 4) G.2.1.1 100 (F 5), cA (a 5) G.2.1.1 100 (F 6), cA (a 6) G.2.1.1 100 (F 7), cO (a 7) 3 [vI (c 9), vI (c 10), vI (c 11), .ref (a 8)], cA (a 8) G.2.1.2.1 101 (F 1), cO (a 9) 3 [vI (c 12), vI (c 13), vI (c 14), .ref (a 10)], cA (a 10) G.2.1.2.1 101 (F 2), cA (a 11) G.2.1.1 3 (F 0)]
  refine s_if_eq 16 C dX6_slotOf_4 (by decide) bI_rng (fun h_4 => ?_) (fun h_4 => ?_)
  · have h_4 := bI_f h_4
    refine s_ldc (z := -1000001) C (by decide +kernel) dX6_slotOf_16 ?_
    exact s_iret C E dX6_slotOf_18 ⟨congrArg (fun z => some (vI z)) (by rw [sp_slot, if_neg (by omega)]), rfl⟩
  · have h_4 := bI_t h_4
    refine s_iload_n 2 C dX6_slotOf_7 rfl 2 rfl ?_
    refine s_if_lt 16 C dX6_slotOf_8 (by decide) (by omega) (fun h_8 => ?_) (fun h_8 => ?_)
    · refine s_ldc (z := -1000001) C (by decide +kernel) dX6_slotOf_16 ?_
      exact s_iret C E dX6_slotOf_18 ⟨congrArg (fun z => some (vI z)) (by rw [sp_slot, if_neg (by omega)]), rfl⟩
    · refine s_iload_n 2 C dX6_slotOf_11 rfl 2 rfl ?_
      refine s_iconst C dX6_slotOf_12 ?_
      refine s_icmp_le 19 C dX6_slotOf_13 (by decide) (by omega) (by omega) (fun h_13 => ?_) (fun h_13 => ?_)
      · refine s_aload_n 0 C dX6_slotOf_19 rfl 0 rfl ?_
        refine s_get C dX6_slotOf_20 6 rfl hinX6 0 rfl 0 (by decide) (by decide +kernel) rfl ?_
        refine s_iload_n 1 C dX6_slotOf_23 rfl 1 rfl ?_
        refine s_callV (As := [vI k]) (rest := []) C dX6_slotOf_24 (c_X4_transactionIn l G (a 0) (a 11) (.ref (a 1)) (.ref (a 7)) (.ref (a 9)) [vI (c 1), vI (c 2), vI (c 3), vI (c 4), vI (c 5), vI (c 6), vI (c 7), vI (c 8)] (F 0) k (by first | assumption | omega)) gX6_slotOf_X4_transactionIn rfl 1 (by decide +kernel) (by decide) 1 4 rfl rfl rfl [1, 12] rfl (by decide) rfl (Nat.le_of_ble_eq_true rfl) ⟨Nat.zero_le _, Nat.zero_le _⟩ ?_
        intro v0 w0 hq
        obtain ⟨rfl, rfl⟩ := hq
        refine ⟨rfl, ?_⟩
        show fSt l G X 0 0 27 [(0, .ref x0), (1, vI k), (2, vI wh)] [vI (if 0 ≤ k ∧ k ≤ 2 then (F 0) k else 0)] [cO x0 6 [.ref (a 0), .ref h0, y2, y3, y4, y5], cO (a 0) 4 [.ref (a 1), .ref (a 7), .ref (a 9), .ref (a 11), vI (c 1), vI (c 2), vI (c 3), vI (c 4), vI (c 5), vI (c 6), vI (c 7), vI (c 8)], cO (a 1) 1 [vI (c 0), .ref (a 2), .ref (a 3), .ref (a 4), .ref (a 5), .ref (a 6)], cA (a 2) G.2.1.1 100 (F 3), cA (a 3) G.2.1.1 100 (F 4), cA (a 4) G.2.1.1 100 (F 5), cA (a 5) G.2.1.1 100 (F 6), cA (a 6) G.2.1.1 100 (F 7), cO (a 7) 3 [vI (c 9), vI (c 10), vI (c 11), .ref (a 8)], cA (a 8) G.2.1.2.1 101 (F 1), cO (a 9) 3 [vI (c 12), vI (c 13), vI (c 14), .ref (a 10)], cA (a 10) G.2.1.2.1 101 (F 2), cA (a 11) G.2.1.1 3 (F 0)]
        refine s_top (f (k + 9)) ((if_pos (by omega)).trans (RS.hsl hR k (by omega) (by omega))) ?_
        have hsk := hI.sl k (by omega) (by omega)
        refine s_istore_n 3 [(3, vI (f (k + 9))), (0, .ref x0), (1, vI k), (2, vI wh)] C dX6_slotOf_27 rfl (by decide) rfl ?_
        refine s_iload_n 3 C dX6_slotOf_28 rfl 0 rfl ?_
        refine s_if_ne 35 C dX6_slotOf_29 (by decide) (by omega) (fun h_29 => ?_) (fun h_29 => ?_)
        · refine s_iload_n 2 C dX6_slotOf_35 rfl 3 rfl ?_
          refine s_if_ne 43 C dX6_slotOf_36 (by decide) (by omega) (fun h_36 => ?_) (fun h_36 => ?_)
          · refine s_aload_n 0 C dX6_slotOf_43 rfl 1 rfl ?_
            refine s_get C dX6_slotOf_44 6 rfl hinX6 0 rfl 0 (by decide) (by decide +kernel) rfl ?_
            refine s_get C dX6_slotOf_47 4 rfl hinX4 1 rfl 0 (by decide) (by decide +kernel) rfl ?_
            refine s_iload_n 3 C dX6_slotOf_50 rfl 0 rfl ?_
            refine s_callV (As := [vI (f (k + 9))]) (rest := []) C dX6_slotOf_51 (c_X1_putsOf l G (a 1) (a 2) (a 3) (a 4) (a 5) (a 6) (c 0) (F 3) (F 4) (F 5) (F 6) (F 7) (f (k + 9)) (by first | assumption | omega) (by first | assumption | omega) (by first | assumption | omega) (by first | assumption | omega) (by first | assumption | omega) (by first | assumption | omega) (by omega)) gX6_slotOf_X1_putsOf rfl 1 (by decide +kernel) (by decide) 2 1 rfl rfl rfl [2, 3, 4, 5, 6, 7] rfl (by decide) rfl (Nat.le_of_ble_eq_true rfl) ⟨Nat.zero_le _, Nat.zero_le _⟩ ?_
            intro v0 w0 hq
            obtain ⟨rfl, rfl⟩ := hq
            refine ⟨rfl, ?_⟩
            show fSt l G X 0 0 54 [(3, vI (f (k + 9))), (0, .ref x0), (1, vI k), (2, vI wh)] [vI (pO (c 0) (F 3) (F 4) (f (k + 9)))] [cO x0 6 [.ref (a 0), .ref h0, y2, y3, y4, y5], cO (a 0) 4 [.ref (a 1), .ref (a 7), .ref (a 9), .ref (a 11), vI (c 1), vI (c 2), vI (c 3), vI (c 4), vI (c 5), vI (c 6), vI (c 7), vI (c 8)], cO (a 1) 1 [vI (c 0), .ref (a 2), .ref (a 3), .ref (a 4), .ref (a 5), .ref (a 6)], cA (a 2) G.2.1.1 100 (F 3), cA (a 3) G.2.1.1 100 (F 4), cA (a 4) G.2.1.1 100 (F 5), cA (a 5) G.2.1.1 100 (F 6), cA (a 6) G.2.1.1 100 (F 7), cO (a 7) 3 [vI (c 9), vI (c 10), vI (c 11), .ref (a 8)], cA (a 8) G.2.1.2.1 101 (F 1), cO (a 9) 3 [vI (c 12), vI (c 13), vI (c 14), .ref (a 10)], cA (a 10) G.2.1.2.1 101 (F 2), cA (a 11) G.2.1.1 3 (F 0)]
            exact s_iret C E dX6_slotOf_54 ⟨congrArg (fun z => some (vI z)) (by rw [sp_slot, if_pos (by omega), if_neg (by omega), if_neg (by omega)]; exact q_pO hR), rfl⟩
          · refine s_iload_n 3 C dX6_slotOf_39 rfl 0 rfl ?_
            refine s_goto 54 C dX6_slotOf_40 (by decide) ?_
            exact s_iret C E dX6_slotOf_54 ⟨congrArg (fun z => some (vI z)) (by rw [sp_slot, if_pos (by omega), if_neg (by omega), if_pos (by omega)]), rfl⟩
        · refine s_ldc (z := -1000004) C (by decide +kernel) dX6_slotOf_32 ?_
          exact s_iret C E dX6_slotOf_34 ⟨congrArg (fun z => some (vI z)) (by rw [sp_slot, if_pos (by omega), if_pos (by omega)]), rfl⟩
      · refine s_ldc (z := -1000001) C (by decide +kernel) dX6_slotOf_16 ?_
        exact s_iret C E dX6_slotOf_18 ⟨congrArg (fun z => some (vI z)) (by rw [sp_slot, if_neg (by omega)]), rfl⟩

set_option maxHeartbeats 4000000 in
set_option maxRecDepth 100000 in
theorem c_X6_read_0 (l : Launch) (G : fG) (x0 h0 : Nat) (y2 y3 y4 y5 : Value) (a : Nat → Nat) (c : Nat → Int) (F : Nat → Int → Int) (B : Int) (f : Int → Int) (y e : Int) (hR : RSb f c F) (hI : Inv B f) (hB : B ≤ 1073000000) (hy : -2147483648 ≤ y ∧ y < 2147483648) (he : -2147483648 ≤ e ∧ e < 2147483648) : fCt l G yX6_read wsX6_read 6 134 0 0 [.ref x0, vI 0, vI y, vI e] [cO x0 6 [.ref (a 0), .ref h0, y2, y3, y4, y5], cO (a 0) 4 [.ref (a 1), .ref (a 7), .ref (a 9), .ref (a 11), vI (c 1), vI (c 2), vI (c 3), vI (c 4), vI (c 5), vI (c 6), vI (c 7), vI (c 8)], cO (a 1) 1 [vI (c 0), .ref (a 2), .ref (a 3), .ref (a 4), .ref (a 5), .ref (a 6)], cA (a 2) G.2.1.1 100 (F 3), cA (a 3) G.2.1.1 100 (F 4), cA (a 4) G.2.1.1 100 (F 5), cA (a 5) G.2.1.1 100 (F 6), cA (a 6) G.2.1.1 100 (F 7), cO (a 7) 3 [vI (c 9), vI (c 10), vI (c 11), .ref (a 8)], cA (a 8) G.2.1.2.1 101 (F 1), cO (a 9) 3 [vI (c 12), vI (c 13), vI (c 14), .ref (a 10)], cA (a 10) G.2.1.2.1 101 (F 2), cA (a 11) G.2.1.1 3 (F 0)] (fun (v0 : Option Value) (w0 : va_W) => v0 = some (vI (sp_read f 0 y e)) ∧ w0 = [cO x0 6 [.ref (a 0), .ref h0, y2, y3, y4, y5], cO (a 0) 4 [.ref (a 1), .ref (a 7), .ref (a 9), .ref (a 11), vI (c 1), vI (c 2), vI (c 3), vI (c 4), vI (c 5), vI (c 6), vI (c 7), vI (c 8)], cO (a 1) 1 [vI (c 0), .ref (a 2), .ref (a 3), .ref (a 4), .ref (a 5), .ref (a 6)], cA (a 2) G.2.1.1 100 (F 3), cA (a 3) G.2.1.1 100 (F 4), cA (a 4) G.2.1.1 100 (F 5), cA (a 5) G.2.1.1 100 (F 6), cA (a 6) G.2.1.1 100 (F 7), cO (a 7) 3 [vI (c 9), vI (c 10), vI (c 11), .ref (a 8)], cA (a 8) G.2.1.2.1 101 (F 1), cO (a 9) 3 [vI (c 12), vI (c 13), vI (c 14), .ref (a 10)], cA (a 10) G.2.1.2.1 101 (F 2), cA (a 11) G.2.1.1 3 (F 0)]) := by
  refine fs_met (cc := cX6_read) (nL := 5) (ret := (some .int)) (by decide) rfl (Nat.le_of_ble_eq_true rfl) ?_
  intro X C E
  show fSt l G X 0 0 0 [(0, .ref x0), (1, vI 0), (2, vI y), (3, vI e)] [] [cO x0 6 [.ref (a 0), .ref h0, y2, y3, y4, y5], cO (a 0) 4 [.ref (a 1), .ref (a 7), .ref (a 9), .ref (a 11), vI (c 1), vI (c 2), vI (c 3), vI (c 4), vI (c 5), vI (c 6), vI (c 7), vI (c 8)], cO (a 1) 1 [vI (c 0), .ref (a 2), .ref (a 3), .ref (a 4), .ref (a 5), .ref (a 6)], cA (a 2) G.2.1.1 100 (F 3), cA (a 3) G.2.1.1 100 (F 4), cA (a 4) G.2.1.1 100 (F 5), cA (a 5) G.2.1.1 100 (F 6), cA (a 6) G.2.1.1 100 (F 7), cO (a 7) 3 [vI (c 9), vI (c 10), vI (c 11), .ref (a 8)], cA (a 8) G.2.1.2.1 101 (F 1), cO (a 9) 3 [vI (c 12), vI (c 13), vI (c 14), .ref (a 10)], cA (a 10) G.2.1.2.1 101 (F 2), cA (a 11) G.2.1.1 3 (F 0)]
  have hinX3 : ∀ w ∈ u_ws RX3 TX3 4, w ∈ wsX6_read := by decide +kernel
  have hinX4 : ∀ w ∈ u_ws RX4 TX4 12, w ∈ wsX6_read := by decide +kernel
  have hinX6 : ∀ w ∈ u_ws RX6 TX6 6, w ∈ wsX6_read := by decide +kernel
  obtain ⟨hn, htk, hln, htr, hlc, hlo, hap, hrt, hdl, hS0, hS1⟩ := RS.scal hR hI
  have hK : rF (F 3) := RS.hrK hR
  have hT : rF (F 4) := RS.hrT hR
  have hY : rF (F 5) := RS.hrY hR
  have hV : rF (F 6) := RS.hrV hR
  have hA : rF (F 7) := RS.hrA hR
  have hsl : rF (F 0) := RS.hrs hR
  have hg0 : gF (F 1) := RS.hG0 hR
  have hg1 : gF (F 2) := RS.hG1 hR
  have hb0 := RS.b0 hR
  have hb1 := RS.b1 hR
  have en := RS.e_n hR
  have hin := hI.n
  refine s_iload_n 1 C dX6_read_0 rfl 1 rfl ?_
  refine s_callS (As := [vI 0]) (rest := []) C dX6_read_1 (c_X6_isStandby l G 0 (by first | assumption | omega)) gX6_read_X6_isStandby rfl 1 (by decide +kernel) (by decide) [] rfl (by decide) rfl (Nat.le_of_ble_eq_true rfl) ⟨Nat.zero_le _, Nat.zero_le _⟩ ?_
  intro v0 w0 hq
  obtain ⟨rfl, rfl⟩ := hq
  refine ⟨rfl, ?_⟩
  show fSt l G X 0 0 4 [(0, .ref x0), (1, vI 0), (2, vI y), (3, vI e)] [vI (bI (0 ≤ 0 ∧ 0 ≤ 1))] [cO x0 6 [.ref (a 0), .ref h0, y2, y3, y4, y5], cO (a 0) 4 [.ref (a 1), .ref (a 7), .ref (a 9), .ref (a 11), vI (c 1), vI (c 2), vI (c 3), vI (c 4), vI (c 5), vI (c 6), vI (c 7), vI (c 8)], cO (a 1) 1 [vI (c 0), .ref (a 2), .ref (a 3), .ref (a 4), .ref (a 5), .ref (a 6)], cA (a 2) G.2.1.1 100 (F 3), cA (a 3) G.2.1.1 100 (F 4), cA (a 4) G.2.1.1 100 (F 5), cA (a 5) G.2.1.1 100 (F 6), cA (a 6) G.2.1.1 100 (F 7), cO (a 7) 3 [vI (c 9), vI (c 10), vI (c 11), .ref (a 8)], cA (a 8) G.2.1.2.1 101 (F 1), cO (a 9) 3 [vI (c 12), vI (c 13), vI (c 14), .ref (a 10)], cA (a 10) G.2.1.2.1 101 (F 2), cA (a 11) G.2.1.1 3 (F 0)]
  refine s_if_eq 25 C dX6_read_4 (by decide) bI_rng (fun h_4 => ?_) (fun h_4 => ?_)
  · have h_4 := bI_f h_4
    refine s_ldc (z := -1000001) C (by decide +kernel) dX6_read_25 ?_
    exact s_iret C E dX6_read_27 ⟨congrArg (fun z => some (vI z)) (by rw [sp_read, if_neg (by omega)]), rfl⟩
  · have h_4 := bI_t h_4
    refine s_iload_n 2 C dX6_read_7 rfl 2 rfl ?_
    refine s_callS (As := [vI y]) (rest := []) C dX6_read_8 (c_X6_isKey l G y (by first | assumption | omega)) gX6_read_X6_isKey rfl 1 (by decide +kernel) (by decide) [] rfl (by decide) rfl (Nat.le_of_ble_eq_true rfl) ⟨Nat.zero_le _, Nat.zero_le _⟩ ?_
    intro v0 w0 hq
    obtain ⟨rfl, rfl⟩ := hq
    refine ⟨rfl, ?_⟩
    show fSt l G X 0 0 11 [(0, .ref x0), (1, vI 0), (2, vI y), (3, vI e)] [vI (bI (0 ≤ y ∧ y ≤ 23))] [cO x0 6 [.ref (a 0), .ref h0, y2, y3, y4, y5], cO (a 0) 4 [.ref (a 1), .ref (a 7), .ref (a 9), .ref (a 11), vI (c 1), vI (c 2), vI (c 3), vI (c 4), vI (c 5), vI (c 6), vI (c 7), vI (c 8)], cO (a 1) 1 [vI (c 0), .ref (a 2), .ref (a 3), .ref (a 4), .ref (a 5), .ref (a 6)], cA (a 2) G.2.1.1 100 (F 3), cA (a 3) G.2.1.1 100 (F 4), cA (a 4) G.2.1.1 100 (F 5), cA (a 5) G.2.1.1 100 (F 6), cA (a 6) G.2.1.1 100 (F 7), cO (a 7) 3 [vI (c 9), vI (c 10), vI (c 11), .ref (a 8)], cA (a 8) G.2.1.2.1 101 (F 1), cO (a 9) 3 [vI (c 12), vI (c 13), vI (c 14), .ref (a 10)], cA (a 10) G.2.1.2.1 101 (F 2), cA (a 11) G.2.1.1 3 (F 0)]
    refine s_if_eq 25 C dX6_read_11 (by decide) bI_rng (fun h_11 => ?_) (fun h_11 => ?_)
    · have h_11 := bI_f h_11
      refine s_ldc (z := -1000001) C (by decide +kernel) dX6_read_25 ?_
      exact s_iret C E dX6_read_27 ⟨congrArg (fun z => some (vI z)) (by rw [sp_read, if_neg (by omega)]), rfl⟩
    · have h_11 := bI_t h_11
      refine s_aload_n 0 C dX6_read_14 rfl 0 rfl ?_
      refine s_get C dX6_read_15 6 rfl hinX6 0 rfl 0 (by decide) (by decide +kernel) rfl ?_
      refine s_iload_n 3 C dX6_read_18 rfl 3 rfl ?_
      refine s_callV (As := [vI e]) (rest := []) C dX6_read_19 (c_X4_isPosition l G (a 0) (a 1) [.ref (a 7), .ref (a 9), .ref (a 11), vI (c 1), vI (c 2), vI (c 3), vI (c 4), vI (c 5), vI (c 6), vI (c 7), vI (c 8)] [.ref (a 2), .ref (a 3), .ref (a 4), .ref (a 5), .ref (a 6)] (c 0) e (by first | assumption | omega) (by first | assumption | omega)) gX6_read_X4_isPosition rfl 1 (by decide +kernel) (by decide) 1 4 rfl rfl rfl [1, 2] rfl (by decide) rfl (Nat.le_of_ble_eq_true rfl) ⟨Nat.zero_le _, Nat.zero_le _⟩ ?_
      intro v0 w0 hq
      obtain ⟨rfl, rfl⟩ := hq
      refine ⟨rfl, ?_⟩
      show fSt l G X 0 0 22 [(0, .ref x0), (1, vI 0), (2, vI y), (3, vI e)] [vI (bI (0 ≤ e ∧ e ≤ (c 0)))] [cO x0 6 [.ref (a 0), .ref h0, y2, y3, y4, y5], cO (a 0) 4 [.ref (a 1), .ref (a 7), .ref (a 9), .ref (a 11), vI (c 1), vI (c 2), vI (c 3), vI (c 4), vI (c 5), vI (c 6), vI (c 7), vI (c 8)], cO (a 1) 1 [vI (c 0), .ref (a 2), .ref (a 3), .ref (a 4), .ref (a 5), .ref (a 6)], cA (a 2) G.2.1.1 100 (F 3), cA (a 3) G.2.1.1 100 (F 4), cA (a 4) G.2.1.1 100 (F 5), cA (a 5) G.2.1.1 100 (F 6), cA (a 6) G.2.1.1 100 (F 7), cO (a 7) 3 [vI (c 9), vI (c 10), vI (c 11), .ref (a 8)], cA (a 8) G.2.1.2.1 101 (F 1), cO (a 9) 3 [vI (c 12), vI (c 13), vI (c 14), .ref (a 10)], cA (a 10) G.2.1.2.1 101 (F 2), cA (a 11) G.2.1.1 3 (F 0)]
      refine s_if_ne 28 C dX6_read_22 (by decide) bI_rng (fun h_22 => ?_) (fun h_22 => ?_)
      · have h_22 := bI_t h_22
        refine s_aload_n 0 C dX6_read_28 rfl 0 rfl ?_
        refine s_get C dX6_read_29 6 rfl hinX6 0 rfl 0 (by decide) (by decide +kernel) rfl ?_
        refine s_iload_n 1 C dX6_read_32 rfl 1 rfl ?_
        refine s_callV (As := [vI 0]) (rest := []) C dX6_read_33 (c_X4_standby0 l G (a 0) (a 1) (a 7) (a 9) [.ref (a 11), vI (c 1), vI (c 2), vI (c 3), vI (c 4), vI (c 5), vI (c 6), vI (c 7), vI (c 8)] 0 (by first | assumption | omega)) gX6_read_X4_standby rfl 1 (by decide +kernel) (by decide) 1 4 rfl rfl rfl [1] rfl (by decide) rfl (Nat.le_of_ble_eq_true rfl) ⟨Nat.zero_le _, Nat.zero_le _⟩ ?_
        intro v0 w0 hq
        obtain ⟨rfl, rfl⟩ := hq
        refine ⟨rfl, ?_⟩
        show fSt l G X 0 0 36 [(0, .ref x0), (1, vI 0), (2, vI y), (3, vI e)] [.ref (a 7)] [cO x0 6 [.ref (a 0), .ref h0, y2, y3, y4, y5], cO (a 0) 4 [.ref (a 1), .ref (a 7), .ref (a 9), .ref (a 11), vI (c 1), vI (c 2), vI (c 3), vI (c 4), vI (c 5), vI (c 6), vI (c 7), vI (c 8)], cO (a 1) 1 [vI (c 0), .ref (a 2), .ref (a 3), .ref (a 4), .ref (a 5), .ref (a 6)], cA (a 2) G.2.1.1 100 (F 3), cA (a 3) G.2.1.1 100 (F 4), cA (a 4) G.2.1.1 100 (F 5), cA (a 5) G.2.1.1 100 (F 6), cA (a 6) G.2.1.1 100 (F 7), cO (a 7) 3 [vI (c 9), vI (c 10), vI (c 11), .ref (a 8)], cA (a 8) G.2.1.2.1 101 (F 1), cO (a 9) 3 [vI (c 12), vI (c 13), vI (c 14), .ref (a 10)], cA (a 10) G.2.1.2.1 101 (F 2), cA (a 11) G.2.1.1 3 (F 0)]
        refine s_astore [(4, .ref (a 7)), (0, .ref x0), (1, vI 0), (2, vI y), (3, vI e)] C dX6_read_36 (by decide) rfl ?_
        refine s_aload C dX6_read_38 0 rfl ?_
        refine s_iload_n 3 C dX6_read_40 rfl 4 rfl ?_
        refine s_callV (As := [vI e]) (rest := []) C dX6_read_41 (c_X3_canServe l G (a 7) (a 8) (c 9) (c 10) (c 11) (F 1) e (by first | assumption | omega) (by first | assumption | omega) (by first | assumption | omega) (by first | assumption | omega)) gX6_read_X3_canServe rfl 1 (by decide +kernel) (by decide) 8 3 rfl rfl rfl [8, 9] rfl (by decide) rfl (Nat.le_of_ble_eq_true rfl) ⟨Nat.zero_le _, Nat.zero_le _⟩ ?_
        intro v0 w0 hq
        obtain ⟨rfl, rfl⟩ := hq
        refine ⟨rfl, ?_⟩
        show fSt l G X 0 0 44 [(4, .ref (a 7)), (0, .ref x0), (1, vI 0), (2, vI y), (3, vI e)] [vI (bI ((c 11) = 0 ∧ e ≤ (c 10)))] [cO x0 6 [.ref (a 0), .ref h0, y2, y3, y4, y5], cO (a 0) 4 [.ref (a 1), .ref (a 7), .ref (a 9), .ref (a 11), vI (c 1), vI (c 2), vI (c 3), vI (c 4), vI (c 5), vI (c 6), vI (c 7), vI (c 8)], cO (a 1) 1 [vI (c 0), .ref (a 2), .ref (a 3), .ref (a 4), .ref (a 5), .ref (a 6)], cA (a 2) G.2.1.1 100 (F 3), cA (a 3) G.2.1.1 100 (F 4), cA (a 4) G.2.1.1 100 (F 5), cA (a 5) G.2.1.1 100 (F 6), cA (a 6) G.2.1.1 100 (F 7), cO (a 7) 3 [vI (c 9), vI (c 10), vI (c 11), .ref (a 8)], cA (a 8) G.2.1.2.1 101 (F 1), cO (a 9) 3 [vI (c 12), vI (c 13), vI (c 14), .ref (a 10)], cA (a 10) G.2.1.2.1 101 (F 2), cA (a 11) G.2.1.1 3 (F 0)]
        refine s_if_ne 50 C dX6_read_44 (by decide) bI_rng (fun h_44 => ?_) (fun h_44 => ?_)
        · have h_44 := bI_t h_44
          refine s_aload_n 0 C dX6_read_50 rfl 1 rfl ?_
          refine s_get C dX6_read_51 6 rfl hinX6 0 rfl 0 (by decide) (by decide +kernel) rfl ?_
          refine s_get C dX6_read_54 4 rfl hinX4 1 rfl 0 (by decide) (by decide +kernel) rfl ?_
          refine s_iload_n 2 C dX6_read_57 rfl 3 rfl ?_
          refine s_aload C dX6_read_58 0 rfl ?_
          refine s_get C dX6_read_60 3 rfl hinX3 8 rfl 1 (by decide) (by decide +kernel) rfl ?_
          refine s_callV (As := [vI y, vI (c 10)]) (rest := []) C dX6_read_63 (c_X1_valueAt l G (a 1) (a 2) (a 3) (a 4) (a 5) (a 6) (c 0) (F 3) (F 4) (F 5) (F 6) (F 7) y (c 10) (by first | assumption | omega) (by first | assumption | omega) (by first | assumption | omega) (by first | assumption | omega) (by first | assumption | omega) (by first | assumption | omega) (by first | assumption | omega) (by first | assumption | omega)) gX6_read_X1_valueAt rfl 2 (by decide +kernel) (by decide) 2 1 rfl rfl rfl [2, 3, 4, 5, 6, 7] rfl (by decide) rfl (Nat.le_of_ble_eq_true rfl) ⟨Nat.zero_le _, Nat.zero_le _⟩ ?_
          intro v0 w0 hq
          obtain ⟨rfl, rfl⟩ := hq
          refine ⟨rfl, ?_⟩
          show fSt l G X 0 0 66 [(4, .ref (a 7)), (0, .ref x0), (1, vI 0), (2, vI y), (3, vI e)] [vI (vA (c 0) (F 3) (F 4) (F 5) (F 6) y (c 10))] [cO x0 6 [.ref (a 0), .ref h0, y2, y3, y4, y5], cO (a 0) 4 [.ref (a 1), .ref (a 7), .ref (a 9), .ref (a 11), vI (c 1), vI (c 2), vI (c 3), vI (c 4), vI (c 5), vI (c 6), vI (c 7), vI (c 8)], cO (a 1) 1 [vI (c 0), .ref (a 2), .ref (a 3), .ref (a 4), .ref (a 5), .ref (a 6)], cA (a 2) G.2.1.1 100 (F 3), cA (a 3) G.2.1.1 100 (F 4), cA (a 4) G.2.1.1 100 (F 5), cA (a 5) G.2.1.1 100 (F 6), cA (a 6) G.2.1.1 100 (F 7), cO (a 7) 3 [vI (c 9), vI (c 10), vI (c 11), .ref (a 8)], cA (a 8) G.2.1.2.1 101 (F 1), cO (a 9) 3 [vI (c 12), vI (c 13), vI (c 14), .ref (a 10)], cA (a 10) G.2.1.2.1 101 (F 2), cA (a 11) G.2.1.1 3 (F 0)]
          exact s_iret C E dX6_read_66 ⟨congrArg (fun z => some (vI z)) (by rw [sp_read, if_pos (by omega), if_pos (by omega)]; rw [← hb0.2.1]; exact q_vA hR hI (by omega)), rfl⟩
        · have h_44 := bI_f h_44
          refine s_ldc (z := -1000002) C (by decide +kernel) dX6_read_47 ?_
          exact s_iret C E dX6_read_49 ⟨congrArg (fun z => some (vI z)) (by rw [sp_read, if_pos (by omega), if_neg (by omega)]), rfl⟩
      · have h_22 := bI_f h_22
        refine s_ldc (z := -1000001) C (by decide +kernel) dX6_read_25 ?_
        exact s_iret C E dX6_read_27 ⟨congrArg (fun z => some (vI z)) (by rw [sp_read, if_neg (by omega)]), rfl⟩


set_option maxHeartbeats 4000000 in
set_option maxRecDepth 100000 in
theorem c_X6_read_1 (l : Launch) (G : fG) (x0 h0 : Nat) (y2 y3 y4 y5 : Value) (a : Nat → Nat) (c : Nat → Int) (F : Nat → Int → Int) (B : Int) (f : Int → Int) (y e : Int) (hR : RSb f c F) (hI : Inv B f) (hB : B ≤ 1073000000) (hy : -2147483648 ≤ y ∧ y < 2147483648) (he : -2147483648 ≤ e ∧ e < 2147483648) : fCt l G yX6_read wsX6_read 6 134 0 0 [.ref x0, vI 1, vI y, vI e] [cO x0 6 [.ref (a 0), .ref h0, y2, y3, y4, y5], cO (a 0) 4 [.ref (a 1), .ref (a 7), .ref (a 9), .ref (a 11), vI (c 1), vI (c 2), vI (c 3), vI (c 4), vI (c 5), vI (c 6), vI (c 7), vI (c 8)], cO (a 1) 1 [vI (c 0), .ref (a 2), .ref (a 3), .ref (a 4), .ref (a 5), .ref (a 6)], cA (a 2) G.2.1.1 100 (F 3), cA (a 3) G.2.1.1 100 (F 4), cA (a 4) G.2.1.1 100 (F 5), cA (a 5) G.2.1.1 100 (F 6), cA (a 6) G.2.1.1 100 (F 7), cO (a 7) 3 [vI (c 9), vI (c 10), vI (c 11), .ref (a 8)], cA (a 8) G.2.1.2.1 101 (F 1), cO (a 9) 3 [vI (c 12), vI (c 13), vI (c 14), .ref (a 10)], cA (a 10) G.2.1.2.1 101 (F 2), cA (a 11) G.2.1.1 3 (F 0)] (fun (v0 : Option Value) (w0 : va_W) => v0 = some (vI (sp_read f 1 y e)) ∧ w0 = [cO x0 6 [.ref (a 0), .ref h0, y2, y3, y4, y5], cO (a 0) 4 [.ref (a 1), .ref (a 7), .ref (a 9), .ref (a 11), vI (c 1), vI (c 2), vI (c 3), vI (c 4), vI (c 5), vI (c 6), vI (c 7), vI (c 8)], cO (a 1) 1 [vI (c 0), .ref (a 2), .ref (a 3), .ref (a 4), .ref (a 5), .ref (a 6)], cA (a 2) G.2.1.1 100 (F 3), cA (a 3) G.2.1.1 100 (F 4), cA (a 4) G.2.1.1 100 (F 5), cA (a 5) G.2.1.1 100 (F 6), cA (a 6) G.2.1.1 100 (F 7), cO (a 7) 3 [vI (c 9), vI (c 10), vI (c 11), .ref (a 8)], cA (a 8) G.2.1.2.1 101 (F 1), cO (a 9) 3 [vI (c 12), vI (c 13), vI (c 14), .ref (a 10)], cA (a 10) G.2.1.2.1 101 (F 2), cA (a 11) G.2.1.1 3 (F 0)]) := by
  refine fs_met (cc := cX6_read) (nL := 5) (ret := (some .int)) (by decide) rfl (Nat.le_of_ble_eq_true rfl) ?_
  intro X C E
  show fSt l G X 0 0 0 [(0, .ref x0), (1, vI 1), (2, vI y), (3, vI e)] [] [cO x0 6 [.ref (a 0), .ref h0, y2, y3, y4, y5], cO (a 0) 4 [.ref (a 1), .ref (a 7), .ref (a 9), .ref (a 11), vI (c 1), vI (c 2), vI (c 3), vI (c 4), vI (c 5), vI (c 6), vI (c 7), vI (c 8)], cO (a 1) 1 [vI (c 0), .ref (a 2), .ref (a 3), .ref (a 4), .ref (a 5), .ref (a 6)], cA (a 2) G.2.1.1 100 (F 3), cA (a 3) G.2.1.1 100 (F 4), cA (a 4) G.2.1.1 100 (F 5), cA (a 5) G.2.1.1 100 (F 6), cA (a 6) G.2.1.1 100 (F 7), cO (a 7) 3 [vI (c 9), vI (c 10), vI (c 11), .ref (a 8)], cA (a 8) G.2.1.2.1 101 (F 1), cO (a 9) 3 [vI (c 12), vI (c 13), vI (c 14), .ref (a 10)], cA (a 10) G.2.1.2.1 101 (F 2), cA (a 11) G.2.1.1 3 (F 0)]
  have hinX3 : ∀ w ∈ u_ws RX3 TX3 4, w ∈ wsX6_read := by decide +kernel
  have hinX4 : ∀ w ∈ u_ws RX4 TX4 12, w ∈ wsX6_read := by decide +kernel
  have hinX6 : ∀ w ∈ u_ws RX6 TX6 6, w ∈ wsX6_read := by decide +kernel
  obtain ⟨hn, htk, hln, htr, hlc, hlo, hap, hrt, hdl, hS0, hS1⟩ := RS.scal hR hI
  have hK : rF (F 3) := RS.hrK hR
  have hT : rF (F 4) := RS.hrT hR
  have hY : rF (F 5) := RS.hrY hR
  have hV : rF (F 6) := RS.hrV hR
  have hA : rF (F 7) := RS.hrA hR
  have hsl : rF (F 0) := RS.hrs hR
  have hg0 : gF (F 1) := RS.hG0 hR
  have hg1 : gF (F 2) := RS.hG1 hR
  have hb0 := RS.b0 hR
  have hb1 := RS.b1 hR
  have en := RS.e_n hR
  have hin := hI.n
  refine s_iload_n 1 C dX6_read_0 rfl 1 rfl ?_
  refine s_callS (As := [vI 1]) (rest := []) C dX6_read_1 (c_X6_isStandby l G 1 (by first | assumption | omega)) gX6_read_X6_isStandby rfl 1 (by decide +kernel) (by decide) [] rfl (by decide) rfl (Nat.le_of_ble_eq_true rfl) ⟨Nat.zero_le _, Nat.zero_le _⟩ ?_
  intro v0 w0 hq
  obtain ⟨rfl, rfl⟩ := hq
  refine ⟨rfl, ?_⟩
  show fSt l G X 0 0 4 [(0, .ref x0), (1, vI 1), (2, vI y), (3, vI e)] [vI (bI (0 ≤ 1 ∧ 1 ≤ 1))] [cO x0 6 [.ref (a 0), .ref h0, y2, y3, y4, y5], cO (a 0) 4 [.ref (a 1), .ref (a 7), .ref (a 9), .ref (a 11), vI (c 1), vI (c 2), vI (c 3), vI (c 4), vI (c 5), vI (c 6), vI (c 7), vI (c 8)], cO (a 1) 1 [vI (c 0), .ref (a 2), .ref (a 3), .ref (a 4), .ref (a 5), .ref (a 6)], cA (a 2) G.2.1.1 100 (F 3), cA (a 3) G.2.1.1 100 (F 4), cA (a 4) G.2.1.1 100 (F 5), cA (a 5) G.2.1.1 100 (F 6), cA (a 6) G.2.1.1 100 (F 7), cO (a 7) 3 [vI (c 9), vI (c 10), vI (c 11), .ref (a 8)], cA (a 8) G.2.1.2.1 101 (F 1), cO (a 9) 3 [vI (c 12), vI (c 13), vI (c 14), .ref (a 10)], cA (a 10) G.2.1.2.1 101 (F 2), cA (a 11) G.2.1.1 3 (F 0)]
  refine s_if_eq 25 C dX6_read_4 (by decide) bI_rng (fun h_4 => ?_) (fun h_4 => ?_)
  · have h_4 := bI_f h_4
    refine s_ldc (z := -1000001) C (by decide +kernel) dX6_read_25 ?_
    exact s_iret C E dX6_read_27 ⟨congrArg (fun z => some (vI z)) (by rw [sp_read, if_neg (by omega)]), rfl⟩
  · have h_4 := bI_t h_4
    refine s_iload_n 2 C dX6_read_7 rfl 2 rfl ?_
    refine s_callS (As := [vI y]) (rest := []) C dX6_read_8 (c_X6_isKey l G y (by first | assumption | omega)) gX6_read_X6_isKey rfl 1 (by decide +kernel) (by decide) [] rfl (by decide) rfl (Nat.le_of_ble_eq_true rfl) ⟨Nat.zero_le _, Nat.zero_le _⟩ ?_
    intro v0 w0 hq
    obtain ⟨rfl, rfl⟩ := hq
    refine ⟨rfl, ?_⟩
    show fSt l G X 0 0 11 [(0, .ref x0), (1, vI 1), (2, vI y), (3, vI e)] [vI (bI (0 ≤ y ∧ y ≤ 23))] [cO x0 6 [.ref (a 0), .ref h0, y2, y3, y4, y5], cO (a 0) 4 [.ref (a 1), .ref (a 7), .ref (a 9), .ref (a 11), vI (c 1), vI (c 2), vI (c 3), vI (c 4), vI (c 5), vI (c 6), vI (c 7), vI (c 8)], cO (a 1) 1 [vI (c 0), .ref (a 2), .ref (a 3), .ref (a 4), .ref (a 5), .ref (a 6)], cA (a 2) G.2.1.1 100 (F 3), cA (a 3) G.2.1.1 100 (F 4), cA (a 4) G.2.1.1 100 (F 5), cA (a 5) G.2.1.1 100 (F 6), cA (a 6) G.2.1.1 100 (F 7), cO (a 7) 3 [vI (c 9), vI (c 10), vI (c 11), .ref (a 8)], cA (a 8) G.2.1.2.1 101 (F 1), cO (a 9) 3 [vI (c 12), vI (c 13), vI (c 14), .ref (a 10)], cA (a 10) G.2.1.2.1 101 (F 2), cA (a 11) G.2.1.1 3 (F 0)]
    refine s_if_eq 25 C dX6_read_11 (by decide) bI_rng (fun h_11 => ?_) (fun h_11 => ?_)
    · have h_11 := bI_f h_11
      refine s_ldc (z := -1000001) C (by decide +kernel) dX6_read_25 ?_
      exact s_iret C E dX6_read_27 ⟨congrArg (fun z => some (vI z)) (by rw [sp_read, if_neg (by omega)]), rfl⟩
    · have h_11 := bI_t h_11
      refine s_aload_n 0 C dX6_read_14 rfl 0 rfl ?_
      refine s_get C dX6_read_15 6 rfl hinX6 0 rfl 0 (by decide) (by decide +kernel) rfl ?_
      refine s_iload_n 3 C dX6_read_18 rfl 3 rfl ?_
      refine s_callV (As := [vI e]) (rest := []) C dX6_read_19 (c_X4_isPosition l G (a 0) (a 1) [.ref (a 7), .ref (a 9), .ref (a 11), vI (c 1), vI (c 2), vI (c 3), vI (c 4), vI (c 5), vI (c 6), vI (c 7), vI (c 8)] [.ref (a 2), .ref (a 3), .ref (a 4), .ref (a 5), .ref (a 6)] (c 0) e (by first | assumption | omega) (by first | assumption | omega)) gX6_read_X4_isPosition rfl 1 (by decide +kernel) (by decide) 1 4 rfl rfl rfl [1, 2] rfl (by decide) rfl (Nat.le_of_ble_eq_true rfl) ⟨Nat.zero_le _, Nat.zero_le _⟩ ?_
      intro v0 w0 hq
      obtain ⟨rfl, rfl⟩ := hq
      refine ⟨rfl, ?_⟩
      show fSt l G X 0 0 22 [(0, .ref x0), (1, vI 1), (2, vI y), (3, vI e)] [vI (bI (0 ≤ e ∧ e ≤ (c 0)))] [cO x0 6 [.ref (a 0), .ref h0, y2, y3, y4, y5], cO (a 0) 4 [.ref (a 1), .ref (a 7), .ref (a 9), .ref (a 11), vI (c 1), vI (c 2), vI (c 3), vI (c 4), vI (c 5), vI (c 6), vI (c 7), vI (c 8)], cO (a 1) 1 [vI (c 0), .ref (a 2), .ref (a 3), .ref (a 4), .ref (a 5), .ref (a 6)], cA (a 2) G.2.1.1 100 (F 3), cA (a 3) G.2.1.1 100 (F 4), cA (a 4) G.2.1.1 100 (F 5), cA (a 5) G.2.1.1 100 (F 6), cA (a 6) G.2.1.1 100 (F 7), cO (a 7) 3 [vI (c 9), vI (c 10), vI (c 11), .ref (a 8)], cA (a 8) G.2.1.2.1 101 (F 1), cO (a 9) 3 [vI (c 12), vI (c 13), vI (c 14), .ref (a 10)], cA (a 10) G.2.1.2.1 101 (F 2), cA (a 11) G.2.1.1 3 (F 0)]
      refine s_if_ne 28 C dX6_read_22 (by decide) bI_rng (fun h_22 => ?_) (fun h_22 => ?_)
      · have h_22 := bI_t h_22
        refine s_aload_n 0 C dX6_read_28 rfl 0 rfl ?_
        refine s_get C dX6_read_29 6 rfl hinX6 0 rfl 0 (by decide) (by decide +kernel) rfl ?_
        refine s_iload_n 1 C dX6_read_32 rfl 1 rfl ?_
        refine s_callV (As := [vI 1]) (rest := []) C dX6_read_33 (c_X4_standby1 l G (a 0) (a 1) (a 7) (a 9) [.ref (a 11), vI (c 1), vI (c 2), vI (c 3), vI (c 4), vI (c 5), vI (c 6), vI (c 7), vI (c 8)] 1 (by first | assumption | omega)) gX6_read_X4_standby rfl 1 (by decide +kernel) (by decide) 1 4 rfl rfl rfl [1] rfl (by decide) rfl (Nat.le_of_ble_eq_true rfl) ⟨Nat.zero_le _, Nat.zero_le _⟩ ?_
        intro v0 w0 hq
        obtain ⟨rfl, rfl⟩ := hq
        refine ⟨rfl, ?_⟩
        show fSt l G X 0 0 36 [(0, .ref x0), (1, vI 1), (2, vI y), (3, vI e)] [.ref (a 9)] [cO x0 6 [.ref (a 0), .ref h0, y2, y3, y4, y5], cO (a 0) 4 [.ref (a 1), .ref (a 7), .ref (a 9), .ref (a 11), vI (c 1), vI (c 2), vI (c 3), vI (c 4), vI (c 5), vI (c 6), vI (c 7), vI (c 8)], cO (a 1) 1 [vI (c 0), .ref (a 2), .ref (a 3), .ref (a 4), .ref (a 5), .ref (a 6)], cA (a 2) G.2.1.1 100 (F 3), cA (a 3) G.2.1.1 100 (F 4), cA (a 4) G.2.1.1 100 (F 5), cA (a 5) G.2.1.1 100 (F 6), cA (a 6) G.2.1.1 100 (F 7), cO (a 7) 3 [vI (c 9), vI (c 10), vI (c 11), .ref (a 8)], cA (a 8) G.2.1.2.1 101 (F 1), cO (a 9) 3 [vI (c 12), vI (c 13), vI (c 14), .ref (a 10)], cA (a 10) G.2.1.2.1 101 (F 2), cA (a 11) G.2.1.1 3 (F 0)]
        refine s_astore [(4, .ref (a 9)), (0, .ref x0), (1, vI 1), (2, vI y), (3, vI e)] C dX6_read_36 (by decide) rfl ?_
        refine s_aload C dX6_read_38 0 rfl ?_
        refine s_iload_n 3 C dX6_read_40 rfl 4 rfl ?_
        refine s_callV (As := [vI e]) (rest := []) C dX6_read_41 (c_X3_canServe l G (a 9) (a 10) (c 12) (c 13) (c 14) (F 2) e (by first | assumption | omega) (by first | assumption | omega) (by first | assumption | omega) (by first | assumption | omega)) gX6_read_X3_canServe rfl 1 (by decide +kernel) (by decide) 10 3 rfl rfl rfl [10, 11] rfl (by decide) rfl (Nat.le_of_ble_eq_true rfl) ⟨Nat.zero_le _, Nat.zero_le _⟩ ?_
        intro v0 w0 hq
        obtain ⟨rfl, rfl⟩ := hq
        refine ⟨rfl, ?_⟩
        show fSt l G X 0 0 44 [(4, .ref (a 9)), (0, .ref x0), (1, vI 1), (2, vI y), (3, vI e)] [vI (bI ((c 14) = 0 ∧ e ≤ (c 13)))] [cO x0 6 [.ref (a 0), .ref h0, y2, y3, y4, y5], cO (a 0) 4 [.ref (a 1), .ref (a 7), .ref (a 9), .ref (a 11), vI (c 1), vI (c 2), vI (c 3), vI (c 4), vI (c 5), vI (c 6), vI (c 7), vI (c 8)], cO (a 1) 1 [vI (c 0), .ref (a 2), .ref (a 3), .ref (a 4), .ref (a 5), .ref (a 6)], cA (a 2) G.2.1.1 100 (F 3), cA (a 3) G.2.1.1 100 (F 4), cA (a 4) G.2.1.1 100 (F 5), cA (a 5) G.2.1.1 100 (F 6), cA (a 6) G.2.1.1 100 (F 7), cO (a 7) 3 [vI (c 9), vI (c 10), vI (c 11), .ref (a 8)], cA (a 8) G.2.1.2.1 101 (F 1), cO (a 9) 3 [vI (c 12), vI (c 13), vI (c 14), .ref (a 10)], cA (a 10) G.2.1.2.1 101 (F 2), cA (a 11) G.2.1.1 3 (F 0)]
        refine s_if_ne 50 C dX6_read_44 (by decide) bI_rng (fun h_44 => ?_) (fun h_44 => ?_)
        · have h_44 := bI_t h_44
          refine s_aload_n 0 C dX6_read_50 rfl 1 rfl ?_
          refine s_get C dX6_read_51 6 rfl hinX6 0 rfl 0 (by decide) (by decide +kernel) rfl ?_
          refine s_get C dX6_read_54 4 rfl hinX4 1 rfl 0 (by decide) (by decide +kernel) rfl ?_
          refine s_iload_n 2 C dX6_read_57 rfl 3 rfl ?_
          refine s_aload C dX6_read_58 0 rfl ?_
          refine s_get C dX6_read_60 3 rfl hinX3 10 rfl 1 (by decide) (by decide +kernel) rfl ?_
          refine s_callV (As := [vI y, vI (c 13)]) (rest := []) C dX6_read_63 (c_X1_valueAt l G (a 1) (a 2) (a 3) (a 4) (a 5) (a 6) (c 0) (F 3) (F 4) (F 5) (F 6) (F 7) y (c 13) (by first | assumption | omega) (by first | assumption | omega) (by first | assumption | omega) (by first | assumption | omega) (by first | assumption | omega) (by first | assumption | omega) (by first | assumption | omega) (by first | assumption | omega)) gX6_read_X1_valueAt rfl 2 (by decide +kernel) (by decide) 2 1 rfl rfl rfl [2, 3, 4, 5, 6, 7] rfl (by decide) rfl (Nat.le_of_ble_eq_true rfl) ⟨Nat.zero_le _, Nat.zero_le _⟩ ?_
          intro v0 w0 hq
          obtain ⟨rfl, rfl⟩ := hq
          refine ⟨rfl, ?_⟩
          show fSt l G X 0 0 66 [(4, .ref (a 9)), (0, .ref x0), (1, vI 1), (2, vI y), (3, vI e)] [vI (vA (c 0) (F 3) (F 4) (F 5) (F 6) y (c 13))] [cO x0 6 [.ref (a 0), .ref h0, y2, y3, y4, y5], cO (a 0) 4 [.ref (a 1), .ref (a 7), .ref (a 9), .ref (a 11), vI (c 1), vI (c 2), vI (c 3), vI (c 4), vI (c 5), vI (c 6), vI (c 7), vI (c 8)], cO (a 1) 1 [vI (c 0), .ref (a 2), .ref (a 3), .ref (a 4), .ref (a 5), .ref (a 6)], cA (a 2) G.2.1.1 100 (F 3), cA (a 3) G.2.1.1 100 (F 4), cA (a 4) G.2.1.1 100 (F 5), cA (a 5) G.2.1.1 100 (F 6), cA (a 6) G.2.1.1 100 (F 7), cO (a 7) 3 [vI (c 9), vI (c 10), vI (c 11), .ref (a 8)], cA (a 8) G.2.1.2.1 101 (F 1), cO (a 9) 3 [vI (c 12), vI (c 13), vI (c 14), .ref (a 10)], cA (a 10) G.2.1.2.1 101 (F 2), cA (a 11) G.2.1.1 3 (F 0)]
          exact s_iret C E dX6_read_66 ⟨congrArg (fun z => some (vI z)) (by rw [sp_read, if_pos (by omega), if_pos (by omega)]; rw [← hb1.2.1]; exact q_vA hR hI (by omega)), rfl⟩
        · have h_44 := bI_f h_44
          refine s_ldc (z := -1000002) C (by decide +kernel) dX6_read_47 ?_
          exact s_iret C E dX6_read_49 ⟨congrArg (fun z => some (vI z)) (by rw [sp_read, if_pos (by omega), if_neg (by omega)]), rfl⟩
      · have h_22 := bI_f h_22
        refine s_ldc (z := -1000001) C (by decide +kernel) dX6_read_25 ?_
        exact s_iret C E dX6_read_27 ⟨congrArg (fun z => some (vI z)) (by rw [sp_read, if_neg (by omega)]), rfl⟩


set_option maxHeartbeats 4000000 in
set_option maxRecDepth 100000 in
theorem c_X6_read_x (l : Launch) (G : fG) (x0 h0 : Nat) (y2 y3 y4 y5 : Value) (a : Nat → Nat) (c : Nat → Int) (F : Nat → Int → Int) (B : Int) (f : Int → Int) (b y e : Int) (hR : RSb f c F) (hI : Inv B f) (hB : B ≤ 1073000000) (hy : -2147483648 ≤ y ∧ y < 2147483648) (he : -2147483648 ≤ e ∧ e < 2147483648) (hb : -2147483648 ≤ b ∧ b < 2147483648) (hbx : ¬ (0 ≤ b ∧ b ≤ 1)) : fCt l G yX6_read wsX6_read 6 134 0 0 [.ref x0, vI b, vI y, vI e] [cO x0 6 [.ref (a 0), .ref h0, y2, y3, y4, y5], cO (a 0) 4 [.ref (a 1), .ref (a 7), .ref (a 9), .ref (a 11), vI (c 1), vI (c 2), vI (c 3), vI (c 4), vI (c 5), vI (c 6), vI (c 7), vI (c 8)], cO (a 1) 1 [vI (c 0), .ref (a 2), .ref (a 3), .ref (a 4), .ref (a 5), .ref (a 6)], cA (a 2) G.2.1.1 100 (F 3), cA (a 3) G.2.1.1 100 (F 4), cA (a 4) G.2.1.1 100 (F 5), cA (a 5) G.2.1.1 100 (F 6), cA (a 6) G.2.1.1 100 (F 7), cO (a 7) 3 [vI (c 9), vI (c 10), vI (c 11), .ref (a 8)], cA (a 8) G.2.1.2.1 101 (F 1), cO (a 9) 3 [vI (c 12), vI (c 13), vI (c 14), .ref (a 10)], cA (a 10) G.2.1.2.1 101 (F 2), cA (a 11) G.2.1.1 3 (F 0)] (fun (v0 : Option Value) (w0 : va_W) => v0 = some (vI (sp_read f b y e)) ∧ w0 = [cO x0 6 [.ref (a 0), .ref h0, y2, y3, y4, y5], cO (a 0) 4 [.ref (a 1), .ref (a 7), .ref (a 9), .ref (a 11), vI (c 1), vI (c 2), vI (c 3), vI (c 4), vI (c 5), vI (c 6), vI (c 7), vI (c 8)], cO (a 1) 1 [vI (c 0), .ref (a 2), .ref (a 3), .ref (a 4), .ref (a 5), .ref (a 6)], cA (a 2) G.2.1.1 100 (F 3), cA (a 3) G.2.1.1 100 (F 4), cA (a 4) G.2.1.1 100 (F 5), cA (a 5) G.2.1.1 100 (F 6), cA (a 6) G.2.1.1 100 (F 7), cO (a 7) 3 [vI (c 9), vI (c 10), vI (c 11), .ref (a 8)], cA (a 8) G.2.1.2.1 101 (F 1), cO (a 9) 3 [vI (c 12), vI (c 13), vI (c 14), .ref (a 10)], cA (a 10) G.2.1.2.1 101 (F 2), cA (a 11) G.2.1.1 3 (F 0)]) := by
  refine fs_met (cc := cX6_read) (nL := 5) (ret := (some .int)) (by decide) rfl (Nat.le_of_ble_eq_true rfl) ?_
  intro X C E
  show fSt l G X 0 0 0 [(0, .ref x0), (1, vI b), (2, vI y), (3, vI e)] [] [cO x0 6 [.ref (a 0), .ref h0, y2, y3, y4, y5], cO (a 0) 4 [.ref (a 1), .ref (a 7), .ref (a 9), .ref (a 11), vI (c 1), vI (c 2), vI (c 3), vI (c 4), vI (c 5), vI (c 6), vI (c 7), vI (c 8)], cO (a 1) 1 [vI (c 0), .ref (a 2), .ref (a 3), .ref (a 4), .ref (a 5), .ref (a 6)], cA (a 2) G.2.1.1 100 (F 3), cA (a 3) G.2.1.1 100 (F 4), cA (a 4) G.2.1.1 100 (F 5), cA (a 5) G.2.1.1 100 (F 6), cA (a 6) G.2.1.1 100 (F 7), cO (a 7) 3 [vI (c 9), vI (c 10), vI (c 11), .ref (a 8)], cA (a 8) G.2.1.2.1 101 (F 1), cO (a 9) 3 [vI (c 12), vI (c 13), vI (c 14), .ref (a 10)], cA (a 10) G.2.1.2.1 101 (F 2), cA (a 11) G.2.1.1 3 (F 0)]
  obtain ⟨hn, htk, hln, htr, hlc, hlo, hap, hrt, hdl, hS0, hS1⟩ := RS.scal hR hI
  have hK : rF (F 3) := RS.hrK hR
  have hT : rF (F 4) := RS.hrT hR
  have hY : rF (F 5) := RS.hrY hR
  have hV : rF (F 6) := RS.hrV hR
  have hA : rF (F 7) := RS.hrA hR
  have hsl : rF (F 0) := RS.hrs hR
  have hg0 : gF (F 1) := RS.hG0 hR
  have hg1 : gF (F 2) := RS.hG1 hR
  have hb0 := RS.b0 hR
  have hb1 := RS.b1 hR
  have en := RS.e_n hR
  have hin := hI.n
  refine s_iload_n 1 C dX6_read_0 rfl 1 rfl ?_
  refine s_callS (As := [vI b]) (rest := []) C dX6_read_1 (c_X6_isStandby l G b (by first | assumption | omega)) gX6_read_X6_isStandby rfl 1 (by decide +kernel) (by decide) [] rfl (by decide) rfl (Nat.le_of_ble_eq_true rfl) ⟨Nat.zero_le _, Nat.zero_le _⟩ ?_
  intro v0 w0 hq
  obtain ⟨rfl, rfl⟩ := hq
  refine ⟨rfl, ?_⟩
  show fSt l G X 0 0 4 [(0, .ref x0), (1, vI b), (2, vI y), (3, vI e)] [vI (bI (0 ≤ b ∧ b ≤ 1))] [cO x0 6 [.ref (a 0), .ref h0, y2, y3, y4, y5], cO (a 0) 4 [.ref (a 1), .ref (a 7), .ref (a 9), .ref (a 11), vI (c 1), vI (c 2), vI (c 3), vI (c 4), vI (c 5), vI (c 6), vI (c 7), vI (c 8)], cO (a 1) 1 [vI (c 0), .ref (a 2), .ref (a 3), .ref (a 4), .ref (a 5), .ref (a 6)], cA (a 2) G.2.1.1 100 (F 3), cA (a 3) G.2.1.1 100 (F 4), cA (a 4) G.2.1.1 100 (F 5), cA (a 5) G.2.1.1 100 (F 6), cA (a 6) G.2.1.1 100 (F 7), cO (a 7) 3 [vI (c 9), vI (c 10), vI (c 11), .ref (a 8)], cA (a 8) G.2.1.2.1 101 (F 1), cO (a 9) 3 [vI (c 12), vI (c 13), vI (c 14), .ref (a 10)], cA (a 10) G.2.1.2.1 101 (F 2), cA (a 11) G.2.1.1 3 (F 0)]
  refine s_if_eq 25 C dX6_read_4 (by decide) bI_rng (fun h_4 => ?_) (fun h_4 => ?_)
  · have h_4 := bI_f h_4
    refine s_ldc (z := -1000001) C (by decide +kernel) dX6_read_25 ?_
    exact s_iret C E dX6_read_27 ⟨congrArg (fun z => some (vI z)) (by rw [sp_read, if_neg (by omega)]), rfl⟩
  · have h_4 := bI_t h_4
    exfalso
    omega


theorem w_X6_read (l : Launch) (G : fG) (x0 h0 : Nat) (y2 y3 y4 y5 : Value) (a : Nat → Nat) (c : Nat → Int) (F : Nat → Int → Int) (B : Int) (f : Int → Int) (b y e : Int) (hR : RSb f c F) (hI : Inv B f) (hB : B ≤ 1073000000) (hb : -2147483648 ≤ b ∧ b < 2147483648) (hy : -2147483648 ≤ y ∧ y < 2147483648) (he : -2147483648 ≤ e ∧ e < 2147483648) : fCt l G yX6_read wsX6_read 6 134 0 0 [.ref x0, vI b, vI y, vI e] [cO x0 6 [.ref (a 0), .ref h0, y2, y3, y4, y5], cO (a 0) 4 [.ref (a 1), .ref (a 7), .ref (a 9), .ref (a 11), vI (c 1), vI (c 2), vI (c 3), vI (c 4), vI (c 5), vI (c 6), vI (c 7), vI (c 8)], cO (a 1) 1 [vI (c 0), .ref (a 2), .ref (a 3), .ref (a 4), .ref (a 5), .ref (a 6)], cA (a 2) G.2.1.1 100 (F 3), cA (a 3) G.2.1.1 100 (F 4), cA (a 4) G.2.1.1 100 (F 5), cA (a 5) G.2.1.1 100 (F 6), cA (a 6) G.2.1.1 100 (F 7), cO (a 7) 3 [vI (c 9), vI (c 10), vI (c 11), .ref (a 8)], cA (a 8) G.2.1.2.1 101 (F 1), cO (a 9) 3 [vI (c 12), vI (c 13), vI (c 14), .ref (a 10)], cA (a 10) G.2.1.2.1 101 (F 2), cA (a 11) G.2.1.1 3 (F 0)] (fun (v0 : Option Value) (w0 : va_W) => v0 = some (vI (sp_read f b y e)) ∧ w0 = [cO x0 6 [.ref (a 0), .ref h0, y2, y3, y4, y5], cO (a 0) 4 [.ref (a 1), .ref (a 7), .ref (a 9), .ref (a 11), vI (c 1), vI (c 2), vI (c 3), vI (c 4), vI (c 5), vI (c 6), vI (c 7), vI (c 8)], cO (a 1) 1 [vI (c 0), .ref (a 2), .ref (a 3), .ref (a 4), .ref (a 5), .ref (a 6)], cA (a 2) G.2.1.1 100 (F 3), cA (a 3) G.2.1.1 100 (F 4), cA (a 4) G.2.1.1 100 (F 5), cA (a 5) G.2.1.1 100 (F 6), cA (a 6) G.2.1.1 100 (F 7), cO (a 7) 3 [vI (c 9), vI (c 10), vI (c 11), .ref (a 8)], cA (a 8) G.2.1.2.1 101 (F 1), cO (a 9) 3 [vI (c 12), vI (c 13), vI (c 14), .ref (a 10)], cA (a 10) G.2.1.2.1 101 (F 2), cA (a 11) G.2.1.1 3 (F 0)]) := by
  rcases (by omega : b = 0 ∨ b = 1 ∨ ¬ (0 ≤ b ∧ b ≤ 1)) with e | e | hbx
  · subst e
    exact c_X6_read_0 l G x0 h0 y2 y3 y4 y5 a c F B f y e hR hI hB hy he
  · subst e
    exact c_X6_read_1 l G x0 h0 y2 y3 y4 y5 a c F B f y e hR hI hB hy he
  · exact c_X6_read_x l G x0 h0 y2 y3 y4 y5 a c F B f b y e hR hI hB hy he hb hbx


set_option maxHeartbeats 4000000 in
set_option maxRecDepth 100000 in
theorem c_X6_read_0 (l : Launch) (G : fG) (x0 h0 : Nat) (y2 y3 y4 y5 : Value) (a : Nat → Nat) (c : Nat → Int) (F : Nat → Int → Int) (B : Int) (f : Int → Int) (y e : Int) (hR : RSb f c F) (hI : Inv B f) (hB : B ≤ 1073000000) (hy : -2147483648 ≤ y ∧ y < 2147483648) (he : -2147483648 ≤ e ∧ e < 2147483648) : fCt l G yX6_read wsX6_read 6 134 0 0 [.ref x0, vI 0, vI y, vI e] [cO x0 6 [.ref (a 0), .ref h0, y2, y3, y4, y5], cO (a 0) 4 [.ref (a 1), .ref (a 7), .ref (a 9), .ref (a 11), vI (c 1), vI (c 2), vI (c 3), vI (c 4), vI (c 5), vI (c 6), vI (c 7), vI (c 8)], cO (a 1) 1 [vI (c 0), .ref (a 2), .ref (a 3), .ref (a 4), .ref (a 5), .ref (a 6)], cA (a 2) G.2.1.1 100 (F 3), cA (a 3) G.2.1.1 100 (F 4), cA (a 4) G.2.1.1 100 (F 5), cA (a 5) G.2.1.1 100 (F 6), cA (a 6) G.2.1.1 100 (F 7), cO (a 7) 3 [vI (c 9), vI (c 10), vI (c 11), .ref (a 8)], cA (a 8) G.2.1.2.1 101 (F 1), cO (a 9) 3 [vI (c 12), vI (c 13), vI (c 14), .ref (a 10)], cA (a 10) G.2.1.2.1 101 (F 2), cA (a 11) G.2.1.1 3 (F 0)] (fun (v0 : Option Value) (w0 : va_W) => v0 = some (vI (sp_read f 0 y e)) ∧ w0 = [cO x0 6 [.ref (a 0), .ref h0, y2, y3, y4, y5], cO (a 0) 4 [.ref (a 1), .ref (a 7), .ref (a 9), .ref (a 11), vI (c 1), vI (c 2), vI (c 3), vI (c 4), vI (c 5), vI (c 6), vI (c 7), vI (c 8)], cO (a 1) 1 [vI (c 0), .ref (a 2), .ref (a 3), .ref (a 4), .ref (a 5), .ref (a 6)], cA (a 2) G.2.1.1 100 (F 3), cA (a 3) G.2.1.1 100 (F 4), cA (a 4) G.2.1.1 100 (F 5), cA (a 5) G.2.1.1 100 (F 6), cA (a 6) G.2.1.1 100 (F 7), cO (a 7) 3 [vI (c 9), vI (c 10), vI (c 11), .ref (a 8)], cA (a 8) G.2.1.2.1 101 (F 1), cO (a 9) 3 [vI (c 12), vI (c 13), vI (c 14), .ref (a 10)], cA (a 10) G.2.1.2.1 101 (F 2), cA (a 11) G.2.1.1 3 (F 0)]) := by
  refine fs_met (cc := cX6_read) (nL := 5) (ret := (some .int)) (by decide) rfl (Nat.le_of_ble_eq_true rfl) ?_
  intro X C E
  show fSt l G X 0 0 0 [(0, .ref x0), (1, vI 0), (2, vI y), (3, vI e)] [] [cO x0 6 [.ref (a 0), .ref h0, y2, y3, y4, y5], cO (a 0) 4 [.ref (a 1), .ref (a 7), .ref (a 9), .ref (a 11), vI (c 1), vI (c 2), vI (c 3), vI (c 4), vI (c 5), vI (c 6), vI (c 7), vI (c 8)], cO (a 1) 1 [vI (c 0), .ref (a 2), .ref (a 3), .ref (a 4), .ref (a 5), .ref (a 6)], cA (a 2) G.2.1.1 100 (F 3), cA (a 3) G.2.1.1 100 (F 4), cA (a 4) G.2.1.1 100 (F 5), cA (a 5) G.2.1.1 100 (F 6), cA (a 6) G.2.1.1 100 (F 7), cO (a 7) 3 [vI (c 9), vI (c 10), vI (c 11), .ref (a 8)], cA (a 8) G.2.1.2.1 101 (F 1), cO (a 9) 3 [vI (c 12), vI (c 13), vI (c 14), .ref (a 10)], cA (a 10) G.2.1.2.1 101 (F 2), cA (a 11) G.2.1.1 3 (F 0)]
  have hinX3 : ∀ w ∈ u_ws RX3 TX3 4, w ∈ wsX6_read := by decide +kernel
  have hinX4 : ∀ w ∈ u_ws RX4 TX4 12, w ∈ wsX6_read := by decide +kernel
  have hinX6 : ∀ w ∈ u_ws RX6 TX6 6, w ∈ wsX6_read := by decide +kernel
  obtain ⟨hn, htk, hln, htr, hlc, hlo, hap, hrt, hdl, hS0, hS1⟩ := RS.scal hR hI
  have hK : rF (F 3) := RS.hrK hR
  have hT : rF (F 4) := RS.hrT hR
  have hY : rF (F 5) := RS.hrY hR
  have hV : rF (F 6) := RS.hrV hR
  have hA : rF (F 7) := RS.hrA hR
  have hsl : rF (F 0) := RS.hrs hR
  have hg0 : gF (F 1) := RS.hG0 hR
  have hg1 : gF (F 2) := RS.hG1 hR
  have hb0 := RS.b0 hR
  have hb1 := RS.b1 hR
  have en := RS.e_n hR
  have hin := hI.n
  refine s_iload_n 1 C dX6_read_0 rfl 1 rfl ?_
  refine s_callS (As := [vI 0]) (rest := []) C dX6_read_1 (c_X6_isStandby l G 0 (by first | assumption | omega)) gX6_read_X6_isStandby rfl 1 (by decide +kernel) (by decide) [] rfl (by decide) rfl (Nat.le_of_ble_eq_true rfl) ⟨Nat.zero_le _, Nat.zero_le _⟩ ?_
  intro v0 w0 hq
  obtain ⟨rfl, rfl⟩ := hq
  refine ⟨rfl, ?_⟩
  show fSt l G X 0 0 4 [(0, .ref x0), (1, vI 0), (2, vI y), (3, vI e)] [vI (bI (0 ≤ 0 ∧ 0 ≤ 1))] [cO x0 6 [.ref (a 0), .ref h0, y2, y3, y4, y5], cO (a 0) 4 [.ref (a 1), .ref (a 7), .ref (a 9), .ref (a 11), vI (c 1), vI (c 2), vI (c 3), vI (c 4), vI (c 5), vI (c 6), vI (c 7), vI (c 8)], cO (a 1) 1 [vI (c 0), .ref (a 2), .ref (a 3), .ref (a 4), .ref (a 5), .ref (a 6)], cA (a 2) G.2.1.1 100 (F 3), cA (a 3) G.2.1.1 100 (F 4), cA (a 4) G.2.1.1 100 (F 5), cA (a 5) G.2.1.1 100 (F 6), cA (a 6) G.2.1.1 100 (F 7), cO (a 7) 3 [vI (c 9), vI (c 10), vI (c 11), .ref (a 8)], cA (a 8) G.2.1.2.1 101 (F 1), cO (a 9) 3 [vI (c 12), vI (c 13), vI (c 14), .ref (a 10)], cA (a 10) G.2.1.2.1 101 (F 2), cA (a 11) G.2.1.1 3 (F 0)]
  refine s_if_eq 25 C dX6_read_4 (by decide) bI_rng (fun h_4 => ?_) (fun h_4 => ?_)
  · have h_4 := bI_f h_4
    refine s_ldc (z := -1000001) C (by decide +kernel) dX6_read_25 ?_
    exact s_iret C E dX6_read_27 ⟨congrArg (fun z => some (vI z)) (by rw [sp_read, if_neg (by omega)]), rfl⟩
  · have h_4 := bI_t h_4
    refine s_iload_n 2 C dX6_read_7 rfl 2 rfl ?_
    refine s_callS (As := [vI y]) (rest := []) C dX6_read_8 (c_X6_isKey l G y (by first | assumption | omega)) gX6_read_X6_isKey rfl 1 (by decide +kernel) (by decide) [] rfl (by decide) rfl (Nat.le_of_ble_eq_true rfl) ⟨Nat.zero_le _, Nat.zero_le _⟩ ?_
    intro v0 w0 hq
    obtain ⟨rfl, rfl⟩ := hq
    refine ⟨rfl, ?_⟩
    show fSt l G X 0 0 11 [(0, .ref x0), (1, vI 0), (2, vI y), (3, vI e)] [vI (bI (0 ≤ y ∧ y ≤ 23))] [cO x0 6 [.ref (a 0), .ref h0, y2, y3, y4, y5], cO (a 0) 4 [.ref (a 1), .ref (a 7), .ref (a 9), .ref (a 11), vI (c 1), vI (c 2), vI (c 3), vI (c 4), vI (c 5), vI (c 6), vI (c 7), vI (c 8)], cO (a 1) 1 [vI (c 0), .ref (a 2), .ref (a 3), .ref (a 4), .ref (a 5), .ref (a 6)], cA (a 2) G.2.1.1 100 (F 3), cA (a 3) G.2.1.1 100 (F 4), cA (a 4) G.2.1.1 100 (F 5), cA (a 5) G.2.1.1 100 (F 6), cA (a 6) G.2.1.1 100 (F 7), cO (a 7) 3 [vI (c 9), vI (c 10), vI (c 11), .ref (a 8)], cA (a 8) G.2.1.2.1 101 (F 1), cO (a 9) 3 [vI (c 12), vI (c 13), vI (c 14), .ref (a 10)], cA (a 10) G.2.1.2.1 101 (F 2), cA (a 11) G.2.1.1 3 (F 0)]
    refine s_if_eq 25 C dX6_read_11 (by decide) bI_rng (fun h_11 => ?_) (fun h_11 => ?_)
    · have h_11 := bI_f h_11
      refine s_ldc (z := -1000001) C (by decide +kernel) dX6_read_25 ?_
      exact s_iret C E dX6_read_27 ⟨congrArg (fun z => some (vI z)) (by rw [sp_read, if_neg (by omega)]), rfl⟩
    · have h_11 := bI_t h_11
      refine s_aload_n 0 C dX6_read_14 rfl 0 rfl ?_
      refine s_get C dX6_read_15 6 rfl hinX6 0 rfl 0 (by decide) (by decide +kernel) rfl ?_
      refine s_iload_n 3 C dX6_read_18 rfl 3 rfl ?_
      refine s_callV (As := [vI e]) (rest := []) C dX6_read_19 (c_X4_isPosition l G (a 0) (a 1) [.ref (a 7), .ref (a 9), .ref (a 11), vI (c 1), vI (c 2), vI (c 3), vI (c 4), vI (c 5), vI (c 6), vI (c 7), vI (c 8)] [.ref (a 2), .ref (a 3), .ref (a 4), .ref (a 5), .ref (a 6)] (c 0) e (by first | assumption | omega) (by first | assumption | omega)) gX6_read_X4_isPosition rfl 1 (by decide +kernel) (by decide) 1 4 rfl rfl rfl [1, 2] rfl (by decide) rfl (Nat.le_of_ble_eq_true rfl) ⟨Nat.zero_le _, Nat.zero_le _⟩ ?_
      intro v0 w0 hq
      obtain ⟨rfl, rfl⟩ := hq
      refine ⟨rfl, ?_⟩
      show fSt l G X 0 0 22 [(0, .ref x0), (1, vI 0), (2, vI y), (3, vI e)] [vI (bI (0 ≤ e ∧ e ≤ (c 0)))] [cO x0 6 [.ref (a 0), .ref h0, y2, y3, y4, y5], cO (a 0) 4 [.ref (a 1), .ref (a 7), .ref (a 9), .ref (a 11), vI (c 1), vI (c 2), vI (c 3), vI (c 4), vI (c 5), vI (c 6), vI (c 7), vI (c 8)], cO (a 1) 1 [vI (c 0), .ref (a 2), .ref (a 3), .ref (a 4), .ref (a 5), .ref (a 6)], cA (a 2) G.2.1.1 100 (F 3), cA (a 3) G.2.1.1 100 (F 4), cA (a 4) G.2.1.1 100 (F 5), cA (a 5) G.2.1.1 100 (F 6), cA (a 6) G.2.1.1 100 (F 7), cO (a 7) 3 [vI (c 9), vI (c 10), vI (c 11), .ref (a 8)], cA (a 8) G.2.1.2.1 101 (F 1), cO (a 9) 3 [vI (c 12), vI (c 13), vI (c 14), .ref (a 10)], cA (a 10) G.2.1.2.1 101 (F 2), cA (a 11) G.2.1.1 3 (F 0)]
      refine s_if_ne 28 C dX6_read_22 (by decide) bI_rng (fun h_22 => ?_) (fun h_22 => ?_)
      · have h_22 := bI_t h_22
        refine s_aload_n 0 C dX6_read_28 rfl 0 rfl ?_
        refine s_get C dX6_read_29 6 rfl hinX6 0 rfl 0 (by decide) (by decide +kernel) rfl ?_
        refine s_iload_n 1 C dX6_read_32 rfl 1 rfl ?_
        refine s_callV (As := [vI 0]) (rest := []) C dX6_read_33 (c_X4_standby0 l G (a 0) (a 1) (a 7) (a 9) [.ref (a 11), vI (c 1), vI (c 2), vI (c 3), vI (c 4), vI (c 5), vI (c 6), vI (c 7), vI (c 8)] 0 (by first | assumption | omega)) gX6_read_X4_standby rfl 1 (by decide +kernel) (by decide) 1 4 rfl rfl rfl [1] rfl (by decide) rfl (Nat.le_of_ble_eq_true rfl) ⟨Nat.zero_le _, Nat.zero_le _⟩ ?_
        intro v0 w0 hq
        obtain ⟨rfl, rfl⟩ := hq
        refine ⟨rfl, ?_⟩
        show fSt l G X 0 0 36 [(0, .ref x0), (1, vI 0), (2, vI y), (3, vI e)] [.ref (a 7)] [cO x0 6 [.ref (a 0), .ref h0, y2, y3, y4, y5], cO (a 0) 4 [.ref (a 1), .ref (a 7), .ref (a 9), .ref (a 11), vI (c 1), vI (c 2), vI (c 3), vI (c 4), vI (c 5), vI (c 6), vI (c 7), vI (c 8)], cO (a 1) 1 [vI (c 0), .ref (a 2), .ref (a 3), .ref (a 4), .ref (a 5), .ref (a 6)], cA (a 2) G.2.1.1 100 (F 3), cA (a 3) G.2.1.1 100 (F 4), cA (a 4) G.2.1.1 100 (F 5), cA (a 5) G.2.1.1 100 (F 6), cA (a 6) G.2.1.1 100 (F 7), cO (a 7) 3 [vI (c 9), vI (c 10), vI (c 11), .ref (a 8)], cA (a 8) G.2.1.2.1 101 (F 1), cO (a 9) 3 [vI (c 12), vI (c 13), vI (c 14), .ref (a 10)], cA (a 10) G.2.1.2.1 101 (F 2), cA (a 11) G.2.1.1 3 (F 0)]
        refine s_astore [(4, .ref (a 7)), (0, .ref x0), (1, vI 0), (2, vI y), (3, vI e)] C dX6_read_36 (by decide) rfl ?_
        refine s_aload C dX6_read_38 0 rfl ?_
        refine s_iload_n 3 C dX6_read_40 rfl 4 rfl ?_
        refine s_callV (As := [vI e]) (rest := []) C dX6_read_41 (c_X3_canServe l G (a 7) (a 8) (c 9) (c 10) (c 11) (F 1) e (by first | assumption | omega) (by first | assumption | omega) (by first | assumption | omega) (by first | assumption | omega)) gX6_read_X3_canServe rfl 1 (by decide +kernel) (by decide) 8 3 rfl rfl rfl [8, 9] rfl (by decide) rfl (Nat.le_of_ble_eq_true rfl) ⟨Nat.zero_le _, Nat.zero_le _⟩ ?_
        intro v0 w0 hq
        obtain ⟨rfl, rfl⟩ := hq
        refine ⟨rfl, ?_⟩
        show fSt l G X 0 0 44 [(4, .ref (a 7)), (0, .ref x0), (1, vI 0), (2, vI y), (3, vI e)] [vI (bI ((c 11) = 0 ∧ e ≤ (c 10)))] [cO x0 6 [.ref (a 0), .ref h0, y2, y3, y4, y5], cO (a 0) 4 [.ref (a 1), .ref (a 7), .ref (a 9), .ref (a 11), vI (c 1), vI (c 2), vI (c 3), vI (c 4), vI (c 5), vI (c 6), vI (c 7), vI (c 8)], cO (a 1) 1 [vI (c 0), .ref (a 2), .ref (a 3), .ref (a 4), .ref (a 5), .ref (a 6)], cA (a 2) G.2.1.1 100 (F 3), cA (a 3) G.2.1.1 100 (F 4), cA (a 4) G.2.1.1 100 (F 5), cA (a 5) G.2.1.1 100 (F 6), cA (a 6) G.2.1.1 100 (F 7), cO (a 7) 3 [vI (c 9), vI (c 10), vI (c 11), .ref (a 8)], cA (a 8) G.2.1.2.1 101 (F 1), cO (a 9) 3 [vI (c 12), vI (c 13), vI (c 14), .ref (a 10)], cA (a 10) G.2.1.2.1 101 (F 2), cA (a 11) G.2.1.1 3 (F 0)]
        refine s_if_ne 50 C dX6_read_44 (by decide) bI_rng (fun h_44 => ?_) (fun h_44 => ?_)
        · have h_44 := bI_t h_44
          refine s_aload_n 0 C dX6_read_50 rfl 1 rfl ?_
          refine s_get C dX6_read_51 6 rfl hinX6 0 rfl 0 (by decide) (by decide +kernel) rfl ?_
          refine s_get C dX6_read_54 4 rfl hinX4 1 rfl 0 (by decide) (by decide +kernel) rfl ?_
          refine s_iload_n 2 C dX6_read_57 rfl 3 rfl ?_
          refine s_aload C dX6_read_58 0 rfl ?_
          refine s_get C dX6_read_60 3 rfl hinX3 8 rfl 1 (by decide) (by decide +kernel) rfl ?_
          refine s_callV (As := [vI y, vI (c 10)]) (rest := []) C dX6_read_63 (c_X1_valueAt l G (a 1) (a 2) (a 3) (a 4) (a 5) (a 6) (c 0) (F 3) (F 4) (F 5) (F 6) (F 7) y (c 10) (by first | assumption | omega) (by first | assumption | omega) (by first | assumption | omega) (by first | assumption | omega) (by first | assumption | omega) (by first | assumption | omega) (by first | assumption | omega) (by first | assumption | omega)) gX6_read_X1_valueAt rfl 2 (by decide +kernel) (by decide) 2 1 rfl rfl rfl [2, 3, 4, 5, 6, 7] rfl (by decide) rfl (Nat.le_of_ble_eq_true rfl) ⟨Nat.zero_le _, Nat.zero_le _⟩ ?_
          intro v0 w0 hq
          obtain ⟨rfl, rfl⟩ := hq
          refine ⟨rfl, ?_⟩
          show fSt l G X 0 0 66 [(4, .ref (a 7)), (0, .ref x0), (1, vI 0), (2, vI y), (3, vI e)] [vI (vA (c 0) (F 3) (F 4) (F 5) (F 6) y (c 10))] [cO x0 6 [.ref (a 0), .ref h0, y2, y3, y4, y5], cO (a 0) 4 [.ref (a 1), .ref (a 7), .ref (a 9), .ref (a 11), vI (c 1), vI (c 2), vI (c 3), vI (c 4), vI (c 5), vI (c 6), vI (c 7), vI (c 8)], cO (a 1) 1 [vI (c 0), .ref (a 2), .ref (a 3), .ref (a 4), .ref (a 5), .ref (a 6)], cA (a 2) G.2.1.1 100 (F 3), cA (a 3) G.2.1.1 100 (F 4), cA (a 4) G.2.1.1 100 (F 5), cA (a 5) G.2.1.1 100 (F 6), cA (a 6) G.2.1.1 100 (F 7), cO (a 7) 3 [vI (c 9), vI (c 10), vI (c 11), .ref (a 8)], cA (a 8) G.2.1.2.1 101 (F 1), cO (a 9) 3 [vI (c 12), vI (c 13), vI (c 14), .ref (a 10)], cA (a 10) G.2.1.2.1 101 (F 2), cA (a 11) G.2.1.1 3 (F 0)]
          exact s_iret C E dX6_read_66 ⟨congrArg (fun z => some (vI z)) (by rw [sp_read, if_pos (by omega), if_pos (by omega)]; rw [← hb0.2.1]; exact q_vA hR hI (by omega)), rfl⟩
        · have h_44 := bI_f h_44
          refine s_ldc (z := -1000002) C (by decide +kernel) dX6_read_47 ?_
          exact s_iret C E dX6_read_49 ⟨congrArg (fun z => some (vI z)) (by rw [sp_read, if_pos (by omega), if_neg (by omega)]), rfl⟩
      · have h_22 := bI_f h_22
        refine s_ldc (z := -1000001) C (by decide +kernel) dX6_read_25 ?_
        exact s_iret C E dX6_read_27 ⟨congrArg (fun z => some (vI z)) (by rw [sp_read, if_neg (by omega)]), rfl⟩

set_option maxHeartbeats 4000000 in
set_option maxRecDepth 100000 in
theorem c_X6_read_1 (l : Launch) (G : fG) (x0 h0 : Nat) (y2 y3 y4 y5 : Value) (a : Nat → Nat) (c : Nat → Int) (F : Nat → Int → Int) (B : Int) (f : Int → Int) (y e : Int) (hR : RSb f c F) (hI : Inv B f) (hB : B ≤ 1073000000) (hy : -2147483648 ≤ y ∧ y < 2147483648) (he : -2147483648 ≤ e ∧ e < 2147483648) : fCt l G yX6_read wsX6_read 6 134 0 0 [.ref x0, vI 1, vI y, vI e] [cO x0 6 [.ref (a 0), .ref h0, y2, y3, y4, y5], cO (a 0) 4 [.ref (a 1), .ref (a 7), .ref (a 9), .ref (a 11), vI (c 1), vI (c 2), vI (c 3), vI (c 4), vI (c 5), vI (c 6), vI (c 7), vI (c 8)], cO (a 1) 1 [vI (c 0), .ref (a 2), .ref (a 3), .ref (a 4), .ref (a 5), .ref (a 6)], cA (a 2) G.2.1.1 100 (F 3), cA (a 3) G.2.1.1 100 (F 4), cA (a 4) G.2.1.1 100 (F 5), cA (a 5) G.2.1.1 100 (F 6), cA (a 6) G.2.1.1 100 (F 7), cO (a 7) 3 [vI (c 9), vI (c 10), vI (c 11), .ref (a 8)], cA (a 8) G.2.1.2.1 101 (F 1), cO (a 9) 3 [vI (c 12), vI (c 13), vI (c 14), .ref (a 10)], cA (a 10) G.2.1.2.1 101 (F 2), cA (a 11) G.2.1.1 3 (F 0)] (fun (v0 : Option Value) (w0 : va_W) => v0 = some (vI (sp_read f 1 y e)) ∧ w0 = [cO x0 6 [.ref (a 0), .ref h0, y2, y3, y4, y5], cO (a 0) 4 [.ref (a 1), .ref (a 7), .ref (a 9), .ref (a 11), vI (c 1), vI (c 2), vI (c 3), vI (c 4), vI (c 5), vI (c 6), vI (c 7), vI (c 8)], cO (a 1) 1 [vI (c 0), .ref (a 2), .ref (a 3), .ref (a 4), .ref (a 5), .ref (a 6)], cA (a 2) G.2.1.1 100 (F 3), cA (a 3) G.2.1.1 100 (F 4), cA (a 4) G.2.1.1 100 (F 5), cA (a 5) G.2.1.1 100 (F 6), cA (a 6) G.2.1.1 100 (F 7), cO (a 7) 3 [vI (c 9), vI (c 10), vI (c 11), .ref (a 8)], cA (a 8) G.2.1.2.1 101 (F 1), cO (a 9) 3 [vI (c 12), vI (c 13), vI (c 14), .ref (a 10)], cA (a 10) G.2.1.2.1 101 (F 2), cA (a 11) G.2.1.1 3 (F 0)]) := by
  refine fs_met (cc := cX6_read) (nL := 5) (ret := (some .int)) (by decide) rfl (Nat.le_of_ble_eq_true rfl) ?_
  intro X C E
  show fSt l G X 0 0 0 [(0, .ref x0), (1, vI 1), (2, vI y), (3, vI e)] [] [cO x0 6 [.ref (a 0), .ref h0, y2, y3, y4, y5], cO (a 0) 4 [.ref (a 1), .ref (a 7), .ref (a 9), .ref (a 11), vI (c 1), vI (c 2), vI (c 3), vI (c 4), vI (c 5), vI (c 6), vI (c 7), vI (c 8)], cO (a 1) 1 [vI (c 0), .ref (a 2), .ref (a 3), .ref (a 4), .ref (a 5), .ref (a 6)], cA (a 2) G.2.1.1 100 (F 3), cA (a 3) G.2.1.1 100 (F 4), cA (a 4) G.2.1.1 100 (F 5), cA (a 5) G.2.1.1 100 (F 6), cA (a 6) G.2.1.1 100 (F 7), cO (a 7) 3 [vI (c 9), vI (c 10), vI (c 11), .ref (a 8)], cA (a 8) G.2.1.2.1 101 (F 1), cO (a 9) 3 [vI (c 12), vI (c 13), vI (c 14), .ref (a 10)], cA (a 10) G.2.1.2.1 101 (F 2), cA (a 11) G.2.1.1 3 (F 0)]
  have hinX3 : ∀ w ∈ u_ws RX3 TX3 4, w ∈ wsX6_read := by decide +kernel
  have hinX4 : ∀ w ∈ u_ws RX4 TX4 12, w ∈ wsX6_read := by decide +kernel
  have hinX6 : ∀ w ∈ u_ws RX6 TX6 6, w ∈ wsX6_read := by decide +kernel
  obtain ⟨hn, htk, hln, htr, hlc, hlo, hap, hrt, hdl, hS0, hS1⟩ := RS.scal hR hI
  have hK : rF (F 3) := RS.hrK hR
  have hT : rF (F 4) := RS.hrT hR
  have hY : rF (F 5) := RS.hrY hR
  have hV : rF (F 6) := RS.hrV hR
  have hA : rF (F 7) := RS.hrA hR
  have hsl : rF (F 0) := RS.hrs hR
  have hg0 : gF (F 1) := RS.hG0 hR
  have hg1 : gF (F 2) := RS.hG1 hR
  have hb0 := RS.b0 hR
  have hb1 := RS.b1 hR
  have en := RS.e_n hR
  have hin := hI.n
  refine s_iload_n 1 C dX6_read_0 rfl 1 rfl ?_
  refine s_callS (As := [vI 1]) (rest := []) C dX6_read_1 (c_X6_isStandby l G 1 (by first | assumption | omega)) gX6_read_X6_isStandby rfl 1 (by decide +kernel) (by decide) [] rfl (by decide) rfl (Nat.le_of_ble_eq_true rfl) ⟨Nat.zero_le _, Nat.zero_le _⟩ ?_
  intro v0 w0 hq
  obtain ⟨rfl, rfl⟩ := hq
  refine ⟨rfl, ?_⟩
  show fSt l G X 0 0 4 [(0, .ref x0), (1, vI 1), (2, vI y), (3, vI e)] [vI (bI (0 ≤ 1 ∧ 1 ≤ 1))] [cO x0 6 [.ref (a 0), .ref h0, y2, y3, y4, y5], cO (a 0) 4 [.ref (a 1), .ref (a 7), .ref (a 9), .ref (a 11), vI (c 1), vI (c 2), vI (c 3), vI (c 4), vI (c 5), vI (c 6), vI (c 7), vI (c 8)], cO (a 1) 1 [vI (c 0), .ref (a 2), .ref (a 3), .ref (a 4), .ref (a 5), .ref (a 6)], cA (a 2) G.2.1.1 100 (F 3), cA (a 3) G.2.1.1 100 (F 4), cA (a 4) G.2.1.1 100 (F 5), cA (a 5) G.2.1.1 100 (F 6), cA (a 6) G.2.1.1 100 (F 7), cO (a 7) 3 [vI (c 9), vI (c 10), vI (c 11), .ref (a 8)], cA (a 8) G.2.1.2.1 101 (F 1), cO (a 9) 3 [vI (c 12), vI (c 13), vI (c 14), .ref (a 10)], cA (a 10) G.2.1.2.1 101 (F 2), cA (a 11) G.2.1.1 3 (F 0)]
  refine s_if_eq 25 C dX6_read_4 (by decide) bI_rng (fun h_4 => ?_) (fun h_4 => ?_)
  · have h_4 := bI_f h_4
    refine s_ldc (z := -1000001) C (by decide +kernel) dX6_read_25 ?_
    exact s_iret C E dX6_read_27 ⟨congrArg (fun z => some (vI z)) (by rw [sp_read, if_neg (by omega)]), rfl⟩
  · have h_4 := bI_t h_4
    refine s_iload_n 2 C dX6_read_7 rfl 2 rfl ?_
    refine s_callS (As := [vI y]) (rest := []) C dX6_read_8 (c_X6_isKey l G y (by first | assumption | omega)) gX6_read_X6_isKey rfl 1 (by decide +kernel) (by decide) [] rfl (by decide) rfl (Nat.le_of_ble_eq_true rfl) ⟨Nat.zero_le _, Nat.zero_le _⟩ ?_
    intro v0 w0 hq
    obtain ⟨rfl, rfl⟩ := hq
    refine ⟨rfl, ?_⟩
    show fSt l G X 0 0 11 [(0, .ref x0), (1, vI 1), (2, vI y), (3, vI e)] [vI (bI (0 ≤ y ∧ y ≤ 23))] [cO x0 6 [.ref (a 0), .ref h0, y2, y3, y4, y5], cO (a 0) 4 [.ref (a 1), .ref (a 7), .ref (a 9), .ref (a 11), vI (c 1), vI (c 2), vI (c 3), vI (c 4), vI (c 5), vI (c 6), vI (c 7), vI (c 8)], cO (a 1) 1 [vI (c 0), .ref (a 2), .ref (a 3), .ref (a 4), .ref (a 5), .ref (a 6)], cA (a 2) G.2.1.1 100 (F 3), cA (a 3) G.2.1.1 100 (F 4), cA (a 4) G.2.1.1 100 (F 5), cA (a 5) G.2.1.1 100 (F 6), cA (a 6) G.2.1.1 100 (F 7), cO (a 7) 3 [vI (c 9), vI (c 10), vI (c 11), .ref (a 8)], cA (a 8) G.2.1.2.1 101 (F 1), cO (a 9) 3 [vI (c 12), vI (c 13), vI (c 14), .ref (a 10)], cA (a 10) G.2.1.2.1 101 (F 2), cA (a 11) G.2.1.1 3 (F 0)]
    refine s_if_eq 25 C dX6_read_11 (by decide) bI_rng (fun h_11 => ?_) (fun h_11 => ?_)
    · have h_11 := bI_f h_11
      refine s_ldc (z := -1000001) C (by decide +kernel) dX6_read_25 ?_
      exact s_iret C E dX6_read_27 ⟨congrArg (fun z => some (vI z)) (by rw [sp_read, if_neg (by omega)]), rfl⟩
    · have h_11 := bI_t h_11
      refine s_aload_n 0 C dX6_read_14 rfl 0 rfl ?_
      refine s_get C dX6_read_15 6 rfl hinX6 0 rfl 0 (by decide) (by decide +kernel) rfl ?_
      refine s_iload_n 3 C dX6_read_18 rfl 3 rfl ?_
      refine s_callV (As := [vI e]) (rest := []) C dX6_read_19 (c_X4_isPosition l G (a 0) (a 1) [.ref (a 7), .ref (a 9), .ref (a 11), vI (c 1), vI (c 2), vI (c 3), vI (c 4), vI (c 5), vI (c 6), vI (c 7), vI (c 8)] [.ref (a 2), .ref (a 3), .ref (a 4), .ref (a 5), .ref (a 6)] (c 0) e (by first | assumption | omega) (by first | assumption | omega)) gX6_read_X4_isPosition rfl 1 (by decide +kernel) (by decide) 1 4 rfl rfl rfl [1, 2] rfl (by decide) rfl (Nat.le_of_ble_eq_true rfl) ⟨Nat.zero_le _, Nat.zero_le _⟩ ?_
      intro v0 w0 hq
      obtain ⟨rfl, rfl⟩ := hq
      refine ⟨rfl, ?_⟩
      show fSt l G X 0 0 22 [(0, .ref x0), (1, vI 1), (2, vI y), (3, vI e)] [vI (bI (0 ≤ e ∧ e ≤ (c 0)))] [cO x0 6 [.ref (a 0), .ref h0, y2, y3, y4, y5], cO (a 0) 4 [.ref (a 1), .ref (a 7), .ref (a 9), .ref (a 11), vI (c 1), vI (c 2), vI (c 3), vI (c 4), vI (c 5), vI (c 6), vI (c 7), vI (c 8)], cO (a 1) 1 [vI (c 0), .ref (a 2), .ref (a 3), .ref (a 4), .ref (a 5), .ref (a 6)], cA (a 2) G.2.1.1 100 (F 3), cA (a 3) G.2.1.1 100 (F 4), cA (a 4) G.2.1.1 100 (F 5), cA (a 5) G.2.1.1 100 (F 6), cA (a 6) G.2.1.1 100 (F 7), cO (a 7) 3 [vI (c 9), vI (c 10), vI (c 11), .ref (a 8)], cA (a 8) G.2.1.2.1 101 (F 1), cO (a 9) 3 [vI (c 12), vI (c 13), vI (c 14), .ref (a 10)], cA (a 10) G.2.1.2.1 101 (F 2), cA (a 11) G.2.1.1 3 (F 0)]
      refine s_if_ne 28 C dX6_read_22 (by decide) bI_rng (fun h_22 => ?_) (fun h_22 => ?_)
      · have h_22 := bI_t h_22
        refine s_aload_n 0 C dX6_read_28 rfl 0 rfl ?_
        refine s_get C dX6_read_29 6 rfl hinX6 0 rfl 0 (by decide) (by decide +kernel) rfl ?_
        refine s_iload_n 1 C dX6_read_32 rfl 1 rfl ?_
        refine s_callV (As := [vI 1]) (rest := []) C dX6_read_33 (c_X4_standby1 l G (a 0) (a 1) (a 7) (a 9) [.ref (a 11), vI (c 1), vI (c 2), vI (c 3), vI (c 4), vI (c 5), vI (c 6), vI (c 7), vI (c 8)] 1 (by first | assumption | omega)) gX6_read_X4_standby rfl 1 (by decide +kernel) (by decide) 1 4 rfl rfl rfl [1] rfl (by decide) rfl (Nat.le_of_ble_eq_true rfl) ⟨Nat.zero_le _, Nat.zero_le _⟩ ?_
        intro v0 w0 hq
        obtain ⟨rfl, rfl⟩ := hq
        refine ⟨rfl, ?_⟩
        show fSt l G X 0 0 36 [(0, .ref x0), (1, vI 1), (2, vI y), (3, vI e)] [.ref (a 9)] [cO x0 6 [.ref (a 0), .ref h0, y2, y3, y4, y5], cO (a 0) 4 [.ref (a 1), .ref (a 7), .ref (a 9), .ref (a 11), vI (c 1), vI (c 2), vI (c 3), vI (c 4), vI (c 5), vI (c 6), vI (c 7), vI (c 8)], cO (a 1) 1 [vI (c 0), .ref (a 2), .ref (a 3), .ref (a 4), .ref (a 5), .ref (a 6)], cA (a 2) G.2.1.1 100 (F 3), cA (a 3) G.2.1.1 100 (F 4), cA (a 4) G.2.1.1 100 (F 5), cA (a 5) G.2.1.1 100 (F 6), cA (a 6) G.2.1.1 100 (F 7), cO (a 7) 3 [vI (c 9), vI (c 10), vI (c 11), .ref (a 8)], cA (a 8) G.2.1.2.1 101 (F 1), cO (a 9) 3 [vI (c 12), vI (c 13), vI (c 14), .ref (a 10)], cA (a 10) G.2.1.2.1 101 (F 2), cA (a 11) G.2.1.1 3 (F 0)]
        refine s_astore [(4, .ref (a 9)), (0, .ref x0), (1, vI 1), (2, vI y), (3, vI e)] C dX6_read_36 (by decide) rfl ?_
        refine s_aload C dX6_read_38 0 rfl ?_
        refine s_iload_n 3 C dX6_read_40 rfl 4 rfl ?_
        refine s_callV (As := [vI e]) (rest := []) C dX6_read_41 (c_X3_canServe l G (a 9) (a 10) (c 12) (c 13) (c 14) (F 2) e (by first | assumption | omega) (by first | assumption | omega) (by first | assumption | omega) (by first | assumption | omega)) gX6_read_X3_canServe rfl 1 (by decide +kernel) (by decide) 10 3 rfl rfl rfl [10, 11] rfl (by decide) rfl (Nat.le_of_ble_eq_true rfl) ⟨Nat.zero_le _, Nat.zero_le _⟩ ?_
        intro v0 w0 hq
        obtain ⟨rfl, rfl⟩ := hq
        refine ⟨rfl, ?_⟩
        show fSt l G X 0 0 44 [(4, .ref (a 9)), (0, .ref x0), (1, vI 1), (2, vI y), (3, vI e)] [vI (bI ((c 14) = 0 ∧ e ≤ (c 13)))] [cO x0 6 [.ref (a 0), .ref h0, y2, y3, y4, y5], cO (a 0) 4 [.ref (a 1), .ref (a 7), .ref (a 9), .ref (a 11), vI (c 1), vI (c 2), vI (c 3), vI (c 4), vI (c 5), vI (c 6), vI (c 7), vI (c 8)], cO (a 1) 1 [vI (c 0), .ref (a 2), .ref (a 3), .ref (a 4), .ref (a 5), .ref (a 6)], cA (a 2) G.2.1.1 100 (F 3), cA (a 3) G.2.1.1 100 (F 4), cA (a 4) G.2.1.1 100 (F 5), cA (a 5) G.2.1.1 100 (F 6), cA (a 6) G.2.1.1 100 (F 7), cO (a 7) 3 [vI (c 9), vI (c 10), vI (c 11), .ref (a 8)], cA (a 8) G.2.1.2.1 101 (F 1), cO (a 9) 3 [vI (c 12), vI (c 13), vI (c 14), .ref (a 10)], cA (a 10) G.2.1.2.1 101 (F 2), cA (a 11) G.2.1.1 3 (F 0)]
        refine s_if_ne 50 C dX6_read_44 (by decide) bI_rng (fun h_44 => ?_) (fun h_44 => ?_)
        · have h_44 := bI_t h_44
          refine s_aload_n 0 C dX6_read_50 rfl 1 rfl ?_
          refine s_get C dX6_read_51 6 rfl hinX6 0 rfl 0 (by decide) (by decide +kernel) rfl ?_
          refine s_get C dX6_read_54 4 rfl hinX4 1 rfl 0 (by decide) (by decide +kernel) rfl ?_
          refine s_iload_n 2 C dX6_read_57 rfl 3 rfl ?_
          refine s_aload C dX6_read_58 0 rfl ?_
          refine s_get C dX6_read_60 3 rfl hinX3 10 rfl 1 (by decide) (by decide +kernel) rfl ?_
          refine s_callV (As := [vI y, vI (c 13)]) (rest := []) C dX6_read_63 (c_X1_valueAt l G (a 1) (a 2) (a 3) (a 4) (a 5) (a 6) (c 0) (F 3) (F 4) (F 5) (F 6) (F 7) y (c 13) (by first | assumption | omega) (by first | assumption | omega) (by first | assumption | omega) (by first | assumption | omega) (by first | assumption | omega) (by first | assumption | omega) (by first | assumption | omega) (by first | assumption | omega)) gX6_read_X1_valueAt rfl 2 (by decide +kernel) (by decide) 2 1 rfl rfl rfl [2, 3, 4, 5, 6, 7] rfl (by decide) rfl (Nat.le_of_ble_eq_true rfl) ⟨Nat.zero_le _, Nat.zero_le _⟩ ?_
          intro v0 w0 hq
          obtain ⟨rfl, rfl⟩ := hq
          refine ⟨rfl, ?_⟩
          show fSt l G X 0 0 66 [(4, .ref (a 9)), (0, .ref x0), (1, vI 1), (2, vI y), (3, vI e)] [vI (vA (c 0) (F 3) (F 4) (F 5) (F 6) y (c 13))] [cO x0 6 [.ref (a 0), .ref h0, y2, y3, y4, y5], cO (a 0) 4 [.ref (a 1), .ref (a 7), .ref (a 9), .ref (a 11), vI (c 1), vI (c 2), vI (c 3), vI (c 4), vI (c 5), vI (c 6), vI (c 7), vI (c 8)], cO (a 1) 1 [vI (c 0), .ref (a 2), .ref (a 3), .ref (a 4), .ref (a 5), .ref (a 6)], cA (a 2) G.2.1.1 100 (F 3), cA (a 3) G.2.1.1 100 (F 4), cA (a 4) G.2.1.1 100 (F 5), cA (a 5) G.2.1.1 100 (F 6), cA (a 6) G.2.1.1 100 (F 7), cO (a 7) 3 [vI (c 9), vI (c 10), vI (c 11), .ref (a 8)], cA (a 8) G.2.1.2.1 101 (F 1), cO (a 9) 3 [vI (c 12), vI (c 13), vI (c 14), .ref (a 10)], cA (a 10) G.2.1.2.1 101 (F 2), cA (a 11) G.2.1.1 3 (F 0)]
          exact s_iret C E dX6_read_66 ⟨congrArg (fun z => some (vI z)) (by rw [sp_read, if_pos (by omega), if_pos (by omega)]; rw [← hb1.2.1]; exact q_vA hR hI (by omega)), rfl⟩
        · have h_44 := bI_f h_44
          refine s_ldc (z := -1000002) C (by decide +kernel) dX6_read_47 ?_
          exact s_iret C E dX6_read_49 ⟨congrArg (fun z => some (vI z)) (by rw [sp_read, if_pos (by omega), if_neg (by omega)]), rfl⟩
      · have h_22 := bI_f h_22
        refine s_ldc (z := -1000001) C (by decide +kernel) dX6_read_25 ?_
        exact s_iret C E dX6_read_27 ⟨congrArg (fun z => some (vI z)) (by rw [sp_read, if_neg (by omega)]), rfl⟩

set_option maxHeartbeats 4000000 in
set_option maxRecDepth 100000 in
theorem c_X6_read_x (l : Launch) (G : fG) (x0 h0 : Nat) (y2 y3 y4 y5 : Value) (a : Nat → Nat) (c : Nat → Int) (F : Nat → Int → Int) (B : Int) (f : Int → Int) (b y e : Int) (hR : RSb f c F) (hI : Inv B f) (hB : B ≤ 1073000000) (hy : -2147483648 ≤ y ∧ y < 2147483648) (he : -2147483648 ≤ e ∧ e < 2147483648) (hb : -2147483648 ≤ b ∧ b < 2147483648) (hbx : ¬ (0 ≤ b ∧ b ≤ 1)) : fCt l G yX6_read wsX6_read 6 134 0 0 [.ref x0, vI b, vI y, vI e] [cO x0 6 [.ref (a 0), .ref h0, y2, y3, y4, y5], cO (a 0) 4 [.ref (a 1), .ref (a 7), .ref (a 9), .ref (a 11), vI (c 1), vI (c 2), vI (c 3), vI (c 4), vI (c 5), vI (c 6), vI (c 7), vI (c 8)], cO (a 1) 1 [vI (c 0), .ref (a 2), .ref (a 3), .ref (a 4), .ref (a 5), .ref (a 6)], cA (a 2) G.2.1.1 100 (F 3), cA (a 3) G.2.1.1 100 (F 4), cA (a 4) G.2.1.1 100 (F 5), cA (a 5) G.2.1.1 100 (F 6), cA (a 6) G.2.1.1 100 (F 7), cO (a 7) 3 [vI (c 9), vI (c 10), vI (c 11), .ref (a 8)], cA (a 8) G.2.1.2.1 101 (F 1), cO (a 9) 3 [vI (c 12), vI (c 13), vI (c 14), .ref (a 10)], cA (a 10) G.2.1.2.1 101 (F 2), cA (a 11) G.2.1.1 3 (F 0)] (fun (v0 : Option Value) (w0 : va_W) => v0 = some (vI (sp_read f b y e)) ∧ w0 = [cO x0 6 [.ref (a 0), .ref h0, y2, y3, y4, y5], cO (a 0) 4 [.ref (a 1), .ref (a 7), .ref (a 9), .ref (a 11), vI (c 1), vI (c 2), vI (c 3), vI (c 4), vI (c 5), vI (c 6), vI (c 7), vI (c 8)], cO (a 1) 1 [vI (c 0), .ref (a 2), .ref (a 3), .ref (a 4), .ref (a 5), .ref (a 6)], cA (a 2) G.2.1.1 100 (F 3), cA (a 3) G.2.1.1 100 (F 4), cA (a 4) G.2.1.1 100 (F 5), cA (a 5) G.2.1.1 100 (F 6), cA (a 6) G.2.1.1 100 (F 7), cO (a 7) 3 [vI (c 9), vI (c 10), vI (c 11), .ref (a 8)], cA (a 8) G.2.1.2.1 101 (F 1), cO (a 9) 3 [vI (c 12), vI (c 13), vI (c 14), .ref (a 10)], cA (a 10) G.2.1.2.1 101 (F 2), cA (a 11) G.2.1.1 3 (F 0)]) := by
  refine fs_met (cc := cX6_read) (nL := 5) (ret := (some .int)) (by decide) rfl (Nat.le_of_ble_eq_true rfl) ?_
  intro X C E
  show fSt l G X 0 0 0 [(0, .ref x0), (1, vI b), (2, vI y), (3, vI e)] [] [cO x0 6 [.ref (a 0), .ref h0, y2, y3, y4, y5], cO (a 0) 4 [.ref (a 1), .ref (a 7), .ref (a 9), .ref (a 11), vI (c 1), vI (c 2), vI (c 3), vI (c 4), vI (c 5), vI (c 6), vI (c 7), vI (c 8)], cO (a 1) 1 [vI (c 0), .ref (a 2), .ref (a 3), .ref (a 4), .ref (a 5), .ref (a 6)], cA (a 2) G.2.1.1 100 (F 3), cA (a 3) G.2.1.1 100 (F 4), cA (a 4) G.2.1.1 100 (F 5), cA (a 5) G.2.1.1 100 (F 6), cA (a 6) G.2.1.1 100 (F 7), cO (a 7) 3 [vI (c 9), vI (c 10), vI (c 11), .ref (a 8)], cA (a 8) G.2.1.2.1 101 (F 1), cO (a 9) 3 [vI (c 12), vI (c 13), vI (c 14), .ref (a 10)], cA (a 10) G.2.1.2.1 101 (F 2), cA (a 11) G.2.1.1 3 (F 0)]
  obtain ⟨hn, htk, hln, htr, hlc, hlo, hap, hrt, hdl, hS0, hS1⟩ := RS.scal hR hI
  have hK : rF (F 3) := RS.hrK hR
  have hT : rF (F 4) := RS.hrT hR
  have hY : rF (F 5) := RS.hrY hR
  have hV : rF (F 6) := RS.hrV hR
  have hA : rF (F 7) := RS.hrA hR
  have hsl : rF (F 0) := RS.hrs hR
  have hg0 : gF (F 1) := RS.hG0 hR
  have hg1 : gF (F 2) := RS.hG1 hR
  have hb0 := RS.b0 hR
  have hb1 := RS.b1 hR
  have en := RS.e_n hR
  have hin := hI.n
  refine s_iload_n 1 C dX6_read_0 rfl 1 rfl ?_
  refine s_callS (As := [vI b]) (rest := []) C dX6_read_1 (c_X6_isStandby l G b (by first | assumption | omega)) gX6_read_X6_isStandby rfl 1 (by decide +kernel) (by decide) [] rfl (by decide) rfl (Nat.le_of_ble_eq_true rfl) ⟨Nat.zero_le _, Nat.zero_le _⟩ ?_
  intro v0 w0 hq
  obtain ⟨rfl, rfl⟩ := hq
  refine ⟨rfl, ?_⟩
  show fSt l G X 0 0 4 [(0, .ref x0), (1, vI b), (2, vI y), (3, vI e)] [vI (bI (0 ≤ b ∧ b ≤ 1))] [cO x0 6 [.ref (a 0), .ref h0, y2, y3, y4, y5], cO (a 0) 4 [.ref (a 1), .ref (a 7), .ref (a 9), .ref (a 11), vI (c 1), vI (c 2), vI (c 3), vI (c 4), vI (c 5), vI (c 6), vI (c 7), vI (c 8)], cO (a 1) 1 [vI (c 0), .ref (a 2), .ref (a 3), .ref (a 4), .ref (a 5), .ref (a 6)], cA (a 2) G.2.1.1 100 (F 3), cA (a 3) G.2.1.1 100 (F 4), cA (a 4) G.2.1.1 100 (F 5), cA (a 5) G.2.1.1 100 (F 6), cA (a 6) G.2.1.1 100 (F 7), cO (a 7) 3 [vI (c 9), vI (c 10), vI (c 11), .ref (a 8)], cA (a 8) G.2.1.2.1 101 (F 1), cO (a 9) 3 [vI (c 12), vI (c 13), vI (c 14), .ref (a 10)], cA (a 10) G.2.1.2.1 101 (F 2), cA (a 11) G.2.1.1 3 (F 0)]
  refine s_if_eq 25 C dX6_read_4 (by decide) bI_rng (fun h_4 => ?_) (fun h_4 => ?_)
  · have h_4 := bI_f h_4
    refine s_ldc (z := -1000001) C (by decide +kernel) dX6_read_25 ?_
    exact s_iret C E dX6_read_27 ⟨congrArg (fun z => some (vI z)) (by rw [sp_read, if_neg (by omega)]), rfl⟩
  · have h_4 := bI_t h_4
    exfalso
    omega

theorem w_X6_read (l : Launch) (G : fG) (x0 h0 : Nat) (y2 y3 y4 y5 : Value) (a : Nat → Nat) (c : Nat → Int) (F : Nat → Int → Int) (B : Int) (f : Int → Int) (b y e : Int) (hR : RSb f c F) (hI : Inv B f) (hB : B ≤ 1073000000) (hb : -2147483648 ≤ b ∧ b < 2147483648) (hy : -2147483648 ≤ y ∧ y < 2147483648) (he : -2147483648 ≤ e ∧ e < 2147483648) : fCt l G yX6_read wsX6_read 6 134 0 0 [.ref x0, vI b, vI y, vI e] [cO x0 6 [.ref (a 0), .ref h0, y2, y3, y4, y5], cO (a 0) 4 [.ref (a 1), .ref (a 7), .ref (a 9), .ref (a 11), vI (c 1), vI (c 2), vI (c 3), vI (c 4), vI (c 5), vI (c 6), vI (c 7), vI (c 8)], cO (a 1) 1 [vI (c 0), .ref (a 2), .ref (a 3), .ref (a 4), .ref (a 5), .ref (a 6)], cA (a 2) G.2.1.1 100 (F 3), cA (a 3) G.2.1.1 100 (F 4), cA (a 4) G.2.1.1 100 (F 5), cA (a 5) G.2.1.1 100 (F 6), cA (a 6) G.2.1.1 100 (F 7), cO (a 7) 3 [vI (c 9), vI (c 10), vI (c 11), .ref (a 8)], cA (a 8) G.2.1.2.1 101 (F 1), cO (a 9) 3 [vI (c 12), vI (c 13), vI (c 14), .ref (a 10)], cA (a 10) G.2.1.2.1 101 (F 2), cA (a 11) G.2.1.1 3 (F 0)] (fun (v0 : Option Value) (w0 : va_W) => v0 = some (vI (sp_read f b y e)) ∧ w0 = [cO x0 6 [.ref (a 0), .ref h0, y2, y3, y4, y5], cO (a 0) 4 [.ref (a 1), .ref (a 7), .ref (a 9), .ref (a 11), vI (c 1), vI (c 2), vI (c 3), vI (c 4), vI (c 5), vI (c 6), vI (c 7), vI (c 8)], cO (a 1) 1 [vI (c 0), .ref (a 2), .ref (a 3), .ref (a 4), .ref (a 5), .ref (a 6)], cA (a 2) G.2.1.1 100 (F 3), cA (a 3) G.2.1.1 100 (F 4), cA (a 4) G.2.1.1 100 (F 5), cA (a 5) G.2.1.1 100 (F 6), cA (a 6) G.2.1.1 100 (F 7), cO (a 7) 3 [vI (c 9), vI (c 10), vI (c 11), .ref (a 8)], cA (a 8) G.2.1.2.1 101 (F 1), cO (a 9) 3 [vI (c 12), vI (c 13), vI (c 14), .ref (a 10)], cA (a 10) G.2.1.2.1 101 (F 2), cA (a 11) G.2.1.1 3 (F 0)]) := by
  rcases (by omega : b = 0 ∨ b = 1 ∨ ¬ (0 ≤ b ∧ b ≤ 1)) with e | e | hbx
  · subst e
    exact c_X6_read_0 l G x0 h0 y2 y3 y4 y5 a c F B f y e hR hI hB hy he
  · subst e
    exact c_X6_read_1 l G x0 h0 y2 y3 y4 y5 a c F B f y e hR hI hB hy he
  · exact c_X6_read_x l G x0 h0 y2 y3 y4 y5 a c F B f b y e hR hI hB hy he hb hbx

set_option maxHeartbeats 4000000 in
set_option maxRecDepth 100000 in
theorem c_X6_waits_0 (l : Launch) (G : fG) (x0 h0 : Nat) (y2 y3 y4 y5 : Value) (a : Nat → Nat) (c : Nat → Int) (F : Nat → Int → Int) (B : Int) (f : Int → Int) (e : Int) (hR : RSb f c F) (hI : Inv B f) (hB : B ≤ 1073000000) (he : -2147483648 ≤ e ∧ e < 2147483648) : fCt l G yX6_waits wsX6_waits 4 93 0 0 [.ref x0, vI 0, vI e] [cO x0 6 [.ref (a 0), .ref h0, y2, y3, y4, y5], cO (a 0) 4 [.ref (a 1), .ref (a 7), .ref (a 9), .ref (a 11), vI (c 1), vI (c 2), vI (c 3), vI (c 4), vI (c 5), vI (c 6), vI (c 7), vI (c 8)], cO (a 1) 1 [vI (c 0), .ref (a 2), .ref (a 3), .ref (a 4), .ref (a 5), .ref (a 6)], cA (a 2) G.2.1.1 100 (F 3), cA (a 3) G.2.1.1 100 (F 4), cA (a 4) G.2.1.1 100 (F 5), cA (a 5) G.2.1.1 100 (F 6), cA (a 6) G.2.1.1 100 (F 7), cO (a 7) 3 [vI (c 9), vI (c 10), vI (c 11), .ref (a 8)], cA (a 8) G.2.1.2.1 101 (F 1), cO (a 9) 3 [vI (c 12), vI (c 13), vI (c 14), .ref (a 10)], cA (a 10) G.2.1.2.1 101 (F 2), cA (a 11) G.2.1.1 3 (F 0)] (fun (v0 : Option Value) (w0 : va_W) => v0 = some (vI (sp_wait f 0 e)) ∧ w0 = [cO x0 6 [.ref (a 0), .ref h0, y2, y3, y4, y5], cO (a 0) 4 [.ref (a 1), .ref (a 7), .ref (a 9), .ref (a 11), vI (c 1), vI (c 2), vI (c 3), vI (c 4), vI (c 5), vI (c 6), vI (c 7), vI (c 8)], cO (a 1) 1 [vI (c 0), .ref (a 2), .ref (a 3), .ref (a 4), .ref (a 5), .ref (a 6)], cA (a 2) G.2.1.1 100 (F 3), cA (a 3) G.2.1.1 100 (F 4), cA (a 4) G.2.1.1 100 (F 5), cA (a 5) G.2.1.1 100 (F 6), cA (a 6) G.2.1.1 100 (F 7), cO (a 7) 3 [vI (c 9), vI (c 10), vI (c 11), .ref (a 8)], cA (a 8) G.2.1.2.1 101 (F 1), cO (a 9) 3 [vI (c 12), vI (c 13), vI (c 14), .ref (a 10)], cA (a 10) G.2.1.2.1 101 (F 2), cA (a 11) G.2.1.1 3 (F 0)]) := by
  refine fs_met (cc := cX6_waits) (nL := 4) (ret := (some .int)) (by decide) rfl (Nat.le_of_ble_eq_true rfl) ?_
  intro X C E
  show fSt l G X 0 0 0 [(0, .ref x0), (1, vI 0), (2, vI e)] [] [cO x0 6 [.ref (a 0), .ref h0, y2, y3, y4, y5], cO (a 0) 4 [.ref (a 1), .ref (a 7), .ref (a 9), .ref (a 11), vI (c 1), vI (c 2), vI (c 3), vI (c 4), vI (c 5), vI (c 6), vI (c 7), vI (c 8)], cO (a 1) 1 [vI (c 0), .ref (a 2), .ref (a 3), .ref (a 4), .ref (a 5), .ref (a 6)], cA (a 2) G.2.1.1 100 (F 3), cA (a 3) G.2.1.1 100 (F 4), cA (a 4) G.2.1.1 100 (F 5), cA (a 5) G.2.1.1 100 (F 6), cA (a 6) G.2.1.1 100 (F 7), cO (a 7) 3 [vI (c 9), vI (c 10), vI (c 11), .ref (a 8)], cA (a 8) G.2.1.2.1 101 (F 1), cO (a 9) 3 [vI (c 12), vI (c 13), vI (c 14), .ref (a 10)], cA (a 10) G.2.1.2.1 101 (F 2), cA (a 11) G.2.1.1 3 (F 0)]
  have hinX3 : ∀ w ∈ u_ws RX3 TX3 4, w ∈ wsX6_waits := by decide +kernel
  have hinX6 : ∀ w ∈ u_ws RX6 TX6 6, w ∈ wsX6_waits := by decide +kernel
  obtain ⟨hn, htk, hln, htr, hlc, hlo, hap, hrt, hdl, hS0, hS1⟩ := RS.scal hR hI
  have hK : rF (F 3) := RS.hrK hR
  have hT : rF (F 4) := RS.hrT hR
  have hY : rF (F 5) := RS.hrY hR
  have hV : rF (F 6) := RS.hrV hR
  have hA : rF (F 7) := RS.hrA hR
  have hsl : rF (F 0) := RS.hrs hR
  have hg0 : gF (F 1) := RS.hG0 hR
  have hg1 : gF (F 2) := RS.hG1 hR
  have hb0 := RS.b0 hR
  have hb1 := RS.b1 hR
  have en := RS.e_n hR
  have hin := hI.n
  refine s_iload_n 1 C dX6_waits_0 rfl 1 rfl ?_
  refine s_callS (As := [vI 0]) (rest := []) C dX6_waits_1 (c_X6_isStandby l G 0 (by first | assumption | omega)) gX6_waits_X6_isStandby rfl 1 (by decide +kernel) (by decide) [] rfl (by decide) rfl (Nat.le_of_ble_eq_true rfl) ⟨Nat.zero_le _, Nat.zero_le _⟩ ?_
  intro v0 w0 hq
  obtain ⟨rfl, rfl⟩ := hq
  refine ⟨rfl, ?_⟩
  show fSt l G X 0 0 4 [(0, .ref x0), (1, vI 0), (2, vI e)] [vI (bI (0 ≤ 0 ∧ 0 ≤ 1))] [cO x0 6 [.ref (a 0), .ref h0, y2, y3, y4, y5], cO (a 0) 4 [.ref (a 1), .ref (a 7), .ref (a 9), .ref (a 11), vI (c 1), vI (c 2), vI (c 3), vI (c 4), vI (c 5), vI (c 6), vI (c 7), vI (c 8)], cO (a 1) 1 [vI (c 0), .ref (a 2), .ref (a 3), .ref (a 4), .ref (a 5), .ref (a 6)], cA (a 2) G.2.1.1 100 (F 3), cA (a 3) G.2.1.1 100 (F 4), cA (a 4) G.2.1.1 100 (F 5), cA (a 5) G.2.1.1 100 (F 6), cA (a 6) G.2.1.1 100 (F 7), cO (a 7) 3 [vI (c 9), vI (c 10), vI (c 11), .ref (a 8)], cA (a 8) G.2.1.2.1 101 (F 1), cO (a 9) 3 [vI (c 12), vI (c 13), vI (c 14), .ref (a 10)], cA (a 10) G.2.1.2.1 101 (F 2), cA (a 11) G.2.1.1 3 (F 0)]
  refine s_if_eq 18 C dX6_waits_4 (by decide) bI_rng (fun h_4 => ?_) (fun h_4 => ?_)
  · have h_4 := bI_f h_4
    refine s_ldc (z := -1000001) C (by decide +kernel) dX6_waits_18 ?_
    exact s_iret C E dX6_waits_20 ⟨congrArg (fun z => some (vI z)) (by rw [sp_wait, if_neg (by omega)]), rfl⟩
  · have h_4 := bI_t h_4
    refine s_aload_n 0 C dX6_waits_7 rfl 0 rfl ?_
    refine s_get C dX6_waits_8 6 rfl hinX6 0 rfl 0 (by decide) (by decide +kernel) rfl ?_
    refine s_iload_n 2 C dX6_waits_11 rfl 2 rfl ?_
    refine s_callV (As := [vI e]) (rest := []) C dX6_waits_12 (c_X4_isPosition l G (a 0) (a 1) [.ref (a 7), .ref (a 9), .ref (a 11), vI (c 1), vI (c 2), vI (c 3), vI (c 4), vI (c 5), vI (c 6), vI (c 7), vI (c 8)] [.ref (a 2), .ref (a 3), .ref (a 4), .ref (a 5), .ref (a 6)] (c 0) e (by first | assumption | omega) (by first | assumption | omega)) gX6_waits_X4_isPosition rfl 1 (by decide +kernel) (by decide) 1 4 rfl rfl rfl [1, 2] rfl (by decide) rfl (Nat.le_of_ble_eq_true rfl) ⟨Nat.zero_le _, Nat.zero_le _⟩ ?_
    intro v0 w0 hq
    obtain ⟨rfl, rfl⟩ := hq
    refine ⟨rfl, ?_⟩
    show fSt l G X 0 0 15 [(0, .ref x0), (1, vI 0), (2, vI e)] [vI (bI (0 ≤ e ∧ e ≤ (c 0)))] [cO x0 6 [.ref (a 0), .ref h0, y2, y3, y4, y5], cO (a 0) 4 [.ref (a 1), .ref (a 7), .ref (a 9), .ref (a 11), vI (c 1), vI (c 2), vI (c 3), vI (c 4), vI (c 5), vI (c 6), vI (c 7), vI (c 8)], cO (a 1) 1 [vI (c 0), .ref (a 2), .ref (a 3), .ref (a 4), .ref (a 5), .ref (a 6)], cA (a 2) G.2.1.1 100 (F 3), cA (a 3) G.2.1.1 100 (F 4), cA (a 4) G.2.1.1 100 (F 5), cA (a 5) G.2.1.1 100 (F 6), cA (a 6) G.2.1.1 100 (F 7), cO (a 7) 3 [vI (c 9), vI (c 10), vI (c 11), .ref (a 8)], cA (a 8) G.2.1.2.1 101 (F 1), cO (a 9) 3 [vI (c 12), vI (c 13), vI (c 14), .ref (a 10)], cA (a 10) G.2.1.2.1 101 (F 2), cA (a 11) G.2.1.1 3 (F 0)]
    refine s_if_ne 21 C dX6_waits_15 (by decide) bI_rng (fun h_15 => ?_) (fun h_15 => ?_)
    · have h_15 := bI_t h_15
      refine s_aload_n 0 C dX6_waits_21 rfl 0 rfl ?_
      refine s_get C dX6_waits_22 6 rfl hinX6 0 rfl 0 (by decide) (by decide +kernel) rfl ?_
      refine s_iload_n 1 C dX6_waits_25 rfl 1 rfl ?_
      refine s_callV (As := [vI 0]) (rest := []) C dX6_waits_26 (c_X4_standby0 l G (a 0) (a 1) (a 7) (a 9) [.ref (a 11), vI (c 1), vI (c 2), vI (c 3), vI (c 4), vI (c 5), vI (c 6), vI (c 7), vI (c 8)] 0 (by first | assumption | omega)) gX6_waits_X4_standby rfl 1 (by decide +kernel) (by decide) 1 4 rfl rfl rfl [1] rfl (by decide) rfl (Nat.le_of_ble_eq_true rfl) ⟨Nat.zero_le _, Nat.zero_le _⟩ ?_
      intro v0 w0 hq
      obtain ⟨rfl, rfl⟩ := hq
      refine ⟨rfl, ?_⟩
      show fSt l G X 0 0 29 [(0, .ref x0), (1, vI 0), (2, vI e)] [.ref (a 7)] [cO x0 6 [.ref (a 0), .ref h0, y2, y3, y4, y5], cO (a 0) 4 [.ref (a 1), .ref (a 7), .ref (a 9), .ref (a 11), vI (c 1), vI (c 2), vI (c 3), vI (c 4), vI (c 5), vI (c 6), vI (c 7), vI (c 8)], cO (a 1) 1 [vI (c 0), .ref (a 2), .ref (a 3), .ref (a 4), .ref (a 5), .ref (a 6)], cA (a 2) G.2.1.1 100 (F 3), cA (a 3) G.2.1.1 100 (F 4), cA (a 4) G.2.1.1 100 (F 5), cA (a 5) G.2.1.1 100 (F 6), cA (a 6) G.2.1.1 100 (F 7), cO (a 7) 3 [vI (c 9), vI (c 10), vI (c 11), .ref (a 8)], cA (a 8) G.2.1.2.1 101 (F 1), cO (a 9) 3 [vI (c 12), vI (c 13), vI (c 14), .ref (a 10)], cA (a 10) G.2.1.2.1 101 (F 2), cA (a 11) G.2.1.1 3 (F 0)]
      refine s_astore_n 3 [(3, .ref (a 7)), (0, .ref x0), (1, vI 0), (2, vI e)] C dX6_waits_29 rfl (by decide) rfl ?_
      refine s_aload_n 3 C dX6_waits_30 rfl 0 rfl ?_
      refine s_get C dX6_waits_31 3 rfl hinX3 8 rfl 2 (by decide) (by decide +kernel) rfl ?_
      refine s_if_eq 42 C dX6_waits_34 (by decide) (by omega) (fun h_34 => ?_) (fun h_34 => ?_)
      · refine s_aload_n 0 C dX6_waits_42 rfl 1 rfl ?_
        refine s_get C dX6_waits_43 6 rfl hinX6 0 rfl 0 (by decide) (by decide +kernel) rfl ?_
        refine s_aload_n 3 C dX6_waits_46 rfl 0 rfl ?_
        refine s_iload_n 2 C dX6_waits_47 rfl 3 rfl ?_
        refine s_callV (As := [.ref (a 7), vI e]) (rest := []) C dX6_waits_48 (c_X4_ticksUntil l G (a 0) (a 1) (a 2) (a 3) (a 4) (a 5) (a 6) (a 7) (a 8) (.ref (a 7)) (.ref (a 9)) (.ref (a 11)) (vI (c 2)) (vI (c 3)) (vI (c 4)) (vI (c 5)) (vI (c 6)) (c 1) (c 7) (c 8) (c 0) (F 3) (F 4) (F 5) (F 6) (F 7) (c 9) (c 10) (c 11) (F 1) e (by first | assumption | omega) (by first | assumption | omega) hA hg0 (by first | assumption | omega) (by first | assumption | omega) (by first | assumption | omega) (by first | assumption | omega) (by first | assumption | omega) (by first | assumption | omega)) gX6_waits_X4_ticksUntil rfl 2 (by decide +kernel) (by decide) 1 4 rfl rfl rfl [1, 2, 3, 4, 5, 6, 7, 8, 9] rfl (by decide) rfl (Nat.le_of_ble_eq_true rfl) ⟨Nat.zero_le _, Nat.zero_le _⟩ ?_
        intro v0 w0 hq
        obtain ⟨rfl, rfl⟩ := hq
        refine ⟨rfl, ?_⟩
        show fSt l G X 0 0 51 [(3, .ref (a 7)), (0, .ref x0), (1, vI 0), (2, vI e)] [vI (cT (c 0) (F 7) (c 9) (c 11) (F 1) (c 8) (c 10) (c 1) (c 7) e 200)] [cO x0 6 [.ref (a 0), .ref h0, y2, y3, y4, y5], cO (a 0) 4 [.ref (a 1), .ref (a 7), .ref (a 9), .ref (a 11), vI (c 1), vI (c 2), vI (c 3), vI (c 4), vI (c 5), vI (c 6), vI (c 7), vI (c 8)], cO (a 1) 1 [vI (c 0), .ref (a 2), .ref (a 3), .ref (a 4), .ref (a 5), .ref (a 6)], cA (a 2) G.2.1.1 100 (F 3), cA (a 3) G.2.1.1 100 (F 4), cA (a 4) G.2.1.1 100 (F 5), cA (a 5) G.2.1.1 100 (F 6), cA (a 6) G.2.1.1 100 (F 7), cO (a 7) 3 [vI (c 9), vI (c 10), vI (c 11), .ref (a 8)], cA (a 8) G.2.1.2.1 101 (F 1), cO (a 9) 3 [vI (c 12), vI (c 13), vI (c 14), .ref (a 10)], cA (a 10) G.2.1.2.1 101 (F 2), cA (a 11) G.2.1.1 3 (F 0)]
        exact s_iret C E dX6_waits_51 ⟨congrArg (fun z => some (vI z)) (by rw [sp_wait, if_pos (by omega), if_neg (by omega)]; rw [← RS.e_rt hR]; exact q_cT0 hR hI hB), rfl⟩
      · refine s_ldc (z := -1000002) C (by decide +kernel) dX6_waits_37 ?_
        refine s_goto 51 C dX6_waits_39 (by decide) ?_
        exact s_iret C E dX6_waits_51 ⟨congrArg (fun z => some (vI z)) (by rw [sp_wait, if_pos (by omega), if_pos (by omega)]), rfl⟩
    · have h_15 := bI_f h_15
      refine s_ldc (z := -1000001) C (by decide +kernel) dX6_waits_18 ?_
      exact s_iret C E dX6_waits_20 ⟨congrArg (fun z => some (vI z)) (by rw [sp_wait, if_neg (by omega)]), rfl⟩

set_option maxHeartbeats 4000000 in
set_option maxRecDepth 100000 in
theorem c_X6_waits_1 (l : Launch) (G : fG) (x0 h0 : Nat) (y2 y3 y4 y5 : Value) (a : Nat → Nat) (c : Nat → Int) (F : Nat → Int → Int) (B : Int) (f : Int → Int) (e : Int) (hR : RSb f c F) (hI : Inv B f) (hB : B ≤ 1073000000) (he : -2147483648 ≤ e ∧ e < 2147483648) : fCt l G yX6_waits wsX6_waits 4 93 0 0 [.ref x0, vI 1, vI e] [cO x0 6 [.ref (a 0), .ref h0, y2, y3, y4, y5], cO (a 0) 4 [.ref (a 1), .ref (a 7), .ref (a 9), .ref (a 11), vI (c 1), vI (c 2), vI (c 3), vI (c 4), vI (c 5), vI (c 6), vI (c 7), vI (c 8)], cO (a 1) 1 [vI (c 0), .ref (a 2), .ref (a 3), .ref (a 4), .ref (a 5), .ref (a 6)], cA (a 2) G.2.1.1 100 (F 3), cA (a 3) G.2.1.1 100 (F 4), cA (a 4) G.2.1.1 100 (F 5), cA (a 5) G.2.1.1 100 (F 6), cA (a 6) G.2.1.1 100 (F 7), cO (a 7) 3 [vI (c 9), vI (c 10), vI (c 11), .ref (a 8)], cA (a 8) G.2.1.2.1 101 (F 1), cO (a 9) 3 [vI (c 12), vI (c 13), vI (c 14), .ref (a 10)], cA (a 10) G.2.1.2.1 101 (F 2), cA (a 11) G.2.1.1 3 (F 0)] (fun (v0 : Option Value) (w0 : va_W) => v0 = some (vI (sp_wait f 1 e)) ∧ w0 = [cO x0 6 [.ref (a 0), .ref h0, y2, y3, y4, y5], cO (a 0) 4 [.ref (a 1), .ref (a 7), .ref (a 9), .ref (a 11), vI (c 1), vI (c 2), vI (c 3), vI (c 4), vI (c 5), vI (c 6), vI (c 7), vI (c 8)], cO (a 1) 1 [vI (c 0), .ref (a 2), .ref (a 3), .ref (a 4), .ref (a 5), .ref (a 6)], cA (a 2) G.2.1.1 100 (F 3), cA (a 3) G.2.1.1 100 (F 4), cA (a 4) G.2.1.1 100 (F 5), cA (a 5) G.2.1.1 100 (F 6), cA (a 6) G.2.1.1 100 (F 7), cO (a 7) 3 [vI (c 9), vI (c 10), vI (c 11), .ref (a 8)], cA (a 8) G.2.1.2.1 101 (F 1), cO (a 9) 3 [vI (c 12), vI (c 13), vI (c 14), .ref (a 10)], cA (a 10) G.2.1.2.1 101 (F 2), cA (a 11) G.2.1.1 3 (F 0)]) := by
  refine fs_met (cc := cX6_waits) (nL := 4) (ret := (some .int)) (by decide) rfl (Nat.le_of_ble_eq_true rfl) ?_
  intro X C E
  show fSt l G X 0 0 0 [(0, .ref x0), (1, vI 1), (2, vI e)] [] [cO x0 6 [.ref (a 0), .ref h0, y2, y3, y4, y5], cO (a 0) 4 [.ref (a 1), .ref (a 7), .ref (a 9), .ref (a 11), vI (c 1), vI (c 2), vI (c 3), vI (c 4), vI (c 5), vI (c 6), vI (c 7), vI (c 8)], cO (a 1) 1 [vI (c 0), .ref (a 2), .ref (a 3), .ref (a 4), .ref (a 5), .ref (a 6)], cA (a 2) G.2.1.1 100 (F 3), cA (a 3) G.2.1.1 100 (F 4), cA (a 4) G.2.1.1 100 (F 5), cA (a 5) G.2.1.1 100 (F 6), cA (a 6) G.2.1.1 100 (F 7), cO (a 7) 3 [vI (c 9), vI (c 10), vI (c 11), .ref (a 8)], cA (a 8) G.2.1.2.1 101 (F 1), cO (a 9) 3 [vI (c 12), vI (c 13), vI (c 14), .ref (a 10)], cA (a 10) G.2.1.2.1 101 (F 2), cA (a 11) G.2.1.1 3 (F 0)]
  have hinX3 : ∀ w ∈ u_ws RX3 TX3 4, w ∈ wsX6_waits := by decide +kernel
  have hinX6 : ∀ w ∈ u_ws RX6 TX6 6, w ∈ wsX6_waits := by decide +kernel
  obtain ⟨hn, htk, hln, htr, hlc, hlo, hap, hrt, hdl, hS0, hS1⟩ := RS.scal hR hI
  have hK : rF (F 3) := RS.hrK hR
  have hT : rF (F 4) := RS.hrT hR
  have hY : rF (F 5) := RS.hrY hR
  have hV : rF (F 6) := RS.hrV hR
  have hA : rF (F 7) := RS.hrA hR
  have hsl : rF (F 0) := RS.hrs hR
  have hg0 : gF (F 1) := RS.hG0 hR
  have hg1 : gF (F 2) := RS.hG1 hR
  have hb0 := RS.b0 hR
  have hb1 := RS.b1 hR
  have en := RS.e_n hR
  have hin := hI.n
  refine s_iload_n 1 C dX6_waits_0 rfl 1 rfl ?_
  refine s_callS (As := [vI 1]) (rest := []) C dX6_waits_1 (c_X6_isStandby l G 1 (by first | assumption | omega)) gX6_waits_X6_isStandby rfl 1 (by decide +kernel) (by decide) [] rfl (by decide) rfl (Nat.le_of_ble_eq_true rfl) ⟨Nat.zero_le _, Nat.zero_le _⟩ ?_
  intro v0 w0 hq
  obtain ⟨rfl, rfl⟩ := hq
  refine ⟨rfl, ?_⟩
  show fSt l G X 0 0 4 [(0, .ref x0), (1, vI 1), (2, vI e)] [vI (bI (0 ≤ 1 ∧ 1 ≤ 1))] [cO x0 6 [.ref (a 0), .ref h0, y2, y3, y4, y5], cO (a 0) 4 [.ref (a 1), .ref (a 7), .ref (a 9), .ref (a 11), vI (c 1), vI (c 2), vI (c 3), vI (c 4), vI (c 5), vI (c 6), vI (c 7), vI (c 8)], cO (a 1) 1 [vI (c 0), .ref (a 2), .ref (a 3), .ref (a 4), .ref (a 5), .ref (a 6)], cA (a 2) G.2.1.1 100 (F 3), cA (a 3) G.2.1.1 100 (F 4), cA (a 4) G.2.1.1 100 (F 5), cA (a 5) G.2.1.1 100 (F 6), cA (a 6) G.2.1.1 100 (F 7), cO (a 7) 3 [vI (c 9), vI (c 10), vI (c 11), .ref (a 8)], cA (a 8) G.2.1.2.1 101 (F 1), cO (a 9) 3 [vI (c 12), vI (c 13), vI (c 14), .ref (a 10)], cA (a 10) G.2.1.2.1 101 (F 2), cA (a 11) G.2.1.1 3 (F 0)]
  refine s_if_eq 18 C dX6_waits_4 (by decide) bI_rng (fun h_4 => ?_) (fun h_4 => ?_)
  · have h_4 := bI_f h_4
    refine s_ldc (z := -1000001) C (by decide +kernel) dX6_waits_18 ?_
    exact s_iret C E dX6_waits_20 ⟨congrArg (fun z => some (vI z)) (by rw [sp_wait, if_neg (by omega)]), rfl⟩
  · have h_4 := bI_t h_4
    refine s_aload_n 0 C dX6_waits_7 rfl 0 rfl ?_
    refine s_get C dX6_waits_8 6 rfl hinX6 0 rfl 0 (by decide) (by decide +kernel) rfl ?_
    refine s_iload_n 2 C dX6_waits_11 rfl 2 rfl ?_
    refine s_callV (As := [vI e]) (rest := []) C dX6_waits_12 (c_X4_isPosition l G (a 0) (a 1) [.ref (a 7), .ref (a 9), .ref (a 11), vI (c 1), vI (c 2), vI (c 3), vI (c 4), vI (c 5), vI (c 6), vI (c 7), vI (c 8)] [.ref (a 2), .ref (a 3), .ref (a 4), .ref (a 5), .ref (a 6)] (c 0) e (by first | assumption | omega) (by first | assumption | omega)) gX6_waits_X4_isPosition rfl 1 (by decide +kernel) (by decide) 1 4 rfl rfl rfl [1, 2] rfl (by decide) rfl (Nat.le_of_ble_eq_true rfl) ⟨Nat.zero_le _, Nat.zero_le _⟩ ?_
    intro v0 w0 hq
    obtain ⟨rfl, rfl⟩ := hq
    refine ⟨rfl, ?_⟩
    show fSt l G X 0 0 15 [(0, .ref x0), (1, vI 1), (2, vI e)] [vI (bI (0 ≤ e ∧ e ≤ (c 0)))] [cO x0 6 [.ref (a 0), .ref h0, y2, y3, y4, y5], cO (a 0) 4 [.ref (a 1), .ref (a 7), .ref (a 9), .ref (a 11), vI (c 1), vI (c 2), vI (c 3), vI (c 4), vI (c 5), vI (c 6), vI (c 7), vI (c 8)], cO (a 1) 1 [vI (c 0), .ref (a 2), .ref (a 3), .ref (a 4), .ref (a 5), .ref (a 6)], cA (a 2) G.2.1.1 100 (F 3), cA (a 3) G.2.1.1 100 (F 4), cA (a 4) G.2.1.1 100 (F 5), cA (a 5) G.2.1.1 100 (F 6), cA (a 6) G.2.1.1 100 (F 7), cO (a 7) 3 [vI (c 9), vI (c 10), vI (c 11), .ref (a 8)], cA (a 8) G.2.1.2.1 101 (F 1), cO (a 9) 3 [vI (c 12), vI (c 13), vI (c 14), .ref (a 10)], cA (a 10) G.2.1.2.1 101 (F 2), cA (a 11) G.2.1.1 3 (F 0)]
    refine s_if_ne 21 C dX6_waits_15 (by decide) bI_rng (fun h_15 => ?_) (fun h_15 => ?_)
    · have h_15 := bI_t h_15
      refine s_aload_n 0 C dX6_waits_21 rfl 0 rfl ?_
      refine s_get C dX6_waits_22 6 rfl hinX6 0 rfl 0 (by decide) (by decide +kernel) rfl ?_
      refine s_iload_n 1 C dX6_waits_25 rfl 1 rfl ?_
      refine s_callV (As := [vI 1]) (rest := []) C dX6_waits_26 (c_X4_standby1 l G (a 0) (a 1) (a 7) (a 9) [.ref (a 11), vI (c 1), vI (c 2), vI (c 3), vI (c 4), vI (c 5), vI (c 6), vI (c 7), vI (c 8)] 1 (by first | assumption | omega)) gX6_waits_X4_standby rfl 1 (by decide +kernel) (by decide) 1 4 rfl rfl rfl [1] rfl (by decide) rfl (Nat.le_of_ble_eq_true rfl) ⟨Nat.zero_le _, Nat.zero_le _⟩ ?_
      intro v0 w0 hq
      obtain ⟨rfl, rfl⟩ := hq
      refine ⟨rfl, ?_⟩
      show fSt l G X 0 0 29 [(0, .ref x0), (1, vI 1), (2, vI e)] [.ref (a 9)] [cO x0 6 [.ref (a 0), .ref h0, y2, y3, y4, y5], cO (a 0) 4 [.ref (a 1), .ref (a 7), .ref (a 9), .ref (a 11), vI (c 1), vI (c 2), vI (c 3), vI (c 4), vI (c 5), vI (c 6), vI (c 7), vI (c 8)], cO (a 1) 1 [vI (c 0), .ref (a 2), .ref (a 3), .ref (a 4), .ref (a 5), .ref (a 6)], cA (a 2) G.2.1.1 100 (F 3), cA (a 3) G.2.1.1 100 (F 4), cA (a 4) G.2.1.1 100 (F 5), cA (a 5) G.2.1.1 100 (F 6), cA (a 6) G.2.1.1 100 (F 7), cO (a 7) 3 [vI (c 9), vI (c 10), vI (c 11), .ref (a 8)], cA (a 8) G.2.1.2.1 101 (F 1), cO (a 9) 3 [vI (c 12), vI (c 13), vI (c 14), .ref (a 10)], cA (a 10) G.2.1.2.1 101 (F 2), cA (a 11) G.2.1.1 3 (F 0)]
      refine s_astore_n 3 [(3, .ref (a 9)), (0, .ref x0), (1, vI 1), (2, vI e)] C dX6_waits_29 rfl (by decide) rfl ?_
      refine s_aload_n 3 C dX6_waits_30 rfl 0 rfl ?_
      refine s_get C dX6_waits_31 3 rfl hinX3 10 rfl 2 (by decide) (by decide +kernel) rfl ?_
      refine s_if_eq 42 C dX6_waits_34 (by decide) (by omega) (fun h_34 => ?_) (fun h_34 => ?_)
      · refine s_aload_n 0 C dX6_waits_42 rfl 1 rfl ?_
        refine s_get C dX6_waits_43 6 rfl hinX6 0 rfl 0 (by decide) (by decide +kernel) rfl ?_
        refine s_aload_n 3 C dX6_waits_46 rfl 0 rfl ?_
        refine s_iload_n 2 C dX6_waits_47 rfl 3 rfl ?_
        refine s_callV (As := [.ref (a 9), vI e]) (rest := []) C dX6_waits_48 (c_X4_ticksUntil l G (a 0) (a 1) (a 2) (a 3) (a 4) (a 5) (a 6) (a 9) (a 10) (.ref (a 7)) (.ref (a 9)) (.ref (a 11)) (vI (c 2)) (vI (c 3)) (vI (c 4)) (vI (c 5)) (vI (c 6)) (c 1) (c 7) (c 8) (c 0) (F 3) (F 4) (F 5) (F 6) (F 7) (c 12) (c 13) (c 14) (F 2) e (by first | assumption | omega) (by first | assumption | omega) hA hg1 (by first | assumption | omega) (by first | assumption | omega) (by first | assumption | omega) (by first | assumption | omega) (by first | assumption | omega) (by first | assumption | omega)) gX6_waits_X4_ticksUntil rfl 2 (by decide +kernel) (by decide) 1 4 rfl rfl rfl [1, 2, 3, 4, 5, 6, 7, 10, 11] rfl (by decide) rfl (Nat.le_of_ble_eq_true rfl) ⟨Nat.zero_le _, Nat.zero_le _⟩ ?_
        intro v0 w0 hq
        obtain ⟨rfl, rfl⟩ := hq
        refine ⟨rfl, ?_⟩
        show fSt l G X 0 0 51 [(3, .ref (a 9)), (0, .ref x0), (1, vI 1), (2, vI e)] [vI (cT (c 0) (F 7) (c 12) (c 14) (F 2) (c 8) (c 13) (c 1) (c 7) e 200)] [cO x0 6 [.ref (a 0), .ref h0, y2, y3, y4, y5], cO (a 0) 4 [.ref (a 1), .ref (a 7), .ref (a 9), .ref (a 11), vI (c 1), vI (c 2), vI (c 3), vI (c 4), vI (c 5), vI (c 6), vI (c 7), vI (c 8)], cO (a 1) 1 [vI (c 0), .ref (a 2), .ref (a 3), .ref (a 4), .ref (a 5), .ref (a 6)], cA (a 2) G.2.1.1 100 (F 3), cA (a 3) G.2.1.1 100 (F 4), cA (a 4) G.2.1.1 100 (F 5), cA (a 5) G.2.1.1 100 (F 6), cA (a 6) G.2.1.1 100 (F 7), cO (a 7) 3 [vI (c 9), vI (c 10), vI (c 11), .ref (a 8)], cA (a 8) G.2.1.2.1 101 (F 1), cO (a 9) 3 [vI (c 12), vI (c 13), vI (c 14), .ref (a 10)], cA (a 10) G.2.1.2.1 101 (F 2), cA (a 11) G.2.1.1 3 (F 0)]
        exact s_iret C E dX6_waits_51 ⟨congrArg (fun z => some (vI z)) (by rw [sp_wait, if_pos (by omega), if_neg (by omega)]; rw [← RS.e_rt hR]; exact q_cT1 hR hI hB), rfl⟩
      · refine s_ldc (z := -1000002) C (by decide +kernel) dX6_waits_37 ?_
        refine s_goto 51 C dX6_waits_39 (by decide) ?_
        exact s_iret C E dX6_waits_51 ⟨congrArg (fun z => some (vI z)) (by rw [sp_wait, if_pos (by omega), if_pos (by omega)]), rfl⟩
    · have h_15 := bI_f h_15
      refine s_ldc (z := -1000001) C (by decide +kernel) dX6_waits_18 ?_
      exact s_iret C E dX6_waits_20 ⟨congrArg (fun z => some (vI z)) (by rw [sp_wait, if_neg (by omega)]), rfl⟩

set_option maxHeartbeats 4000000 in
set_option maxRecDepth 100000 in
theorem c_X6_waits_x (l : Launch) (G : fG) (x0 h0 : Nat) (y2 y3 y4 y5 : Value) (a : Nat → Nat) (c : Nat → Int) (F : Nat → Int → Int) (B : Int) (f : Int → Int) (b e : Int) (hR : RSb f c F) (hI : Inv B f) (hB : B ≤ 1073000000) (he : -2147483648 ≤ e ∧ e < 2147483648) (hb : -2147483648 ≤ b ∧ b < 2147483648) (hbx : ¬ (0 ≤ b ∧ b ≤ 1)) : fCt l G yX6_waits wsX6_waits 4 93 0 0 [.ref x0, vI b, vI e] [cO x0 6 [.ref (a 0), .ref h0, y2, y3, y4, y5], cO (a 0) 4 [.ref (a 1), .ref (a 7), .ref (a 9), .ref (a 11), vI (c 1), vI (c 2), vI (c 3), vI (c 4), vI (c 5), vI (c 6), vI (c 7), vI (c 8)], cO (a 1) 1 [vI (c 0), .ref (a 2), .ref (a 3), .ref (a 4), .ref (a 5), .ref (a 6)], cA (a 2) G.2.1.1 100 (F 3), cA (a 3) G.2.1.1 100 (F 4), cA (a 4) G.2.1.1 100 (F 5), cA (a 5) G.2.1.1 100 (F 6), cA (a 6) G.2.1.1 100 (F 7), cO (a 7) 3 [vI (c 9), vI (c 10), vI (c 11), .ref (a 8)], cA (a 8) G.2.1.2.1 101 (F 1), cO (a 9) 3 [vI (c 12), vI (c 13), vI (c 14), .ref (a 10)], cA (a 10) G.2.1.2.1 101 (F 2), cA (a 11) G.2.1.1 3 (F 0)] (fun (v0 : Option Value) (w0 : va_W) => v0 = some (vI (sp_wait f b e)) ∧ w0 = [cO x0 6 [.ref (a 0), .ref h0, y2, y3, y4, y5], cO (a 0) 4 [.ref (a 1), .ref (a 7), .ref (a 9), .ref (a 11), vI (c 1), vI (c 2), vI (c 3), vI (c 4), vI (c 5), vI (c 6), vI (c 7), vI (c 8)], cO (a 1) 1 [vI (c 0), .ref (a 2), .ref (a 3), .ref (a 4), .ref (a 5), .ref (a 6)], cA (a 2) G.2.1.1 100 (F 3), cA (a 3) G.2.1.1 100 (F 4), cA (a 4) G.2.1.1 100 (F 5), cA (a 5) G.2.1.1 100 (F 6), cA (a 6) G.2.1.1 100 (F 7), cO (a 7) 3 [vI (c 9), vI (c 10), vI (c 11), .ref (a 8)], cA (a 8) G.2.1.2.1 101 (F 1), cO (a 9) 3 [vI (c 12), vI (c 13), vI (c 14), .ref (a 10)], cA (a 10) G.2.1.2.1 101 (F 2), cA (a 11) G.2.1.1 3 (F 0)]) := by
  refine fs_met (cc := cX6_waits) (nL := 4) (ret := (some .int)) (by decide) rfl (Nat.le_of_ble_eq_true rfl) ?_
  intro X C E
  show fSt l G X 0 0 0 [(0, .ref x0), (1, vI b), (2, vI e)] [] [cO x0 6 [.ref (a 0), .ref h0, y2, y3, y4, y5], cO (a 0) 4 [.ref (a 1), .ref (a 7), .ref (a 9), .ref (a 11), vI (c 1), vI (c 2), vI (c 3), vI (c 4), vI (c 5), vI (c 6), vI (c 7), vI (c 8)], cO (a 1) 1 [vI (c 0), .ref (a 2), .ref (a 3), .ref (a 4), .ref (a 5), .ref (a 6)], cA (a 2) G.2.1.1 100 (F 3), cA (a 3) G.2.1.1 100 (F 4), cA (a 4) G.2.1.1 100 (F 5), cA (a 5) G.2.1.1 100 (F 6), cA (a 6) G.2.1.1 100 (F 7), cO (a 7) 3 [vI (c 9), vI (c 10), vI (c 11), .ref (a 8)], cA (a 8) G.2.1.2.1 101 (F 1), cO (a 9) 3 [vI (c 12), vI (c 13), vI (c 14), .ref (a 10)], cA (a 10) G.2.1.2.1 101 (F 2), cA (a 11) G.2.1.1 3 (F 0)]
  obtain ⟨hn, htk, hln, htr, hlc, hlo, hap, hrt, hdl, hS0, hS1⟩ := RS.scal hR hI
  have hK : rF (F 3) := RS.hrK hR
  have hT : rF (F 4) := RS.hrT hR
  have hY : rF (F 5) := RS.hrY hR
  have hV : rF (F 6) := RS.hrV hR
  have hA : rF (F 7) := RS.hrA hR
  have hsl : rF (F 0) := RS.hrs hR
  have hg0 : gF (F 1) := RS.hG0 hR
  have hg1 : gF (F 2) := RS.hG1 hR
  have hb0 := RS.b0 hR
  have hb1 := RS.b1 hR
  have en := RS.e_n hR
  have hin := hI.n
  refine s_iload_n 1 C dX6_waits_0 rfl 1 rfl ?_
  refine s_callS (As := [vI b]) (rest := []) C dX6_waits_1 (c_X6_isStandby l G b (by first | assumption | omega)) gX6_waits_X6_isStandby rfl 1 (by decide +kernel) (by decide) [] rfl (by decide) rfl (Nat.le_of_ble_eq_true rfl) ⟨Nat.zero_le _, Nat.zero_le _⟩ ?_
  intro v0 w0 hq
  obtain ⟨rfl, rfl⟩ := hq
  refine ⟨rfl, ?_⟩
  show fSt l G X 0 0 4 [(0, .ref x0), (1, vI b), (2, vI e)] [vI (bI (0 ≤ b ∧ b ≤ 1))] [cO x0 6 [.ref (a 0), .ref h0, y2, y3, y4, y5], cO (a 0) 4 [.ref (a 1), .ref (a 7), .ref (a 9), .ref (a 11), vI (c 1), vI (c 2), vI (c 3), vI (c 4), vI (c 5), vI (c 6), vI (c 7), vI (c 8)], cO (a 1) 1 [vI (c 0), .ref (a 2), .ref (a 3), .ref (a 4), .ref (a 5), .ref (a 6)], cA (a 2) G.2.1.1 100 (F 3), cA (a 3) G.2.1.1 100 (F 4), cA (a 4) G.2.1.1 100 (F 5), cA (a 5) G.2.1.1 100 (F 6), cA (a 6) G.2.1.1 100 (F 7), cO (a 7) 3 [vI (c 9), vI (c 10), vI (c 11), .ref (a 8)], cA (a 8) G.2.1.2.1 101 (F 1), cO (a 9) 3 [vI (c 12), vI (c 13), vI (c 14), .ref (a 10)], cA (a 10) G.2.1.2.1 101 (F 2), cA (a 11) G.2.1.1 3 (F 0)]
  refine s_if_eq 18 C dX6_waits_4 (by decide) bI_rng (fun h_4 => ?_) (fun h_4 => ?_)
  · have h_4 := bI_f h_4
    refine s_ldc (z := -1000001) C (by decide +kernel) dX6_waits_18 ?_
    exact s_iret C E dX6_waits_20 ⟨congrArg (fun z => some (vI z)) (by rw [sp_wait, if_neg (by omega)]), rfl⟩
  · have h_4 := bI_t h_4
    exfalso
    omega

theorem w_X6_waits (l : Launch) (G : fG) (x0 h0 : Nat) (y2 y3 y4 y5 : Value) (a : Nat → Nat) (c : Nat → Int) (F : Nat → Int → Int) (B : Int) (f : Int → Int) (b e : Int) (hR : RSb f c F) (hI : Inv B f) (hB : B ≤ 1073000000) (hb : -2147483648 ≤ b ∧ b < 2147483648) (he : -2147483648 ≤ e ∧ e < 2147483648) : fCt l G yX6_waits wsX6_waits 4 93 0 0 [.ref x0, vI b, vI e] [cO x0 6 [.ref (a 0), .ref h0, y2, y3, y4, y5], cO (a 0) 4 [.ref (a 1), .ref (a 7), .ref (a 9), .ref (a 11), vI (c 1), vI (c 2), vI (c 3), vI (c 4), vI (c 5), vI (c 6), vI (c 7), vI (c 8)], cO (a 1) 1 [vI (c 0), .ref (a 2), .ref (a 3), .ref (a 4), .ref (a 5), .ref (a 6)], cA (a 2) G.2.1.1 100 (F 3), cA (a 3) G.2.1.1 100 (F 4), cA (a 4) G.2.1.1 100 (F 5), cA (a 5) G.2.1.1 100 (F 6), cA (a 6) G.2.1.1 100 (F 7), cO (a 7) 3 [vI (c 9), vI (c 10), vI (c 11), .ref (a 8)], cA (a 8) G.2.1.2.1 101 (F 1), cO (a 9) 3 [vI (c 12), vI (c 13), vI (c 14), .ref (a 10)], cA (a 10) G.2.1.2.1 101 (F 2), cA (a 11) G.2.1.1 3 (F 0)] (fun (v0 : Option Value) (w0 : va_W) => v0 = some (vI (sp_wait f b e)) ∧ w0 = [cO x0 6 [.ref (a 0), .ref h0, y2, y3, y4, y5], cO (a 0) 4 [.ref (a 1), .ref (a 7), .ref (a 9), .ref (a 11), vI (c 1), vI (c 2), vI (c 3), vI (c 4), vI (c 5), vI (c 6), vI (c 7), vI (c 8)], cO (a 1) 1 [vI (c 0), .ref (a 2), .ref (a 3), .ref (a 4), .ref (a 5), .ref (a 6)], cA (a 2) G.2.1.1 100 (F 3), cA (a 3) G.2.1.1 100 (F 4), cA (a 4) G.2.1.1 100 (F 5), cA (a 5) G.2.1.1 100 (F 6), cA (a 6) G.2.1.1 100 (F 7), cO (a 7) 3 [vI (c 9), vI (c 10), vI (c 11), .ref (a 8)], cA (a 8) G.2.1.2.1 101 (F 1), cO (a 9) 3 [vI (c 12), vI (c 13), vI (c 14), .ref (a 10)], cA (a 10) G.2.1.2.1 101 (F 2), cA (a 11) G.2.1.1 3 (F 0)]) := by
  rcases (by omega : b = 0 ∨ b = 1 ∨ ¬ (0 ≤ b ∧ b ≤ 1)) with e | e | hbx
  · subst e
    exact c_X6_waits_0 l G x0 h0 y2 y3 y4 y5 a c F B f e hR hI hB he
  · subst e
    exact c_X6_waits_1 l G x0 h0 y2 y3 y4 y5 a c F B f e hR hI hB he
  · exact c_X6_waits_x l G x0 h0 y2 y3 y4 y5 a c F B f b e hR hI hB he hb hbx

set_option maxHeartbeats 4000000 in
set_option maxRecDepth 100000 in
theorem c_X6_wouldLose_0 (l : Launch) (G : fG) (x0 h0 : Nat) (y2 y3 y4 y5 : Value) (a : Nat → Nat) (c : Nat → Int) (F : Nat → Int → Int) (B : Int) (f : Int → Int) (hR : RSb f c F) (hI : Inv B f) (hB : B ≤ 1073000000) : fCt l G yX6_wouldLose wsX6_wouldLose 3 65 0 0 [.ref x0, vI 0] [cO x0 6 [.ref (a 0), .ref h0, y2, y3, y4, y5], cO (a 0) 4 [.ref (a 1), .ref (a 7), .ref (a 9), .ref (a 11), vI (c 1), vI (c 2), vI (c 3), vI (c 4), vI (c 5), vI (c 6), vI (c 7), vI (c 8)], cO (a 1) 1 [vI (c 0), .ref (a 2), .ref (a 3), .ref (a 4), .ref (a 5), .ref (a 6)], cA (a 2) G.2.1.1 100 (F 3), cA (a 3) G.2.1.1 100 (F 4), cA (a 4) G.2.1.1 100 (F 5), cA (a 5) G.2.1.1 100 (F 6), cA (a 6) G.2.1.1 100 (F 7), cO (a 7) 3 [vI (c 9), vI (c 10), vI (c 11), .ref (a 8)], cA (a 8) G.2.1.2.1 101 (F 1), cO (a 9) 3 [vI (c 12), vI (c 13), vI (c 14), .ref (a 10)], cA (a 10) G.2.1.2.1 101 (F 2), cA (a 11) G.2.1.1 3 (F 0)] (fun (v0 : Option Value) (w0 : va_W) => v0 = some (vI (sp_wl f 0)) ∧ w0 = [cO x0 6 [.ref (a 0), .ref h0, y2, y3, y4, y5], cO (a 0) 4 [.ref (a 1), .ref (a 7), .ref (a 9), .ref (a 11), vI (c 1), vI (c 2), vI (c 3), vI (c 4), vI (c 5), vI (c 6), vI (c 7), vI (c 8)], cO (a 1) 1 [vI (c 0), .ref (a 2), .ref (a 3), .ref (a 4), .ref (a 5), .ref (a 6)], cA (a 2) G.2.1.1 100 (F 3), cA (a 3) G.2.1.1 100 (F 4), cA (a 4) G.2.1.1 100 (F 5), cA (a 5) G.2.1.1 100 (F 6), cA (a 6) G.2.1.1 100 (F 7), cO (a 7) 3 [vI (c 9), vI (c 10), vI (c 11), .ref (a 8)], cA (a 8) G.2.1.2.1 101 (F 1), cO (a 9) 3 [vI (c 12), vI (c 13), vI (c 14), .ref (a 10)], cA (a 10) G.2.1.2.1 101 (F 2), cA (a 11) G.2.1.1 3 (F 0)]) := by
  refine fs_met (cc := cX6_wouldLose) (nL := 3) (ret := (some .int)) (by decide) rfl (Nat.le_of_ble_eq_true rfl) ?_
  intro X C E
  show fSt l G X 0 0 0 [(0, .ref x0), (1, vI 0)] [] [cO x0 6 [.ref (a 0), .ref h0, y2, y3, y4, y5], cO (a 0) 4 [.ref (a 1), .ref (a 7), .ref (a 9), .ref (a 11), vI (c 1), vI (c 2), vI (c 3), vI (c 4), vI (c 5), vI (c 6), vI (c 7), vI (c 8)], cO (a 1) 1 [vI (c 0), .ref (a 2), .ref (a 3), .ref (a 4), .ref (a 5), .ref (a 6)], cA (a 2) G.2.1.1 100 (F 3), cA (a 3) G.2.1.1 100 (F 4), cA (a 4) G.2.1.1 100 (F 5), cA (a 5) G.2.1.1 100 (F 6), cA (a 6) G.2.1.1 100 (F 7), cO (a 7) 3 [vI (c 9), vI (c 10), vI (c 11), .ref (a 8)], cA (a 8) G.2.1.2.1 101 (F 1), cO (a 9) 3 [vI (c 12), vI (c 13), vI (c 14), .ref (a 10)], cA (a 10) G.2.1.2.1 101 (F 2), cA (a 11) G.2.1.1 3 (F 0)]
  have hinX3 : ∀ w ∈ u_ws RX3 TX3 4, w ∈ wsX6_wouldLose := by decide +kernel
  have hinX4 : ∀ w ∈ u_ws RX4 TX4 12, w ∈ wsX6_wouldLose := by decide +kernel
  have hinX6 : ∀ w ∈ u_ws RX6 TX6 6, w ∈ wsX6_wouldLose := by decide +kernel
  obtain ⟨hn, htk, hln, htr, hlc, hlo, hap, hrt, hdl, hS0, hS1⟩ := RS.scal hR hI
  have hK : rF (F 3) := RS.hrK hR
  have hT : rF (F 4) := RS.hrT hR
  have hY : rF (F 5) := RS.hrY hR
  have hV : rF (F 6) := RS.hrV hR
  have hA : rF (F 7) := RS.hrA hR
  have hsl : rF (F 0) := RS.hrs hR
  have hg0 : gF (F 1) := RS.hG0 hR
  have hg1 : gF (F 2) := RS.hG1 hR
  have hb0 := RS.b0 hR
  have hb1 := RS.b1 hR
  have en := RS.e_n hR
  have hin := hI.n
  refine s_iload_n 1 C dX6_wouldLose_0 rfl 1 rfl ?_
  refine s_callS (As := [vI 0]) (rest := []) C dX6_wouldLose_1 (c_X6_isStandby l G 0 (by first | assumption | omega)) gX6_wouldLose_X6_isStandby rfl 1 (by decide +kernel) (by decide) [] rfl (by decide) rfl (Nat.le_of_ble_eq_true rfl) ⟨Nat.zero_le _, Nat.zero_le _⟩ ?_
  intro v0 w0 hq
  obtain ⟨rfl, rfl⟩ := hq
  refine ⟨rfl, ?_⟩
  show fSt l G X 0 0 4 [(0, .ref x0), (1, vI 0)] [vI (bI (0 ≤ 0 ∧ 0 ≤ 1))] [cO x0 6 [.ref (a 0), .ref h0, y2, y3, y4, y5], cO (a 0) 4 [.ref (a 1), .ref (a 7), .ref (a 9), .ref (a 11), vI (c 1), vI (c 2), vI (c 3), vI (c 4), vI (c 5), vI (c 6), vI (c 7), vI (c 8)], cO (a 1) 1 [vI (c 0), .ref (a 2), .ref (a 3), .ref (a 4), .ref (a 5), .ref (a 6)], cA (a 2) G.2.1.1 100 (F 3), cA (a 3) G.2.1.1 100 (F 4), cA (a 4) G.2.1.1 100 (F 5), cA (a 5) G.2.1.1 100 (F 6), cA (a 6) G.2.1.1 100 (F 7), cO (a 7) 3 [vI (c 9), vI (c 10), vI (c 11), .ref (a 8)], cA (a 8) G.2.1.2.1 101 (F 1), cO (a 9) 3 [vI (c 12), vI (c 13), vI (c 14), .ref (a 10)], cA (a 10) G.2.1.2.1 101 (F 2), cA (a 11) G.2.1.1 3 (F 0)]
  refine s_if_ne 10 C dX6_wouldLose_4 (by decide) bI_rng (fun h_4 => ?_) (fun h_4 => ?_)
  · have h_4 := bI_t h_4
    refine s_aload_n 0 C dX6_wouldLose_10 rfl 0 rfl ?_
    refine s_get C dX6_wouldLose_11 6 rfl hinX6 0 rfl 0 (by decide) (by decide +kernel) rfl ?_
    refine s_iload_n 1 C dX6_wouldLose_14 rfl 1 rfl ?_
    refine s_callV (As := [vI 0]) (rest := []) C dX6_wouldLose_15 (c_X4_standby0 l G (a 0) (a 1) (a 7) (a 9) [.ref (a 11), vI (c 1), vI (c 2), vI (c 3), vI (c 4), vI (c 5), vI (c 6), vI (c 7), vI (c 8)] 0 (by first | assumption | omega)) gX6_wouldLose_X4_standby rfl 1 (by decide +kernel) (by decide) 1 4 rfl rfl rfl [1] rfl (by decide) rfl (Nat.le_of_ble_eq_true rfl) ⟨Nat.zero_le _, Nat.zero_le _⟩ ?_
    intro v0 w0 hq
    obtain ⟨rfl, rfl⟩ := hq
    refine ⟨rfl, ?_⟩
    show fSt l G X 0 0 18 [(0, .ref x0), (1, vI 0)] [.ref (a 7)] [cO x0 6 [.ref (a 0), .ref h0, y2, y3, y4, y5], cO (a 0) 4 [.ref (a 1), .ref (a 7), .ref (a 9), .ref (a 11), vI (c 1), vI (c 2), vI (c 3), vI (c 4), vI (c 5), vI (c 6), vI (c 7), vI (c 8)], cO (a 1) 1 [vI (c 0), .ref (a 2), .ref (a 3), .ref (a 4), .ref (a 5), .ref (a 6)], cA (a 2) G.2.1.1 100 (F 3), cA (a 3) G.2.1.1 100 (F 4), cA (a 4) G.2.1.1 100 (F 5), cA (a 5) G.2.1.1 100 (F 6), cA (a 6) G.2.1.1 100 (F 7), cO (a 7) 3 [vI (c 9), vI (c 10), vI (c 11), .ref (a 8)], cA (a 8) G.2.1.2.1 101 (F 1), cO (a 9) 3 [vI (c 12), vI (c 13), vI (c 14), .ref (a 10)], cA (a 10) G.2.1.2.1 101 (F 2), cA (a 11) G.2.1.1 3 (F 0)]
    refine s_astore_n 2 [(2, .ref (a 7)), (0, .ref x0), (1, vI 0)] C dX6_wouldLose_18 rfl (by decide) rfl ?_
    refine s_aload_n 2 C dX6_wouldLose_19 rfl 0 rfl ?_
    refine s_get C dX6_wouldLose_20 3 rfl hinX3 8 rfl 2 (by decide) (by decide +kernel) rfl ?_
    refine s_if_eq 31 C dX6_wouldLose_23 (by decide) (by omega) (fun h_23 => ?_) (fun h_23 => ?_)
    · refine s_aload_n 0 C dX6_wouldLose_31 rfl 1 rfl ?_
      refine s_get C dX6_wouldLose_32 6 rfl hinX6 0 rfl 0 (by decide) (by decide +kernel) rfl ?_
      refine s_get C dX6_wouldLose_35 4 rfl hinX4 1 rfl 0 (by decide) (by decide +kernel) rfl ?_
      refine s_aload_n 2 C dX6_wouldLose_38 rfl 0 rfl ?_
      refine s_get C dX6_wouldLose_39 3 rfl hinX3 8 rfl 1 (by decide) (by decide +kernel) rfl ?_
      refine s_callV (As := [vI (c 10)]) (rest := []) C dX6_wouldLose_42 (c_X1_commitsBehind l G (a 1) (a 2) (a 3) (a 4) (a 5) (a 6) (c 0) (F 3) (F 4) (F 5) (F 6) (F 7) (c 10) (by first | assumption | omega) (by first | assumption | omega) (by first | assumption | omega) (by first | assumption | omega) (by first | assumption | omega) (by first | assumption | omega) (by first | assumption | omega)) gX6_wouldLose_X1_commitsBehind rfl 1 (by decide +kernel) (by decide) 2 1 rfl rfl rfl [2, 3, 4, 5, 6, 7] rfl (by decide) rfl (Nat.le_of_ble_eq_true rfl) ⟨Nat.zero_le _, Nat.zero_le _⟩ ?_
      intro v0 w0 hq
      obtain ⟨rfl, rfl⟩ := hq
      refine ⟨rfl, ?_⟩
      show fSt l G X 0 0 45 [(2, .ref (a 7)), (0, .ref x0), (1, vI 0)] [vI (cB (c 0) (F 3) (c 10))] [cO x0 6 [.ref (a 0), .ref h0, y2, y3, y4, y5], cO (a 0) 4 [.ref (a 1), .ref (a 7), .ref (a 9), .ref (a 11), vI (c 1), vI (c 2), vI (c 3), vI (c 4), vI (c 5), vI (c 6), vI (c 7), vI (c 8)], cO (a 1) 1 [vI (c 0), .ref (a 2), .ref (a 3), .ref (a 4), .ref (a 5), .ref (a 6)], cA (a 2) G.2.1.1 100 (F 3), cA (a 3) G.2.1.1 100 (F 4), cA (a 4) G.2.1.1 100 (F 5), cA (a 5) G.2.1.1 100 (F 6), cA (a 6) G.2.1.1 100 (F 7), cO (a 7) 3 [vI (c 9), vI (c 10), vI (c 11), .ref (a 8)], cA (a 8) G.2.1.2.1 101 (F 1), cO (a 9) 3 [vI (c 12), vI (c 13), vI (c 14), .ref (a 10)], cA (a 10) G.2.1.2.1 101 (F 2), cA (a 11) G.2.1.1 3 (F 0)]
      exact s_iret C E dX6_wouldLose_45 ⟨congrArg (fun z => some (vI z)) (by rw [sp_wl, if_pos (by omega), if_neg (by omega)]; rw [← hb0.2.1]; exact q_cB hR (by omega)), rfl⟩
    · refine s_ldc (z := -1000002) C (by decide +kernel) dX6_wouldLose_26 ?_
      refine s_goto 45 C dX6_wouldLose_28 (by decide) ?_
      exact s_iret C E dX6_wouldLose_45 ⟨congrArg (fun z => some (vI z)) (by rw [sp_wl, if_pos (by omega), if_pos (by omega)]), rfl⟩
  · have h_4 := bI_f h_4
    refine s_ldc (z := -1000001) C (by decide +kernel) dX6_wouldLose_7 ?_
    exact s_iret C E dX6_wouldLose_9 ⟨congrArg (fun z => some (vI z)) (by rw [sp_wl, if_neg (by omega)]), rfl⟩

set_option maxHeartbeats 4000000 in
set_option maxRecDepth 100000 in
theorem c_X6_wouldLose_1 (l : Launch) (G : fG) (x0 h0 : Nat) (y2 y3 y4 y5 : Value) (a : Nat → Nat) (c : Nat → Int) (F : Nat → Int → Int) (B : Int) (f : Int → Int) (hR : RSb f c F) (hI : Inv B f) (hB : B ≤ 1073000000) : fCt l G yX6_wouldLose wsX6_wouldLose 3 65 0 0 [.ref x0, vI 1] [cO x0 6 [.ref (a 0), .ref h0, y2, y3, y4, y5], cO (a 0) 4 [.ref (a 1), .ref (a 7), .ref (a 9), .ref (a 11), vI (c 1), vI (c 2), vI (c 3), vI (c 4), vI (c 5), vI (c 6), vI (c 7), vI (c 8)], cO (a 1) 1 [vI (c 0), .ref (a 2), .ref (a 3), .ref (a 4), .ref (a 5), .ref (a 6)], cA (a 2) G.2.1.1 100 (F 3), cA (a 3) G.2.1.1 100 (F 4), cA (a 4) G.2.1.1 100 (F 5), cA (a 5) G.2.1.1 100 (F 6), cA (a 6) G.2.1.1 100 (F 7), cO (a 7) 3 [vI (c 9), vI (c 10), vI (c 11), .ref (a 8)], cA (a 8) G.2.1.2.1 101 (F 1), cO (a 9) 3 [vI (c 12), vI (c 13), vI (c 14), .ref (a 10)], cA (a 10) G.2.1.2.1 101 (F 2), cA (a 11) G.2.1.1 3 (F 0)] (fun (v0 : Option Value) (w0 : va_W) => v0 = some (vI (sp_wl f 1)) ∧ w0 = [cO x0 6 [.ref (a 0), .ref h0, y2, y3, y4, y5], cO (a 0) 4 [.ref (a 1), .ref (a 7), .ref (a 9), .ref (a 11), vI (c 1), vI (c 2), vI (c 3), vI (c 4), vI (c 5), vI (c 6), vI (c 7), vI (c 8)], cO (a 1) 1 [vI (c 0), .ref (a 2), .ref (a 3), .ref (a 4), .ref (a 5), .ref (a 6)], cA (a 2) G.2.1.1 100 (F 3), cA (a 3) G.2.1.1 100 (F 4), cA (a 4) G.2.1.1 100 (F 5), cA (a 5) G.2.1.1 100 (F 6), cA (a 6) G.2.1.1 100 (F 7), cO (a 7) 3 [vI (c 9), vI (c 10), vI (c 11), .ref (a 8)], cA (a 8) G.2.1.2.1 101 (F 1), cO (a 9) 3 [vI (c 12), vI (c 13), vI (c 14), .ref (a 10)], cA (a 10) G.2.1.2.1 101 (F 2), cA (a 11) G.2.1.1 3 (F 0)]) := by
  refine fs_met (cc := cX6_wouldLose) (nL := 3) (ret := (some .int)) (by decide) rfl (Nat.le_of_ble_eq_true rfl) ?_
  intro X C E
  show fSt l G X 0 0 0 [(0, .ref x0), (1, vI 1)] [] [cO x0 6 [.ref (a 0), .ref h0, y2, y3, y4, y5], cO (a 0) 4 [.ref (a 1), .ref (a 7), .ref (a 9), .ref (a 11), vI (c 1), vI (c 2), vI (c 3), vI (c 4), vI (c 5), vI (c 6), vI (c 7), vI (c 8)], cO (a 1) 1 [vI (c 0), .ref (a 2), .ref (a 3), .ref (a 4), .ref (a 5), .ref (a 6)], cA (a 2) G.2.1.1 100 (F 3), cA (a 3) G.2.1.1 100 (F 4), cA (a 4) G.2.1.1 100 (F 5), cA (a 5) G.2.1.1 100 (F 6), cA (a 6) G.2.1.1 100 (F 7), cO (a 7) 3 [vI (c 9), vI (c 10), vI (c 11), .ref (a 8)], cA (a 8) G.2.1.2.1 101 (F 1), cO (a 9) 3 [vI (c 12), vI (c 13), vI (c 14), .ref (a 10)], cA (a 10) G.2.1.2.1 101 (F 2), cA (a 11) G.2.1.1 3 (F 0)]
  have hinX3 : ∀ w ∈ u_ws RX3 TX3 4, w ∈ wsX6_wouldLose := by decide +kernel
  have hinX4 : ∀ w ∈ u_ws RX4 TX4 12, w ∈ wsX6_wouldLose := by decide +kernel
  have hinX6 : ∀ w ∈ u_ws RX6 TX6 6, w ∈ wsX6_wouldLose := by decide +kernel
  obtain ⟨hn, htk, hln, htr, hlc, hlo, hap, hrt, hdl, hS0, hS1⟩ := RS.scal hR hI
  have hK : rF (F 3) := RS.hrK hR
  have hT : rF (F 4) := RS.hrT hR
  have hY : rF (F 5) := RS.hrY hR
  have hV : rF (F 6) := RS.hrV hR
  have hA : rF (F 7) := RS.hrA hR
  have hsl : rF (F 0) := RS.hrs hR
  have hg0 : gF (F 1) := RS.hG0 hR
  have hg1 : gF (F 2) := RS.hG1 hR
  have hb0 := RS.b0 hR
  have hb1 := RS.b1 hR
  have en := RS.e_n hR
  have hin := hI.n
  refine s_iload_n 1 C dX6_wouldLose_0 rfl 1 rfl ?_
  refine s_callS (As := [vI 1]) (rest := []) C dX6_wouldLose_1 (c_X6_isStandby l G 1 (by first | assumption | omega)) gX6_wouldLose_X6_isStandby rfl 1 (by decide +kernel) (by decide) [] rfl (by decide) rfl (Nat.le_of_ble_eq_true rfl) ⟨Nat.zero_le _, Nat.zero_le _⟩ ?_
  intro v0 w0 hq
  obtain ⟨rfl, rfl⟩ := hq
  refine ⟨rfl, ?_⟩
  show fSt l G X 0 0 4 [(0, .ref x0), (1, vI 1)] [vI (bI (0 ≤ 1 ∧ 1 ≤ 1))] [cO x0 6 [.ref (a 0), .ref h0, y2, y3, y4, y5], cO (a 0) 4 [.ref (a 1), .ref (a 7), .ref (a 9), .ref (a 11), vI (c 1), vI (c 2), vI (c 3), vI (c 4), vI (c 5), vI (c 6), vI (c 7), vI (c 8)], cO (a 1) 1 [vI (c 0), .ref (a 2), .ref (a 3), .ref (a 4), .ref (a 5), .ref (a 6)], cA (a 2) G.2.1.1 100 (F 3), cA (a 3) G.2.1.1 100 (F 4), cA (a 4) G.2.1.1 100 (F 5), cA (a 5) G.2.1.1 100 (F 6), cA (a 6) G.2.1.1 100 (F 7), cO (a 7) 3 [vI (c 9), vI (c 10), vI (c 11), .ref (a 8)], cA (a 8) G.2.1.2.1 101 (F 1), cO (a 9) 3 [vI (c 12), vI (c 13), vI (c 14), .ref (a 10)], cA (a 10) G.2.1.2.1 101 (F 2), cA (a 11) G.2.1.1 3 (F 0)]
  refine s_if_ne 10 C dX6_wouldLose_4 (by decide) bI_rng (fun h_4 => ?_) (fun h_4 => ?_)
  · have h_4 := bI_t h_4
    refine s_aload_n 0 C dX6_wouldLose_10 rfl 0 rfl ?_
    refine s_get C dX6_wouldLose_11 6 rfl hinX6 0 rfl 0 (by decide) (by decide +kernel) rfl ?_
    refine s_iload_n 1 C dX6_wouldLose_14 rfl 1 rfl ?_
    refine s_callV (As := [vI 1]) (rest := []) C dX6_wouldLose_15 (c_X4_standby1 l G (a 0) (a 1) (a 7) (a 9) [.ref (a 11), vI (c 1), vI (c 2), vI (c 3), vI (c 4), vI (c 5), vI (c 6), vI (c 7), vI (c 8)] 1 (by first | assumption | omega)) gX6_wouldLose_X4_standby rfl 1 (by decide +kernel) (by decide) 1 4 rfl rfl rfl [1] rfl (by decide) rfl (Nat.le_of_ble_eq_true rfl) ⟨Nat.zero_le _, Nat.zero_le _⟩ ?_
    intro v0 w0 hq
    obtain ⟨rfl, rfl⟩ := hq
    refine ⟨rfl, ?_⟩
    show fSt l G X 0 0 18 [(0, .ref x0), (1, vI 1)] [.ref (a 9)] [cO x0 6 [.ref (a 0), .ref h0, y2, y3, y4, y5], cO (a 0) 4 [.ref (a 1), .ref (a 7), .ref (a 9), .ref (a 11), vI (c 1), vI (c 2), vI (c 3), vI (c 4), vI (c 5), vI (c 6), vI (c 7), vI (c 8)], cO (a 1) 1 [vI (c 0), .ref (a 2), .ref (a 3), .ref (a 4), .ref (a 5), .ref (a 6)], cA (a 2) G.2.1.1 100 (F 3), cA (a 3) G.2.1.1 100 (F 4), cA (a 4) G.2.1.1 100 (F 5), cA (a 5) G.2.1.1 100 (F 6), cA (a 6) G.2.1.1 100 (F 7), cO (a 7) 3 [vI (c 9), vI (c 10), vI (c 11), .ref (a 8)], cA (a 8) G.2.1.2.1 101 (F 1), cO (a 9) 3 [vI (c 12), vI (c 13), vI (c 14), .ref (a 10)], cA (a 10) G.2.1.2.1 101 (F 2), cA (a 11) G.2.1.1 3 (F 0)]
    refine s_astore_n 2 [(2, .ref (a 9)), (0, .ref x0), (1, vI 1)] C dX6_wouldLose_18 rfl (by decide) rfl ?_
    refine s_aload_n 2 C dX6_wouldLose_19 rfl 0 rfl ?_
    refine s_get C dX6_wouldLose_20 3 rfl hinX3 10 rfl 2 (by decide) (by decide +kernel) rfl ?_
    refine s_if_eq 31 C dX6_wouldLose_23 (by decide) (by omega) (fun h_23 => ?_) (fun h_23 => ?_)
    · refine s_aload_n 0 C dX6_wouldLose_31 rfl 1 rfl ?_
      refine s_get C dX6_wouldLose_32 6 rfl hinX6 0 rfl 0 (by decide) (by decide +kernel) rfl ?_
      refine s_get C dX6_wouldLose_35 4 rfl hinX4 1 rfl 0 (by decide) (by decide +kernel) rfl ?_
      refine s_aload_n 2 C dX6_wouldLose_38 rfl 0 rfl ?_
      refine s_get C dX6_wouldLose_39 3 rfl hinX3 10 rfl 1 (by decide) (by decide +kernel) rfl ?_
      refine s_callV (As := [vI (c 13)]) (rest := []) C dX6_wouldLose_42 (c_X1_commitsBehind l G (a 1) (a 2) (a 3) (a 4) (a 5) (a 6) (c 0) (F 3) (F 4) (F 5) (F 6) (F 7) (c 13) (by first | assumption | omega) (by first | assumption | omega) (by first | assumption | omega) (by first | assumption | omega) (by first | assumption | omega) (by first | assumption | omega) (by first | assumption | omega)) gX6_wouldLose_X1_commitsBehind rfl 1 (by decide +kernel) (by decide) 2 1 rfl rfl rfl [2, 3, 4, 5, 6, 7] rfl (by decide) rfl (Nat.le_of_ble_eq_true rfl) ⟨Nat.zero_le _, Nat.zero_le _⟩ ?_
      intro v0 w0 hq
      obtain ⟨rfl, rfl⟩ := hq
      refine ⟨rfl, ?_⟩
      show fSt l G X 0 0 45 [(2, .ref (a 9)), (0, .ref x0), (1, vI 1)] [vI (cB (c 0) (F 3) (c 13))] [cO x0 6 [.ref (a 0), .ref h0, y2, y3, y4, y5], cO (a 0) 4 [.ref (a 1), .ref (a 7), .ref (a 9), .ref (a 11), vI (c 1), vI (c 2), vI (c 3), vI (c 4), vI (c 5), vI (c 6), vI (c 7), vI (c 8)], cO (a 1) 1 [vI (c 0), .ref (a 2), .ref (a 3), .ref (a 4), .ref (a 5), .ref (a 6)], cA (a 2) G.2.1.1 100 (F 3), cA (a 3) G.2.1.1 100 (F 4), cA (a 4) G.2.1.1 100 (F 5), cA (a 5) G.2.1.1 100 (F 6), cA (a 6) G.2.1.1 100 (F 7), cO (a 7) 3 [vI (c 9), vI (c 10), vI (c 11), .ref (a 8)], cA (a 8) G.2.1.2.1 101 (F 1), cO (a 9) 3 [vI (c 12), vI (c 13), vI (c 14), .ref (a 10)], cA (a 10) G.2.1.2.1 101 (F 2), cA (a 11) G.2.1.1 3 (F 0)]
      exact s_iret C E dX6_wouldLose_45 ⟨congrArg (fun z => some (vI z)) (by rw [sp_wl, if_pos (by omega), if_neg (by omega)]; rw [← hb1.2.1]; exact q_cB hR (by omega)), rfl⟩
    · refine s_ldc (z := -1000002) C (by decide +kernel) dX6_wouldLose_26 ?_
      refine s_goto 45 C dX6_wouldLose_28 (by decide) ?_
      exact s_iret C E dX6_wouldLose_45 ⟨congrArg (fun z => some (vI z)) (by rw [sp_wl, if_pos (by omega), if_pos (by omega)]), rfl⟩
  · have h_4 := bI_f h_4
    refine s_ldc (z := -1000001) C (by decide +kernel) dX6_wouldLose_7 ?_
    exact s_iret C E dX6_wouldLose_9 ⟨congrArg (fun z => some (vI z)) (by rw [sp_wl, if_neg (by omega)]), rfl⟩

set_option maxHeartbeats 4000000 in
set_option maxRecDepth 100000 in
theorem c_X6_wouldLose_x (l : Launch) (G : fG) (x0 h0 : Nat) (y2 y3 y4 y5 : Value) (a : Nat → Nat) (c : Nat → Int) (F : Nat → Int → Int) (B : Int) (f : Int → Int) (b : Int) (hR : RSb f c F) (hI : Inv B f) (hB : B ≤ 1073000000) (hb : -2147483648 ≤ b ∧ b < 2147483648) (hbx : ¬ (0 ≤ b ∧ b ≤ 1)) : fCt l G yX6_wouldLose wsX6_wouldLose 3 65 0 0 [.ref x0, vI b] [cO x0 6 [.ref (a 0), .ref h0, y2, y3, y4, y5], cO (a 0) 4 [.ref (a 1), .ref (a 7), .ref (a 9), .ref (a 11), vI (c 1), vI (c 2), vI (c 3), vI (c 4), vI (c 5), vI (c 6), vI (c 7), vI (c 8)], cO (a 1) 1 [vI (c 0), .ref (a 2), .ref (a 3), .ref (a 4), .ref (a 5), .ref (a 6)], cA (a 2) G.2.1.1 100 (F 3), cA (a 3) G.2.1.1 100 (F 4), cA (a 4) G.2.1.1 100 (F 5), cA (a 5) G.2.1.1 100 (F 6), cA (a 6) G.2.1.1 100 (F 7), cO (a 7) 3 [vI (c 9), vI (c 10), vI (c 11), .ref (a 8)], cA (a 8) G.2.1.2.1 101 (F 1), cO (a 9) 3 [vI (c 12), vI (c 13), vI (c 14), .ref (a 10)], cA (a 10) G.2.1.2.1 101 (F 2), cA (a 11) G.2.1.1 3 (F 0)] (fun (v0 : Option Value) (w0 : va_W) => v0 = some (vI (sp_wl f b)) ∧ w0 = [cO x0 6 [.ref (a 0), .ref h0, y2, y3, y4, y5], cO (a 0) 4 [.ref (a 1), .ref (a 7), .ref (a 9), .ref (a 11), vI (c 1), vI (c 2), vI (c 3), vI (c 4), vI (c 5), vI (c 6), vI (c 7), vI (c 8)], cO (a 1) 1 [vI (c 0), .ref (a 2), .ref (a 3), .ref (a 4), .ref (a 5), .ref (a 6)], cA (a 2) G.2.1.1 100 (F 3), cA (a 3) G.2.1.1 100 (F 4), cA (a 4) G.2.1.1 100 (F 5), cA (a 5) G.2.1.1 100 (F 6), cA (a 6) G.2.1.1 100 (F 7), cO (a 7) 3 [vI (c 9), vI (c 10), vI (c 11), .ref (a 8)], cA (a 8) G.2.1.2.1 101 (F 1), cO (a 9) 3 [vI (c 12), vI (c 13), vI (c 14), .ref (a 10)], cA (a 10) G.2.1.2.1 101 (F 2), cA (a 11) G.2.1.1 3 (F 0)]) := by
  refine fs_met (cc := cX6_wouldLose) (nL := 3) (ret := (some .int)) (by decide) rfl (Nat.le_of_ble_eq_true rfl) ?_
  intro X C E
  show fSt l G X 0 0 0 [(0, .ref x0), (1, vI b)] [] [cO x0 6 [.ref (a 0), .ref h0, y2, y3, y4, y5], cO (a 0) 4 [.ref (a 1), .ref (a 7), .ref (a 9), .ref (a 11), vI (c 1), vI (c 2), vI (c 3), vI (c 4), vI (c 5), vI (c 6), vI (c 7), vI (c 8)], cO (a 1) 1 [vI (c 0), .ref (a 2), .ref (a 3), .ref (a 4), .ref (a 5), .ref (a 6)], cA (a 2) G.2.1.1 100 (F 3), cA (a 3) G.2.1.1 100 (F 4), cA (a 4) G.2.1.1 100 (F 5), cA (a 5) G.2.1.1 100 (F 6), cA (a 6) G.2.1.1 100 (F 7), cO (a 7) 3 [vI (c 9), vI (c 10), vI (c 11), .ref (a 8)], cA (a 8) G.2.1.2.1 101 (F 1), cO (a 9) 3 [vI (c 12), vI (c 13), vI (c 14), .ref (a 10)], cA (a 10) G.2.1.2.1 101 (F 2), cA (a 11) G.2.1.1 3 (F 0)]
  obtain ⟨hn, htk, hln, htr, hlc, hlo, hap, hrt, hdl, hS0, hS1⟩ := RS.scal hR hI
  have hK : rF (F 3) := RS.hrK hR
  have hT : rF (F 4) := RS.hrT hR
  have hY : rF (F 5) := RS.hrY hR
  have hV : rF (F 6) := RS.hrV hR
  have hA : rF (F 7) := RS.hrA hR
  have hsl : rF (F 0) := RS.hrs hR
  have hg0 : gF (F 1) := RS.hG0 hR
  have hg1 : gF (F 2) := RS.hG1 hR
  have hb0 := RS.b0 hR
  have hb1 := RS.b1 hR
  have en := RS.e_n hR
  have hin := hI.n
  refine s_iload_n 1 C dX6_wouldLose_0 rfl 1 rfl ?_
  refine s_callS (As := [vI b]) (rest := []) C dX6_wouldLose_1 (c_X6_isStandby l G b (by first | assumption | omega)) gX6_wouldLose_X6_isStandby rfl 1 (by decide +kernel) (by decide) [] rfl (by decide) rfl (Nat.le_of_ble_eq_true rfl) ⟨Nat.zero_le _, Nat.zero_le _⟩ ?_
  intro v0 w0 hq
  obtain ⟨rfl, rfl⟩ := hq
  refine ⟨rfl, ?_⟩
  show fSt l G X 0 0 4 [(0, .ref x0), (1, vI b)] [vI (bI (0 ≤ b ∧ b ≤ 1))] [cO x0 6 [.ref (a 0), .ref h0, y2, y3, y4, y5], cO (a 0) 4 [.ref (a 1), .ref (a 7), .ref (a 9), .ref (a 11), vI (c 1), vI (c 2), vI (c 3), vI (c 4), vI (c 5), vI (c 6), vI (c 7), vI (c 8)], cO (a 1) 1 [vI (c 0), .ref (a 2), .ref (a 3), .ref (a 4), .ref (a 5), .ref (a 6)], cA (a 2) G.2.1.1 100 (F 3), cA (a 3) G.2.1.1 100 (F 4), cA (a 4) G.2.1.1 100 (F 5), cA (a 5) G.2.1.1 100 (F 6), cA (a 6) G.2.1.1 100 (F 7), cO (a 7) 3 [vI (c 9), vI (c 10), vI (c 11), .ref (a 8)], cA (a 8) G.2.1.2.1 101 (F 1), cO (a 9) 3 [vI (c 12), vI (c 13), vI (c 14), .ref (a 10)], cA (a 10) G.2.1.2.1 101 (F 2), cA (a 11) G.2.1.1 3 (F 0)]
  refine s_if_ne 10 C dX6_wouldLose_4 (by decide) bI_rng (fun h_4 => ?_) (fun h_4 => ?_)
  · have h_4 := bI_t h_4
    exfalso
    omega
  · have h_4 := bI_f h_4
    refine s_ldc (z := -1000001) C (by decide +kernel) dX6_wouldLose_7 ?_
    exact s_iret C E dX6_wouldLose_9 ⟨congrArg (fun z => some (vI z)) (by rw [sp_wl, if_neg (by omega)]), rfl⟩

theorem w_X6_wouldLose (l : Launch) (G : fG) (x0 h0 : Nat) (y2 y3 y4 y5 : Value) (a : Nat → Nat) (c : Nat → Int) (F : Nat → Int → Int) (B : Int) (f : Int → Int) (b : Int) (hR : RSb f c F) (hI : Inv B f) (hB : B ≤ 1073000000) (hb : -2147483648 ≤ b ∧ b < 2147483648) : fCt l G yX6_wouldLose wsX6_wouldLose 3 65 0 0 [.ref x0, vI b] [cO x0 6 [.ref (a 0), .ref h0, y2, y3, y4, y5], cO (a 0) 4 [.ref (a 1), .ref (a 7), .ref (a 9), .ref (a 11), vI (c 1), vI (c 2), vI (c 3), vI (c 4), vI (c 5), vI (c 6), vI (c 7), vI (c 8)], cO (a 1) 1 [vI (c 0), .ref (a 2), .ref (a 3), .ref (a 4), .ref (a 5), .ref (a 6)], cA (a 2) G.2.1.1 100 (F 3), cA (a 3) G.2.1.1 100 (F 4), cA (a 4) G.2.1.1 100 (F 5), cA (a 5) G.2.1.1 100 (F 6), cA (a 6) G.2.1.1 100 (F 7), cO (a 7) 3 [vI (c 9), vI (c 10), vI (c 11), .ref (a 8)], cA (a 8) G.2.1.2.1 101 (F 1), cO (a 9) 3 [vI (c 12), vI (c 13), vI (c 14), .ref (a 10)], cA (a 10) G.2.1.2.1 101 (F 2), cA (a 11) G.2.1.1 3 (F 0)] (fun (v0 : Option Value) (w0 : va_W) => v0 = some (vI (sp_wl f b)) ∧ w0 = [cO x0 6 [.ref (a 0), .ref h0, y2, y3, y4, y5], cO (a 0) 4 [.ref (a 1), .ref (a 7), .ref (a 9), .ref (a 11), vI (c 1), vI (c 2), vI (c 3), vI (c 4), vI (c 5), vI (c 6), vI (c 7), vI (c 8)], cO (a 1) 1 [vI (c 0), .ref (a 2), .ref (a 3), .ref (a 4), .ref (a 5), .ref (a 6)], cA (a 2) G.2.1.1 100 (F 3), cA (a 3) G.2.1.1 100 (F 4), cA (a 4) G.2.1.1 100 (F 5), cA (a 5) G.2.1.1 100 (F 6), cA (a 6) G.2.1.1 100 (F 7), cO (a 7) 3 [vI (c 9), vI (c 10), vI (c 11), .ref (a 8)], cA (a 8) G.2.1.2.1 101 (F 1), cO (a 9) 3 [vI (c 12), vI (c 13), vI (c 14), .ref (a 10)], cA (a 10) G.2.1.2.1 101 (F 2), cA (a 11) G.2.1.1 3 (F 0)]) := by
  rcases (by omega : b = 0 ∨ b = 1 ∨ ¬ (0 ≤ b ∧ b ≤ 1)) with e | e | hbx
  · subst e
    exact c_X6_wouldLose_0 l G x0 h0 y2 y3 y4 y5 a c F B f hR hI hB
  · subst e
    exact c_X6_wouldLose_1 l G x0 h0 y2 y3 y4 y5 a c F B f hR hI hB
  · exact c_X6_wouldLose_x l G x0 h0 y2 y3 y4 y5 a c F B f b hR hI hB hb hbx

set_option maxHeartbeats 4000000 in
set_option maxRecDepth 100000 in
theorem c_X6_rateFor_0 (l : Launch) (G : fG) (x0 h0 : Nat) (y2 y3 y4 y5 : Value) (a : Nat → Nat) (c : Nat → Int) (F : Nat → Int → Int) (B : Int) (f : Int → Int) (m : Int) (hR : RSb f c F) (hI : Inv B f) (hB : B ≤ 1073000000) (hm : -2147483648 ≤ m ∧ m < 2147483648) : fCt l G yX6_rateFor wsX6_rateFor 5 119 0 0 [.ref x0, vI 0, vI m] [cO x0 6 [.ref (a 0), .ref h0, y2, y3, y4, y5], cO (a 0) 4 [.ref (a 1), .ref (a 7), .ref (a 9), .ref (a 11), vI (c 1), vI (c 2), vI (c 3), vI (c 4), vI (c 5), vI (c 6), vI (c 7), vI (c 8)], cO (a 1) 1 [vI (c 0), .ref (a 2), .ref (a 3), .ref (a 4), .ref (a 5), .ref (a 6)], cA (a 2) G.2.1.1 100 (F 3), cA (a 3) G.2.1.1 100 (F 4), cA (a 4) G.2.1.1 100 (F 5), cA (a 5) G.2.1.1 100 (F 6), cA (a 6) G.2.1.1 100 (F 7), cO (a 7) 3 [vI (c 9), vI (c 10), vI (c 11), .ref (a 8)], cA (a 8) G.2.1.2.1 101 (F 1), cO (a 9) 3 [vI (c 12), vI (c 13), vI (c 14), .ref (a 10)], cA (a 10) G.2.1.2.1 101 (F 2), cA (a 11) G.2.1.1 3 (F 0)] (fun (v0 : Option Value) (w0 : va_W) => v0 = some (vI (sp_rate f 0 m)) ∧ w0 = [cO x0 6 [.ref (a 0), .ref h0, y2, y3, y4, y5], cO (a 0) 4 [.ref (a 1), .ref (a 7), .ref (a 9), .ref (a 11), vI (c 1), vI (c 2), vI (c 3), vI (c 4), vI (c 5), vI (c 6), vI (c 7), vI (c 8)], cO (a 1) 1 [vI (c 0), .ref (a 2), .ref (a 3), .ref (a 4), .ref (a 5), .ref (a 6)], cA (a 2) G.2.1.1 100 (F 3), cA (a 3) G.2.1.1 100 (F 4), cA (a 4) G.2.1.1 100 (F 5), cA (a 5) G.2.1.1 100 (F 6), cA (a 6) G.2.1.1 100 (F 7), cO (a 7) 3 [vI (c 9), vI (c 10), vI (c 11), .ref (a 8)], cA (a 8) G.2.1.2.1 101 (F 1), cO (a 9) 3 [vI (c 12), vI (c 13), vI (c 14), .ref (a 10)], cA (a 10) G.2.1.2.1 101 (F 2), cA (a 11) G.2.1.1 3 (F 0)]) := by
  refine fs_met (cc := cX6_rateFor) (nL := 4) (ret := (some .int)) (by decide) rfl (Nat.le_of_ble_eq_true rfl) ?_
  intro X C E
  show fSt l G X 0 0 0 [(0, .ref x0), (1, vI 0), (2, vI m)] [] [cO x0 6 [.ref (a 0), .ref h0, y2, y3, y4, y5], cO (a 0) 4 [.ref (a 1), .ref (a 7), .ref (a 9), .ref (a 11), vI (c 1), vI (c 2), vI (c 3), vI (c 4), vI (c 5), vI (c 6), vI (c 7), vI (c 8)], cO (a 1) 1 [vI (c 0), .ref (a 2), .ref (a 3), .ref (a 4), .ref (a 5), .ref (a 6)], cA (a 2) G.2.1.1 100 (F 3), cA (a 3) G.2.1.1 100 (F 4), cA (a 4) G.2.1.1 100 (F 5), cA (a 5) G.2.1.1 100 (F 6), cA (a 6) G.2.1.1 100 (F 7), cO (a 7) 3 [vI (c 9), vI (c 10), vI (c 11), .ref (a 8)], cA (a 8) G.2.1.2.1 101 (F 1), cO (a 9) 3 [vI (c 12), vI (c 13), vI (c 14), .ref (a 10)], cA (a 10) G.2.1.2.1 101 (F 2), cA (a 11) G.2.1.1 3 (F 0)]
  have hinX3 : ∀ w ∈ u_ws RX3 TX3 4, w ∈ wsX6_rateFor := by decide +kernel
  have hinX6 : ∀ w ∈ u_ws RX6 TX6 6, w ∈ wsX6_rateFor := by decide +kernel
  obtain ⟨hn, htk, hln, htr, hlc, hlo, hap, hrt, hdl, hS0, hS1⟩ := RS.scal hR hI
  have hK : rF (F 3) := RS.hrK hR
  have hT : rF (F 4) := RS.hrT hR
  have hY : rF (F 5) := RS.hrY hR
  have hV : rF (F 6) := RS.hrV hR
  have hA : rF (F 7) := RS.hrA hR
  have hsl : rF (F 0) := RS.hrs hR
  have hg0 : gF (F 1) := RS.hG0 hR
  have hg1 : gF (F 2) := RS.hG1 hR
  have hb0 := RS.b0 hR
  have hb1 := RS.b1 hR
  have en := RS.e_n hR
  have hin := hI.n
  refine s_iload_n 1 C dX6_rateFor_0 rfl 1 rfl ?_
  refine s_callS (As := [vI 0]) (rest := []) C dX6_rateFor_1 (c_X6_isStandby l G 0 (by first | assumption | omega)) gX6_rateFor_X6_isStandby rfl 1 (by decide +kernel) (by decide) [] rfl (by decide) rfl (Nat.le_of_ble_eq_true rfl) ⟨Nat.zero_le _, Nat.zero_le _⟩ ?_
  intro v0 w0 hq
  obtain ⟨rfl, rfl⟩ := hq
  refine ⟨rfl, ?_⟩
  show fSt l G X 0 0 4 [(0, .ref x0), (1, vI 0), (2, vI m)] [vI (bI (0 ≤ 0 ∧ 0 ≤ 1))] [cO x0 6 [.ref (a 0), .ref h0, y2, y3, y4, y5], cO (a 0) 4 [.ref (a 1), .ref (a 7), .ref (a 9), .ref (a 11), vI (c 1), vI (c 2), vI (c 3), vI (c 4), vI (c 5), vI (c 6), vI (c 7), vI (c 8)], cO (a 1) 1 [vI (c 0), .ref (a 2), .ref (a 3), .ref (a 4), .ref (a 5), .ref (a 6)], cA (a 2) G.2.1.1 100 (F 3), cA (a 3) G.2.1.1 100 (F 4), cA (a 4) G.2.1.1 100 (F 5), cA (a 5) G.2.1.1 100 (F 6), cA (a 6) G.2.1.1 100 (F 7), cO (a 7) 3 [vI (c 9), vI (c 10), vI (c 11), .ref (a 8)], cA (a 8) G.2.1.2.1 101 (F 1), cO (a 9) 3 [vI (c 12), vI (c 13), vI (c 14), .ref (a 10)], cA (a 10) G.2.1.2.1 101 (F 2), cA (a 11) G.2.1.1 3 (F 0)]
  refine s_if_eq 14 C dX6_rateFor_4 (by decide) bI_rng (fun h_4 => ?_) (fun h_4 => ?_)
  · have h_4 := bI_f h_4
    refine s_ldc (z := -1000001) C (by decide +kernel) dX6_rateFor_14 ?_
    exact s_iret C E dX6_rateFor_16 ⟨congrArg (fun z => some (vI z)) (by rw [sp_rate, if_neg (by omega)]), rfl⟩
  · have h_4 := bI_t h_4
    refine s_iload_n 2 C dX6_rateFor_7 rfl 2 rfl ?_
    refine s_callS (As := [vI m]) (rest := []) C dX6_rateFor_8 (c_X6_isTicks l G m (by first | assumption | omega)) gX6_rateFor_X6_isTicks rfl 1 (by decide +kernel) (by decide) [] rfl (by decide) rfl (Nat.le_of_ble_eq_true rfl) ⟨Nat.zero_le _, Nat.zero_le _⟩ ?_
    intro v0 w0 hq
    obtain ⟨rfl, rfl⟩ := hq
    refine ⟨rfl, ?_⟩
    show fSt l G X 0 0 11 [(0, .ref x0), (1, vI 0), (2, vI m)] [vI (bI (1 ≤ m ∧ m ≤ 99))] [cO x0 6 [.ref (a 0), .ref h0, y2, y3, y4, y5], cO (a 0) 4 [.ref (a 1), .ref (a 7), .ref (a 9), .ref (a 11), vI (c 1), vI (c 2), vI (c 3), vI (c 4), vI (c 5), vI (c 6), vI (c 7), vI (c 8)], cO (a 1) 1 [vI (c 0), .ref (a 2), .ref (a 3), .ref (a 4), .ref (a 5), .ref (a 6)], cA (a 2) G.2.1.1 100 (F 3), cA (a 3) G.2.1.1 100 (F 4), cA (a 4) G.2.1.1 100 (F 5), cA (a 5) G.2.1.1 100 (F 6), cA (a 6) G.2.1.1 100 (F 7), cO (a 7) 3 [vI (c 9), vI (c 10), vI (c 11), .ref (a 8)], cA (a 8) G.2.1.2.1 101 (F 1), cO (a 9) 3 [vI (c 12), vI (c 13), vI (c 14), .ref (a 10)], cA (a 10) G.2.1.2.1 101 (F 2), cA (a 11) G.2.1.1 3 (F 0)]
    refine s_if_ne 17 C dX6_rateFor_11 (by decide) bI_rng (fun h_11 => ?_) (fun h_11 => ?_)
    · have h_11 := bI_t h_11
      refine s_aload_n 0 C dX6_rateFor_17 rfl 0 rfl ?_
      refine s_get C dX6_rateFor_18 6 rfl hinX6 0 rfl 0 (by decide) (by decide +kernel) rfl ?_
      refine s_iload_n 1 C dX6_rateFor_21 rfl 1 rfl ?_
      refine s_callV (As := [vI 0]) (rest := []) C dX6_rateFor_22 (c_X4_standby0 l G (a 0) (a 1) (a 7) (a 9) [.ref (a 11), vI (c 1), vI (c 2), vI (c 3), vI (c 4), vI (c 5), vI (c 6), vI (c 7), vI (c 8)] 0 (by first | assumption | omega)) gX6_rateFor_X4_standby rfl 1 (by decide +kernel) (by decide) 1 4 rfl rfl rfl [1] rfl (by decide) rfl (Nat.le_of_ble_eq_true rfl) ⟨Nat.zero_le _, Nat.zero_le _⟩ ?_
      intro v0 w0 hq
      obtain ⟨rfl, rfl⟩ := hq
      refine ⟨rfl, ?_⟩
      show fSt l G X 0 0 25 [(0, .ref x0), (1, vI 0), (2, vI m)] [.ref (a 7)] [cO x0 6 [.ref (a 0), .ref h0, y2, y3, y4, y5], cO (a 0) 4 [.ref (a 1), .ref (a 7), .ref (a 9), .ref (a 11), vI (c 1), vI (c 2), vI (c 3), vI (c 4), vI (c 5), vI (c 6), vI (c 7), vI (c 8)], cO (a 1) 1 [vI (c 0), .ref (a 2), .ref (a 3), .ref (a 4), .ref (a 5), .ref (a 6)], cA (a 2) G.2.1.1 100 (F 3), cA (a 3) G.2.1.1 100 (F 4), cA (a 4) G.2.1.1 100 (F 5), cA (a 5) G.2.1.1 100 (F 6), cA (a 6) G.2.1.1 100 (F 7), cO (a 7) 3 [vI (c 9), vI (c 10), vI (c 11), .ref (a 8)], cA (a 8) G.2.1.2.1 101 (F 1), cO (a 9) 3 [vI (c 12), vI (c 13), vI (c 14), .ref (a 10)], cA (a 10) G.2.1.2.1 101 (F 2), cA (a 11) G.2.1.1 3 (F 0)]
      refine s_astore_n 3 [(3, .ref (a 7)), (0, .ref x0), (1, vI 0), (2, vI m)] C dX6_rateFor_25 rfl (by decide) rfl ?_
      refine s_aload_n 3 C dX6_rateFor_26 rfl 0 rfl ?_
      refine s_get C dX6_rateFor_27 3 rfl hinX3 8 rfl 2 (by decide) (by decide +kernel) rfl ?_
      refine s_if_eq 38 C dX6_rateFor_30 (by decide) (by omega) (fun h_30 => ?_) (fun h_30 => ?_)
      · refine s_aload_n 0 C dX6_rateFor_38 rfl 1 rfl ?_
        refine s_get C dX6_rateFor_39 6 rfl hinX6 0 rfl 0 (by decide) (by decide +kernel) rfl ?_
        refine s_aload_n 3 C dX6_rateFor_42 rfl 0 rfl ?_
        refine s_iload_n 2 C dX6_rateFor_43 rfl 3 rfl ?_
        refine s_callV (As := [.ref (a 7), vI m]) (rest := []) C dX6_rateFor_44 (c_X4_leastRate l G (a 0) (a 1) (a 2) (a 3) (a 4) (a 5) (a 6) (a 7) (a 8) (.ref (a 7)) (.ref (a 9)) (.ref (a 11)) (vI (c 2)) (vI (c 3)) (vI (c 4)) (vI (c 5)) (vI (c 6)) (c 1) (c 7) (c 8) (c 0) (F 3) (F 4) (F 5) (F 6) (F 7) (c 9) (c 10) (c 11) (F 1) m (by first | assumption | omega) (by first | assumption | omega) hA hg0 (by first | assumption | omega) (by first | assumption | omega) (by first | assumption | omega) (by first | assumption | omega) (by first | assumption | omega) (by first | assumption | omega)) gX6_rateFor_X4_leastRate rfl 2 (by decide +kernel) (by decide) 1 4 rfl rfl rfl [1, 2, 3, 4, 5, 6, 7, 8, 9] rfl (by decide) rfl (Nat.le_of_ble_eq_true rfl) ⟨Nat.zero_le _, Nat.zero_le _⟩ ?_
        intro v0 w0 hq
        obtain ⟨rfl, rfl⟩ := hq
        refine ⟨rfl, ?_⟩
        show fSt l G X 0 0 47 [(3, .ref (a 7)), (0, .ref x0), (1, vI 0), (2, vI m)] [vI (cRt (c 0) (F 7) (c 9) (c 11) (F 1) (c 8) (c 10) (c 1) (if sW (F 1) = 0 then (c 9) else sW (F 1) - 1) m)] [cO x0 6 [.ref (a 0), .ref h0, y2, y3, y4, y5], cO (a 0) 4 [.ref (a 1), .ref (a 7), .ref (a 9), .ref (a 11), vI (c 1), vI (c 2), vI (c 3), vI (c 4), vI (c 5), vI (c 6), vI (c 7), vI (c 8)], cO (a 1) 1 [vI (c 0), .ref (a 2), .ref (a 3), .ref (a 4), .ref (a 5), .ref (a 6)], cA (a 2) G.2.1.1 100 (F 3), cA (a 3) G.2.1.1 100 (F 4), cA (a 4) G.2.1.1 100 (F 5), cA (a 5) G.2.1.1 100 (F 6), cA (a 6) G.2.1.1 100 (F 7), cO (a 7) 3 [vI (c 9), vI (c 10), vI (c 11), .ref (a 8)], cA (a 8) G.2.1.2.1 101 (F 1), cO (a 9) 3 [vI (c 12), vI (c 13), vI (c 14), .ref (a 10)], cA (a 10) G.2.1.2.1 101 (F 2), cA (a 11) G.2.1.1 3 (F 0)]
        exact s_iret C E dX6_rateFor_47 ⟨congrArg (fun z => some (vI z)) (by rw [sp_rate, if_pos (by omega), if_neg (by omega : ¬ oS f 0 2 = 1)]; exact q_cR0 hR hI hB (by omega)), rfl⟩
      · refine s_ldc (z := -1000002) C (by decide +kernel) dX6_rateFor_33 ?_
        refine s_goto 47 C dX6_rateFor_35 (by decide) ?_
        exact s_iret C E dX6_rateFor_47 ⟨congrArg (fun z => some (vI z)) (by rw [sp_rate, if_pos (by omega), if_pos (by omega)]), rfl⟩
    · have h_11 := bI_f h_11
      refine s_ldc (z := -1000001) C (by decide +kernel) dX6_rateFor_14 ?_
      exact s_iret C E dX6_rateFor_16 ⟨congrArg (fun z => some (vI z)) (by rw [sp_rate, if_neg (by omega)]), rfl⟩

set_option maxHeartbeats 4000000 in
set_option maxRecDepth 100000 in
theorem c_X6_rateFor_1 (l : Launch) (G : fG) (x0 h0 : Nat) (y2 y3 y4 y5 : Value) (a : Nat → Nat) (c : Nat → Int) (F : Nat → Int → Int) (B : Int) (f : Int → Int) (m : Int) (hR : RSb f c F) (hI : Inv B f) (hB : B ≤ 1073000000) (hm : -2147483648 ≤ m ∧ m < 2147483648) : fCt l G yX6_rateFor wsX6_rateFor 5 119 0 0 [.ref x0, vI 1, vI m] [cO x0 6 [.ref (a 0), .ref h0, y2, y3, y4, y5], cO (a 0) 4 [.ref (a 1), .ref (a 7), .ref (a 9), .ref (a 11), vI (c 1), vI (c 2), vI (c 3), vI (c 4), vI (c 5), vI (c 6), vI (c 7), vI (c 8)], cO (a 1) 1 [vI (c 0), .ref (a 2), .ref (a 3), .ref (a 4), .ref (a 5), .ref (a 6)], cA (a 2) G.2.1.1 100 (F 3), cA (a 3) G.2.1.1 100 (F 4), cA (a 4) G.2.1.1 100 (F 5), cA (a 5) G.2.1.1 100 (F 6), cA (a 6) G.2.1.1 100 (F 7), cO (a 7) 3 [vI (c 9), vI (c 10), vI (c 11), .ref (a 8)], cA (a 8) G.2.1.2.1 101 (F 1), cO (a 9) 3 [vI (c 12), vI (c 13), vI (c 14), .ref (a 10)], cA (a 10) G.2.1.2.1 101 (F 2), cA (a 11) G.2.1.1 3 (F 0)] (fun (v0 : Option Value) (w0 : va_W) => v0 = some (vI (sp_rate f 1 m)) ∧ w0 = [cO x0 6 [.ref (a 0), .ref h0, y2, y3, y4, y5], cO (a 0) 4 [.ref (a 1), .ref (a 7), .ref (a 9), .ref (a 11), vI (c 1), vI (c 2), vI (c 3), vI (c 4), vI (c 5), vI (c 6), vI (c 7), vI (c 8)], cO (a 1) 1 [vI (c 0), .ref (a 2), .ref (a 3), .ref (a 4), .ref (a 5), .ref (a 6)], cA (a 2) G.2.1.1 100 (F 3), cA (a 3) G.2.1.1 100 (F 4), cA (a 4) G.2.1.1 100 (F 5), cA (a 5) G.2.1.1 100 (F 6), cA (a 6) G.2.1.1 100 (F 7), cO (a 7) 3 [vI (c 9), vI (c 10), vI (c 11), .ref (a 8)], cA (a 8) G.2.1.2.1 101 (F 1), cO (a 9) 3 [vI (c 12), vI (c 13), vI (c 14), .ref (a 10)], cA (a 10) G.2.1.2.1 101 (F 2), cA (a 11) G.2.1.1 3 (F 0)]) := by
  refine fs_met (cc := cX6_rateFor) (nL := 4) (ret := (some .int)) (by decide) rfl (Nat.le_of_ble_eq_true rfl) ?_
  intro X C E
  show fSt l G X 0 0 0 [(0, .ref x0), (1, vI 1), (2, vI m)] [] [cO x0 6 [.ref (a 0), .ref h0, y2, y3, y4, y5], cO (a 0) 4 [.ref (a 1), .ref (a 7), .ref (a 9), .ref (a 11), vI (c 1), vI (c 2), vI (c 3), vI (c 4), vI (c 5), vI (c 6), vI (c 7), vI (c 8)], cO (a 1) 1 [vI (c 0), .ref (a 2), .ref (a 3), .ref (a 4), .ref (a 5), .ref (a 6)], cA (a 2) G.2.1.1 100 (F 3), cA (a 3) G.2.1.1 100 (F 4), cA (a 4) G.2.1.1 100 (F 5), cA (a 5) G.2.1.1 100 (F 6), cA (a 6) G.2.1.1 100 (F 7), cO (a 7) 3 [vI (c 9), vI (c 10), vI (c 11), .ref (a 8)], cA (a 8) G.2.1.2.1 101 (F 1), cO (a 9) 3 [vI (c 12), vI (c 13), vI (c 14), .ref (a 10)], cA (a 10) G.2.1.2.1 101 (F 2), cA (a 11) G.2.1.1 3 (F 0)]
  have hinX3 : ∀ w ∈ u_ws RX3 TX3 4, w ∈ wsX6_rateFor := by decide +kernel
  have hinX6 : ∀ w ∈ u_ws RX6 TX6 6, w ∈ wsX6_rateFor := by decide +kernel
  obtain ⟨hn, htk, hln, htr, hlc, hlo, hap, hrt, hdl, hS0, hS1⟩ := RS.scal hR hI
  have hK : rF (F 3) := RS.hrK hR
  have hT : rF (F 4) := RS.hrT hR
  have hY : rF (F 5) := RS.hrY hR
  have hV : rF (F 6) := RS.hrV hR
  have hA : rF (F 7) := RS.hrA hR
  have hsl : rF (F 0) := RS.hrs hR
  have hg0 : gF (F 1) := RS.hG0 hR
  have hg1 : gF (F 2) := RS.hG1 hR
  have hb0 := RS.b0 hR
  have hb1 := RS.b1 hR
  have en := RS.e_n hR
  have hin := hI.n
  refine s_iload_n 1 C dX6_rateFor_0 rfl 1 rfl ?_
  refine s_callS (As := [vI 1]) (rest := []) C dX6_rateFor_1 (c_X6_isStandby l G 1 (by first | assumption | omega)) gX6_rateFor_X6_isStandby rfl 1 (by decide +kernel) (by decide) [] rfl (by decide) rfl (Nat.le_of_ble_eq_true rfl) ⟨Nat.zero_le _, Nat.zero_le _⟩ ?_
  intro v0 w0 hq
  obtain ⟨rfl, rfl⟩ := hq
  refine ⟨rfl, ?_⟩
  show fSt l G X 0 0 4 [(0, .ref x0), (1, vI 1), (2, vI m)] [vI (bI (0 ≤ 1 ∧ 1 ≤ 1))] [cO x0 6 [.ref (a 0), .ref h0, y2, y3, y4, y5], cO (a 0) 4 [.ref (a 1), .ref (a 7), .ref (a 9), .ref (a 11), vI (c 1), vI (c 2), vI (c 3), vI (c 4), vI (c 5), vI (c 6), vI (c 7), vI (c 8)], cO (a 1) 1 [vI (c 0), .ref (a 2), .ref (a 3), .ref (a 4), .ref (a 5), .ref (a 6)], cA (a 2) G.2.1.1 100 (F 3), cA (a 3) G.2.1.1 100 (F 4), cA (a 4) G.2.1.1 100 (F 5), cA (a 5) G.2.1.1 100 (F 6), cA (a 6) G.2.1.1 100 (F 7), cO (a 7) 3 [vI (c 9), vI (c 10), vI (c 11), .ref (a 8)], cA (a 8) G.2.1.2.1 101 (F 1), cO (a 9) 3 [vI (c 12), vI (c 13), vI (c 14), .ref (a 10)], cA (a 10) G.2.1.2.1 101 (F 2), cA (a 11) G.2.1.1 3 (F 0)]
  refine s_if_eq 14 C dX6_rateFor_4 (by decide) bI_rng (fun h_4 => ?_) (fun h_4 => ?_)
  · have h_4 := bI_f h_4
    refine s_ldc (z := -1000001) C (by decide +kernel) dX6_rateFor_14 ?_
    exact s_iret C E dX6_rateFor_16 ⟨congrArg (fun z => some (vI z)) (by rw [sp_rate, if_neg (by omega)]), rfl⟩
  · have h_4 := bI_t h_4
    refine s_iload_n 2 C dX6_rateFor_7 rfl 2 rfl ?_
    refine s_callS (As := [vI m]) (rest := []) C dX6_rateFor_8 (c_X6_isTicks l G m (by first | assumption | omega)) gX6_rateFor_X6_isTicks rfl 1 (by decide +kernel) (by decide) [] rfl (by decide) rfl (Nat.le_of_ble_eq_true rfl) ⟨Nat.zero_le _, Nat.zero_le _⟩ ?_
    intro v0 w0 hq
    obtain ⟨rfl, rfl⟩ := hq
    refine ⟨rfl, ?_⟩
    show fSt l G X 0 0 11 [(0, .ref x0), (1, vI 1), (2, vI m)] [vI (bI (1 ≤ m ∧ m ≤ 99))] [cO x0 6 [.ref (a 0), .ref h0, y2, y3, y4, y5], cO (a 0) 4 [.ref (a 1), .ref (a 7), .ref (a 9), .ref (a 11), vI (c 1), vI (c 2), vI (c 3), vI (c 4), vI (c 5), vI (c 6), vI (c 7), vI (c 8)], cO (a 1) 1 [vI (c 0), .ref (a 2), .ref (a 3), .ref (a 4), .ref (a 5), .ref (a 6)], cA (a 2) G.2.1.1 100 (F 3), cA (a 3) G.2.1.1 100 (F 4), cA (a 4) G.2.1.1 100 (F 5), cA (a 5) G.2.1.1 100 (F 6), cA (a 6) G.2.1.1 100 (F 7), cO (a 7) 3 [vI (c 9), vI (c 10), vI (c 11), .ref (a 8)], cA (a 8) G.2.1.2.1 101 (F 1), cO (a 9) 3 [vI (c 12), vI (c 13), vI (c 14), .ref (a 10)], cA (a 10) G.2.1.2.1 101 (F 2), cA (a 11) G.2.1.1 3 (F 0)]
    refine s_if_ne 17 C dX6_rateFor_11 (by decide) bI_rng (fun h_11 => ?_) (fun h_11 => ?_)
    · have h_11 := bI_t h_11
      refine s_aload_n 0 C dX6_rateFor_17 rfl 0 rfl ?_
      refine s_get C dX6_rateFor_18 6 rfl hinX6 0 rfl 0 (by decide) (by decide +kernel) rfl ?_
      refine s_iload_n 1 C dX6_rateFor_21 rfl 1 rfl ?_
      refine s_callV (As := [vI 1]) (rest := []) C dX6_rateFor_22 (c_X4_standby1 l G (a 0) (a 1) (a 7) (a 9) [.ref (a 11), vI (c 1), vI (c 2), vI (c 3), vI (c 4), vI (c 5), vI (c 6), vI (c 7), vI (c 8)] 1 (by first | assumption | omega)) gX6_rateFor_X4_standby rfl 1 (by decide +kernel) (by decide) 1 4 rfl rfl rfl [1] rfl (by decide) rfl (Nat.le_of_ble_eq_true rfl) ⟨Nat.zero_le _, Nat.zero_le _⟩ ?_
      intro v0 w0 hq
      obtain ⟨rfl, rfl⟩ := hq
      refine ⟨rfl, ?_⟩
      show fSt l G X 0 0 25 [(0, .ref x0), (1, vI 1), (2, vI m)] [.ref (a 9)] [cO x0 6 [.ref (a 0), .ref h0, y2, y3, y4, y5], cO (a 0) 4 [.ref (a 1), .ref (a 7), .ref (a 9), .ref (a 11), vI (c 1), vI (c 2), vI (c 3), vI (c 4), vI (c 5), vI (c 6), vI (c 7), vI (c 8)], cO (a 1) 1 [vI (c 0), .ref (a 2), .ref (a 3), .ref (a 4), .ref (a 5), .ref (a 6)], cA (a 2) G.2.1.1 100 (F 3), cA (a 3) G.2.1.1 100 (F 4), cA (a 4) G.2.1.1 100 (F 5), cA (a 5) G.2.1.1 100 (F 6), cA (a 6) G.2.1.1 100 (F 7), cO (a 7) 3 [vI (c 9), vI (c 10), vI (c 11), .ref (a 8)], cA (a 8) G.2.1.2.1 101 (F 1), cO (a 9) 3 [vI (c 12), vI (c 13), vI (c 14), .ref (a 10)], cA (a 10) G.2.1.2.1 101 (F 2), cA (a 11) G.2.1.1 3 (F 0)]
      refine s_astore_n 3 [(3, .ref (a 9)), (0, .ref x0), (1, vI 1), (2, vI m)] C dX6_rateFor_25 rfl (by decide) rfl ?_
      refine s_aload_n 3 C dX6_rateFor_26 rfl 0 rfl ?_
      refine s_get C dX6_rateFor_27 3 rfl hinX3 10 rfl 2 (by decide) (by decide +kernel) rfl ?_
      refine s_if_eq 38 C dX6_rateFor_30 (by decide) (by omega) (fun h_30 => ?_) (fun h_30 => ?_)
      · refine s_aload_n 0 C dX6_rateFor_38 rfl 1 rfl ?_
        refine s_get C dX6_rateFor_39 6 rfl hinX6 0 rfl 0 (by decide) (by decide +kernel) rfl ?_
        refine s_aload_n 3 C dX6_rateFor_42 rfl 0 rfl ?_
        refine s_iload_n 2 C dX6_rateFor_43 rfl 3 rfl ?_
        refine s_callV (As := [.ref (a 9), vI m]) (rest := []) C dX6_rateFor_44 (c_X4_leastRate l G (a 0) (a 1) (a 2) (a 3) (a 4) (a 5) (a 6) (a 9) (a 10) (.ref (a 7)) (.ref (a 9)) (.ref (a 11)) (vI (c 2)) (vI (c 3)) (vI (c 4)) (vI (c 5)) (vI (c 6)) (c 1) (c 7) (c 8) (c 0) (F 3) (F 4) (F 5) (F 6) (F 7) (c 12) (c 13) (c 14) (F 2) m (by first | assumption | omega) (by first | assumption | omega) hA hg1 (by first | assumption | omega) (by first | assumption | omega) (by first | assumption | omega) (by first | assumption | omega) (by first | assumption | omega) (by first | assumption | omega)) gX6_rateFor_X4_leastRate rfl 2 (by decide +kernel) (by decide) 1 4 rfl rfl rfl [1, 2, 3, 4, 5, 6, 7, 10, 11] rfl (by decide) rfl (Nat.le_of_ble_eq_true rfl) ⟨Nat.zero_le _, Nat.zero_le _⟩ ?_
        intro v0 w0 hq
        obtain ⟨rfl, rfl⟩ := hq
        refine ⟨rfl, ?_⟩
        show fSt l G X 0 0 47 [(3, .ref (a 9)), (0, .ref x0), (1, vI 1), (2, vI m)] [vI (cRt (c 0) (F 7) (c 12) (c 14) (F 2) (c 8) (c 13) (c 1) (if sW (F 2) = 0 then (c 12) else sW (F 2) - 1) m)] [cO x0 6 [.ref (a 0), .ref h0, y2, y3, y4, y5], cO (a 0) 4 [.ref (a 1), .ref (a 7), .ref (a 9), .ref (a 11), vI (c 1), vI (c 2), vI (c 3), vI (c 4), vI (c 5), vI (c 6), vI (c 7), vI (c 8)], cO (a 1) 1 [vI (c 0), .ref (a 2), .ref (a 3), .ref (a 4), .ref (a 5), .ref (a 6)], cA (a 2) G.2.1.1 100 (F 3), cA (a 3) G.2.1.1 100 (F 4), cA (a 4) G.2.1.1 100 (F 5), cA (a 5) G.2.1.1 100 (F 6), cA (a 6) G.2.1.1 100 (F 7), cO (a 7) 3 [vI (c 9), vI (c 10), vI (c 11), .ref (a 8)], cA (a 8) G.2.1.2.1 101 (F 1), cO (a 9) 3 [vI (c 12), vI (c 13), vI (c 14), .ref (a 10)], cA (a 10) G.2.1.2.1 101 (F 2), cA (a 11) G.2.1.1 3 (F 0)]
        exact s_iret C E dX6_rateFor_47 ⟨congrArg (fun z => some (vI z)) (by rw [sp_rate, if_pos (by omega), if_neg (by omega : ¬ oS f 1 2 = 1)]; exact q_cR1 hR hI hB (by omega)), rfl⟩
      · refine s_ldc (z := -1000002) C (by decide +kernel) dX6_rateFor_33 ?_
        refine s_goto 47 C dX6_rateFor_35 (by decide) ?_
        exact s_iret C E dX6_rateFor_47 ⟨congrArg (fun z => some (vI z)) (by rw [sp_rate, if_pos (by omega), if_pos (by omega)]), rfl⟩
    · have h_11 := bI_f h_11
      refine s_ldc (z := -1000001) C (by decide +kernel) dX6_rateFor_14 ?_
      exact s_iret C E dX6_rateFor_16 ⟨congrArg (fun z => some (vI z)) (by rw [sp_rate, if_neg (by omega)]), rfl⟩

set_option maxHeartbeats 4000000 in
set_option maxRecDepth 100000 in
theorem c_X6_rateFor_x (l : Launch) (G : fG) (x0 h0 : Nat) (y2 y3 y4 y5 : Value) (a : Nat → Nat) (c : Nat → Int) (F : Nat → Int → Int) (B : Int) (f : Int → Int) (b m : Int) (hR : RSb f c F) (hI : Inv B f) (hB : B ≤ 1073000000) (hm : -2147483648 ≤ m ∧ m < 2147483648) (hb : -2147483648 ≤ b ∧ b < 2147483648) (hbx : ¬ (0 ≤ b ∧ b ≤ 1)) : fCt l G yX6_rateFor wsX6_rateFor 5 119 0 0 [.ref x0, vI b, vI m] [cO x0 6 [.ref (a 0), .ref h0, y2, y3, y4, y5], cO (a 0) 4 [.ref (a 1), .ref (a 7), .ref (a 9), .ref (a 11), vI (c 1), vI (c 2), vI (c 3), vI (c 4), vI (c 5), vI (c 6), vI (c 7), vI (c 8)], cO (a 1) 1 [vI (c 0), .ref (a 2), .ref (a 3), .ref (a 4), .ref (a 5), .ref (a 6)], cA (a 2) G.2.1.1 100 (F 3), cA (a 3) G.2.1.1 100 (F 4), cA (a 4) G.2.1.1 100 (F 5), cA (a 5) G.2.1.1 100 (F 6), cA (a 6) G.2.1.1 100 (F 7), cO (a 7) 3 [vI (c 9), vI (c 10), vI (c 11), .ref (a 8)], cA (a 8) G.2.1.2.1 101 (F 1), cO (a 9) 3 [vI (c 12), vI (c 13), vI (c 14), .ref (a 10)], cA (a 10) G.2.1.2.1 101 (F 2), cA (a 11) G.2.1.1 3 (F 0)] (fun (v0 : Option Value) (w0 : va_W) => v0 = some (vI (sp_rate f b m)) ∧ w0 = [cO x0 6 [.ref (a 0), .ref h0, y2, y3, y4, y5], cO (a 0) 4 [.ref (a 1), .ref (a 7), .ref (a 9), .ref (a 11), vI (c 1), vI (c 2), vI (c 3), vI (c 4), vI (c 5), vI (c 6), vI (c 7), vI (c 8)], cO (a 1) 1 [vI (c 0), .ref (a 2), .ref (a 3), .ref (a 4), .ref (a 5), .ref (a 6)], cA (a 2) G.2.1.1 100 (F 3), cA (a 3) G.2.1.1 100 (F 4), cA (a 4) G.2.1.1 100 (F 5), cA (a 5) G.2.1.1 100 (F 6), cA (a 6) G.2.1.1 100 (F 7), cO (a 7) 3 [vI (c 9), vI (c 10), vI (c 11), .ref (a 8)], cA (a 8) G.2.1.2.1 101 (F 1), cO (a 9) 3 [vI (c 12), vI (c 13), vI (c 14), .ref (a 10)], cA (a 10) G.2.1.2.1 101 (F 2), cA (a 11) G.2.1.1 3 (F 0)]) := by
  refine fs_met (cc := cX6_rateFor) (nL := 4) (ret := (some .int)) (by decide) rfl (Nat.le_of_ble_eq_true rfl) ?_
  intro X C E
  show fSt l G X 0 0 0 [(0, .ref x0), (1, vI b), (2, vI m)] [] [cO x0 6 [.ref (a 0), .ref h0, y2, y3, y4, y5], cO (a 0) 4 [.ref (a 1), .ref (a 7), .ref (a 9), .ref (a 11), vI (c 1), vI (c 2), vI (c 3), vI (c 4), vI (c 5), vI (c 6), vI (c 7), vI (c 8)], cO (a 1) 1 [vI (c 0), .ref (a 2), .ref (a 3), .ref (a 4), .ref (a 5), .ref (a 6)], cA (a 2) G.2.1.1 100 (F 3), cA (a 3) G.2.1.1 100 (F 4), cA (a 4) G.2.1.1 100 (F 5), cA (a 5) G.2.1.1 100 (F 6), cA (a 6) G.2.1.1 100 (F 7), cO (a 7) 3 [vI (c 9), vI (c 10), vI (c 11), .ref (a 8)], cA (a 8) G.2.1.2.1 101 (F 1), cO (a 9) 3 [vI (c 12), vI (c 13), vI (c 14), .ref (a 10)], cA (a 10) G.2.1.2.1 101 (F 2), cA (a 11) G.2.1.1 3 (F 0)]
  obtain ⟨hn, htk, hln, htr, hlc, hlo, hap, hrt, hdl, hS0, hS1⟩ := RS.scal hR hI
  have hK : rF (F 3) := RS.hrK hR
  have hT : rF (F 4) := RS.hrT hR
  have hY : rF (F 5) := RS.hrY hR
  have hV : rF (F 6) := RS.hrV hR
  have hA : rF (F 7) := RS.hrA hR
  have hsl : rF (F 0) := RS.hrs hR
  have hg0 : gF (F 1) := RS.hG0 hR
  have hg1 : gF (F 2) := RS.hG1 hR
  have hb0 := RS.b0 hR
  have hb1 := RS.b1 hR
  have en := RS.e_n hR
  have hin := hI.n
  refine s_iload_n 1 C dX6_rateFor_0 rfl 1 rfl ?_
  refine s_callS (As := [vI b]) (rest := []) C dX6_rateFor_1 (c_X6_isStandby l G b (by first | assumption | omega)) gX6_rateFor_X6_isStandby rfl 1 (by decide +kernel) (by decide) [] rfl (by decide) rfl (Nat.le_of_ble_eq_true rfl) ⟨Nat.zero_le _, Nat.zero_le _⟩ ?_
  intro v0 w0 hq
  obtain ⟨rfl, rfl⟩ := hq
  refine ⟨rfl, ?_⟩
  show fSt l G X 0 0 4 [(0, .ref x0), (1, vI b), (2, vI m)] [vI (bI (0 ≤ b ∧ b ≤ 1))] [cO x0 6 [.ref (a 0), .ref h0, y2, y3, y4, y5], cO (a 0) 4 [.ref (a 1), .ref (a 7), .ref (a 9), .ref (a 11), vI (c 1), vI (c 2), vI (c 3), vI (c 4), vI (c 5), vI (c 6), vI (c 7), vI (c 8)], cO (a 1) 1 [vI (c 0), .ref (a 2), .ref (a 3), .ref (a 4), .ref (a 5), .ref (a 6)], cA (a 2) G.2.1.1 100 (F 3), cA (a 3) G.2.1.1 100 (F 4), cA (a 4) G.2.1.1 100 (F 5), cA (a 5) G.2.1.1 100 (F 6), cA (a 6) G.2.1.1 100 (F 7), cO (a 7) 3 [vI (c 9), vI (c 10), vI (c 11), .ref (a 8)], cA (a 8) G.2.1.2.1 101 (F 1), cO (a 9) 3 [vI (c 12), vI (c 13), vI (c 14), .ref (a 10)], cA (a 10) G.2.1.2.1 101 (F 2), cA (a 11) G.2.1.1 3 (F 0)]
  refine s_if_eq 14 C dX6_rateFor_4 (by decide) bI_rng (fun h_4 => ?_) (fun h_4 => ?_)
  · have h_4 := bI_f h_4
    refine s_ldc (z := -1000001) C (by decide +kernel) dX6_rateFor_14 ?_
    exact s_iret C E dX6_rateFor_16 ⟨congrArg (fun z => some (vI z)) (by rw [sp_rate, if_neg (by omega)]), rfl⟩
  · have h_4 := bI_t h_4
    exfalso
    omega

theorem w_X6_rateFor (l : Launch) (G : fG) (x0 h0 : Nat) (y2 y3 y4 y5 : Value) (a : Nat → Nat) (c : Nat → Int) (F : Nat → Int → Int) (B : Int) (f : Int → Int) (b m : Int) (hR : RSb f c F) (hI : Inv B f) (hB : B ≤ 1073000000) (hb : -2147483648 ≤ b ∧ b < 2147483648) (hm : -2147483648 ≤ m ∧ m < 2147483648) : fCt l G yX6_rateFor wsX6_rateFor 5 119 0 0 [.ref x0, vI b, vI m] [cO x0 6 [.ref (a 0), .ref h0, y2, y3, y4, y5], cO (a 0) 4 [.ref (a 1), .ref (a 7), .ref (a 9), .ref (a 11), vI (c 1), vI (c 2), vI (c 3), vI (c 4), vI (c 5), vI (c 6), vI (c 7), vI (c 8)], cO (a 1) 1 [vI (c 0), .ref (a 2), .ref (a 3), .ref (a 4), .ref (a 5), .ref (a 6)], cA (a 2) G.2.1.1 100 (F 3), cA (a 3) G.2.1.1 100 (F 4), cA (a 4) G.2.1.1 100 (F 5), cA (a 5) G.2.1.1 100 (F 6), cA (a 6) G.2.1.1 100 (F 7), cO (a 7) 3 [vI (c 9), vI (c 10), vI (c 11), .ref (a 8)], cA (a 8) G.2.1.2.1 101 (F 1), cO (a 9) 3 [vI (c 12), vI (c 13), vI (c 14), .ref (a 10)], cA (a 10) G.2.1.2.1 101 (F 2), cA (a 11) G.2.1.1 3 (F 0)] (fun (v0 : Option Value) (w0 : va_W) => v0 = some (vI (sp_rate f b m)) ∧ w0 = [cO x0 6 [.ref (a 0), .ref h0, y2, y3, y4, y5], cO (a 0) 4 [.ref (a 1), .ref (a 7), .ref (a 9), .ref (a 11), vI (c 1), vI (c 2), vI (c 3), vI (c 4), vI (c 5), vI (c 6), vI (c 7), vI (c 8)], cO (a 1) 1 [vI (c 0), .ref (a 2), .ref (a 3), .ref (a 4), .ref (a 5), .ref (a 6)], cA (a 2) G.2.1.1 100 (F 3), cA (a 3) G.2.1.1 100 (F 4), cA (a 4) G.2.1.1 100 (F 5), cA (a 5) G.2.1.1 100 (F 6), cA (a 6) G.2.1.1 100 (F 7), cO (a 7) 3 [vI (c 9), vI (c 10), vI (c 11), .ref (a 8)], cA (a 8) G.2.1.2.1 101 (F 1), cO (a 9) 3 [vI (c 12), vI (c 13), vI (c 14), .ref (a 10)], cA (a 10) G.2.1.2.1 101 (F 2), cA (a 11) G.2.1.1 3 (F 0)]) := by
  rcases (by omega : b = 0 ∨ b = 1 ∨ ¬ (0 ≤ b ∧ b ≤ 1)) with e | e | hbx
  · subst e
    exact c_X6_rateFor_0 l G x0 h0 y2 y3 y4 y5 a c F B f m hR hI hB hm
  · subst e
    exact c_X6_rateFor_1 l G x0 h0 y2 y3 y4 y5 a c F B f m hR hI hB hm
  · exact c_X6_rateFor_x l G x0 h0 y2 y3 y4 y5 a c F B f b m hR hI hB hm hb hbx

set_option maxHeartbeats 4000000 in
set_option maxRecDepth 100000 in
theorem c_X6_fence (l : Launch) (G : fG) (x0 h0 : Nat) (y2 y3 y4 y5 : Value) (a : Nat → Nat) (c : Nat → Int) (F : Nat → Int → Int) (B : Int) (f : Int → Int) (y : Int) (hR : RSb f c F) (hI : Inv B f) (hB : B ≤ 1073000000) (hy : -2147483648 ≤ y ∧ y < 2147483648) : fCt l G yX6_fence wsX6_fence 5 111 0 0 [.ref x0, vI y] [cO x0 6 [.ref (a 0), .ref h0, y2, y3, y4, y5], cO (a 0) 4 [.ref (a 1), .ref (a 7), .ref (a 9), .ref (a 11), vI (c 1), vI (c 2), vI (c 3), vI (c 4), vI (c 5), vI (c 6), vI (c 7), vI (c 8)], cO (a 1) 1 [vI (c 0), .ref (a 2), .ref (a 3), .ref (a 4), .ref (a 5), .ref (a 6)], cA (a 2) G.2.1.1 100 (F 3), cA (a 3) G.2.1.1 100 (F 4), cA (a 4) G.2.1.1 100 (F 5), cA (a 5) G.2.1.1 100 (F 6), cA (a 6) G.2.1.1 100 (F 7), cO (a 7) 3 [vI (c 9), vI (c 10), vI (c 11), .ref (a 8)], cA (a 8) G.2.1.2.1 101 (F 1), cO (a 9) 3 [vI (c 12), vI (c 13), vI (c 14), .ref (a 10)], cA (a 10) G.2.1.2.1 101 (F 2), cA (a 11) G.2.1.1 3 (F 0)] (fun (v0 : Option Value) (w0 : va_W) => v0 = some (vI (sp_fence f y)) ∧ w0 = [cO x0 6 [.ref (a 0), .ref h0, y2, y3, y4, y5], cO (a 0) 4 [.ref (a 1), .ref (a 7), .ref (a 9), .ref (a 11), vI (c 1), vI (c 2), vI (c 3), vI (c 4), vI (c 5), vI (c 6), vI (c 7), vI (c 8)], cO (a 1) 1 [vI (c 0), .ref (a 2), .ref (a 3), .ref (a 4), .ref (a 5), .ref (a 6)], cA (a 2) G.2.1.1 100 (F 3), cA (a 3) G.2.1.1 100 (F 4), cA (a 4) G.2.1.1 100 (F 5), cA (a 5) G.2.1.1 100 (F 6), cA (a 6) G.2.1.1 100 (F 7), cO (a 7) 3 [vI (c 9), vI (c 10), vI (c 11), .ref (a 8)], cA (a 8) G.2.1.2.1 101 (F 1), cO (a 9) 3 [vI (c 12), vI (c 13), vI (c 14), .ref (a 10)], cA (a 10) G.2.1.2.1 101 (F 2), cA (a 11) G.2.1.1 3 (F 0)]) := by
  refine fs_met (cc := cX6_fence) (nL := 2) (ret := (some .int)) (by decide) rfl (Nat.le_of_ble_eq_true rfl) ?_
  intro X C E
  show fSt l G X 0 0 0 [(0, .ref x0), (1, vI y)] [] [cO x0 6 [.ref (a 0), .ref h0, y2, y3, y4, y5], cO (a 0) 4 [.ref (a 1), .ref (a 7), .ref (a 9), .ref (a 11), vI (c 1), vI (c 2), vI (c 3), vI (c 4), vI (c 5), vI (c 6), vI (c 7), vI (c 8)], cO (a 1) 1 [vI (c 0), .ref (a 2), .ref (a 3), .ref (a 4), .ref (a 5), .ref (a 6)], cA (a 2) G.2.1.1 100 (F 3), cA (a 3) G.2.1.1 100 (F 4), cA (a 4) G.2.1.1 100 (F 5), cA (a 5) G.2.1.1 100 (F 6), cA (a 6) G.2.1.1 100 (F 7), cO (a 7) 3 [vI (c 9), vI (c 10), vI (c 11), .ref (a 8)], cA (a 8) G.2.1.2.1 101 (F 1), cO (a 9) 3 [vI (c 12), vI (c 13), vI (c 14), .ref (a 10)], cA (a 10) G.2.1.2.1 101 (F 2), cA (a 11) G.2.1.1 3 (F 0)]
  have hinX1 : ∀ w ∈ u_ws RX1 TX1 6, w ∈ wsX6_fence := by decide +kernel
  have hinX4 : ∀ w ∈ u_ws RX4 TX4 12, w ∈ wsX6_fence := by decide +kernel
  have hinX6 : ∀ w ∈ u_ws RX6 TX6 6, w ∈ wsX6_fence := by decide +kernel
  obtain ⟨hn, htk, hln, htr, hlc, hlo, hap, hrt, hdl, hS0, hS1⟩ := RS.scal hR hI
  have hK : rF (F 3) := RS.hrK hR
  have hT : rF (F 4) := RS.hrT hR
  have hY : rF (F 5) := RS.hrY hR
  have hV : rF (F 6) := RS.hrV hR
  have hA : rF (F 7) := RS.hrA hR
  have hsl : rF (F 0) := RS.hrs hR
  have hg0 : gF (F 1) := RS.hG0 hR
  have hg1 : gF (F 2) := RS.hG1 hR
  have hb0 := RS.b0 hR
  have hb1 := RS.b1 hR
  have en := RS.e_n hR
  have hin := hI.n
  refine s_iload_n 1 C dX6_fence_0 rfl 1 rfl ?_
  refine s_callS (As := [vI y]) (rest := []) C dX6_fence_1 (c_X6_isKey l G y (by first | assumption | omega)) gX6_fence_X6_isKey rfl 1 (by decide +kernel) (by decide) [] rfl (by decide) rfl (Nat.le_of_ble_eq_true rfl) ⟨Nat.zero_le _, Nat.zero_le _⟩ ?_
  intro v0 w0 hq
  obtain ⟨rfl, rfl⟩ := hq
  refine ⟨rfl, ?_⟩
  show fSt l G X 0 0 4 [(0, .ref x0), (1, vI y)] [vI (bI (0 ≤ y ∧ y ≤ 23))] [cO x0 6 [.ref (a 0), .ref h0, y2, y3, y4, y5], cO (a 0) 4 [.ref (a 1), .ref (a 7), .ref (a 9), .ref (a 11), vI (c 1), vI (c 2), vI (c 3), vI (c 4), vI (c 5), vI (c 6), vI (c 7), vI (c 8)], cO (a 1) 1 [vI (c 0), .ref (a 2), .ref (a 3), .ref (a 4), .ref (a 5), .ref (a 6)], cA (a 2) G.2.1.1 100 (F 3), cA (a 3) G.2.1.1 100 (F 4), cA (a 4) G.2.1.1 100 (F 5), cA (a 5) G.2.1.1 100 (F 6), cA (a 6) G.2.1.1 100 (F 7), cO (a 7) 3 [vI (c 9), vI (c 10), vI (c 11), .ref (a 8)], cA (a 8) G.2.1.2.1 101 (F 1), cO (a 9) 3 [vI (c 12), vI (c 13), vI (c 14), .ref (a 10)], cA (a 10) G.2.1.2.1 101 (F 2), cA (a 11) G.2.1.1 3 (F 0)]
  refine s_if_ne 10 C dX6_fence_4 (by decide) bI_rng (fun h_4 => ?_) (fun h_4 => ?_)
  · have h_4 := bI_t h_4
    refine s_aload_n 0 C dX6_fence_10 rfl 0 rfl ?_
    refine s_get C dX6_fence_11 6 rfl hinX6 0 rfl 0 (by decide) (by decide +kernel) rfl ?_
    refine s_get C dX6_fence_14 4 rfl hinX4 1 rfl 0 (by decide) (by decide +kernel) rfl ?_
    refine s_iload_n 1 C dX6_fence_17 rfl 1 rfl ?_
    refine s_aload_n 0 C dX6_fence_18 rfl 0 rfl ?_
    refine s_get C dX6_fence_19 6 rfl hinX6 0 rfl 0 (by decide) (by decide +kernel) rfl ?_
    refine s_get C dX6_fence_22 4 rfl hinX4 1 rfl 0 (by decide) (by decide +kernel) rfl ?_
    refine s_get C dX6_fence_25 1 rfl hinX1 2 rfl 0 (by decide) (by decide +kernel) rfl ?_
    refine s_callV (As := [vI y, vI (c 0)]) (rest := []) C dX6_fence_28 (c_X1_lastCommit l G (a 1) (a 2) (a 3) (a 4) (a 5) (a 6) (c 0) (F 3) (F 4) (F 5) (F 6) (F 7) y (c 0) (by first | assumption | omega) (by first | assumption | omega) (by first | assumption | omega) (by first | assumption | omega) (by first | assumption | omega) (by first | assumption | omega) (by first | assumption | omega) (by first | assumption | omega)) gX6_fence_X1_lastCommit rfl 2 (by decide +kernel) (by decide) 2 1 rfl rfl rfl [2, 3, 4, 5, 6, 7] rfl (by decide) rfl (Nat.le_of_ble_eq_true rfl) ⟨Nat.zero_le _, Nat.zero_le _⟩ ?_
    intro v0 w0 hq
    obtain ⟨rfl, rfl⟩ := hq
    refine ⟨rfl, ?_⟩
    show fSt l G X 0 0 31 [(0, .ref x0), (1, vI y)] [vI (lC (c 0) (F 3) (F 4) (F 5) y (c 0))] [cO x0 6 [.ref (a 0), .ref h0, y2, y3, y4, y5], cO (a 0) 4 [.ref (a 1), .ref (a 7), .ref (a 9), .ref (a 11), vI (c 1), vI (c 2), vI (c 3), vI (c 4), vI (c 5), vI (c 6), vI (c 7), vI (c 8)], cO (a 1) 1 [vI (c 0), .ref (a 2), .ref (a 3), .ref (a 4), .ref (a 5), .ref (a 6)], cA (a 2) G.2.1.1 100 (F 3), cA (a 3) G.2.1.1 100 (F 4), cA (a 4) G.2.1.1 100 (F 5), cA (a 5) G.2.1.1 100 (F 6), cA (a 6) G.2.1.1 100 (F 7), cO (a 7) 3 [vI (c 9), vI (c 10), vI (c 11), .ref (a 8)], cA (a 8) G.2.1.2.1 101 (F 1), cO (a 9) 3 [vI (c 12), vI (c 13), vI (c 14), .ref (a 10)], cA (a 10) G.2.1.2.1 101 (F 2), cA (a 11) G.2.1.1 3 (F 0)]
    refine s_callS (As := [vI (lC (c 0) (F 3) (F 4) (F 5) y (c 0))]) (rest := []) C dX6_fence_31 (c_X6_found l G (lC (c 0) (F 3) (F 4) (F 5) y (c 0)) (lC_rg (by omega))) gX6_fence_X6_found rfl 1 (by decide +kernel) (by decide) [] rfl (by decide) rfl (Nat.le_of_ble_eq_true rfl) ⟨Nat.zero_le _, Nat.zero_le _⟩ ?_
    intro v0 w0 hq
    obtain ⟨rfl, rfl⟩ := hq
    refine ⟨rfl, ?_⟩
    show fSt l G X 0 0 34 [(0, .ref x0), (1, vI y)] [vI (if (lC (c 0) (F 3) (F 4) (F 5) y (c 0)) = 0 then -1000004 else (lC (c 0) (F 3) (F 4) (F 5) y (c 0)))] [cO x0 6 [.ref (a 0), .ref h0, y2, y3, y4, y5], cO (a 0) 4 [.ref (a 1), .ref (a 7), .ref (a 9), .ref (a 11), vI (c 1), vI (c 2), vI (c 3), vI (c 4), vI (c 5), vI (c 6), vI (c 7), vI (c 8)], cO (a 1) 1 [vI (c 0), .ref (a 2), .ref (a 3), .ref (a 4), .ref (a 5), .ref (a 6)], cA (a 2) G.2.1.1 100 (F 3), cA (a 3) G.2.1.1 100 (F 4), cA (a 4) G.2.1.1 100 (F 5), cA (a 5) G.2.1.1 100 (F 6), cA (a 6) G.2.1.1 100 (F 7), cO (a 7) 3 [vI (c 9), vI (c 10), vI (c 11), .ref (a 8)], cA (a 8) G.2.1.2.1 101 (F 1), cO (a 9) 3 [vI (c 12), vI (c 13), vI (c 14), .ref (a 10)], cA (a 10) G.2.1.2.1 101 (F 2), cA (a 11) G.2.1.1 3 (F 0)]
    exact s_iret C E dX6_fence_34 ⟨congrArg (fun z => some (vI z)) (by rw [sp_fence, if_pos (by omega), ← q_lC hR hI (by omega), en]), rfl⟩
  · have h_4 := bI_f h_4
    refine s_ldc (z := -1000001) C (by decide +kernel) dX6_fence_7 ?_
    exact s_iret C E dX6_fence_9 ⟨congrArg (fun z => some (vI z)) (by rw [sp_fence, if_neg (by omega)]), rfl⟩

set_option maxHeartbeats 4000000 in
set_option maxRecDepth 100000 in
theorem c_X6_slotOf (l : Launch) (G : fG) (x0 h0 : Nat) (y2 y3 y4 y5 : Value) (a : Nat → Nat) (c : Nat → Int) (F : Nat → Int → Int) (B : Int) (f : Int → Int) (k wh : Int) (hR : RSb f c F) (hI : Inv B f) (hB : B ≤ 1073000000) (hk : -2147483648 ≤ k ∧ k < 2147483648) (hwh : -2147483648 ≤ wh ∧ wh < 2147483648) : fCt l G yX6_slotOf wsX6_slotOf 4 87 0 0 [.ref x0, vI k, vI wh] [cO x0 6 [.ref (a 0), .ref h0, y2, y3, y4, y5], cO (a 0) 4 [.ref (a 1), .ref (a 7), .ref (a 9), .ref (a 11), vI (c 1), vI (c 2), vI (c 3), vI (c 4), vI (c 5), vI (c 6), vI (c 7), vI (c 8)], cO (a 1) 1 [vI (c 0), .ref (a 2), .ref (a 3), .ref (a 4), .ref (a 5), .ref (a 6)], cA (a 2) G.2.1.1 100 (F 3), cA (a 3) G.2.1.1 100 (F 4), cA (a 4) G.2.1.1 100 (F 5), cA (a 5) G.2.1.1 100 (F 6), cA (a 6) G.2.1.1 100 (F 7), cO (a 7) 3 [vI (c 9), vI (c 10), vI (c 11), .ref (a 8)], cA (a 8) G.2.1.2.1 101 (F 1), cO (a 9) 3 [vI (c 12), vI (c 13), vI (c 14), .ref (a 10)], cA (a 10) G.2.1.2.1 101 (F 2), cA (a 11) G.2.1.1 3 (F 0)] (fun (v0 : Option Value) (w0 : va_W) => v0 = some (vI (sp_slot f k wh)) ∧ w0 = [cO x0 6 [.ref (a 0), .ref h0, y2, y3, y4, y5], cO (a 0) 4 [.ref (a 1), .ref (a 7), .ref (a 9), .ref (a 11), vI (c 1), vI (c 2), vI (c 3), vI (c 4), vI (c 5), vI (c 6), vI (c 7), vI (c 8)], cO (a 1) 1 [vI (c 0), .ref (a 2), .ref (a 3), .ref (a 4), .ref (a 5), .ref (a 6)], cA (a 2) G.2.1.1 100 (F 3), cA (a 3) G.2.1.1 100 (F 4), cA (a 4) G.2.1.1 100 (F 5), cA (a 5) G.2.1.1 100 (F 6), cA (a 6) G.2.1.1 100 (F 7), cO (a 7) 3 [vI (c 9), vI (c 10), vI (c 11), .ref (a 8)], cA (a 8) G.2.1.2.1 101 (F 1), cO (a 9) 3 [vI (c 12), vI (c 13), vI (c 14), .ref (a 10)], cA (a 10) G.2.1.2.1 101 (F 2), cA (a 11) G.2.1.1 3 (F 0)]) := by
  refine fs_met (cc := cX6_slotOf) (nL := 4) (ret := (some .int)) (by decide) rfl (Nat.le_of_ble_eq_true rfl) ?_
  intro X C E
  show fSt l G X 0 0 0 [(0, .ref x0), (1, vI k), (2, vI wh)] [] [cO x0 6 [.ref (a 0), .ref h0, y2, y3, y4, y5], cO (a 0) 4 [.ref (a 1), .ref (a 7), .ref (a 9), .ref (a 11), vI (c 1), vI (c 2), vI (c 3), vI (c 4), vI (c 5), vI (c 6), vI (c 7), vI (c 8)], cO (a 1) 1 [vI (c 0), .ref (a 2), .ref (a 3), .ref (a 4), .ref (a 5), .ref (a 6)], cA (a 2) G.2.1.1 100 (F 3), cA (a 3) G.2.1.1 100 (F 4), cA (a 4) G.2.1.1 100 (F 5), cA (a 5) G.2.1.1 100 (F 6), cA (a 6) G.2.1.1 100 (F 7), cO (a 7) 3 [vI (c 9), vI (c 10), vI (c 11), .ref (a 8)], cA (a 8) G.2.1.2.1 101 (F 1), cO (a 9) 3 [vI (c 12), vI (c 13), vI (c 14), .ref (a 10)], cA (a 10) G.2.1.2.1 101 (F 2), cA (a 11) G.2.1.1 3 (F 0)]
  have hinX4 : ∀ w ∈ u_ws RX4 TX4 12, w ∈ wsX6_slotOf := by decide +kernel
  have hinX6 : ∀ w ∈ u_ws RX6 TX6 6, w ∈ wsX6_slotOf := by decide +kernel
  obtain ⟨hn, htk, hln, htr, hlc, hlo, hap, hrt, hdl, hS0, hS1⟩ := RS.scal hR hI
  have hK : rF (F 3) := RS.hrK hR
  have hT : rF (F 4) := RS.hrT hR
  have hY : rF (F 5) := RS.hrY hR
  have hV : rF (F 6) := RS.hrV hR
  have hA : rF (F 7) := RS.hrA hR
  have hsl : rF (F 0) := RS.hrs hR
  have hg0 : gF (F 1) := RS.hG0 hR
  have hg1 : gF (F 2) := RS.hG1 hR
  have hb0 := RS.b0 hR
  have hb1 := RS.b1 hR
  have en := RS.e_n hR
  have hin := hI.n
  refine s_iload_n 1 C dX6_slotOf_0 rfl 1 rfl ?_
  refine s_callS (As := [vI k]) (rest := []) C dX6_slotOf_1 (c_X6_isSlot l G k (by first | assumption | omega)) gX6_slotOf_X6_isSlot rfl 1 (by decide +kernel) (by decide) [] rfl (by decide) rfl (Nat.le_of_ble_eq_true rfl) ⟨Nat.zero_le _, Nat.zero_le _⟩ ?_
  intro v0 w0 hq
  obtain ⟨rfl, rfl⟩ := hq
  refine ⟨rfl, ?_⟩
  show fSt l G X 0 0 4 [(0, .ref x0), (1, vI k), (2, vI wh)] [vI (bI (0 ≤ k ∧ k ≤ 2))] [cO x0 6 [.ref (a 0), .ref h0, y2, y3, y4, y5], cO (a 0) 4 [.ref (a 1), .ref (a 7), .ref (a 9), .ref (a 11), vI (c 1), vI (c 2), vI (c 3), vI (c 4), vI (c 5), vI (c 6), vI (c 7), vI (c 8)], cO (a 1) 1 [vI (c 0), .ref (a 2), .ref (a 3), .ref (a 4), .ref (a 5), .ref (a 6)], cA (a 2) G.2.1.1 100 (F 3), cA (a 3) G.2.1.1 100 (F 4), cA (a 4) G.2.1.1 100 (F 5), cA (a 5) G.2.1.1 100 (F 6), cA (a 6) G.2.1.1 100 (F 7), cO (a 7) 3 [vI (c 9), vI (c 10), vI (c 11), .ref (a 8)], cA (a 8) G.2.1.2.1 101 (F 1), cO (a 9) 3 [vI (c 12), vI (c 13), vI (c 14), .ref (a 10)], cA (a 10) G.2.1.2.1 101 (F 2), cA (a 11) G.2.1.1 3 (F 0)]
  refine s_if_eq 16 C dX6_slotOf_4 (by decide) bI_rng (fun h_4 => ?_) (fun h_4 => ?_)
  · have h_4 := bI_f h_4
    refine s_ldc (z := -1000001) C (by decide +kernel) dX6_slotOf_16 ?_
    exact s_iret C E dX6_slotOf_18 ⟨congrArg (fun z => some (vI z)) (by rw [sp_slot, if_neg (by omega)]), rfl⟩
  · have h_4 := bI_t h_4
    refine s_iload_n 2 C dX6_slotOf_7 rfl 2 rfl ?_
    refine s_if_lt 16 C dX6_slotOf_8 (by decide) (by omega) (fun h_8 => ?_) (fun h_8 => ?_)
    · refine s_ldc (z := -1000001) C (by decide +kernel) dX6_slotOf_16 ?_
      exact s_iret C E dX6_slotOf_18 ⟨congrArg (fun z => some (vI z)) (by rw [sp_slot, if_neg (by omega)]), rfl⟩
    · refine s_iload_n 2 C dX6_slotOf_11 rfl 2 rfl ?_
      refine s_iconst C dX6_slotOf_12 ?_
      refine s_icmp_le 19 C dX6_slotOf_13 (by decide) (by omega) (by omega) (fun h_13 => ?_) (fun h_13 => ?_)
      · refine s_aload_n 0 C dX6_slotOf_19 rfl 0 rfl ?_
        refine s_get C dX6_slotOf_20 6 rfl hinX6 0 rfl 0 (by decide) (by decide +kernel) rfl ?_
        refine s_iload_n 1 C dX6_slotOf_23 rfl 1 rfl ?_
        refine s_callV (As := [vI k]) (rest := []) C dX6_slotOf_24 (c_X4_transactionIn l G (a 0) (a 11) (.ref (a 1)) (.ref (a 7)) (.ref (a 9)) [vI (c 1), vI (c 2), vI (c 3), vI (c 4), vI (c 5), vI (c 6), vI (c 7), vI (c 8)] (F 0) k (by first | assumption | omega)) gX6_slotOf_X4_transactionIn rfl 1 (by decide +kernel) (by decide) 1 4 rfl rfl rfl [1, 12] rfl (by decide) rfl (Nat.le_of_ble_eq_true rfl) ⟨Nat.zero_le _, Nat.zero_le _⟩ ?_
        intro v0 w0 hq
        obtain ⟨rfl, rfl⟩ := hq
        refine ⟨rfl, ?_⟩
        show fSt l G X 0 0 27 [(0, .ref x0), (1, vI k), (2, vI wh)] [vI (if 0 ≤ k ∧ k ≤ 2 then (F 0) k else 0)] [cO x0 6 [.ref (a 0), .ref h0, y2, y3, y4, y5], cO (a 0) 4 [.ref (a 1), .ref (a 7), .ref (a 9), .ref (a 11), vI (c 1), vI (c 2), vI (c 3), vI (c 4), vI (c 5), vI (c 6), vI (c 7), vI (c 8)], cO (a 1) 1 [vI (c 0), .ref (a 2), .ref (a 3), .ref (a 4), .ref (a 5), .ref (a 6)], cA (a 2) G.2.1.1 100 (F 3), cA (a 3) G.2.1.1 100 (F 4), cA (a 4) G.2.1.1 100 (F 5), cA (a 5) G.2.1.1 100 (F 6), cA (a 6) G.2.1.1 100 (F 7), cO (a 7) 3 [vI (c 9), vI (c 10), vI (c 11), .ref (a 8)], cA (a 8) G.2.1.2.1 101 (F 1), cO (a 9) 3 [vI (c 12), vI (c 13), vI (c 14), .ref (a 10)], cA (a 10) G.2.1.2.1 101 (F 2), cA (a 11) G.2.1.1 3 (F 0)]
        refine s_top (f (k + 9)) ((if_pos (by omega)).trans (RS.hsl hR k (by omega) (by omega))) ?_
        have hsk := hI.sl k (by omega) (by omega)
        refine s_istore_n 3 [(3, vI (f (k + 9))), (0, .ref x0), (1, vI k), (2, vI wh)] C dX6_slotOf_27 rfl (by decide) rfl ?_
        refine s_iload_n 3 C dX6_slotOf_28 rfl 0 rfl ?_
        refine s_if_ne 35 C dX6_slotOf_29 (by decide) (by omega) (fun h_29 => ?_) (fun h_29 => ?_)
        · refine s_iload_n 2 C dX6_slotOf_35 rfl 3 rfl ?_
          refine s_if_ne 43 C dX6_slotOf_36 (by decide) (by omega) (fun h_36 => ?_) (fun h_36 => ?_)
          · refine s_aload_n 0 C dX6_slotOf_43 rfl 1 rfl ?_
            refine s_get C dX6_slotOf_44 6 rfl hinX6 0 rfl 0 (by decide) (by decide +kernel) rfl ?_
            refine s_get C dX6_slotOf_47 4 rfl hinX4 1 rfl 0 (by decide) (by decide +kernel) rfl ?_
            refine s_iload_n 3 C dX6_slotOf_50 rfl 0 rfl ?_
            refine s_callV (As := [vI (f (k + 9))]) (rest := []) C dX6_slotOf_51 (c_X1_putsOf l G (a 1) (a 2) (a 3) (a 4) (a 5) (a 6) (c 0) (F 3) (F 4) (F 5) (F 6) (F 7) (f (k + 9)) (by first | assumption | omega) (by first | assumption | omega) (by first | assumption | omega) (by first | assumption | omega) (by first | assumption | omega) (by first | assumption | omega) (by omega)) gX6_slotOf_X1_putsOf rfl 1 (by decide +kernel) (by decide) 2 1 rfl rfl rfl [2, 3, 4, 5, 6, 7] rfl (by decide) rfl (Nat.le_of_ble_eq_true rfl) ⟨Nat.zero_le _, Nat.zero_le _⟩ ?_
            intro v0 w0 hq
            obtain ⟨rfl, rfl⟩ := hq
            refine ⟨rfl, ?_⟩
            show fSt l G X 0 0 54 [(3, vI (f (k + 9))), (0, .ref x0), (1, vI k), (2, vI wh)] [vI (pO (c 0) (F 3) (F 4) (f (k + 9)))] [cO x0 6 [.ref (a 0), .ref h0, y2, y3, y4, y5], cO (a 0) 4 [.ref (a 1), .ref (a 7), .ref (a 9), .ref (a 11), vI (c 1), vI (c 2), vI (c 3), vI (c 4), vI (c 5), vI (c 6), vI (c 7), vI (c 8)], cO (a 1) 1 [vI (c 0), .ref (a 2), .ref (a 3), .ref (a 4), .ref (a 5), .ref (a 6)], cA (a 2) G.2.1.1 100 (F 3), cA (a 3) G.2.1.1 100 (F 4), cA (a 4) G.2.1.1 100 (F 5), cA (a 5) G.2.1.1 100 (F 6), cA (a 6) G.2.1.1 100 (F 7), cO (a 7) 3 [vI (c 9), vI (c 10), vI (c 11), .ref (a 8)], cA (a 8) G.2.1.2.1 101 (F 1), cO (a 9) 3 [vI (c 12), vI (c 13), vI (c 14), .ref (a 10)], cA (a 10) G.2.1.2.1 101 (F 2), cA (a 11) G.2.1.1 3 (F 0)]
            exact s_iret C E dX6_slotOf_54 ⟨congrArg (fun z => some (vI z)) (by rw [sp_slot, if_pos (by omega), if_neg (by omega), if_neg (by omega)]; exact q_pO hR), rfl⟩
          · refine s_iload_n 3 C dX6_slotOf_39 rfl 0 rfl ?_
            refine s_goto 54 C dX6_slotOf_40 (by decide) ?_
            exact s_iret C E dX6_slotOf_54 ⟨congrArg (fun z => some (vI z)) (by rw [sp_slot, if_pos (by omega), if_neg (by omega), if_pos (by omega)]), rfl⟩
        · refine s_ldc (z := -1000004) C (by decide +kernel) dX6_slotOf_32 ?_
          exact s_iret C E dX6_slotOf_34 ⟨congrArg (fun z => some (vI z)) (by rw [sp_slot, if_pos (by omega), if_pos (by omega)]), rfl⟩
      · refine s_ldc (z := -1000001) C (by decide +kernel) dX6_slotOf_16 ?_
        exact s_iret C E dX6_slotOf_18 ⟨congrArg (fun z => some (vI z)) (by rw [sp_slot, if_neg (by omega)]), rfl⟩

set_option maxHeartbeats 4000000 in
set_option maxRecDepth 100000 in
theorem c_X6_serves (l : Launch) (G : fG) (x0 h0 : Nat) (y2 y3 y4 y5 : Value) (a : Nat → Nat) (c : Nat → Int) (F : Nat → Int → Int) (B : Int) (f : Int → Int) (e : Int) (hR : RSb f c F) (hI : Inv B f) (hB : B ≤ 1073000000) (he : -2147483648 ≤ e ∧ e < 2147483648) : fCt l G yX6_serves wsX6_serves 1 21 0 0 [.ref x0, vI e] [cO x0 6 [.ref (a 0), .ref h0, y2, y3, y4, y5], cO (a 0) 4 [.ref (a 1), .ref (a 7), .ref (a 9), .ref (a 11), vI (c 1), vI (c 2), vI (c 3), vI (c 4), vI (c 5), vI (c 6), vI (c 7), vI (c 8)], cO (a 1) 1 [vI (c 0), .ref (a 2), .ref (a 3), .ref (a 4), .ref (a 5), .ref (a 6)], cA (a 2) G.2.1.1 100 (F 3), cA (a 3) G.2.1.1 100 (F 4), cA (a 4) G.2.1.1 100 (F 5), cA (a 5) G.2.1.1 100 (F 6), cA (a 6) G.2.1.1 100 (F 7), cO (a 7) 3 [vI (c 9), vI (c 10), vI (c 11), .ref (a 8)], cA (a 8) G.2.1.2.1 101 (F 1), cO (a 9) 3 [vI (c 12), vI (c 13), vI (c 14), .ref (a 10)], cA (a 10) G.2.1.2.1 101 (F 2), cA (a 11) G.2.1.1 3 (F 0)] (fun (v0 : Option Value) (w0 : va_W) => v0 = some (vI (sp_srv f e)) ∧ w0 = [cO x0 6 [.ref (a 0), .ref h0, y2, y3, y4, y5], cO (a 0) 4 [.ref (a 1), .ref (a 7), .ref (a 9), .ref (a 11), vI (c 1), vI (c 2), vI (c 3), vI (c 4), vI (c 5), vI (c 6), vI (c 7), vI (c 8)], cO (a 1) 1 [vI (c 0), .ref (a 2), .ref (a 3), .ref (a 4), .ref (a 5), .ref (a 6)], cA (a 2) G.2.1.1 100 (F 3), cA (a 3) G.2.1.1 100 (F 4), cA (a 4) G.2.1.1 100 (F 5), cA (a 5) G.2.1.1 100 (F 6), cA (a 6) G.2.1.1 100 (F 7), cO (a 7) 3 [vI (c 9), vI (c 10), vI (c 11), .ref (a 8)], cA (a 8) G.2.1.2.1 101 (F 1), cO (a 9) 3 [vI (c 12), vI (c 13), vI (c 14), .ref (a 10)], cA (a 10) G.2.1.2.1 101 (F 2), cA (a 11) G.2.1.1 3 (F 0)]) := by
  refine fs_met (cc := cX6_serves) (nL := 4) (ret := (some .int)) (by decide) rfl (Nat.le_of_ble_eq_true rfl) ?_
  intro X C E
  show fSt l G X 0 0 0 [(0, .ref x0), (1, vI e)] [] [cO x0 6 [.ref (a 0), .ref h0, y2, y3, y4, y5], cO (a 0) 4 [.ref (a 1), .ref (a 7), .ref (a 9), .ref (a 11), vI (c 1), vI (c 2), vI (c 3), vI (c 4), vI (c 5), vI (c 6), vI (c 7), vI (c 8)], cO (a 1) 1 [vI (c 0), .ref (a 2), .ref (a 3), .ref (a 4), .ref (a 5), .ref (a 6)], cA (a 2) G.2.1.1 100 (F 3), cA (a 3) G.2.1.1 100 (F 4), cA (a 4) G.2.1.1 100 (F 5), cA (a 5) G.2.1.1 100 (F 6), cA (a 6) G.2.1.1 100 (F 7), cO (a 7) 3 [vI (c 9), vI (c 10), vI (c 11), .ref (a 8)], cA (a 8) G.2.1.2.1 101 (F 1), cO (a 9) 3 [vI (c 12), vI (c 13), vI (c 14), .ref (a 10)], cA (a 10) G.2.1.2.1 101 (F 2), cA (a 11) G.2.1.1 3 (F 0)]
  have hinX3 : ∀ w ∈ u_ws RX3 TX3 4, w ∈ wsX6_serves := by decide +kernel
  have hinX4 : ∀ w ∈ u_ws RX4 TX4 12, w ∈ wsX6_serves := by decide +kernel
  have hinX6 : ∀ w ∈ u_ws RX6 TX6 6, w ∈ wsX6_serves := by decide +kernel
  obtain ⟨hn, htk, hln, htr, hlc, hlo, hap, hrt, hdl, hS0, hS1⟩ := RS.scal hR hI
  have hK : rF (F 3) := RS.hrK hR
  have hT : rF (F 4) := RS.hrT hR
  have hY : rF (F 5) := RS.hrY hR
  have hV : rF (F 6) := RS.hrV hR
  have hA : rF (F 7) := RS.hrA hR
  have hsl : rF (F 0) := RS.hrs hR
  have hg0 : gF (F 1) := RS.hG0 hR
  have hg1 : gF (F 2) := RS.hG1 hR
  have hb0 := RS.b0 hR
  have hb1 := RS.b1 hR
  have en := RS.e_n hR
  have hin := hI.n
  have hd : sp_srv f e = sp_srv f e := rfl
  rw [sp_srv, ← en, ← hb0.2.1, ← hb0.2.2, ← hb1.2.1, ← hb1.2.2] at hd
  refine s_aload_n 0 C dX6_serves_0 rfl 0 rfl ?_
  refine s_get C dX6_serves_1 6 rfl hinX6 0 rfl 0 (by decide) (by decide +kernel) rfl ?_
  refine s_iload_n 1 C dX6_serves_4 rfl 1 rfl ?_
  refine s_callV (As := [vI e]) (rest := []) C dX6_serves_5 (c_X4_isPosition l G (a 0) (a 1) [.ref (a 7), .ref (a 9), .ref (a 11), vI (c 1), vI (c 2), vI (c 3), vI (c 4), vI (c 5), vI (c 6), vI (c 7), vI (c 8)] [.ref (a 2), .ref (a 3), .ref (a 4), .ref (a 5), .ref (a 6)] (c 0) e (by first | assumption | omega) (by first | assumption | omega)) gX6_serves_X4_isPosition rfl 1 (by decide +kernel) (by decide) 1 4 rfl rfl rfl [1, 2] rfl (by decide) rfl (Nat.le_of_ble_eq_true rfl) ⟨Nat.zero_le _, Nat.zero_le _⟩ ?_
  intro v0 w0 hq
  obtain ⟨rfl, rfl⟩ := hq
  refine ⟨rfl, ?_⟩
  show fSt l G X 0 0 8 [(0, .ref x0), (1, vI e)] [vI (bI (0 ≤ e ∧ e ≤ (c 0)))] [cO x0 6 [.ref (a 0), .ref h0, y2, y3, y4, y5], cO (a 0) 4 [.ref (a 1), .ref (a 7), .ref (a 9), .ref (a 11), vI (c 1), vI (c 2), vI (c 3), vI (c 4), vI (c 5), vI (c 6), vI (c 7), vI (c 8)], cO (a 1) 1 [vI (c 0), .ref (a 2), .ref (a 3), .ref (a 4), .ref (a 5), .ref (a 6)], cA (a 2) G.2.1.1 100 (F 3), cA (a 3) G.2.1.1 100 (F 4), cA (a 4) G.2.1.1 100 (F 5), cA (a 5) G.2.1.1 100 (F 6), cA (a 6) G.2.1.1 100 (F 7), cO (a 7) 3 [vI (c 9), vI (c 10), vI (c 11), .ref (a 8)], cA (a 8) G.2.1.2.1 101 (F 1), cO (a 9) 3 [vI (c 12), vI (c 13), vI (c 14), .ref (a 10)], cA (a 10) G.2.1.2.1 101 (F 2), cA (a 11) G.2.1.1 3 (F 0)]
  refine s_if_ne 14 C dX6_serves_8 (by decide) bI_rng (fun h_8 => ?_) (fun h_8 => ?_)
  · have h_8 := bI_t h_8
    refine s_aload_n 0 C dX6_serves_14 rfl 0 rfl ?_
    refine s_get C dX6_serves_15 6 rfl hinX6 0 rfl 0 (by decide) (by decide +kernel) rfl ?_
    refine s_get C dX6_serves_18 4 rfl hinX4 1 rfl 1 (by decide) (by decide +kernel) rfl ?_
    refine s_iload_n 1 C dX6_serves_21 rfl 1 rfl ?_
    refine s_callV (As := [vI e]) (rest := []) C dX6_serves_22 (c_X3_canServe l G (a 7) (a 8) (c 9) (c 10) (c 11) (F 1) e (by first | assumption | omega) (by first | assumption | omega) (by first | assumption | omega) (by first | assumption | omega)) gX6_serves_X3_canServe rfl 1 (by decide +kernel) (by decide) 8 3 rfl rfl rfl [8, 9] rfl (by decide) rfl (Nat.le_of_ble_eq_true rfl) ⟨Nat.zero_le _, Nat.zero_le _⟩ ?_
    intro v0 w0 hq
    obtain ⟨rfl, rfl⟩ := hq
    refine ⟨rfl, ?_⟩
    show fSt l G X 0 0 25 [(0, .ref x0), (1, vI e)] [vI (bI ((c 11) = 0 ∧ e ≤ (c 10)))] [cO x0 6 [.ref (a 0), .ref h0, y2, y3, y4, y5], cO (a 0) 4 [.ref (a 1), .ref (a 7), .ref (a 9), .ref (a 11), vI (c 1), vI (c 2), vI (c 3), vI (c 4), vI (c 5), vI (c 6), vI (c 7), vI (c 8)], cO (a 1) 1 [vI (c 0), .ref (a 2), .ref (a 3), .ref (a 4), .ref (a 5), .ref (a 6)], cA (a 2) G.2.1.1 100 (F 3), cA (a 3) G.2.1.1 100 (F 4), cA (a 4) G.2.1.1 100 (F 5), cA (a 5) G.2.1.1 100 (F 6), cA (a 6) G.2.1.1 100 (F 7), cO (a 7) 3 [vI (c 9), vI (c 10), vI (c 11), .ref (a 8)], cA (a 8) G.2.1.2.1 101 (F 1), cO (a 9) 3 [vI (c 12), vI (c 13), vI (c 14), .ref (a 10)], cA (a 10) G.2.1.2.1 101 (F 2), cA (a 11) G.2.1.1 3 (F 0)]
    refine s_istore_n 2 [(2, vI (bI ((c 11) = 0 ∧ e ≤ (c 10)))), (0, .ref x0), (1, vI e)] C dX6_serves_25 rfl (by decide) rfl ?_
    refine s_aload_n 0 C dX6_serves_26 rfl 1 rfl ?_
    refine s_get C dX6_serves_27 6 rfl hinX6 0 rfl 0 (by decide) (by decide +kernel) rfl ?_
    refine s_get C dX6_serves_30 4 rfl hinX4 1 rfl 2 (by decide) (by decide +kernel) rfl ?_
    refine s_iload_n 1 C dX6_serves_33 rfl 2 rfl ?_
    refine s_callV (As := [vI e]) (rest := []) C dX6_serves_34 (c_X3_canServe l G (a 9) (a 10) (c 12) (c 13) (c 14) (F 2) e (by first | assumption | omega) (by first | assumption | omega) (by first | assumption | omega) (by first | assumption | omega)) gX6_serves_X3_canServe rfl 1 (by decide +kernel) (by decide) 10 3 rfl rfl rfl [10, 11] rfl (by decide) rfl (Nat.le_of_ble_eq_true rfl) ⟨Nat.zero_le _, Nat.zero_le _⟩ ?_
    intro v0 w0 hq
    obtain ⟨rfl, rfl⟩ := hq
    refine ⟨rfl, ?_⟩
    show fSt l G X 0 0 37 [(2, vI (bI ((c 11) = 0 ∧ e ≤ (c 10)))), (0, .ref x0), (1, vI e)] [vI (bI ((c 14) = 0 ∧ e ≤ (c 13)))] [cO x0 6 [.ref (a 0), .ref h0, y2, y3, y4, y5], cO (a 0) 4 [.ref (a 1), .ref (a 7), .ref (a 9), .ref (a 11), vI (c 1), vI (c 2), vI (c 3), vI (c 4), vI (c 5), vI (c 6), vI (c 7), vI (c 8)], cO (a 1) 1 [vI (c 0), .ref (a 2), .ref (a 3), .ref (a 4), .ref (a 5), .ref (a 6)], cA (a 2) G.2.1.1 100 (F 3), cA (a 3) G.2.1.1 100 (F 4), cA (a 4) G.2.1.1 100 (F 5), cA (a 5) G.2.1.1 100 (F 6), cA (a 6) G.2.1.1 100 (F 7), cO (a 7) 3 [vI (c 9), vI (c 10), vI (c 11), .ref (a 8)], cA (a 8) G.2.1.2.1 101 (F 1), cO (a 9) 3 [vI (c 12), vI (c 13), vI (c 14), .ref (a 10)], cA (a 10) G.2.1.2.1 101 (F 2), cA (a 11) G.2.1.1 3 (F 0)]
    refine s_istore_n 3 [(3, vI (bI ((c 14) = 0 ∧ e ≤ (c 13)))), (2, vI (bI ((c 11) = 0 ∧ e ≤ (c 10)))), (0, .ref x0), (1, vI e)] C dX6_serves_37 rfl (by decide) rfl ?_
    refine s_iload_n 2 C dX6_serves_38 rfl 1 rfl ?_
    refine s_if_eq 75 C dX6_serves_39 (by decide) bI_rng (fun h_39 => ?_) (fun h_39 => ?_)
    · have h_39 := bI_f h_39
      refine s_iload_n 2 C dX6_serves_75 rfl 1 rfl ?_
      refine s_if_eq 81 C dX6_serves_76 (by decide) bI_rng (fun h_76 => ?_) (fun h_76 => ?_)
      · have h_76 := bI_f h_76
        refine s_iload_n 3 C dX6_serves_81 rfl 0 rfl ?_
        refine s_if_eq 89 C dX6_serves_82 (by decide) bI_rng (fun h_82 => ?_) (fun h_82 => ?_)
        · have h_82 := bI_f h_82
          refine s_ldc (z := -1000004) C (by decide +kernel) dX6_serves_89 ?_
          exact s_iret C E dX6_serves_91 ⟨congrArg (fun z => some (vI z)) (by rw [hd]; (repeat (first | rw [if_pos (by omega)] | rw [if_neg (by omega)]))), rfl⟩
        · have h_82 := bI_t h_82
          refine s_iconst C dX6_serves_85 ?_
          refine s_goto 91 C dX6_serves_86 (by decide) ?_
          exact s_iret C E dX6_serves_91 ⟨congrArg (fun z => some (vI z)) (by rw [hd]; (repeat (first | rw [if_pos (by omega)] | rw [if_neg (by omega)]))), rfl⟩
      · have h_76 := bI_t h_76
        refine s_iconst C dX6_serves_79 ?_
        exact s_iret C E dX6_serves_80 ⟨congrArg (fun z => some (vI z)) (by rw [hd]; (repeat (first | rw [if_pos (by omega)] | rw [if_neg (by omega)]))), rfl⟩
    · have h_39 := bI_t h_39
      refine s_iload_n 3 C dX6_serves_42 rfl 0 rfl ?_
      refine s_if_eq 75 C dX6_serves_43 (by decide) bI_rng (fun h_43 => ?_) (fun h_43 => ?_)
      · have h_43 := bI_f h_43
        refine s_iload_n 2 C dX6_serves_75 rfl 1 rfl ?_
        refine s_if_eq 81 C dX6_serves_76 (by decide) bI_rng (fun h_76 => ?_) (fun h_76 => ?_)
        · have h_76 := bI_f h_76
          refine s_iload_n 3 C dX6_serves_81 rfl 0 rfl ?_
          refine s_if_eq 89 C dX6_serves_82 (by decide) bI_rng (fun h_82 => ?_) (fun h_82 => ?_)
          · have h_82 := bI_f h_82
            refine s_ldc (z := -1000004) C (by decide +kernel) dX6_serves_89 ?_
            exact s_iret C E dX6_serves_91 ⟨congrArg (fun z => some (vI z)) (by rw [hd]; (repeat (first | rw [if_pos (by omega)] | rw [if_neg (by omega)]))), rfl⟩
          · have h_82 := bI_t h_82
            refine s_iconst C dX6_serves_85 ?_
            refine s_goto 91 C dX6_serves_86 (by decide) ?_
            exact s_iret C E dX6_serves_91 ⟨congrArg (fun z => some (vI z)) (by rw [hd]; (repeat (first | rw [if_pos (by omega)] | rw [if_neg (by omega)]))), rfl⟩
        · have h_76 := bI_t h_76
          refine s_iconst C dX6_serves_79 ?_
          exact s_iret C E dX6_serves_80 ⟨congrArg (fun z => some (vI z)) (by rw [hd]; (repeat (first | rw [if_pos (by omega)] | rw [if_neg (by omega)]))), rfl⟩
      · have h_43 := bI_t h_43
        refine s_aload_n 0 C dX6_serves_46 rfl 2 rfl ?_
        refine s_get C dX6_serves_47 6 rfl hinX6 0 rfl 0 (by decide) (by decide +kernel) rfl ?_
        refine s_get C dX6_serves_50 4 rfl hinX4 1 rfl 2 (by decide) (by decide +kernel) rfl ?_
        refine s_get C dX6_serves_53 3 rfl hinX3 10 rfl 1 (by decide) (by decide +kernel) rfl ?_
        refine s_aload_n 0 C dX6_serves_56 rfl 2 rfl ?_
        refine s_get C dX6_serves_57 6 rfl hinX6 0 rfl 0 (by decide) (by decide +kernel) rfl ?_
        refine s_get C dX6_serves_60 4 rfl hinX4 1 rfl 1 (by decide) (by decide +kernel) rfl ?_
        refine s_get C dX6_serves_63 3 rfl hinX3 8 rfl 1 (by decide) (by decide +kernel) rfl ?_
        refine s_icmp_le 73 C dX6_serves_66 (by decide) (by omega) (by omega) (fun h_66 => ?_) (fun h_66 => ?_)
        · refine s_iconst C dX6_serves_73 ?_
          exact s_iret C E dX6_serves_74 ⟨congrArg (fun z => some (vI z)) (by rw [hd]; (repeat (first | rw [if_pos (by omega)] | rw [if_neg (by omega)]))), rfl⟩
        · refine s_iconst C dX6_serves_69 ?_
          refine s_goto 74 C dX6_serves_70 (by decide) ?_
          exact s_iret C E dX6_serves_74 ⟨congrArg (fun z => some (vI z)) (by rw [hd]; (repeat (first | rw [if_pos (by omega)] | rw [if_neg (by omega)]))), rfl⟩
  · have h_8 := bI_f h_8
    refine s_ldc (z := -1000001) C (by decide +kernel) dX6_serves_11 ?_
    exact s_iret C E dX6_serves_13 ⟨congrArg (fun z => some (vI z)) (by rw [hd]; repeat (first | rw [if_pos (by omega)] | rw [if_neg (by omega)])), rfl⟩

set_option maxHeartbeats 4000000 in
set_option maxRecDepth 100000 in
theorem c_X6_undo (l : Launch) (G : fG) (x0 h0 h1 : Nat) (y2 y3 y4 y5 : Value) (ps : Int) (Q : Nat → Option Nat) (S : Nat → Nat → Nat) (cs : Nat → Nat → Int) (Fs : Nat → Nat → Int → Int) (p a : Nat → Nat) (c : Nat → Int) (F : Nat → Int → Int) (B : Int) (P : Int → Int) (hB : B ≤ 1073000000) (hH : HRel B P ps S Q p cs Fs) (hJ : Jb F) : fCt l G yX6_undo wsX6_undo 4 104 0 0 [.ref x0] ([[cO x0 6 [.ref (a 0), .ref h0, y2, y3, y4, y5]], [cO h0 0 [.ref h1, vI ps]], [cQ h1 G.2.1.2.2.2 5 Q], stW G (S 0) (cs 0) (Fs 0), stW G (S 1) (cs 1) (Fs 1), stW G (S 2) (cs 2) (Fs 2), stW G (S 3) (cs 3) (Fs 3), stW G (S 4) (cs 4) (Fs 4), stW G a c F] : List va_W).flatten (fun (v0 : Option Value) (w0 : va_W) => ∃ (z ps2 : Int) (c2 : Nat → Int) (F2 : Nat → Int → Int), v0 = some (vI z) ∧ w0 = ([[cO x0 6 [.ref (a 0), .ref h0, y2, y3, y4, y5]], [cO h0 0 [.ref h1, vI ps2]], [cQ h1 G.2.1.2.2.2 5 Q], stW G (S 0) (cs 0) (Fs 0), stW G (S 1) (cs 1) (Fs 1), stW G (S 2) (cs 2) (Fs 2), stW G (S 3) (cs 3) (Fs 3), stW G (S 4) (cs 4) (Fs 4), stW G a c2 F2] : List va_W).flatten ∧ ((ps = 0 ∧ z = -1000002 ∧ ps2 = ps ∧ c2 = c ∧ F2 = F) ∨ (0 < ps ∧ z = ps - 1 ∧ ps2 = ps - 1 ∧ RSb (undF P (ps - 1)) c2 F2))) := by
  refine fs_met (cc := cX6_undo) (nL := 1) (ret := (some .int)) (by decide) rfl (Nat.le_of_ble_eq_true rfl) ?_
  intro X C E
  show fSt l G X 0 0 0 [(0, .ref x0)] [] ([[cO x0 6 [.ref (a 0), .ref h0, y2, y3, y4, y5]], [cO h0 0 [.ref h1, vI ps]], [cQ h1 G.2.1.2.2.2 5 Q], stW G (S 0) (cs 0) (Fs 0), stW G (S 1) (cs 1) (Fs 1), stW G (S 2) (cs 2) (Fs 2), stW G (S 3) (cs 3) (Fs 3), stW G (S 4) (cs 4) (Fs 4), stW G a c F] : List va_W).flatten
  have hinX0 : ∀ w ∈ u_ws RX0 TX0 2, w ∈ wsX6_undo := by decide +kernel
  have hinX6 : ∀ w ∈ u_ws RX6 TX6 6, w ∈ wsX6_undo := by decide +kernel
  have hps := hH.ps
  refine s_aload_n 0 C dX6_undo_0 rfl 0 rfl ?_
  refine s_get C dX6_undo_1 6 rfl hinX6 0 rfl 1 (by decide) (by decide +kernel) rfl ?_
  refine s_aload_n 0 C dX6_undo_4 rfl 0 rfl ?_
  refine s_get C dX6_undo_5 6 rfl hinX6 0 rfl 0 (by decide) (by decide +kernel) rfl ?_
  refine s_callVP (As := [.ref (a 0)]) (rest := []) (segs := [[cO x0 6 [.ref (a 0), .ref h0, y2, y3, y4, y5]], [cO h0 0 [.ref h1, vI ps]], [cQ h1 G.2.1.2.2.2 5 Q], stW G (S 0) (cs 0) (Fs 0), stW G (S 1) (cs 1) (Fs 1), stW G (S 2) (cs 2) (Fs 2), stW G (S 3) (cs 3) (Fs 3), stW G (S 4) (cs 4) (Fs 4), stW G a c F]) C dX6_undo_8 (c_X0_restore l G h0 h1 ps Q S cs Fs p a c F B P (by first | assumption | omega) (by first | assumption | omega) (by first | assumption | omega)) gX6_undo_X0_restore rfl 1 (by decide +kernel) (by decide) 1 0 rfl rfl rfl [1, 2, 3, 4, 5, 6, 7, 8] [0] rfl rfl rfl (Nat.le_of_ble_eq_true rfl) ⟨Nat.zero_le _, Nat.zero_le _⟩ ?_
  intro v0 w0 hq
  obtain ⟨z_8, ps2_8, c2_8, F2_8, rfl, rfl, hq0_8⟩ := hq
  refine ⟨(fst_f (fst_c (fst_k rfl) (fst_c rfl (fst_c rfl (fst_c rfl (fst_c rfl (fst_c rfl (fst_c rfl (fst_c stW_fst rfl))))))))), [[cO x0 6 [.ref (a 0), .ref h0, y2, y3, y4, y5]], [cO h0 0 [.ref h1, vI ps2_8]], [cQ h1 G.2.1.2.2.2 5 Q], stW G (S 0) (cs 0) (Fs 0), stW G (S 1) (cs 1) (Fs 1), stW G (S 2) (cs 2) (Fs 2), stW G (S 3) (cs 3) (Fs 3), stW G (S 4) (cs 4) (Fs 4), stW G a c2_8 F2_8], (rfl : (9 : Nat) = 9), rfl, Eq.trans (b := ([[cO x0 6 [.ref (a 0), .ref h0, y2, y3, y4, y5]]] : List va_W)) rfl rfl, ?_⟩
  show fSt l G X 0 0 11 [(0, .ref x0)] [vI z_8] ([[cO x0 6 [.ref (a 0), .ref h0, y2, y3, y4, y5]], [cO h0 0 [.ref h1, vI ps2_8]], [cQ h1 G.2.1.2.2.2 5 Q], stW G (S 0) (cs 0) (Fs 0), stW G (S 1) (cs 1) (Fs 1), stW G (S 2) (cs 2) (Fs 2), stW G (S 3) (cs 3) (Fs 3), stW G (S 4) (cs 4) (Fs 4), stW G a c2_8 F2_8] : List va_W).flatten
  refine s_if_eq 24 C dX6_undo_11 (by decide) (by rcases hq0_8 with q | q <;> omega) (fun h_11 => ?_) (fun h_11 => ?_)
  · refine s_ldc (z := -1000002) C (by decide +kernel) dX6_undo_24 ?_
    exact s_iret C E dX6_undo_26 ⟨(-1000002), ps2_8, c2_8, F2_8, rfl, rfl, (by rcases hq0_8 with ⟨q1, q2, q3, q4, q5⟩ | ⟨q1, q2, q3, q4⟩; (· exact Or.inl ⟨q1, (by omega), q3, q4, q5⟩); (· exact Or.inr ⟨q1, (by omega), q3, q4⟩))⟩
  · refine s_aload_n 0 C dX6_undo_14 rfl 0 rfl ?_
    refine s_get C dX6_undo_15 6 rfl hinX6 0 rfl 1 (by decide) (by decide +kernel) rfl ?_
    refine s_get C dX6_undo_18 0 rfl hinX0 1 rfl 1 (by decide) (by decide +kernel) rfl ?_
    refine s_goto 26 C dX6_undo_21 (by decide) ?_
    exact s_iret C E dX6_undo_26 ⟨ps2_8, ps2_8, c2_8, F2_8, rfl, rfl, (by rcases hq0_8 with ⟨q1, q2, q3, q4, q5⟩ | ⟨q1, q2, q3, q4⟩; (· exact Or.inl ⟨q1, (by omega), q3, q4, q5⟩); (· exact Or.inr ⟨q1, (by omega), q3, q4⟩))⟩

set_option maxHeartbeats 4000000 in
set_option maxRecDepth 100000 in
theorem c_X6_wouldLose_0 (l : Launch) (G : fG) (x0 h0 : Nat) (y2 y3 y4 y5 : Value) (a : Nat → Nat) (c : Nat → Int) (F : Nat → Int → Int) (B : Int) (f : Int → Int) (hR : RSb f c F) (hI : Inv B f) (hB : B ≤ 1073000000) : fCt l G yX6_wouldLose wsX6_wouldLose 3 65 0 0 [.ref x0, vI 0] [cO x0 6 [.ref (a 0), .ref h0, y2, y3, y4, y5], cO (a 0) 4 [.ref (a 1), .ref (a 7), .ref (a 9), .ref (a 11), vI (c 1), vI (c 2), vI (c 3), vI (c 4), vI (c 5), vI (c 6), vI (c 7), vI (c 8)], cO (a 1) 1 [vI (c 0), .ref (a 2), .ref (a 3), .ref (a 4), .ref (a 5), .ref (a 6)], cA (a 2) G.2.1.1 100 (F 3), cA (a 3) G.2.1.1 100 (F 4), cA (a 4) G.2.1.1 100 (F 5), cA (a 5) G.2.1.1 100 (F 6), cA (a 6) G.2.1.1 100 (F 7), cO (a 7) 3 [vI (c 9), vI (c 10), vI (c 11), .ref (a 8)], cA (a 8) G.2.1.2.1 101 (F 1), cO (a 9) 3 [vI (c 12), vI (c 13), vI (c 14), .ref (a 10)], cA (a 10) G.2.1.2.1 101 (F 2), cA (a 11) G.2.1.1 3 (F 0)] (fun (v0 : Option Value) (w0 : va_W) => v0 = some (vI (sp_wl f 0)) ∧ w0 = [cO x0 6 [.ref (a 0), .ref h0, y2, y3, y4, y5], cO (a 0) 4 [.ref (a 1), .ref (a 7), .ref (a 9), .ref (a 11), vI (c 1), vI (c 2), vI (c 3), vI (c 4), vI (c 5), vI (c 6), vI (c 7), vI (c 8)], cO (a 1) 1 [vI (c 0), .ref (a 2), .ref (a 3), .ref (a 4), .ref (a 5), .ref (a 6)], cA (a 2) G.2.1.1 100 (F 3), cA (a 3) G.2.1.1 100 (F 4), cA (a 4) G.2.1.1 100 (F 5), cA (a 5) G.2.1.1 100 (F 6), cA (a 6) G.2.1.1 100 (F 7), cO (a 7) 3 [vI (c 9), vI (c 10), vI (c 11), .ref (a 8)], cA (a 8) G.2.1.2.1 101 (F 1), cO (a 9) 3 [vI (c 12), vI (c 13), vI (c 14), .ref (a 10)], cA (a 10) G.2.1.2.1 101 (F 2), cA (a 11) G.2.1.1 3 (F 0)]) := by
  refine fs_met (cc := cX6_wouldLose) (nL := 3) (ret := (some .int)) (by decide) rfl (Nat.le_of_ble_eq_true rfl) ?_
  intro X C E
  show fSt l G X 0 0 0 [(0, .ref x0), (1, vI 0)] [] [cO x0 6 [.ref (a 0), .ref h0, y2, y3, y4, y5], cO (a 0) 4 [.ref (a 1), .ref (a 7), .ref (a 9), .ref (a 11), vI (c 1), vI (c 2), vI (c 3), vI (c 4), vI (c 5), vI (c 6), vI (c 7), vI (c 8)], cO (a 1) 1 [vI (c 0), .ref (a 2), .ref (a 3), .ref (a 4), .ref (a 5), .ref (a 6)], cA (a 2) G.2.1.1 100 (F 3), cA (a 3) G.2.1.1 100 (F 4), cA (a 4) G.2.1.1 100 (F 5), cA (a 5) G.2.1.1 100 (F 6), cA (a 6) G.2.1.1 100 (F 7), cO (a 7) 3 [vI (c 9), vI (c 10), vI (c 11), .ref (a 8)], cA (a 8) G.2.1.2.1 101 (F 1), cO (a 9) 3 [vI (c 12), vI (c 13), vI (c 14), .ref (a 10)], cA (a 10) G.2.1.2.1 101 (F 2), cA (a 11) G.2.1.1 3 (F 0)]
  have hinX3 : ∀ w ∈ u_ws RX3 TX3 4, w ∈ wsX6_wouldLose := by decide +kernel
  have hinX4 : ∀ w ∈ u_ws RX4 TX4 12, w ∈ wsX6_wouldLose := by decide +kernel
  have hinX6 : ∀ w ∈ u_ws RX6 TX6 6, w ∈ wsX6_wouldLose := by decide +kernel
  obtain ⟨hn, htk, hln, htr, hlc, hlo, hap, hrt, hdl, hS0, hS1⟩ := RS.scal hR hI
  have hK : rF (F 3) := RS.hrK hR
  have hT : rF (F 4) := RS.hrT hR
  have hY : rF (F 5) := RS.hrY hR
  have hV : rF (F 6) := RS.hrV hR
  have hA : rF (F 7) := RS.hrA hR
  have hsl : rF (F 0) := RS.hrs hR
  have hg0 : gF (F 1) := RS.hG0 hR
  have hg1 : gF (F 2) := RS.hG1 hR
  have hb0 := RS.b0 hR
  have hb1 := RS.b1 hR
  have en := RS.e_n hR
  have hin := hI.n
  refine s_iload_n 1 C dX6_wouldLose_0 rfl 1 rfl ?_
  refine s_callS (As := [vI 0]) (rest := []) C dX6_wouldLose_1 (c_X6_isStandby l G 0 (by first | assumption | omega)) gX6_wouldLose_X6_isStandby rfl 1 (by decide +kernel) (by decide) [] rfl (by decide) rfl (Nat.le_of_ble_eq_true rfl) ⟨Nat.zero_le _, Nat.zero_le _⟩ ?_
  intro v0 w0 hq
  obtain ⟨rfl, rfl⟩ := hq
  refine ⟨rfl, ?_⟩
  show fSt l G X 0 0 4 [(0, .ref x0), (1, vI 0)] [vI (bI (0 ≤ 0 ∧ 0 ≤ 1))] [cO x0 6 [.ref (a 0), .ref h0, y2, y3, y4, y5], cO (a 0) 4 [.ref (a 1), .ref (a 7), .ref (a 9), .ref (a 11), vI (c 1), vI (c 2), vI (c 3), vI (c 4), vI (c 5), vI (c 6), vI (c 7), vI (c 8)], cO (a 1) 1 [vI (c 0), .ref (a 2), .ref (a 3), .ref (a 4), .ref (a 5), .ref (a 6)], cA (a 2) G.2.1.1 100 (F 3), cA (a 3) G.2.1.1 100 (F 4), cA (a 4) G.2.1.1 100 (F 5), cA (a 5) G.2.1.1 100 (F 6), cA (a 6) G.2.1.1 100 (F 7), cO (a 7) 3 [vI (c 9), vI (c 10), vI (c 11), .ref (a 8)], cA (a 8) G.2.1.2.1 101 (F 1), cO (a 9) 3 [vI (c 12), vI (c 13), vI (c 14), .ref (a 10)], cA (a 10) G.2.1.2.1 101 (F 2), cA (a 11) G.2.1.1 3 (F 0)]
  refine s_if_ne 10 C dX6_wouldLose_4 (by decide) bI_rng (fun h_4 => ?_) (fun h_4 => ?_)
  · have h_4 := bI_t h_4
    refine s_aload_n 0 C dX6_wouldLose_10 rfl 0 rfl ?_
    refine s_get C dX6_wouldLose_11 6 rfl hinX6 0 rfl 0 (by decide) (by decide +kernel) rfl ?_
    refine s_iload_n 1 C dX6_wouldLose_14 rfl 1 rfl ?_
    refine s_callV (As := [vI 0]) (rest := []) C dX6_wouldLose_15 (c_X4_standby0 l G (a 0) (a 1) (a 7) (a 9) [.ref (a 11), vI (c 1), vI (c 2), vI (c 3), vI (c 4), vI (c 5), vI (c 6), vI (c 7), vI (c 8)] 0 (by first | assumption | omega)) gX6_wouldLose_X4_standby rfl 1 (by decide +kernel) (by decide) 1 4 rfl rfl rfl [1] rfl (by decide) rfl (Nat.le_of_ble_eq_true rfl) ⟨Nat.zero_le _, Nat.zero_le _⟩ ?_
    intro v0 w0 hq
    obtain ⟨rfl, rfl⟩ := hq
    refine ⟨rfl, ?_⟩
    show fSt l G X 0 0 18 [(0, .ref x0), (1, vI 0)] [.ref (a 7)] [cO x0 6 [.ref (a 0), .ref h0, y2, y3, y4, y5], cO (a 0) 4 [.ref (a 1), .ref (a 7), .ref (a 9), .ref (a 11), vI (c 1), vI (c 2), vI (c 3), vI (c 4), vI (c 5), vI (c 6), vI (c 7), vI (c 8)], cO (a 1) 1 [vI (c 0), .ref (a 2), .ref (a 3), .ref (a 4), .ref (a 5), .ref (a 6)], cA (a 2) G.2.1.1 100 (F 3), cA (a 3) G.2.1.1 100 (F 4), cA (a 4) G.2.1.1 100 (F 5), cA (a 5) G.2.1.1 100 (F 6), cA (a 6) G.2.1.1 100 (F 7), cO (a 7) 3 [vI (c 9), vI (c 10), vI (c 11), .ref (a 8)], cA (a 8) G.2.1.2.1 101 (F 1), cO (a 9) 3 [vI (c 12), vI (c 13), vI (c 14), .ref (a 10)], cA (a 10) G.2.1.2.1 101 (F 2), cA (a 11) G.2.1.1 3 (F 0)]
    refine s_astore_n 2 [(2, .ref (a 7)), (0, .ref x0), (1, vI 0)] C dX6_wouldLose_18 rfl (by decide) rfl ?_
    refine s_aload_n 2 C dX6_wouldLose_19 rfl 0 rfl ?_
    refine s_get C dX6_wouldLose_20 3 rfl hinX3 8 rfl 2 (by decide) (by decide +kernel) rfl ?_
    refine s_if_eq 31 C dX6_wouldLose_23 (by decide) (by omega) (fun h_23 => ?_) (fun h_23 => ?_)
    · refine s_aload_n 0 C dX6_wouldLose_31 rfl 1 rfl ?_
      refine s_get C dX6_wouldLose_32 6 rfl hinX6 0 rfl 0 (by decide) (by decide +kernel) rfl ?_
      refine s_get C dX6_wouldLose_35 4 rfl hinX4 1 rfl 0 (by decide) (by decide +kernel) rfl ?_
      refine s_aload_n 2 C dX6_wouldLose_38 rfl 0 rfl ?_
      refine s_get C dX6_wouldLose_39 3 rfl hinX3 8 rfl 1 (by decide) (by decide +kernel) rfl ?_
      refine s_callV (As := [vI (c 10)]) (rest := []) C dX6_wouldLose_42 (c_X1_commitsBehind l G (a 1) (a 2) (a 3) (a 4) (a 5) (a 6) (c 0) (F 3) (F 4) (F 5) (F 6) (F 7) (c 10) (by first | assumption | omega) (by first | assumption | omega) (by first | assumption | omega) (by first | assumption | omega) (by first | assumption | omega) (by first | assumption | omega) (by first | assumption | omega)) gX6_wouldLose_X1_commitsBehind rfl 1 (by decide +kernel) (by decide) 2 1 rfl rfl rfl [2, 3, 4, 5, 6, 7] rfl (by decide) rfl (Nat.le_of_ble_eq_true rfl) ⟨Nat.zero_le _, Nat.zero_le _⟩ ?_
      intro v0 w0 hq
      obtain ⟨rfl, rfl⟩ := hq
      refine ⟨rfl, ?_⟩
      show fSt l G X 0 0 45 [(2, .ref (a 7)), (0, .ref x0), (1, vI 0)] [vI (cB (c 0) (F 3) (c 10))] [cO x0 6 [.ref (a 0), .ref h0, y2, y3, y4, y5], cO (a 0) 4 [.ref (a 1), .ref (a 7), .ref (a 9), .ref (a 11), vI (c 1), vI (c 2), vI (c 3), vI (c 4), vI (c 5), vI (c 6), vI (c 7), vI (c 8)], cO (a 1) 1 [vI (c 0), .ref (a 2), .ref (a 3), .ref (a 4), .ref (a 5), .ref (a 6)], cA (a 2) G.2.1.1 100 (F 3), cA (a 3) G.2.1.1 100 (F 4), cA (a 4) G.2.1.1 100 (F 5), cA (a 5) G.2.1.1 100 (F 6), cA (a 6) G.2.1.1 100 (F 7), cO (a 7) 3 [vI (c 9), vI (c 10), vI (c 11), .ref (a 8)], cA (a 8) G.2.1.2.1 101 (F 1), cO (a 9) 3 [vI (c 12), vI (c 13), vI (c 14), .ref (a 10)], cA (a 10) G.2.1.2.1 101 (F 2), cA (a 11) G.2.1.1 3 (F 0)]
      exact s_iret C E dX6_wouldLose_45 ⟨congrArg (fun z => some (vI z)) (by rw [sp_wl, if_pos (by omega), if_neg (by omega)]; rw [← hb0.2.1]; exact q_cB hR (by omega)), rfl⟩
    · refine s_ldc (z := -1000002) C (by decide +kernel) dX6_wouldLose_26 ?_
      refine s_goto 45 C dX6_wouldLose_28 (by decide) ?_
      exact s_iret C E dX6_wouldLose_45 ⟨congrArg (fun z => some (vI z)) (by rw [sp_wl, if_pos (by omega), if_pos (by omega)]), rfl⟩
  · have h_4 := bI_f h_4
    refine s_ldc (z := -1000001) C (by decide +kernel) dX6_wouldLose_7 ?_
    exact s_iret C E dX6_wouldLose_9 ⟨congrArg (fun z => some (vI z)) (by rw [sp_wl, if_neg (by omega)]), rfl⟩


set_option maxHeartbeats 4000000 in
set_option maxRecDepth 100000 in
theorem c_X6_wouldLose_1 (l : Launch) (G : fG) (x0 h0 : Nat) (y2 y3 y4 y5 : Value) (a : Nat → Nat) (c : Nat → Int) (F : Nat → Int → Int) (B : Int) (f : Int → Int) (hR : RSb f c F) (hI : Inv B f) (hB : B ≤ 1073000000) : fCt l G yX6_wouldLose wsX6_wouldLose 3 65 0 0 [.ref x0, vI 1] [cO x0 6 [.ref (a 0), .ref h0, y2, y3, y4, y5], cO (a 0) 4 [.ref (a 1), .ref (a 7), .ref (a 9), .ref (a 11), vI (c 1), vI (c 2), vI (c 3), vI (c 4), vI (c 5), vI (c 6), vI (c 7), vI (c 8)], cO (a 1) 1 [vI (c 0), .ref (a 2), .ref (a 3), .ref (a 4), .ref (a 5), .ref (a 6)], cA (a 2) G.2.1.1 100 (F 3), cA (a 3) G.2.1.1 100 (F 4), cA (a 4) G.2.1.1 100 (F 5), cA (a 5) G.2.1.1 100 (F 6), cA (a 6) G.2.1.1 100 (F 7), cO (a 7) 3 [vI (c 9), vI (c 10), vI (c 11), .ref (a 8)], cA (a 8) G.2.1.2.1 101 (F 1), cO (a 9) 3 [vI (c 12), vI (c 13), vI (c 14), .ref (a 10)], cA (a 10) G.2.1.2.1 101 (F 2), cA (a 11) G.2.1.1 3 (F 0)] (fun (v0 : Option Value) (w0 : va_W) => v0 = some (vI (sp_wl f 1)) ∧ w0 = [cO x0 6 [.ref (a 0), .ref h0, y2, y3, y4, y5], cO (a 0) 4 [.ref (a 1), .ref (a 7), .ref (a 9), .ref (a 11), vI (c 1), vI (c 2), vI (c 3), vI (c 4), vI (c 5), vI (c 6), vI (c 7), vI (c 8)], cO (a 1) 1 [vI (c 0), .ref (a 2), .ref (a 3), .ref (a 4), .ref (a 5), .ref (a 6)], cA (a 2) G.2.1.1 100 (F 3), cA (a 3) G.2.1.1 100 (F 4), cA (a 4) G.2.1.1 100 (F 5), cA (a 5) G.2.1.1 100 (F 6), cA (a 6) G.2.1.1 100 (F 7), cO (a 7) 3 [vI (c 9), vI (c 10), vI (c 11), .ref (a 8)], cA (a 8) G.2.1.2.1 101 (F 1), cO (a 9) 3 [vI (c 12), vI (c 13), vI (c 14), .ref (a 10)], cA (a 10) G.2.1.2.1 101 (F 2), cA (a 11) G.2.1.1 3 (F 0)]) := by
  refine fs_met (cc := cX6_wouldLose) (nL := 3) (ret := (some .int)) (by decide) rfl (Nat.le_of_ble_eq_true rfl) ?_
  intro X C E
  show fSt l G X 0 0 0 [(0, .ref x0), (1, vI 1)] [] [cO x0 6 [.ref (a 0), .ref h0, y2, y3, y4, y5], cO (a 0) 4 [.ref (a 1), .ref (a 7), .ref (a 9), .ref (a 11), vI (c 1), vI (c 2), vI (c 3), vI (c 4), vI (c 5), vI (c 6), vI (c 7), vI (c 8)], cO (a 1) 1 [vI (c 0), .ref (a 2), .ref (a 3), .ref (a 4), .ref (a 5), .ref (a 6)], cA (a 2) G.2.1.1 100 (F 3), cA (a 3) G.2.1.1 100 (F 4), cA (a 4) G.2.1.1 100 (F 5), cA (a 5) G.2.1.1 100 (F 6), cA (a 6) G.2.1.1 100 (F 7), cO (a 7) 3 [vI (c 9), vI (c 10), vI (c 11), .ref (a 8)], cA (a 8) G.2.1.2.1 101 (F 1), cO (a 9) 3 [vI (c 12), vI (c 13), vI (c 14), .ref (a 10)], cA (a 10) G.2.1.2.1 101 (F 2), cA (a 11) G.2.1.1 3 (F 0)]
  have hinX3 : ∀ w ∈ u_ws RX3 TX3 4, w ∈ wsX6_wouldLose := by decide +kernel
  have hinX4 : ∀ w ∈ u_ws RX4 TX4 12, w ∈ wsX6_wouldLose := by decide +kernel
  have hinX6 : ∀ w ∈ u_ws RX6 TX6 6, w ∈ wsX6_wouldLose := by decide +kernel
  obtain ⟨hn, htk, hln, htr, hlc, hlo, hap, hrt, hdl, hS0, hS1⟩ := RS.scal hR hI
  have hK : rF (F 3) := RS.hrK hR
  have hT : rF (F 4) := RS.hrT hR
  have hY : rF (F 5) := RS.hrY hR
  have hV : rF (F 6) := RS.hrV hR
  have hA : rF (F 7) := RS.hrA hR
  have hsl : rF (F 0) := RS.hrs hR
  have hg0 : gF (F 1) := RS.hG0 hR
  have hg1 : gF (F 2) := RS.hG1 hR
  have hb0 := RS.b0 hR
  have hb1 := RS.b1 hR
  have en := RS.e_n hR
  have hin := hI.n
  refine s_iload_n 1 C dX6_wouldLose_0 rfl 1 rfl ?_
  refine s_callS (As := [vI 1]) (rest := []) C dX6_wouldLose_1 (c_X6_isStandby l G 1 (by first | assumption | omega)) gX6_wouldLose_X6_isStandby rfl 1 (by decide +kernel) (by decide) [] rfl (by decide) rfl (Nat.le_of_ble_eq_true rfl) ⟨Nat.zero_le _, Nat.zero_le _⟩ ?_
  intro v0 w0 hq
  obtain ⟨rfl, rfl⟩ := hq
  refine ⟨rfl, ?_⟩
  show fSt l G X 0 0 4 [(0, .ref x0), (1, vI 1)] [vI (bI (0 ≤ 1 ∧ 1 ≤ 1))] [cO x0 6 [.ref (a 0), .ref h0, y2, y3, y4, y5], cO (a 0) 4 [.ref (a 1), .ref (a 7), .ref (a 9), .ref (a 11), vI (c 1), vI (c 2), vI (c 3), vI (c 4), vI (c 5), vI (c 6), vI (c 7), vI (c 8)], cO (a 1) 1 [vI (c 0), .ref (a 2), .ref (a 3), .ref (a 4), .ref (a 5), .ref (a 6)], cA (a 2) G.2.1.1 100 (F 3), cA (a 3) G.2.1.1 100 (F 4), cA (a 4) G.2.1.1 100 (F 5), cA (a 5) G.2.1.1 100 (F 6), cA (a 6) G.2.1.1 100 (F 7), cO (a 7) 3 [vI (c 9), vI (c 10), vI (c 11), .ref (a 8)], cA (a 8) G.2.1.2.1 101 (F 1), cO (a 9) 3 [vI (c 12), vI (c 13), vI (c 14), .ref (a 10)], cA (a 10) G.2.1.2.1 101 (F 2), cA (a 11) G.2.1.1 3 (F 0)]
  refine s_if_ne 10 C dX6_wouldLose_4 (by decide) bI_rng (fun h_4 => ?_) (fun h_4 => ?_)
  · have h_4 := bI_t h_4
    refine s_aload_n 0 C dX6_wouldLose_10 rfl 0 rfl ?_
    refine s_get C dX6_wouldLose_11 6 rfl hinX6 0 rfl 0 (by decide) (by decide +kernel) rfl ?_
    refine s_iload_n 1 C dX6_wouldLose_14 rfl 1 rfl ?_
    refine s_callV (As := [vI 1]) (rest := []) C dX6_wouldLose_15 (c_X4_standby1 l G (a 0) (a 1) (a 7) (a 9) [.ref (a 11), vI (c 1), vI (c 2), vI (c 3), vI (c 4), vI (c 5), vI (c 6), vI (c 7), vI (c 8)] 1 (by first | assumption | omega)) gX6_wouldLose_X4_standby rfl 1 (by decide +kernel) (by decide) 1 4 rfl rfl rfl [1] rfl (by decide) rfl (Nat.le_of_ble_eq_true rfl) ⟨Nat.zero_le _, Nat.zero_le _⟩ ?_
    intro v0 w0 hq
    obtain ⟨rfl, rfl⟩ := hq
    refine ⟨rfl, ?_⟩
    show fSt l G X 0 0 18 [(0, .ref x0), (1, vI 1)] [.ref (a 9)] [cO x0 6 [.ref (a 0), .ref h0, y2, y3, y4, y5], cO (a 0) 4 [.ref (a 1), .ref (a 7), .ref (a 9), .ref (a 11), vI (c 1), vI (c 2), vI (c 3), vI (c 4), vI (c 5), vI (c 6), vI (c 7), vI (c 8)], cO (a 1) 1 [vI (c 0), .ref (a 2), .ref (a 3), .ref (a 4), .ref (a 5), .ref (a 6)], cA (a 2) G.2.1.1 100 (F 3), cA (a 3) G.2.1.1 100 (F 4), cA (a 4) G.2.1.1 100 (F 5), cA (a 5) G.2.1.1 100 (F 6), cA (a 6) G.2.1.1 100 (F 7), cO (a 7) 3 [vI (c 9), vI (c 10), vI (c 11), .ref (a 8)], cA (a 8) G.2.1.2.1 101 (F 1), cO (a 9) 3 [vI (c 12), vI (c 13), vI (c 14), .ref (a 10)], cA (a 10) G.2.1.2.1 101 (F 2), cA (a 11) G.2.1.1 3 (F 0)]
    refine s_astore_n 2 [(2, .ref (a 9)), (0, .ref x0), (1, vI 1)] C dX6_wouldLose_18 rfl (by decide) rfl ?_
    refine s_aload_n 2 C dX6_wouldLose_19 rfl 0 rfl ?_
    refine s_get C dX6_wouldLose_20 3 rfl hinX3 10 rfl 2 (by decide) (by decide +kernel) rfl ?_
    refine s_if_eq 31 C dX6_wouldLose_23 (by decide) (by omega) (fun h_23 => ?_) (fun h_23 => ?_)
    · refine s_aload_n 0 C dX6_wouldLose_31 rfl 1 rfl ?_
      refine s_get C dX6_wouldLose_32 6 rfl hinX6 0 rfl 0 (by decide) (by decide +kernel) rfl ?_
      refine s_get C dX6_wouldLose_35 4 rfl hinX4 1 rfl 0 (by decide) (by decide +kernel) rfl ?_
      refine s_aload_n 2 C dX6_wouldLose_38 rfl 0 rfl ?_
      refine s_get C dX6_wouldLose_39 3 rfl hinX3 10 rfl 1 (by decide) (by decide +kernel) rfl ?_
      refine s_callV (As := [vI (c 13)]) (rest := []) C dX6_wouldLose_42 (c_X1_commitsBehind l G (a 1) (a 2) (a 3) (a 4) (a 5) (a 6) (c 0) (F 3) (F 4) (F 5) (F 6) (F 7) (c 13) (by first | assumption | omega) (by first | assumption | omega) (by first | assumption | omega) (by first | assumption | omega) (by first | assumption | omega) (by first | assumption | omega) (by first | assumption | omega)) gX6_wouldLose_X1_commitsBehind rfl 1 (by decide +kernel) (by decide) 2 1 rfl rfl rfl [2, 3, 4, 5, 6, 7] rfl (by decide) rfl (Nat.le_of_ble_eq_true rfl) ⟨Nat.zero_le _, Nat.zero_le _⟩ ?_
      intro v0 w0 hq
      obtain ⟨rfl, rfl⟩ := hq
      refine ⟨rfl, ?_⟩
      show fSt l G X 0 0 45 [(2, .ref (a 9)), (0, .ref x0), (1, vI 1)] [vI (cB (c 0) (F 3) (c 13))] [cO x0 6 [.ref (a 0), .ref h0, y2, y3, y4, y5], cO (a 0) 4 [.ref (a 1), .ref (a 7), .ref (a 9), .ref (a 11), vI (c 1), vI (c 2), vI (c 3), vI (c 4), vI (c 5), vI (c 6), vI (c 7), vI (c 8)], cO (a 1) 1 [vI (c 0), .ref (a 2), .ref (a 3), .ref (a 4), .ref (a 5), .ref (a 6)], cA (a 2) G.2.1.1 100 (F 3), cA (a 3) G.2.1.1 100 (F 4), cA (a 4) G.2.1.1 100 (F 5), cA (a 5) G.2.1.1 100 (F 6), cA (a 6) G.2.1.1 100 (F 7), cO (a 7) 3 [vI (c 9), vI (c 10), vI (c 11), .ref (a 8)], cA (a 8) G.2.1.2.1 101 (F 1), cO (a 9) 3 [vI (c 12), vI (c 13), vI (c 14), .ref (a 10)], cA (a 10) G.2.1.2.1 101 (F 2), cA (a 11) G.2.1.1 3 (F 0)]
      exact s_iret C E dX6_wouldLose_45 ⟨congrArg (fun z => some (vI z)) (by rw [sp_wl, if_pos (by omega), if_neg (by omega)]; rw [← hb1.2.1]; exact q_cB hR (by omega)), rfl⟩
    · refine s_ldc (z := -1000002) C (by decide +kernel) dX6_wouldLose_26 ?_
      refine s_goto 45 C dX6_wouldLose_28 (by decide) ?_
      exact s_iret C E dX6_wouldLose_45 ⟨congrArg (fun z => some (vI z)) (by rw [sp_wl, if_pos (by omega), if_pos (by omega)]), rfl⟩
  · have h_4 := bI_f h_4
    refine s_ldc (z := -1000001) C (by decide +kernel) dX6_wouldLose_7 ?_
    exact s_iret C E dX6_wouldLose_9 ⟨congrArg (fun z => some (vI z)) (by rw [sp_wl, if_neg (by omega)]), rfl⟩


set_option maxHeartbeats 4000000 in
set_option maxRecDepth 100000 in
theorem c_X6_wouldLose_x (l : Launch) (G : fG) (x0 h0 : Nat) (y2 y3 y4 y5 : Value) (a : Nat → Nat) (c : Nat → Int) (F : Nat → Int → Int) (B : Int) (f : Int → Int) (b : Int) (hR : RSb f c F) (hI : Inv B f) (hB : B ≤ 1073000000) (hb : -2147483648 ≤ b ∧ b < 2147483648) (hbx : ¬ (0 ≤ b ∧ b ≤ 1)) : fCt l G yX6_wouldLose wsX6_wouldLose 3 65 0 0 [.ref x0, vI b] [cO x0 6 [.ref (a 0), .ref h0, y2, y3, y4, y5], cO (a 0) 4 [.ref (a 1), .ref (a 7), .ref (a 9), .ref (a 11), vI (c 1), vI (c 2), vI (c 3), vI (c 4), vI (c 5), vI (c 6), vI (c 7), vI (c 8)], cO (a 1) 1 [vI (c 0), .ref (a 2), .ref (a 3), .ref (a 4), .ref (a 5), .ref (a 6)], cA (a 2) G.2.1.1 100 (F 3), cA (a 3) G.2.1.1 100 (F 4), cA (a 4) G.2.1.1 100 (F 5), cA (a 5) G.2.1.1 100 (F 6), cA (a 6) G.2.1.1 100 (F 7), cO (a 7) 3 [vI (c 9), vI (c 10), vI (c 11), .ref (a 8)], cA (a 8) G.2.1.2.1 101 (F 1), cO (a 9) 3 [vI (c 12), vI (c 13), vI (c 14), .ref (a 10)], cA (a 10) G.2.1.2.1 101 (F 2), cA (a 11) G.2.1.1 3 (F 0)] (fun (v0 : Option Value) (w0 : va_W) => v0 = some (vI (sp_wl f b)) ∧ w0 = [cO x0 6 [.ref (a 0), .ref h0, y2, y3, y4, y5], cO (a 0) 4 [.ref (a 1), .ref (a 7), .ref (a 9), .ref (a 11), vI (c 1), vI (c 2), vI (c 3), vI (c 4), vI (c 5), vI (c 6), vI (c 7), vI (c 8)], cO (a 1) 1 [vI (c 0), .ref (a 2), .ref (a 3), .ref (a 4), .ref (a 5), .ref (a 6)], cA (a 2) G.2.1.1 100 (F 3), cA (a 3) G.2.1.1 100 (F 4), cA (a 4) G.2.1.1 100 (F 5), cA (a 5) G.2.1.1 100 (F 6), cA (a 6) G.2.1.1 100 (F 7), cO (a 7) 3 [vI (c 9), vI (c 10), vI (c 11), .ref (a 8)], cA (a 8) G.2.1.2.1 101 (F 1), cO (a 9) 3 [vI (c 12), vI (c 13), vI (c 14), .ref (a 10)], cA (a 10) G.2.1.2.1 101 (F 2), cA (a 11) G.2.1.1 3 (F 0)]) := by
  refine fs_met (cc := cX6_wouldLose) (nL := 3) (ret := (some .int)) (by decide) rfl (Nat.le_of_ble_eq_true rfl) ?_
  intro X C E
  show fSt l G X 0 0 0 [(0, .ref x0), (1, vI b)] [] [cO x0 6 [.ref (a 0), .ref h0, y2, y3, y4, y5], cO (a 0) 4 [.ref (a 1), .ref (a 7), .ref (a 9), .ref (a 11), vI (c 1), vI (c 2), vI (c 3), vI (c 4), vI (c 5), vI (c 6), vI (c 7), vI (c 8)], cO (a 1) 1 [vI (c 0), .ref (a 2), .ref (a 3), .ref (a 4), .ref (a 5), .ref (a 6)], cA (a 2) G.2.1.1 100 (F 3), cA (a 3) G.2.1.1 100 (F 4), cA (a 4) G.2.1.1 100 (F 5), cA (a 5) G.2.1.1 100 (F 6), cA (a 6) G.2.1.1 100 (F 7), cO (a 7) 3 [vI (c 9), vI (c 10), vI (c 11), .ref (a 8)], cA (a 8) G.2.1.2.1 101 (F 1), cO (a 9) 3 [vI (c 12), vI (c 13), vI (c 14), .ref (a 10)], cA (a 10) G.2.1.2.1 101 (F 2), cA (a 11) G.2.1.1 3 (F 0)]
  obtain ⟨hn, htk, hln, htr, hlc, hlo, hap, hrt, hdl, hS0, hS1⟩ := RS.scal hR hI
  have hK : rF (F 3) := RS.hrK hR
  have hT : rF (F 4) := RS.hrT hR
  have hY : rF (F 5) := RS.hrY hR
  have hV : rF (F 6) := RS.hrV hR
  have hA : rF (F 7) := RS.hrA hR
  have hsl : rF (F 0) := RS.hrs hR
  have hg0 : gF (F 1) := RS.hG0 hR
  have hg1 : gF (F 2) := RS.hG1 hR
  have hb0 := RS.b0 hR
  have hb1 := RS.b1 hR
  have en := RS.e_n hR
  have hin := hI.n
  refine s_iload_n 1 C dX6_wouldLose_0 rfl 1 rfl ?_
  refine s_callS (As := [vI b]) (rest := []) C dX6_wouldLose_1 (c_X6_isStandby l G b (by first | assumption | omega)) gX6_wouldLose_X6_isStandby rfl 1 (by decide +kernel) (by decide) [] rfl (by decide) rfl (Nat.le_of_ble_eq_true rfl) ⟨Nat.zero_le _, Nat.zero_le _⟩ ?_
  intro v0 w0 hq
  obtain ⟨rfl, rfl⟩ := hq
  refine ⟨rfl, ?_⟩
  show fSt l G X 0 0 4 [(0, .ref x0), (1, vI b)] [vI (bI (0 ≤ b ∧ b ≤ 1))] [cO x0 6 [.ref (a 0), .ref h0, y2, y3, y4, y5], cO (a 0) 4 [.ref (a 1), .ref (a 7), .ref (a 9), .ref (a 11), vI (c 1), vI (c 2), vI (c 3), vI (c 4), vI (c 5), vI (c 6), vI (c 7), vI (c 8)], cO (a 1) 1 [vI (c 0), .ref (a 2), .ref (a 3), .ref (a 4), .ref (a 5), .ref (a 6)], cA (a 2) G.2.1.1 100 (F 3), cA (a 3) G.2.1.1 100 (F 4), cA (a 4) G.2.1.1 100 (F 5), cA (a 5) G.2.1.1 100 (F 6), cA (a 6) G.2.1.1 100 (F 7), cO (a 7) 3 [vI (c 9), vI (c 10), vI (c 11), .ref (a 8)], cA (a 8) G.2.1.2.1 101 (F 1), cO (a 9) 3 [vI (c 12), vI (c 13), vI (c 14), .ref (a 10)], cA (a 10) G.2.1.2.1 101 (F 2), cA (a 11) G.2.1.1 3 (F 0)]
  refine s_if_ne 10 C dX6_wouldLose_4 (by decide) bI_rng (fun h_4 => ?_) (fun h_4 => ?_)
  · have h_4 := bI_t h_4
    exfalso
    omega
  · have h_4 := bI_f h_4
    refine s_ldc (z := -1000001) C (by decide +kernel) dX6_wouldLose_7 ?_
    exact s_iret C E dX6_wouldLose_9 ⟨congrArg (fun z => some (vI z)) (by rw [sp_wl, if_neg (by omega)]), rfl⟩


theorem w_X6_wouldLose (l : Launch) (G : fG) (x0 h0 : Nat) (y2 y3 y4 y5 : Value) (a : Nat → Nat) (c : Nat → Int) (F : Nat → Int → Int) (B : Int) (f : Int → Int) (b : Int) (hR : RSb f c F) (hI : Inv B f) (hB : B ≤ 1073000000) (hb : -2147483648 ≤ b ∧ b < 2147483648) : fCt l G yX6_wouldLose wsX6_wouldLose 3 65 0 0 [.ref x0, vI b] [cO x0 6 [.ref (a 0), .ref h0, y2, y3, y4, y5], cO (a 0) 4 [.ref (a 1), .ref (a 7), .ref (a 9), .ref (a 11), vI (c 1), vI (c 2), vI (c 3), vI (c 4), vI (c 5), vI (c 6), vI (c 7), vI (c 8)], cO (a 1) 1 [vI (c 0), .ref (a 2), .ref (a 3), .ref (a 4), .ref (a 5), .ref (a 6)], cA (a 2) G.2.1.1 100 (F 3), cA (a 3) G.2.1.1 100 (F 4), cA (a 4) G.2.1.1 100 (F 5), cA (a 5) G.2.1.1 100 (F 6), cA (a 6) G.2.1.1 100 (F 7), cO (a 7) 3 [vI (c 9), vI (c 10), vI (c 11), .ref (a 8)], cA (a 8) G.2.1.2.1 101 (F 1), cO (a 9) 3 [vI (c 12), vI (c 13), vI (c 14), .ref (a 10)], cA (a 10) G.2.1.2.1 101 (F 2), cA (a 11) G.2.1.1 3 (F 0)] (fun (v0 : Option Value) (w0 : va_W) => v0 = some (vI (sp_wl f b)) ∧ w0 = [cO x0 6 [.ref (a 0), .ref h0, y2, y3, y4, y5], cO (a 0) 4 [.ref (a 1), .ref (a 7), .ref (a 9), .ref (a 11), vI (c 1), vI (c 2), vI (c 3), vI (c 4), vI (c 5), vI (c 6), vI (c 7), vI (c 8)], cO (a 1) 1 [vI (c 0), .ref (a 2), .ref (a 3), .ref (a 4), .ref (a 5), .ref (a 6)], cA (a 2) G.2.1.1 100 (F 3), cA (a 3) G.2.1.1 100 (F 4), cA (a 4) G.2.1.1 100 (F 5), cA (a 5) G.2.1.1 100 (F 6), cA (a 6) G.2.1.1 100 (F 7), cO (a 7) 3 [vI (c 9), vI (c 10), vI (c 11), .ref (a 8)], cA (a 8) G.2.1.2.1 101 (F 1), cO (a 9) 3 [vI (c 12), vI (c 13), vI (c 14), .ref (a 10)], cA (a 10) G.2.1.2.1 101 (F 2), cA (a 11) G.2.1.1 3 (F 0)]) := by
  rcases (by omega : b = 0 ∨ b = 1 ∨ ¬ (0 ≤ b ∧ b ≤ 1)) with e | e | hbx
  · subst e
    exact c_X6_wouldLose_0 l G x0 h0 y2 y3 y4 y5 a c F B f hR hI hB
  · subst e
    exact c_X6_wouldLose_1 l G x0 h0 y2 y3 y4 y5 a c F B f hR hI hB
  · exact c_X6_wouldLose_x l G x0 h0 y2 y3 y4 y5 a c F B f b hR hI hB hb hbx


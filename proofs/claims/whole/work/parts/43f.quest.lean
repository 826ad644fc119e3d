set_option maxHeartbeats 4000000 in
set_option maxRecDepth 100000 in
theorem c_X6_serves (l : Launch) (G : fG) (x0 h0 : Nat) (y2 y3 y4 y5 : Value) (a : Nat → Nat) (c : Nat → Int) (F : Nat → Int → Int) (B : Int) (f : Int → Int) (e : Int) (hR : RSb f c F) (hI : Inv B f) (hB : B ≤ 1073000000) (he : -2147483648 ≤ e ∧ e < 2147483648) : fCt l G yX6_serves wsX6_serves 1 21 0 0 [.ref x0, vI e] [cO x0 6 [.ref (a 0), .ref h0, y2, y3, y4, y5], cO (a 0) 4 [.ref (a 1), .ref (a 7), .ref (a 9), .ref (a 11), vI (c 1), vI (c 2), vI (c 3), vI (c 4), vI (c 5), vI (c 6), vI (c 7), vI (c 8)], cO (a 1) 1 [vI (c 0), .ref (a 2), .ref (a 3), .ref (a 4), .ref (a 5), .ref (a 6)], cA (a 2) G.2.1.1 100 (F 3), cA (a 3) G.2.1.1 100 (F 4), cA (a 4) G.2.1.1 100 (F 5), cA (a 5) G.2.1.1 100 (F 6), cA (a 6) G.2.1.1 100 (F 7), cO (a 7) 3 [vI (c 9), vI (c 10), vI (c 11), .ref (a 8)], cA (a 8) G.2.1.2.1 101 (F 1), cO (a 9) 3 [vI (c 12), vI (c 13), vI (c 14), .ref (a 10)], cA (a 10) G.2.1.2.1 101 (F 2), cA (a 11) G.2.1.1 3 (F 0)] (fun (v0 : Option Value) (w0 : va_W) => v0 = some (vI (sp_srv f e)) ∧ w0 = [cO x0 6 [.ref (a 0), .ref h0, y2, y3, y4, y5], cO (a 0) 4 [.ref (a 1), .ref (a 7), .ref (a 9), .ref (a 11), vI (c 1), vI (c 2), vI (c 3), vI (c 4), vI (c 5), vI (c 6), vI (c 7), vI (c 8)], cO (a 1) 1 [vI (c 0), .ref (a 2), .ref (a 3), .ref (a 4), .ref (a 5), .ref (a 6)], cA (a 2) G.2.1.1 100 (F 3), cA (a 3) G.2.1.1 100 (F 4), cA (a 4) G.2.1.1 100 (F 5), cA (a 5) G.2.1.1 100 (F 6), cA (a 6) G.2.1.1 100 (F 7), cO (a 7) 3 [vI (c 9), vI (c 10), vI (c 11), .ref (a 8)], cA (a 8) G.2.1.2.1 101 (F 1), cO (a 9) 3 [vI (c 12), vI (c 13), vI (c 14), .ref (a 10)], cA (a 10) G.2.1.2.1 101 (F 2), cA (a 11) G.2.1.1 3 (F 0)]) := by
  refine fs_met (cc := cX6_serves) (nL := 4) (ret := (some .int)) (by decide) rfl (Nat.le_of_ble_eq_true rfl) ?_
  intro X C E
  show fSt l G X 0 0 0 [(0, .ref x0), (1, vI e)] [] [cO x0 6 [.ref (a 0), .ref h0, y2, y3, y4, y5], cO (a 0) 4 [.ref (a 1), .ref (a 7), .ref (a 9), .ref (a 11), vI (c 1), vI (c 2), vI (c 3), vI (c 4), vI (c 5), vI (c 6), vI (c 7), vI (c 8)], cO (a 1) 1 [vI (c 0), .ref (a 2), .ref (a 3), .ref (a 4), .ref (a 5), .ref (a 6)], cA (a 2) G.2.1.1 100 (F 3), cA (a 3) G.2.1.1 100 (F 4), cA (a 4) G.2.1.1 100 (F 5), cA (a 5) G.2.1.1 100 (F 6), cA (a 6) G.2.1.1 100 (F 7), cO (a 7) 3 [vI (c 9), vI (c 10), vI (c 11), .ref (a 8)], cA (a 8) G.2.1.2.1 101 (F 1), cO (a 9) 3 [vI (c 12), vI (c 13), vI (c 14), .ref (a 10)], cA (a 10) G.2.1.2.1 101 (F 2), cA (a 11) G.2.1.1 3 (F 0)]
  have hinX3 : ∀ w ∈ u_ws RX3 TX3 4, w ∈ wsX6_serves := by decide +kernel
  have hinX4 : ∀ w ∈ u_ws RX4 TX4 12, w ∈ wsX6_serves := by decide +kernel
  have hinX6 : ∀ w ∈ u_ws RX6 TX6 6, w ∈ wsX6_serves := by decide +kernel
  obtain ⟨hn, htk, hln, htr, hlc, hlo, hap, hrt, hdl, hS0, hS1⟩ := RS.scal hR hI
  have hK : rF (F 3) := RS.hrK hR
  have hT : rF (F 4) := RS.hrT hR
  have hY : rF (F 5) := RS.hrY hR
  have hV : rF (F 6) := RS.hrV hR
  have hA : rF (F 7) := RS.hrA hR
  have hsl : rF (F 0) := RS.hrs hR
  have hg0 : gF (F 1) := RS.hG0 hR
  have hg1 : gF (F 2) := RS.hG1 hR
  have hb0 := RS.b0 hR
  have hb1 := RS.b1 hR
  have en := RS.e_n hR
  have hin := hI.n
  have hd : sp_srv f e = (if 0 ≤ e ∧ e ≤ c 0 then (if c 11 = 0 ∧ e ≤ c 10 then (if (c 14 = 0 ∧ e ≤ c 13) ∧ c 10 < c 13 then 1 else 0) else if c 14 = 0 ∧ e ≤ c 13 then 1 else -1000004) else -1000001) := by rw [sp_srv, en, hb0.2.1, hb0.2.2, hb1.2.1, hb1.2.2]
  refine s_aload_n 0 C dX6_serves_0 rfl 0 rfl ?_
  refine s_get C dX6_serves_1 6 rfl hinX6 0 rfl 0 (by decide) (by decide +kernel) rfl ?_
  refine s_iload_n 1 C dX6_serves_4 rfl 1 rfl ?_
  refine s_callV (As := [vI e]) (rest := []) C dX6_serves_5 (c_X4_isPosition l G (a 0) (a 1) [.ref (a 7), .ref (a 9), .ref (a 11), vI (c 1), vI (c 2), vI (c 3), vI (c 4), vI (c 5), vI (c 6), vI (c 7), vI (c 8)] [.ref (a 2), .ref (a 3), .ref (a 4), .ref (a 5), .ref (a 6)] (c 0) e (by first | assumption | omega) (by first | assumption | omega)) gX6_serves_X4_isPosition rfl 1 (by decide +kernel) (by decide) 1 4 rfl rfl rfl [1, 2] rfl (by decide) rfl (Nat.le_of_ble_eq_true rfl) ⟨Nat.zero_le _, Nat.zero_le _⟩ ?_
  intro v0 w0 hq
  obtain ⟨rfl, rfl⟩ := hq
  refine ⟨rfl, ?_⟩
  show fSt l G X 0 0 8 [(0, .ref x0), (1, vI e)] [vI (bI (0 ≤ e ∧ e ≤ (c 0)))] [cO x0 6 [.ref (a 0), .ref h0, y2, y3, y4, y5], cO (a 0) 4 [.ref (a 1), .ref (a 7), .ref (a 9), .ref (a 11), vI (c 1), vI (c 2), vI (c 3), vI (c 4), vI (c 5), vI (c 6), vI (c 7), vI (c 8)], cO (a 1) 1 [vI (c 0), .ref (a 2), .ref (a 3), .ref (a 4), .ref (a 5), .ref (a 6)], cA (a 2) G.2.1.1 100 (F 3), cA (a 3) G.2.1.1 100 (F 4), cA (a 4) G.2.1.1 100 (F 5), cA (a 5) G.2.1.1 100 (F 6), cA (a 6) G.2.1.1 100 (F 7), cO (a 7) 3 [vI (c 9), vI (c 10), vI (c 11), .ref (a 8)], cA (a 8) G.2.1.2.1 101 (F 1), cO (a 9) 3 [vI (c 12), vI (c 13), vI (c 14), .ref (a 10)], cA (a 10) G.2.1.2.1 101 (F 2), cA (a 11) G.2.1.1 3 (F 0)]
  refine s_if_ne 14 C dX6_serves_8 (by decide) bI_rng (fun h_8 => ?_) (fun h_8 => ?_)
  · have h_8 := bI_t h_8
    refine s_aload_n 0 C dX6_serves_14 rfl 0 rfl ?_
    refine s_get C dX6_serves_15 6 rfl hinX6 0 rfl 0 (by decide) (by decide +kernel) rfl ?_
    refine s_get C dX6_serves_18 4 rfl hinX4 1 rfl 1 (by decide) (by decide +kernel) rfl ?_
    refine s_iload_n 1 C dX6_serves_21 rfl 1 rfl ?_
    refine s_callV (As := [vI e]) (rest := []) C dX6_serves_22 (c_X3_canServe l G (a 7) (a 8) (c 9) (c 10) (c 11) (F 1) e (by first | assumption | omega) (by first | assumption | omega) (by first | assumption | omega) (by first | assumption | omega)) gX6_serves_X3_canServe rfl 1 (by decide +kernel) (by decide) 8 3 rfl rfl rfl [8, 9] rfl (by decide) rfl (Nat.le_of_ble_eq_true rfl) ⟨Nat.zero_le _, Nat.zero_le _⟩ ?_
    intro v0 w0 hq
    obtain ⟨rfl, rfl⟩ := hq
    refine ⟨rfl, ?_⟩
    show fSt l G X 0 0 25 [(0, .ref x0), (1, vI e)] [vI (bI ((c 11) = 0 ∧ e ≤ (c 10)))] [cO x0 6 [.ref (a 0), .ref h0, y2, y3, y4, y5], cO (a 0) 4 [.ref (a 1), .ref (a 7), .ref (a 9), .ref (a 11), vI (c 1), vI (c 2), vI (c 3), vI (c 4), vI (c 5), vI (c 6), vI (c 7), vI (c 8)], cO (a 1) 1 [vI (c 0), .ref (a 2), .ref (a 3), .ref (a 4), .ref (a 5), .ref (a 6)], cA (a 2) G.2.1.1 100 (F 3), cA (a 3) G.2.1.1 100 (F 4), cA (a 4) G.2.1.1 100 (F 5), cA (a 5) G.2.1.1 100 (F 6), cA (a 6) G.2.1.1 100 (F 7), cO (a 7) 3 [vI (c 9), vI (c 10), vI (c 11), .ref (a 8)], cA (a 8) G.2.1.2.1 101 (F 1), cO (a 9) 3 [vI (c 12), vI (c 13), vI (c 14), .ref (a 10)], cA (a 10) G.2.1.2.1 101 (F 2), cA (a 11) G.2.1.1 3 (F 0)]
    refine s_istore_n 2 [(2, vI (bI ((c 11) = 0 ∧ e ≤ (c 10)))), (0, .ref x0), (1, vI e)] C dX6_serves_25 rfl (by decide) rfl ?_
    refine s_aload_n 0 C dX6_serves_26 rfl 1 rfl ?_
    refine s_get C dX6_serves_27 6 rfl hinX6 0 rfl 0 (by decide) (by decide +kernel) rfl ?_
    refine s_get C dX6_serves_30 4 rfl hinX4 1 rfl 2 (by decide) (by decide +kernel) rfl ?_
    refine s_iload_n 1 C dX6_serves_33 rfl 2 rfl ?_
    refine s_callV (As := [vI e]) (rest := []) C dX6_serves_34 (c_X3_canServe l G (a 9) (a 10) (c 12) (c 13) (c 14) (F 2) e (by first | assumption | omega) (by first | assumption | omega) (by first | assumption | omega) (by first | assumption | omega)) gX6_serves_X3_canServe rfl 1 (by decide +kernel) (by decide) 10 3 rfl rfl rfl [10, 11] rfl (by decide) rfl (Nat.le_of_ble_eq_true rfl) ⟨Nat.zero_le _, Nat.zero_le _⟩ ?_
    intro v0 w0 hq
    obtain ⟨rfl, rfl⟩ := hq
    refine ⟨rfl, ?_⟩
    show fSt l G X 0 0 37 [(2, vI (bI ((c 11) = 0 ∧ e ≤ (c 10)))), (0, .ref x0), (1, vI e)] [vI (bI ((c 14) = 0 ∧ e ≤ (c 13)))] [cO x0 6 [.ref (a 0), .ref h0, y2, y3, y4, y5], cO (a 0) 4 [.ref (a 1), .ref (a 7), .ref (a 9), .ref (a 11), vI (c 1), vI (c 2), vI (c 3), vI (c 4), vI (c 5), vI (c 6), vI (c 7), vI (c 8)], cO (a 1) 1 [vI (c 0), .ref (a 2), .ref (a 3), .ref (a 4), .ref (a 5), .ref (a 6)], cA (a 2) G.2.1.1 100 (F 3), cA (a 3) G.2.1.1 100 (F 4), cA (a 4) G.2.1.1 100 (F 5), cA (a 5) G.2.1.1 100 (F 6), cA (a 6) G.2.1.1 100 (F 7), cO (a 7) 3 [vI (c 9), vI (c 10), vI (c 11), .ref (a 8)], cA (a 8) G.2.1.2.1 101 (F 1), cO (a 9) 3 [vI (c 12), vI (c 13), vI (c 14), .ref (a 10)], cA (a 10) G.2.1.2.1 101 (F 2), cA (a 11) G.2.1.1 3 (F 0)]
    refine s_istore_n 3 [(3, vI (bI ((c 14) = 0 ∧ e ≤ (c 13)))), (2, vI (bI ((c 11) = 0 ∧ e ≤ (c 10)))), (0, .ref x0), (1, vI e)] C dX6_serves_37 rfl (by decide) rfl ?_
    refine s_iload_n 2 C dX6_serves_38 rfl 1 rfl ?_
    refine s_if_eq 75 C dX6_serves_39 (by decide) bI_rng (fun h_39 => ?_) (fun h_39 => ?_)
    · have h_39 := bI_f h_39
      refine s_iload_n 2 C dX6_serves_75 rfl 1 rfl ?_
      refine s_if_eq 81 C dX6_serves_76 (by decide) bI_rng (fun h_76 => ?_) (fun h_76 => ?_)
      · have h_76 := bI_f h_76
        refine s_iload_n 3 C dX6_serves_81 rfl 0 rfl ?_
        refine s_if_eq 89 C dX6_serves_82 (by decide) bI_rng (fun h_82 => ?_) (fun h_82 => ?_)
        · have h_82 := bI_f h_82
          refine s_ldc (z := -1000004) C (by decide +kernel) dX6_serves_89 ?_
          exact s_iret C E dX6_serves_91 ⟨congrArg (fun z => some (vI z)) ((by rw [hd]; (repeat' split) <;> omega)), rfl⟩
        · have h_82 := bI_t h_82
          refine s_iconst C dX6_serves_85 ?_
          refine s_goto 91 C dX6_serves_86 (by decide) ?_
          exact s_iret C E dX6_serves_91 ⟨congrArg (fun z => some (vI z)) ((by rw [hd]; (repeat' split) <;> omega)), rfl⟩
      · have h_76 := bI_t h_76
        refine s_iconst C dX6_serves_79 ?_
        exact s_iret C E dX6_serves_80 ⟨congrArg (fun z => some (vI z)) ((by rw [hd]; (repeat' split) <;> omega)), rfl⟩
    · have h_39 := bI_t h_39
      refine s_iload_n 3 C dX6_serves_42 rfl 0 rfl ?_
      refine s_if_eq 75 C dX6_serves_43 (by decide) bI_rng (fun h_43 => ?_) (fun h_43 => ?_)
      · have h_43 := bI_f h_43
        refine s_iload_n 2 C dX6_serves_75 rfl 1 rfl ?_
        refine s_if_eq 81 C dX6_serves_76 (by decide) bI_rng (fun h_76 => ?_) (fun h_76 => ?_)
        · have h_76 := bI_f h_76
          refine s_iload_n 3 C dX6_serves_81 rfl 0 rfl ?_
          refine s_if_eq 89 C dX6_serves_82 (by decide) bI_rng (fun h_82 => ?_) (fun h_82 => ?_)
          · have h_82 := bI_f h_82
            refine s_ldc (z := -1000004) C (by decide +kernel) dX6_serves_89 ?_
            exact s_iret C E dX6_serves_91 ⟨congrArg (fun z => some (vI z)) ((by rw [hd]; (repeat' split) <;> omega)), rfl⟩
          · have h_82 := bI_t h_82
            refine s_iconst C dX6_serves_85 ?_
            refine s_goto 91 C dX6_serves_86 (by decide) ?_
            exact s_iret C E dX6_serves_91 ⟨congrArg (fun z => some (vI z)) ((by rw [hd]; (repeat' split) <;> omega)), rfl⟩
        · have h_76 := bI_t h_76
          refine s_iconst C dX6_serves_79 ?_
          exact s_iret C E dX6_serves_80 ⟨congrArg (fun z => some (vI z)) ((by rw [hd]; (repeat' split) <;> omega)), rfl⟩
      · have h_43 := bI_t h_43
        refine s_aload_n 0 C dX6_serves_46 rfl 2 rfl ?_
        refine s_get C dX6_serves_47 6 rfl hinX6 0 rfl 0 (by decide) (by decide +kernel) rfl ?_
        refine s_get C dX6_serves_50 4 rfl hinX4 1 rfl 2 (by decide) (by decide +kernel) rfl ?_
        refine s_get C dX6_serves_53 3 rfl hinX3 10 rfl 1 (by decide) (by decide +kernel) rfl ?_
        refine s_aload_n 0 C dX6_serves_56 rfl 2 rfl ?_
        refine s_get C dX6_serves_57 6 rfl hinX6 0 rfl 0 (by decide) (by decide +kernel) rfl ?_
        refine s_get C dX6_serves_60 4 rfl hinX4 1 rfl 1 (by decide) (by decide +kernel) rfl ?_
        refine s_get C dX6_serves_63 3 rfl hinX3 8 rfl 1 (by decide) (by decide +kernel) rfl ?_
        refine s_icmp_le 73 C dX6_serves_66 (by decide) (by omega) (by omega) (fun h_66 => ?_) (fun h_66 => ?_)
        · refine s_iconst C dX6_serves_73 ?_
          exact s_iret C E dX6_serves_74 ⟨congrArg (fun z => some (vI z)) ((by rw [hd]; (repeat' split) <;> omega)), rfl⟩
        · refine s_iconst C dX6_serves_69 ?_
          refine s_goto 74 C dX6_serves_70 (by decide) ?_
          exact s_iret C E dX6_serves_74 ⟨congrArg (fun z => some (vI z)) ((by rw [hd]; (repeat' split) <;> omega)), rfl⟩
  · have h_8 := bI_f h_8
    refine s_ldc (z := -1000001) C (by decide +kernel) dX6_serves_11 ?_
    exact s_iret C E dX6_serves_13 ⟨congrArg (fun z => some (vI z)) ((by rw [hd]; (repeat' split) <;> omega)), rfl⟩


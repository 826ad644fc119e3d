set_option maxHeartbeats 4000000 in
set_option maxRecDepth 100000 in
theorem c_X6_fault (l : Launch) (G : fG) (x0 h0 u0 o0 o1 o2 : Nat) (y4 y5 : Value) (a b : Nat → Nat) (c cj : Nat → Int) (F Fj : Nat → Int → Int) (B : Int) (f tx W : Int → Int) (n at0 k0 r0 od po rs ca wh : Int) (hR : RSb f c F) (hI : Inv B f) (hB : B ≤ 1000000000) (hJ : Jb Fj) (hX : rX tx) (hn : 0 ≤ n ∧ n ≤ 60) (hW : rF W) (hwh : -2147483648 ≤ wh ∧ wh < 2147483648) : fCt l G yX6_fault wsX6_fault 6 140 0 0 [.ref x0, vI wh] ([[cO x0 6 [.ref (a 0), .ref h0, .ref o0, .ref u0, y4, y5]], [cO u0 5 [.ref (b 0), vI od, vI po, vI rs, vI ca]], stW G b cj Fj, [cO o0 2 [.ref o1, vI n, vI at0, vI k0, .ref o2, vI r0]], [cA o1 G.2.1.2.2.1 60 tx], [cA o2 G.2.1.1 3 W], stW G a c F] : List va_W).flatten (fun (v0 : Option Value) (w0 : va_W) => ∃ (c2 : Nat → Int) (F2 : Nat → Int → Int) (W2 : Int → Int) (t2 k2 n2 o9 pp2 rs2 ca2 : Int), v0 = some (vI (flt (plR tx n 60 f 0 0) wh)) ∧ w0 = ([[cO x0 6 [.ref (a 0), .ref h0, .ref o0, .ref u0, y4, y5]], [cO u0 5 [.ref (b 0), vI o9, vI pp2, vI rs2, vI ca2]], stW G b c2 F2, [cO o0 2 [.ref o1, vI n, vI t2, vI k2, .ref o2, vI n2]], [cA o1 G.2.1.2.2.1 60 tx], [cA o2 G.2.1.1 3 W2], stW G a c F] : List va_W).flatten ∧ (Jb F2) ∧ (rF W2)) := by
  refine fs_met (cc := cX6_fault) (nL := 2) (ret := (some .int)) (by decide) rfl (Nat.le_of_ble_eq_true rfl) ?_
  intro X C E
  show fSt l G X 0 0 0 [(0, .ref x0), (1, vI wh)] [] ([[cO x0 6 [.ref (a 0), .ref h0, .ref o0, .ref u0, y4, y5]], [cO u0 5 [.ref (b 0), vI od, vI po, vI rs, vI ca]], stW G b cj Fj, [cO o0 2 [.ref o1, vI n, vI at0, vI k0, .ref o2, vI r0]], [cA o1 G.2.1.2.2.1 60 tx], [cA o2 G.2.1.1 3 W], stW G a c F] : List va_W).flatten
  have hinX5 : ∀ w ∈ u_ws RX5 TX5 5, w ∈ wsX6_fault := by decide +kernel
  have hinX6 : ∀ w ∈ u_ws RX6 TX6 6, w ∈ wsX6_fault := by decide +kernel
  refine s_iload_n 1 C dX6_fault_0 rfl 1 rfl ?_
  refine s_if_lt 9 C dX6_fault_1 (by decide) (by omega) (fun h_1 => ?_) (fun h_1 => ?_)
  · refine s_ldc (z := -1000001) C (by decide +kernel) dX6_fault_9 ?_
    exact s_iret C E dX6_fault_11 ⟨cj, Fj, W, at0, k0, r0, od, po, rs, ca, (congrArg (fun z => some (vI z)) (flt_o (by omega)).symm), rfl, hJ, hW⟩
  · refine s_iload_n 1 C dX6_fault_4 rfl 1 rfl ?_
    refine s_iconst C dX6_fault_5 ?_
    refine s_icmp_le 12 C dX6_fault_6 (by decide) (by omega) (by omega) (fun h_6 => ?_) (fun h_6 => ?_)
    · refine s_aload_n 0 C dX6_fault_12 rfl 0 rfl ?_
      refine s_get C dX6_fault_13 6 rfl hinX6 0 rfl 3 (by decide) (by decide +kernel) rfl ?_
      refine s_aload_n 0 C dX6_fault_16 rfl 0 rfl ?_
      refine s_get C dX6_fault_17 6 rfl hinX6 0 rfl 2 (by decide) (by decide +kernel) rfl ?_
      refine s_aload_n 0 C dX6_fault_20 rfl 0 rfl ?_
      refine s_get C dX6_fault_21 6 rfl hinX6 0 rfl 0 (by decide) (by decide +kernel) rfl ?_
      refine s_callVQ (As := [.ref o0, .ref (a 0)]) (rest := []) (segs := [[cO x0 6 [.ref (a 0), .ref h0, .ref o0, .ref u0, y4, y5]], [cO u0 5 [.ref (b 0), vI od, vI po, vI rs, vI ca]], stW G b cj Fj, [cO o0 2 [.ref o1, vI n, vI at0, vI k0, .ref o2, vI r0]], [cA o1 G.2.1.2.2.1 60 tx], [cA o2 G.2.1.1 3 W], stW G a c F]) C dX6_fault_24 (c_X5_run l G u0 o0 o1 o2 a b c cj F Fj B f tx W n at0 k0 r0 od po rs ca (by first | assumption | omega) (by first | assumption | omega) (by first | assumption | omega) (by first | assumption | omega) hX (by first | assumption | omega) hW) gX6_fault_X5_run rfl 2 (by decide +kernel) (by decide) 5 rfl rfl 1 _ rfl rfl [1, 2, 3, 4, 5, 6] [0] 7 (rfl : (7 : Nat) = 7) (by decide +kernel) rfl rfl (Nat.le_of_ble_eq_true rfl) ⟨Nat.zero_le _, Nat.zero_le _⟩ ?_
      intro v0 w0 hq
      obtain ⟨f2_24, c2_24, F2_24, W2_24, t2_24, k2_24, n2_24, o9_24, pp2_24, rs2_24, ca2_24, rfl, rfl, hq0_24, hq1_24, hq2_24, hq3_24⟩ := hq
      refine ⟨(fst_f (fst_c (fst_k rfl) (fst_c stW_fst (fst_c (fst_k rfl) (fst_c rfl (fst_c (fst_k rfl) rfl)))))), [[cO x0 6 [.ref (a 0), .ref h0, .ref o0, .ref u0, y4, y5]], [cO u0 5 [.ref (b 0), vI o9_24, vI pp2_24, vI rs2_24, vI ca2_24]], stW G b c2_24 F2_24, [cO o0 2 [.ref o1, vI n, vI t2_24, vI k2_24, .ref o2, vI n2_24]], [cA o1 G.2.1.2.2.1 60 tx], [cA o2 G.2.1.1 3 W2_24], stW G a c F], (rfl : (7 : Nat) = 7), rfl, Eq.trans (b := ([[cO x0 6 [.ref (a 0), .ref h0, .ref o0, .ref u0, y4, y5]]] : List va_W)) rfl rfl, ?_⟩
      show fSt l G X 0 0 27 [(0, .ref x0), (1, vI wh)] [] ([[cO x0 6 [.ref (a 0), .ref h0, .ref o0, .ref u0, y4, y5]], [cO u0 5 [.ref (b 0), vI o9_24, vI pp2_24, vI rs2_24, vI ca2_24]], stW G b c2_24 F2_24, [cO o0 2 [.ref o1, vI n, vI t2_24, vI k2_24, .ref o2, vI n2_24]], [cA o1 G.2.1.2.2.1 60 tx], [cA o2 G.2.1.1 3 W2_24], stW G a c F] : List va_W).flatten
      have hrs := plR_rs (X := tx) (n := n) 60 f 0 0
      rw [hq3_24] at hrs
      dsimp only at hrs
      refine s_aload_n 0 C dX6_fault_27 rfl 0 rfl ?_
      refine s_get C dX6_fault_28 6 rfl hinX6 0 rfl 3 (by decide) (by decide +kernel) rfl ?_
      refine s_get C dX6_fault_31 5 rfl hinX5 1 rfl 3 (by decide) (by decide +kernel) rfl ?_
      refine s_if_ne 40 C dX6_fault_34 (by decide) (by omega) (fun h_34 => ?_) (fun h_34 => ?_)
      · refine s_iload_n 1 C dX6_fault_40 rfl 1 rfl ?_
        rcases (by omega : wh = 0 ∨ wh = 1 ∨ (wh ≠ 0 ∧ wh ≠ 1)) with h_41 | h_41 | h_41
        · refine s_look 68 (off := 27) C dX6_fault_41 (by decide) (by omega) (by rw [h_41]; rfl) (by decide) ?_
          refine s_aload_n 0 C dX6_fault_68 rfl 0 rfl ?_
          refine s_get C dX6_fault_69 6 rfl hinX6 0 rfl 3 (by decide) (by decide +kernel) rfl ?_
          refine s_get C dX6_fault_72 5 rfl hinX5 1 rfl 2 (by decide) (by decide +kernel) rfl ?_
          exact s_iret C E dX6_fault_75 ⟨c2_24, F2_24, W2_24, t2_24, k2_24, n2_24, o9_24, pp2_24, rs2_24, ca2_24, (congrArg (fun z => some (vI z)) (by rw [fltB hq3_24 (by omega) h_34, if_pos (by omega)])), rfl, hq0_24.J, hq2_24⟩
        · refine s_look 76 (off := 35) C dX6_fault_41 (by decide) (by omega) (by rw [h_41]; rfl) (by decide) ?_
          refine s_aload_n 0 C dX6_fault_76 rfl 0 rfl ?_
          refine s_get C dX6_fault_77 6 rfl hinX6 0 rfl 3 (by decide) (by decide +kernel) rfl ?_
          refine s_get C dX6_fault_80 5 rfl hinX5 1 rfl 3 (by decide) (by decide +kernel) rfl ?_
          exact s_iret C E dX6_fault_83 ⟨c2_24, F2_24, W2_24, t2_24, k2_24, n2_24, o9_24, pp2_24, rs2_24, ca2_24, (congrArg (fun z => some (vI z)) (by rw [fltB hq3_24 (by omega) h_34, if_neg (by omega), if_pos (by omega)])), rfl, hq0_24.J, hq2_24⟩
        · refine s_look 84 (off := 43) C dX6_fault_41 (by decide) (by omega) (lk_none (l := [(0, 27), (1, 35)]) (by simp only [List.all_cons, List.all_nil, Bool.and_true, Bool.and_eq_true, bne_iff_ne, ne_eq]; omega)) (by decide) ?_
          refine s_aload_n 0 C dX6_fault_84 rfl 0 rfl ?_
          refine s_get C dX6_fault_85 6 rfl hinX6 0 rfl 3 (by decide) (by decide +kernel) rfl ?_
          refine s_get C dX6_fault_88 5 rfl hinX5 1 rfl 4 (by decide) (by decide +kernel) rfl ?_
          exact s_iret C E dX6_fault_91 ⟨c2_24, F2_24, W2_24, t2_24, k2_24, n2_24, o9_24, pp2_24, rs2_24, ca2_24, (congrArg (fun z => some (vI z)) (by rw [fltB hq3_24 (by omega) h_34, if_neg (by omega), if_neg (by omega)])), rfl, hq0_24.J, hq2_24⟩
      · refine s_ldc (z := -1000004) C (by decide +kernel) dX6_fault_37 ?_
        exact s_iret C E dX6_fault_39 ⟨c2_24, F2_24, W2_24, t2_24, k2_24, n2_24, o9_24, pp2_24, rs2_24, ca2_24, (congrArg (fun z => some (vI z)) (fltA hq3_24 (by omega) h_34).symm), rfl, hq0_24.J, hq2_24⟩
    · refine s_ldc (z := -1000001) C (by decide +kernel) dX6_fault_9 ?_
      exact s_iret C E dX6_fault_11 ⟨cj, Fj, W, at0, k0, r0, od, po, rs, ca, (congrArg (fun z => some (vI z)) (flt_o (by omega)).symm), rfl, hJ, hW⟩


set_option maxHeartbeats 4000000 in
set_option maxRecDepth 100000 in
theorem c_X5_doOrder (l : Launch) (G : fG) (u0 o0 o1 o2 : Nat) (b : Nat → Nat) (c : Nat → Int) (F : Nat → Int → Int) (B i : Int) (f tx W : Int → Int) (n at9 kd nr od po rs ca : Int) (hR : RSb f c F) (hI : Inv B f) (hB : B ≤ 1073000000) (hX : rX tx) (hn : 0 ≤ n ∧ n ≤ 60) (hi : 0 ≤ i ∧ i < n) (hkd : kd = chA tx n i) (hRO : RO tx n i 1 at9 nr W) : fCt l G yX5_doOrder wsX5_doOrder 4 95 0 0 [.ref u0, .ref o0] ([[cO u0 5 [.ref (b 0), vI od, vI po, vI rs, vI ca]], stW G b c F, [cO o0 2 [.ref o1, vI n, vI at9, vI kd, .ref o2, vI nr]], [cA o1 G.2.1.2.2.1 60 tx], [cA o2 G.2.1.1 3 W]] : List va_W).flatten (fun (v0 : Option Value) (w0 : va_W) => ∃ (z : Int) (f2 : Int → Int) (c2 : Nat → Int) (F2 : Nat → Int → Int), v0 = some (vI z) ∧ w0 = ([[cO u0 5 [.ref (b 0), vI od, vI po, vI rs, vI ca]], stW G b c2 F2, [cO o0 2 [.ref o1, vI n, vI at9, vI kd, .ref o2, vI nr]], [cA o1 G.2.1.2.2.1 60 tx], [cA o2 G.2.1.1 3 W]] : List va_W).flatten ∧ (RSb f2 c2 F2) ∧ ((z, f2) = caF tx n f i)) := by
  refine fs_met (cc := cX5_doOrder) (nL := 3) (ret := (some .int)) (by decide) rfl (Nat.le_of_ble_eq_true rfl) ?_
  intro X C E
  show fSt l G X 0 0 0 [(0, .ref u0), (1, .ref o0)] [] ([[cO u0 5 [.ref (b 0), vI od, vI po, vI rs, vI ca]], stW G b c F, [cO o0 2 [.ref o1, vI n, vI at9, vI kd, .ref o2, vI nr]], [cA o1 G.2.1.2.2.1 60 tx], [cA o2 G.2.1.1 3 W]] : List va_W).flatten
  have hinX2 : ∀ w ∈ u_ws RX2 TX2 6, w ∈ wsX5_doOrder := by decide +kernel
  have hinX5 : ∀ w ∈ u_ws RX5 TX5 5, w ∈ wsX5_doOrder := by decide +kernel
  have hcp := chA_rg (X := tx) (n := n) (i := i) hX
  have hro : rdO tx n i = true := RO_1 hRO
  obtain ⟨-, -, hnr, hW, hRV⟩ := hRO
  obtain ⟨⟨hA1, hA2⟩, hB1, hC1⟩ := hRV hro
  have hv1 := nV_in (X := tx) (n := n) (i := i + 1) (by omega)
  refine s_aload_n 1 C dX5_doOrder_0 rfl 1 rfl ?_
  refine s_iconst C dX5_doOrder_1 ?_
  refine s_callVP (As := [vI 0]) (rest := []) (segs := [[cO u0 5 [.ref (b 0), vI od, vI po, vI rs, vI ca]], stW G b c F, [cO o0 2 [.ref o1, vI n, vI at9, vI kd, .ref o2, vI nr]], [cA o1 G.2.1.2.2.1 60 tx], [cA o2 G.2.1.1 3 W]]) C dX5_doOrder_2 (c_X2_number l G o0 o1 o2 n at9 kd nr W 0 (by first | assumption | omega) (by first | assumption | omega)) gX5_doOrder_X2_number rfl 1 (by decide +kernel) (by decide) 13 2 rfl rfl rfl [2, 4] [0, 1, 3] rfl rfl rfl (Nat.le_of_ble_eq_true rfl) ⟨Nat.zero_le _, Nat.zero_le _⟩ ?_
  intro v0 w0 hq
  obtain ⟨rfl, rfl⟩ := hq
  refine ⟨rfl, [[cO u0 5 [.ref (b 0), vI od, vI po, vI rs, vI ca]], stW G b c F, [cO o0 2 [.ref o1, vI n, vI at9, vI kd, .ref o2, vI nr]], [cA o1 G.2.1.2.2.1 60 tx], [cA o2 G.2.1.1 3 W]], rfl, rfl, rfl, ?_⟩
  show fSt l G X 0 0 5 [(0, .ref u0), (1, .ref o0)] [vI (nU W nr 0)] ([[cO u0 5 [.ref (b 0), vI od, vI po, vI rs, vI ca]], stW G b c F, [cO o0 2 [.ref o1, vI n, vI at9, vI kd, .ref o2, vI nr]], [cA o1 G.2.1.2.2.1 60 tx], [cA o2 G.2.1.1 3 W]] : List va_W).flatten
  refine s_top (nV tx n (i + 1)) ((nU_in (by omega)).trans hA2) ?_
  refine s_istore_n 2 [(2, vI (nV tx n (i + 1))), (0, .ref u0), (1, .ref o0)] C dX5_doOrder_5 rfl (by decide) rfl ?_
  refine s_aload_n 1 C dX5_doOrder_6 rfl 2 rfl ?_
  refine s_get C dX5_doOrder_7 2 rfl hinX2 13 rfl 3 (by decide) (by decide +kernel) rfl ?_
  rcases (by omega : kd = 97 ∨ kd = 99 ∨ kd = 111 ∨ kd = 112 ∨ kd = 115 ∨ (kd ≠ 97 ∧ kd ≠ 99 ∧ kd ≠ 111 ∧ kd ≠ 112 ∧ kd ≠ 115)) with h_10 | h_10 | h_10 | h_10 | h_10 | h_10
  · refine s_look 98 (off := 88) C dX5_doOrder_10 (by decide) (by omega) (by rw [h_10]; rfl) (by decide) ?_
    refine s_aload_n 0 C dX5_doOrder_98 rfl 1 rfl ?_
    refine s_get C dX5_doOrder_99 5 rfl hinX5 0 rfl 0 (by decide) (by decide +kernel) rfl ?_
    refine s_iload_n 2 C dX5_doOrder_102 rfl 0 rfl ?_
    refine s_iconst C dX5_doOrder_103 ?_
    refine s_callVP (As := [vI (nV tx n (i + 1)), vI 2]) (rest := []) (segs := [[cO u0 5 [.ref (b 0), vI od, vI po, vI rs, vI ca]], stW G b c F, [cO o0 2 [.ref o1, vI n, vI at9, vI kd, .ref o2, vI nr]], [cA o1 G.2.1.2.2.1 60 tx], [cA o2 G.2.1.1 3 W]]) C dX5_doOrder_104 (w_X4_endIn l G b c F B f (nV tx n (i + 1)) 2 (by first | assumption | omega) (by first | assumption | omega) (by first | assumption | omega) (by first | assumption | omega) (Or.inr rfl)) gX5_doOrder_X4_endIn rfl 2 (by decide +kernel) (by decide) 1 4 rfl rfl rfl [1] [0, 2, 3, 4] rfl rfl rfl (Nat.le_of_ble_eq_true rfl) ⟨Nat.zero_le _, Nat.zero_le _⟩ ?_
    intro v0 w0 hq
    obtain ⟨z_104, f2_104, c2_104, F2_104, rfl, rfl, hq0_104, hq1_104⟩ := hq
    refine ⟨(fst_k (fst_k (fst_k (fst_k (fst_k (fst_k (fst_k (fst_k (fst_k (fst_k (fst_k (fst_k rfl)))))))))))), [[cO u0 5 [.ref (b 0), vI od, vI po, vI rs, vI ca]], stW G b c2_104 F2_104, [cO o0 2 [.ref o1, vI n, vI at9, vI kd, .ref o2, vI nr]], [cA o1 G.2.1.2.2.1 60 tx], [cA o2 G.2.1.1 3 W]], rfl, rfl, rfl, ?_⟩
    show fSt l G X 0 0 107 [(2, vI (nV tx n (i + 1))), (0, .ref u0), (1, .ref o0)] [vI z_104] ([[cO u0 5 [.ref (b 0), vI od, vI po, vI rs, vI ca]], stW G b c2_104 F2_104, [cO o0 2 [.ref o1, vI n, vI at9, vI kd, .ref o2, vI nr]], [cA o1 G.2.1.2.2.1 60 tx], [cA o2 G.2.1.1 3 W]] : List va_W).flatten
    exact s_iret C E dX5_doOrder_107 ⟨z_104, f2_104, c2_104, F2_104, rfl, rfl, hq0_104, (by rw [caF, if_neg (by omega), if_neg (by omega), if_pos (by omega)]; exact hq1_104)⟩
  · refine s_look 88 (off := 78) C dX5_doOrder_10 (by decide) (by omega) (by rw [h_10]; rfl) (by decide) ?_
    refine s_aload_n 0 C dX5_doOrder_88 rfl 1 rfl ?_
    refine s_get C dX5_doOrder_89 5 rfl hinX5 0 rfl 0 (by decide) (by decide +kernel) rfl ?_
    refine s_iload_n 2 C dX5_doOrder_92 rfl 0 rfl ?_
    refine s_iconst C dX5_doOrder_93 ?_
    refine s_callVP (As := [vI (nV tx n (i + 1)), vI 1]) (rest := []) (segs := [[cO u0 5 [.ref (b 0), vI od, vI po, vI rs, vI ca]], stW G b c F, [cO o0 2 [.ref o1, vI n, vI at9, vI kd, .ref o2, vI nr]], [cA o1 G.2.1.2.2.1 60 tx], [cA o2 G.2.1.1 3 W]]) C dX5_doOrder_94 (w_X4_endIn l G b c F B f (nV tx n (i + 1)) 1 (by first | assumption | omega) (by first | assumption | omega) (by first | assumption | omega) (by first | assumption | omega) (Or.inl rfl)) gX5_doOrder_X4_endIn rfl 2 (by decide +kernel) (by decide) 1 4 rfl rfl rfl [1] [0, 2, 3, 4] rfl rfl rfl (Nat.le_of_ble_eq_true rfl) ⟨Nat.zero_le _, Nat.zero_le _⟩ ?_
    intro v0 w0 hq
    obtain ⟨z_94, f2_94, c2_94, F2_94, rfl, rfl, hq0_94, hq1_94⟩ := hq
    refine ⟨(fst_k (fst_k (fst_k (fst_k (fst_k (fst_k (fst_k (fst_k (fst_k (fst_k (fst_k (fst_k rfl)))))))))))), [[cO u0 5 [.ref (b 0), vI od, vI po, vI rs, vI ca]], stW G b c2_94 F2_94, [cO o0 2 [.ref o1, vI n, vI at9, vI kd, .ref o2, vI nr]], [cA o1 G.2.1.2.2.1 60 tx], [cA o2 G.2.1.1 3 W]], rfl, rfl, rfl, ?_⟩
    show fSt l G X 0 0 97 [(2, vI (nV tx n (i + 1))), (0, .ref u0), (1, .ref o0)] [vI z_94] ([[cO u0 5 [.ref (b 0), vI od, vI po, vI rs, vI ca]], stW G b c2_94 F2_94, [cO o0 2 [.ref o1, vI n, vI at9, vI kd, .ref o2, vI nr]], [cA o1 G.2.1.2.2.1 60 tx], [cA o2 G.2.1.1 3 W]] : List va_W).flatten
    exact s_iret C E dX5_doOrder_97 ⟨z_94, f2_94, c2_94, F2_94, rfl, rfl, hq0_94, (by rw [caF, if_neg (by omega), if_pos (by omega)]; exact hq1_94)⟩
  · refine s_look 60 (off := 50) C dX5_doOrder_10 (by decide) (by omega) (by rw [h_10]; rfl) (by decide) ?_
    refine s_aload_n 0 C dX5_doOrder_60 rfl 1 rfl ?_
    refine s_get C dX5_doOrder_61 5 rfl hinX5 0 rfl 0 (by decide) (by decide +kernel) rfl ?_
    refine s_iload_n 2 C dX5_doOrder_64 rfl 0 rfl ?_
    refine s_callVP (As := [vI (nV tx n (i + 1))]) (rest := []) (segs := [[cO u0 5 [.ref (b 0), vI od, vI po, vI rs, vI ca]], stW G b c F, [cO o0 2 [.ref o1, vI n, vI at9, vI kd, .ref o2, vI nr]], [cA o1 G.2.1.2.2.1 60 tx], [cA o2 G.2.1.1 3 W]]) C dX5_doOrder_65 (w_X4_openIn l G b c F B f (nV tx n (i + 1)) (by first | assumption | omega) (by first | assumption | omega) (by first | assumption | omega) (by first | assumption | omega)) gX5_doOrder_X4_openIn rfl 1 (by decide +kernel) (by decide) 1 4 rfl rfl rfl [1] [0, 2, 3, 4] rfl rfl rfl (Nat.le_of_ble_eq_true rfl) ⟨Nat.zero_le _, Nat.zero_le _⟩ ?_
    intro v0 w0 hq
    obtain ⟨z_65, f2_65, c2_65, F2_65, rfl, rfl, hq0_65, hq1_65⟩ := hq
    refine ⟨(fst_k (fst_k (fst_k (fst_k (fst_k (fst_k (fst_k (fst_k (fst_k (fst_k (fst_k (fst_k rfl)))))))))))), [[cO u0 5 [.ref (b 0), vI od, vI po, vI rs, vI ca]], stW G b c2_65 F2_65, [cO o0 2 [.ref o1, vI n, vI at9, vI kd, .ref o2, vI nr]], [cA o1 G.2.1.2.2.1 60 tx], [cA o2 G.2.1.1 3 W]], rfl, rfl, rfl, ?_⟩
    show fSt l G X 0 0 68 [(2, vI (nV tx n (i + 1))), (0, .ref u0), (1, .ref o0)] [vI z_65] ([[cO u0 5 [.ref (b 0), vI od, vI po, vI rs, vI ca]], stW G b c2_65 F2_65, [cO o0 2 [.ref o1, vI n, vI at9, vI kd, .ref o2, vI nr]], [cA o1 G.2.1.2.2.1 60 tx], [cA o2 G.2.1.1 3 W]] : List va_W).flatten
    exact s_iret C E dX5_doOrder_68 ⟨z_65, f2_65, c2_65, F2_65, rfl, rfl, hq0_65, (by rw [caF, if_pos (by omega)]; exact hq1_65)⟩
  · refine s_look 69 (off := 59) C dX5_doOrder_10 (by decide) (by omega) (by rw [h_10]; rfl) (by decide) ?_
    have hfm := fmN_3 (kd := chA tx n i) (by omega)
    have hB2 := hB1 (by omega)
    have hC2 := hC1 hfm
    have hp2 := p2_in (X := tx) (n := n) (i := i) (by omega)
    have hv2 := nV_in (X := tx) (n := n) (i := p2 tx n i) (by omega)
    have hp3 := p3_in (X := tx) (n := n) (i := i) (by omega)
    have hv3 := nV_in (X := tx) (n := n) (i := p3 tx n i) (by omega)
    refine s_aload_n 0 C dX5_doOrder_69 rfl 1 rfl ?_
    refine s_get C dX5_doOrder_70 5 rfl hinX5 0 rfl 0 (by decide) (by decide +kernel) rfl ?_
    refine s_iload_n 2 C dX5_doOrder_73 rfl 0 rfl ?_
    refine s_aload_n 1 C dX5_doOrder_74 rfl 2 rfl ?_
    refine s_iconst C dX5_doOrder_75 ?_
    refine s_callVP (As := [vI 1]) (rest := [vI (nV tx n (i + 1)), .ref (b 0)]) (segs := [[cO u0 5 [.ref (b 0), vI od, vI po, vI rs, vI ca]], stW G b c F, [cO o0 2 [.ref o1, vI n, vI at9, vI kd, .ref o2, vI nr]], [cA o1 G.2.1.2.2.1 60 tx], [cA o2 G.2.1.1 3 W]]) C dX5_doOrder_76 (c_X2_number l G o0 o1 o2 n at9 kd nr W 1 (by first | assumption | omega) (by first | assumption | omega)) gX5_doOrder_X2_number rfl 1 (by decide +kernel) (by decide) 13 2 rfl rfl rfl [2, 4] [0, 1, 3] rfl rfl rfl (Nat.le_of_ble_eq_true rfl) ⟨Nat.zero_le _, Nat.zero_le _⟩ ?_
    intro v0 w0 hq
    obtain ⟨rfl, rfl⟩ := hq
    refine ⟨rfl, [[cO u0 5 [.ref (b 0), vI od, vI po, vI rs, vI ca]], stW G b c F, [cO o0 2 [.ref o1, vI n, vI at9, vI kd, .ref o2, vI nr]], [cA o1 G.2.1.2.2.1 60 tx], [cA o2 G.2.1.1 3 W]], rfl, rfl, rfl, ?_⟩
    show fSt l G X 0 0 79 [(2, vI (nV tx n (i + 1))), (0, .ref u0), (1, .ref o0)] [vI (nU W nr 1), vI (nV tx n (i + 1)), .ref (b 0)] ([[cO u0 5 [.ref (b 0), vI od, vI po, vI rs, vI ca]], stW G b c F, [cO o0 2 [.ref o1, vI n, vI at9, vI kd, .ref o2, vI nr]], [cA o1 G.2.1.2.2.1 60 tx], [cA o2 G.2.1.1 3 W]] : List va_W).flatten
    refine s_top (nV tx n (p2 tx n i)) ((nU_in (by omega)).trans hB2.2) ?_
    refine s_aload_n 1 C dX5_doOrder_79 rfl 2 rfl ?_
    refine s_iconst C dX5_doOrder_80 ?_
    refine s_callVP (As := [vI 2]) (rest := [vI (nV tx n (p2 tx n i)), vI (nV tx n (i + 1)), .ref (b 0)]) (segs := [[cO u0 5 [.ref (b 0), vI od, vI po, vI rs, vI ca]], stW G b c F, [cO o0 2 [.ref o1, vI n, vI at9, vI kd, .ref o2, vI nr]], [cA o1 G.2.1.2.2.1 60 tx], [cA o2 G.2.1.1 3 W]]) C dX5_doOrder_81 (c_X2_number l G o0 o1 o2 n at9 kd nr W 2 (by first | assumption | omega) (by first | assumption | omega)) gX5_doOrder_X2_number rfl 1 (by decide +kernel) (by decide) 13 2 rfl rfl rfl [2, 4] [0, 1, 3] rfl rfl rfl (Nat.le_of_ble_eq_true rfl) ⟨Nat.zero_le _, Nat.zero_le _⟩ ?_
    intro v0 w0 hq
    obtain ⟨rfl, rfl⟩ := hq
    refine ⟨rfl, [[cO u0 5 [.ref (b 0), vI od, vI po, vI rs, vI ca]], stW G b c F, [cO o0 2 [.ref o1, vI n, vI at9, vI kd, .ref o2, vI nr]], [cA o1 G.2.1.2.2.1 60 tx], [cA o2 G.2.1.1 3 W]], rfl, rfl, rfl, ?_⟩
    show fSt l G X 0 0 84 [(2, vI (nV tx n (i + 1))), (0, .ref u0), (1, .ref o0)] [vI (nU W nr 2), vI (nV tx n (p2 tx n i)), vI (nV tx n (i + 1)), .ref (b 0)] ([[cO u0 5 [.ref (b 0), vI od, vI po, vI rs, vI ca]], stW G b c F, [cO o0 2 [.ref o1, vI n, vI at9, vI kd, .ref o2, vI nr]], [cA o1 G.2.1.2.2.1 60 tx], [cA o2 G.2.1.1 3 W]] : List va_W).flatten
    refine s_top (nV tx n (p3 tx n i)) ((nU_in (by omega)).trans hC2.2) ?_
    refine s_callVP (As := [vI (nV tx n (i + 1)), vI (nV tx n (p2 tx n i)), vI (nV tx n (p3 tx n i))]) (rest := []) (segs := [[cO u0 5 [.ref (b 0), vI od, vI po, vI rs, vI ca]], stW G b c F, [cO o0 2 [.ref o1, vI n, vI at9, vI kd, .ref o2, vI nr]], [cA o1 G.2.1.2.2.1 60 tx], [cA o2 G.2.1.1 3 W]]) C dX5_doOrder_84 (w_X4_putBy l G b c F B f (nV tx n (i + 1)) (nV tx n (p2 tx n i)) (nV tx n (p3 tx n i)) (by first | assumption | omega) (by first | assumption | omega) (by first | assumption | omega) (by first | assumption | omega) (by first | assumption | omega) (by first | assumption | omega)) gX5_doOrder_X4_putBy rfl 3 (by decide +kernel) (by decide) 1 4 rfl rfl rfl [1] [0, 2, 3, 4] rfl rfl rfl (Nat.le_of_ble_eq_true rfl) ⟨Nat.zero_le _, Nat.zero_le _⟩ ?_
    intro v0 w0 hq
    obtain ⟨z_84, f2_84, c2_84, F2_84, rfl, rfl, hq0_84, hq1_84⟩ := hq
    refine ⟨(fst_k (fst_k (fst_k (fst_k (fst_k (fst_k (fst_k (fst_k (fst_k (fst_k (fst_k (fst_k rfl)))))))))))), [[cO u0 5 [.ref (b 0), vI od, vI po, vI rs, vI ca]], stW G b c2_84 F2_84, [cO o0 2 [.ref o1, vI n, vI at9, vI kd, .ref o2, vI nr]], [cA o1 G.2.1.2.2.1 60 tx], [cA o2 G.2.1.1 3 W]], rfl, rfl, rfl, ?_⟩
    show fSt l G X 0 0 87 [(2, vI (nV tx n (i + 1))), (0, .ref u0), (1, .ref o0)] [vI z_84] ([[cO u0 5 [.ref (b 0), vI od, vI po, vI rs, vI ca]], stW G b c2_84 F2_84, [cO o0 2 [.ref o1, vI n, vI at9, vI kd, .ref o2, vI nr]], [cA o1 G.2.1.2.2.1 60 tx], [cA o2 G.2.1.1 3 W]] : List va_W).flatten
    exact s_iret C E dX5_doOrder_87 ⟨z_84, f2_84, c2_84, F2_84, rfl, rfl, hq0_84, (by rw [caF, if_neg (by omega), if_neg (by omega), if_neg (by omega), if_pos (by omega)]; exact hq1_84)⟩
  · refine s_look 108 (off := 98) C dX5_doOrder_10 (by decide) (by omega) (by rw [h_10]; rfl) (by decide) ?_
    have hfm := fmN_2 (kd := chA tx n i) (by omega)
    have hB2 := hB1 (by omega)
    have hp2 := p2_in (X := tx) (n := n) (i := i) (by omega)
    have hv2 := nV_in (X := tx) (n := n) (i := p2 tx n i) (by omega)
    refine s_aload_n 0 C dX5_doOrder_108 rfl 1 rfl ?_
    refine s_get C dX5_doOrder_109 5 rfl hinX5 0 rfl 0 (by decide) (by decide +kernel) rfl ?_
    refine s_iload_n 2 C dX5_doOrder_112 rfl 0 rfl ?_
    refine s_aload_n 1 C dX5_doOrder_113 rfl 2 rfl ?_
    refine s_iconst C dX5_doOrder_114 ?_
    refine s_callVP (As := [vI 1]) (rest := [vI (nV tx n (i + 1)), .ref (b 0)]) (segs := [[cO u0 5 [.ref (b 0), vI od, vI po, vI rs, vI ca]], stW G b c F, [cO o0 2 [.ref o1, vI n, vI at9, vI kd, .ref o2, vI nr]], [cA o1 G.2.1.2.2.1 60 tx], [cA o2 G.2.1.1 3 W]]) C dX5_doOrder_115 (c_X2_number l G o0 o1 o2 n at9 kd nr W 1 (by first | assumption | omega) (by first | assumption | omega)) gX5_doOrder_X2_number rfl 1 (by decide +kernel) (by decide) 13 2 rfl rfl rfl [2, 4] [0, 1, 3] rfl rfl rfl (Nat.le_of_ble_eq_true rfl) ⟨Nat.zero_le _, Nat.zero_le _⟩ ?_
    intro v0 w0 hq
    obtain ⟨rfl, rfl⟩ := hq
    refine ⟨rfl, [[cO u0 5 [.ref (b 0), vI od, vI po, vI rs, vI ca]], stW G b c F, [cO o0 2 [.ref o1, vI n, vI at9, vI kd, .ref o2, vI nr]], [cA o1 G.2.1.2.2.1 60 tx], [cA o2 G.2.1.1 3 W]], rfl, rfl, rfl, ?_⟩
    show fSt l G X 0 0 118 [(2, vI (nV tx n (i + 1))), (0, .ref u0), (1, .ref o0)] [vI (nU W nr 1), vI (nV tx n (i + 1)), .ref (b 0)] ([[cO u0 5 [.ref (b 0), vI od, vI po, vI rs, vI ca]], stW G b c F, [cO o0 2 [.ref o1, vI n, vI at9, vI kd, .ref o2, vI nr]], [cA o1 G.2.1.2.2.1 60 tx], [cA o2 G.2.1.1 3 W]] : List va_W).flatten
    refine s_top (nV tx n (p2 tx n i)) ((nU_in (by omega)).trans hB2.2) ?_
    refine s_callVP (As := [vI (nV tx n (i + 1)), vI (nV tx n (p2 tx n i))]) (rest := []) (segs := [[cO u0 5 [.ref (b 0), vI od, vI po, vI rs, vI ca]], stW G b c F, [cO o0 2 [.ref o1, vI n, vI at9, vI kd, .ref o2, vI nr]], [cA o1 G.2.1.2.2.1 60 tx], [cA o2 G.2.1.1 3 W]]) C dX5_doOrder_118 (w_X4_shipTo l G b c F B f (nV tx n (i + 1)) (nV tx n (p2 tx n i)) (by first | assumption | omega) (by first | assumption | omega) (by first | assumption | omega) (by first | assumption | omega) (by first | assumption | omega)) gX5_doOrder_X4_shipTo rfl 2 (by decide +kernel) (by decide) 1 4 rfl rfl rfl [1] [0, 2, 3, 4] rfl rfl rfl (Nat.le_of_ble_eq_true rfl) ⟨Nat.zero_le _, Nat.zero_le _⟩ ?_
    intro v0 w0 hq
    obtain ⟨z_118, f2_118, c2_118, F2_118, rfl, rfl, hq0_118, hq1_118⟩ := hq
    refine ⟨(fst_k (fst_k (fst_k (fst_k (fst_k (fst_k (fst_k (fst_k (fst_k (fst_k (fst_k (fst_k rfl)))))))))))), [[cO u0 5 [.ref (b 0), vI od, vI po, vI rs, vI ca]], stW G b c2_118 F2_118, [cO o0 2 [.ref o1, vI n, vI at9, vI kd, .ref o2, vI nr]], [cA o1 G.2.1.2.2.1 60 tx], [cA o2 G.2.1.1 3 W]], rfl, rfl, rfl, ?_⟩
    show fSt l G X 0 0 121 [(2, vI (nV tx n (i + 1))), (0, .ref u0), (1, .ref o0)] [vI z_118] ([[cO u0 5 [.ref (b 0), vI od, vI po, vI rs, vI ca]], stW G b c2_118 F2_118, [cO o0 2 [.ref o1, vI n, vI at9, vI kd, .ref o2, vI nr]], [cA o1 G.2.1.2.2.1 60 tx], [cA o2 G.2.1.1 3 W]] : List va_W).flatten
    exact s_iret C E dX5_doOrder_121 ⟨z_118, f2_118, c2_118, F2_118, rfl, rfl, hq0_118, (by rw [caF, if_neg (by omega), if_neg (by omega), if_neg (by omega), if_neg (by omega), if_pos (by omega)]; exact hq1_118)⟩
  · refine s_look 122 (off := 112) C dX5_doOrder_10 (by decide) (by omega) (lk_none (l := [(97, 88), (99, 78), (111, 50), (112, 59), (115, 98)]) (by simp only [List.all_cons, List.all_nil, Bool.and_true, Bool.and_eq_true, bne_iff_ne, ne_eq]; omega)) (by decide) ?_
    refine s_aload_n 0 C dX5_doOrder_122 rfl 1 rfl ?_
    refine s_get C dX5_doOrder_123 5 rfl hinX5 0 rfl 0 (by decide) (by decide +kernel) rfl ?_
    refine s_iload_n 2 C dX5_doOrder_126 rfl 0 rfl ?_
    refine s_callVP (As := [vI (nV tx n (i + 1))]) (rest := []) (segs := [[cO u0 5 [.ref (b 0), vI od, vI po, vI rs, vI ca]], stW G b c F, [cO o0 2 [.ref o1, vI n, vI at9, vI kd, .ref o2, vI nr]], [cA o1 G.2.1.2.2.1 60 tx], [cA o2 G.2.1.1 3 W]]) C dX5_doOrder_127 (w_X4_pass l G b c F B f (nV tx n (i + 1)) (by first | assumption | omega) (by first | assumption | omega) (by first | assumption | omega) (by first | assumption | omega)) gX5_doOrder_X4_pass rfl 1 (by decide +kernel) (by decide) 1 4 rfl rfl rfl [1] [0, 2, 3, 4] rfl rfl rfl (Nat.le_of_ble_eq_true rfl) ⟨Nat.zero_le _, Nat.zero_le _⟩ ?_
    intro v0 w0 hq
    obtain ⟨z_127, f2_127, c2_127, F2_127, rfl, rfl, hq0_127, hq1_127⟩ := hq
    refine ⟨(fst_k (fst_k (fst_k (fst_k (fst_k (fst_k (fst_k (fst_k (fst_k (fst_k (fst_k (fst_k rfl)))))))))))), [[cO u0 5 [.ref (b 0), vI od, vI po, vI rs, vI ca]], stW G b c2_127 F2_127, [cO o0 2 [.ref o1, vI n, vI at9, vI kd, .ref o2, vI nr]], [cA o1 G.2.1.2.2.1 60 tx], [cA o2 G.2.1.1 3 W]], rfl, rfl, rfl, ?_⟩
    show fSt l G X 0 0 130 [(2, vI (nV tx n (i + 1))), (0, .ref u0), (1, .ref o0)] [vI z_127] ([[cO u0 5 [.ref (b 0), vI od, vI po, vI rs, vI ca]], stW G b c2_127 F2_127, [cO o0 2 [.ref o1, vI n, vI at9, vI kd, .ref o2, vI nr]], [cA o1 G.2.1.2.2.1 60 tx], [cA o2 G.2.1.1 3 W]] : List va_W).flatten
    exact s_iret C E dX5_doOrder_130 ⟨z_127, f2_127, c2_127, F2_127, rfl, rfl, hq0_127, (by rw [caF, if_neg (by omega), if_neg (by omega), if_neg (by omega), if_neg (by omega), if_neg (by omega)]; exact hq1_127)⟩

set_option maxHeartbeats 4000000 in
set_option maxRecDepth 100000 in
theorem c_X5_run (l : Launch) (G : fG) (u0 o0 o1 o2 : Nat) (a b : Nat → Nat) (c cj : Nat → Int) (F Fj : Nat → Int → Int) (B : Int) (f tx W : Int → Int) (n at0 k0 r0 od po rs ca : Int) (hR : RSb f c F) (hI : Inv B f) (hB : B ≤ 1000000000) (hJ : Jb Fj) (hX : rX tx) (hn : 0 ≤ n ∧ n ≤ 60) (hW : rF W) : fCt l G yX5_run wsX5_run 5 117 0 0 [.ref u0, .ref o0, .ref (a 0)] ([[cO u0 5 [.ref (b 0), vI od, vI po, vI rs, vI ca]], stW G b cj Fj, [cO o0 2 [.ref o1, vI n, vI at0, vI k0, .ref o2, vI r0]], [cA o1 G.2.1.2.2.1 60 tx], [cA o2 G.2.1.1 3 W], stW G a c F] : List va_W).flatten (fun (v0 : Option Value) (w0 : va_W) => ∃ (f2 : Int → Int) (c2 : Nat → Int) (F2 : Nat → Int → Int) (W2 : Int → Int) (t2 k2 n2 o9 pp2 rs2 ca2 : Int), v0 = none ∧ w0 = ([[cO u0 5 [.ref (b 0), vI o9, vI pp2, vI rs2, vI ca2]], stW G b c2 F2, [cO o0 2 [.ref o1, vI n, vI t2, vI k2, .ref o2, vI n2]], [cA o1 G.2.1.2.2.1 60 tx], [cA o2 G.2.1.1 3 W2], stW G a c F] : List va_W).flatten ∧ (RSb f2 c2 F2) ∧ (Inv (B + 18300) f2) ∧ (rF W2) ∧ (plR tx n 60 f 0 0 = (decide (rs2 = 0), f2, pp2, rs2, ca2, o9))) := by
  refine fs_met (cc := cX5_run) (nL := 4) (ret := none) (by decide) rfl (Nat.le_of_ble_eq_true rfl) ?_
  intro X C E
  show fSt l G X 0 0 0 [(0, .ref u0), (1, .ref o0), (2, .ref (a 0))] [] ([[cO u0 5 [.ref (b 0), vI od, vI po, vI rs, vI ca]], stW G b cj Fj, [cO o0 2 [.ref o1, vI n, vI at0, vI k0, .ref o2, vI r0]], [cA o1 G.2.1.2.2.1 60 tx], [cA o2 G.2.1.1 3 W], stW G a c F] : List va_W).flatten
  have hinX2 : ∀ w ∈ u_ws RX2 TX2 6, w ∈ wsX5_run := by decide +kernel
  have hinX5 : ∀ w ∈ u_ws RX5 TX5 5, w ∈ wsX5_run := by decide +kernel
  refine s_aload_n 0 C dX5_run_0 rfl 0 rfl ?_
  refine s_get C dX5_run_1 5 rfl hinX5 0 rfl 0 (by decide) (by decide +kernel) rfl ?_
  refine s_aload_n 2 C dX5_run_4 rfl 2 rfl ?_
  refine s_callVP (As := [.ref (a 0)]) (rest := []) (segs := [[cO u0 5 [.ref (b 0), vI od, vI po, vI rs, vI ca]], stW G b cj Fj, [cO o0 2 [.ref o1, vI n, vI at0, vI k0, .ref o2, vI r0]], [cA o1 G.2.1.2.2.1 60 tx], [cA o2 G.2.1.1 3 W], stW G a c F]) C dX5_run_5 (w_X4_copyFrom l G b a c cj F Fj B f (by first | assumption | omega) (by first | assumption | omega) (by first | assumption | omega) (by first | assumption | omega)) gX5_run_X4_copyFrom rfl 1 (by decide +kernel) (by decide) 1 4 rfl rfl rfl [1, 5] [0, 2, 3, 4] rfl rfl rfl (Nat.le_of_ble_eq_true rfl) ⟨Nat.zero_le _, Nat.zero_le _⟩ ?_
  intro v0 w0 hq
  obtain ⟨F2_5, rfl, rfl, hq0_5⟩ := hq
  refine ⟨(fst_k (fst_k (fst_k (fst_k (fst_k (fst_k (fst_k (fst_k (fst_k (fst_k (fst_k (fst_k rfl)))))))))))), [[cO u0 5 [.ref (b 0), vI od, vI po, vI rs, vI ca]], stW G b c F2_5, [cO o0 2 [.ref o1, vI n, vI at0, vI k0, .ref o2, vI r0]], [cA o1 G.2.1.2.2.1 60 tx], [cA o2 G.2.1.1 3 W], stW G a c F], rfl, rfl, rfl, ?_⟩
  show fSt l G X 0 0 8 [(0, .ref u0), (1, .ref o0), (2, .ref (a 0))] [] ([[cO u0 5 [.ref (b 0), vI od, vI po, vI rs, vI ca]], stW G b c F2_5, [cO o0 2 [.ref o1, vI n, vI at0, vI k0, .ref o2, vI r0]], [cA o1 G.2.1.2.2.1 60 tx], [cA o2 G.2.1.1 3 W], stW G a c F] : List va_W).flatten
  refine s_aload_n 0 C dX5_run_8 rfl 0 rfl ?_
  refine s_iconst C dX5_run_9 ?_
  refine s_put ([[cO u0 5 [.ref (b 0), vI od, vI 0, vI rs, vI ca]], stW G b c F2_5, [cO o0 2 [.ref o1, vI n, vI at0, vI k0, .ref o2, vI r0]], [cA o1 G.2.1.2.2.1 60 tx], [cA o2 G.2.1.1 3 W], stW G a c F] : List va_W).flatten C dX5_run_10 5 rfl hinX5 tyX5 tyX5_ok nmX5 0 rfl 2 (by decide) (by decide +kernel) rfl rfl rfl (Nat.le_of_ble_eq_true rfl) rfl ?_
  refine s_aload_n 0 C dX5_run_13 rfl 0 rfl ?_
  refine s_iconst C dX5_run_14 ?_
  refine s_put ([[cO u0 5 [.ref (b 0), vI od, vI 0, vI 0, vI ca]], stW G b c F2_5, [cO o0 2 [.ref o1, vI n, vI at0, vI k0, .ref o2, vI r0]], [cA o1 G.2.1.2.2.1 60 tx], [cA o2 G.2.1.1 3 W], stW G a c F] : List va_W).flatten C dX5_run_15 5 rfl hinX5 tyX5 tyX5_ok nmX5 0 rfl 3 (by decide) (by decide +kernel) rfl rfl rfl (Nat.le_of_ble_eq_true rfl) rfl ?_
  refine s_aload_n 0 C dX5_run_18 rfl 0 rfl ?_
  refine s_iconst C dX5_run_19 ?_
  refine s_put ([[cO u0 5 [.ref (b 0), vI od, vI 0, vI 0, vI 0]], stW G b c F2_5, [cO o0 2 [.ref o1, vI n, vI at0, vI k0, .ref o2, vI r0]], [cA o1 G.2.1.2.2.1 60 tx], [cA o2 G.2.1.1 3 W], stW G a c F] : List va_W).flatten C dX5_run_20 5 rfl hinX5 tyX5 tyX5_ok nmX5 0 rfl 4 (by decide) (by decide +kernel) rfl rfl rfl (Nat.le_of_ble_eq_true rfl) rfl ?_
  refine s_aload_n 0 C dX5_run_23 rfl 0 rfl ?_
  refine s_iconst C dX5_run_24 ?_
  refine s_put ([[cO u0 5 [.ref (b 0), vI 0, vI 0, vI 0, vI 0]], stW G b c F2_5, [cO o0 2 [.ref o1, vI n, vI at0, vI k0, .ref o2, vI r0]], [cA o1 G.2.1.2.2.1 60 tx], [cA o2 G.2.1.1 3 W], stW G a c F] : List va_W).flatten C dX5_run_25 5 rfl hinX5 tyX5 tyX5_ok nmX5 0 rfl 1 (by decide) (by decide +kernel) rfl rfl rfl (Nat.le_of_ble_eq_true rfl) rfl ?_
  have loop_28 : ∀ (fuel : Nat) (f1 : Int → Int) (c1 : Nat → Int) (F1 : Nat → Int → Int) (W1 : Int → Int) (t1 k1 n1 i o : Int), (RSb f1 c1 F1) → (Inv (B + 300 * o) f1) → (0 ≤ o ∧ o ≤ i ∧ i ≤ n ∧ o ≤ 60) → (rF W1) → (plR tx n 60 f 0 0 = plR tx n (60 - o).toNat f1 i o) → (60 - o < (fuel : Int)) → fSt l G X 0 0 28 [(1, .ref o0), (2, .ref (a 0)), (0, .ref u0)] [] ([[cO u0 5 [.ref (b 0), vI o, vI i, vI 0, vI 0]], stW G b c1 F1, [cO o0 2 [.ref o1, vI n, vI t1, vI k1, .ref o2, vI n1]], [cA o1 G.2.1.2.2.1 60 tx], [cA o2 G.2.1.1 3 W1], stW G a c F] : List va_W).flatten := by
    intro fuel
    induction fuel with
    | zero =>
      intro f1 c1 F1 W1 t1 k1 n1 i o hR1 hI1 hio hW1 hPL hm
      exfalso
      omega
    | succ fuel ih_28 =>
      intro f1 c1 F1 W1 t1 k1 n1 i o hR1 hI1 hio hW1 hPL hm
      refine s_aload_n 0 C dX5_run_28 rfl 2 rfl ?_
      refine s_get C dX5_run_29 5 rfl hinX5 0 rfl 1 (by decide) (by decide +kernel) rfl ?_
      refine s_bipush (z := 60) C dX5_run_32 rfl ?_
      refine s_icmp_ge 120 C dX5_run_34 (by decide) (by omega) (by omega) (fun h_34 => ?_) (fun h_34 => ?_)
      · exact s_vret C E dX5_run_120 ⟨f1, c1, F1, W1, t1, k1, n1, o, i, 0, 0, rfl, rfl, hR1, (hI1.mono (by omega)), hW1, ((hPL.trans (plR_end (by omega) _)).trans rfl)⟩
      · refine s_aload_n 0 C dX5_run_37 rfl 2 rfl ?_
        refine s_get C dX5_run_38 5 rfl hinX5 0 rfl 2 (by decide) (by decide +kernel) rfl ?_
        refine s_aload_n 1 C dX5_run_41 rfl 0 rfl ?_
        refine s_get C dX5_run_42 2 rfl hinX2 13 rfl 1 (by decide) (by decide +kernel) rfl ?_
        refine s_icmp_ge 120 C dX5_run_45 (by decide) (by omega) (by omega) (fun h_45 => ?_) (fun h_45 => ?_)
        · exact s_vret C E dX5_run_120 ⟨f1, c1, F1, W1, t1, k1, n1, o, i, 0, 0, rfl, rfl, hR1, (hI1.mono (by omega)), hW1, ((hPL.trans (plR_end (by omega) _)).trans rfl)⟩
        · refine s_aload_n 1 C dX5_run_48 rfl 0 rfl ?_
          refine s_aload_n 0 C dX5_run_49 rfl 2 rfl ?_
          refine s_get C dX5_run_50 5 rfl hinX5 0 rfl 2 (by decide) (by decide +kernel) rfl ?_
          refine s_callVP (As := [vI i]) (rest := []) (segs := [[cO u0 5 [.ref (b 0), vI o, vI i, vI 0, vI 0]], stW G b c1 F1, [cO o0 2 [.ref o1, vI n, vI t1, vI k1, .ref o2, vI n1]], [cA o1 G.2.1.2.2.1 60 tx], [cA o2 G.2.1.1 3 W1], stW G a c F]) C dX5_run_53 (w_X2_readOrder l G o0 o1 o2 n i tx W1 t1 k1 n1 (by first | assumption | omega) (by first | assumption | omega) (by first | assumption | omega) hW1) gX5_run_X2_readOrder rfl 1 (by decide +kernel) (by decide) 13 2 rfl rfl rfl [2, 3, 4] [0, 1, 5] rfl rfl rfl (Nat.le_of_ble_eq_true rfl) ⟨Nat.zero_le _, Nat.zero_le _⟩ ?_
          intro v0 w0 hq
          obtain ⟨z_53, q_53, nr2_53, W2_53, rfl, rfl, hq0_53⟩ := hq
          refine ⟨(fst_k (fst_k (fst_k rfl))), [[cO u0 5 [.ref (b 0), vI o, vI i, vI 0, vI 0]], stW G b c1 F1, [cO o0 2 [.ref o1, vI n, vI q_53, vI (chA tx n i), .ref o2, vI nr2_53]], [cA o1 G.2.1.2.2.1 60 tx], [cA o2 G.2.1.1 3 W2_53], stW G a c F], rfl, rfl, rfl, ?_⟩
          show fSt l G X 0 0 56 [(1, .ref o0), (2, .ref (a 0)), (0, .ref u0)] [vI z_53] ([[cO u0 5 [.ref (b 0), vI o, vI i, vI 0, vI 0]], stW G b c1 F1, [cO o0 2 [.ref o1, vI n, vI q_53, vI (chA tx n i), .ref o2, vI nr2_53]], [cA o1 G.2.1.2.2.1 60 tx], [cA o2 G.2.1.1 3 W2_53], stW G a c F] : List va_W).flatten
          obtain ⟨hq_z, hq_q, hq_nr, hq_W, -⟩ := id hq0_53
          have hra := rdA_in (X := tx) (n := n) (i := i) (by omega)
          have hfu : (60 - o).toNat = (60 - (o + 1)).toNat + 1 := by omega
          refine s_if_ne 78 C dX5_run_56 (by decide) (by rw [hq_z]; exact bI_rng) (fun h_56 => ?_) (fun h_56 => ?_)
          · have hz1 : z_53 = 1 := by rw [hq_z] at h_56 ⊢; rcases bI_01 (p := rdO tx n i = true) with g | g <;> omega
            have hro : rdO tx n i = true := bI_t (by rw [← hq_z]; omega)
            have hra2 := hra.2.2 hro
            refine s_aload_n 0 C dX5_run_78 rfl 2 rfl ?_
            refine s_aload_n 1 C dX5_run_79 rfl 0 rfl ?_
            refine s_callVP (As := [.ref o0]) (rest := []) (segs := [[cO u0 5 [.ref (b 0), vI o, vI i, vI 0, vI 0]], stW G b c1 F1, [cO o0 2 [.ref o1, vI n, vI q_53, vI (chA tx n i), .ref o2, vI nr2_53]], [cA o1 G.2.1.2.2.1 60 tx], [cA o2 G.2.1.1 3 W2_53], stW G a c F]) C dX5_run_80 (c_X5_doOrder l G u0 o0 o1 o2 b c1 F1 (B + 300 * o) i f1 tx W2_53 n q_53 (chA tx n i) nr2_53 o i 0 0 (by first | assumption | omega) (by first | assumption | omega) (by first | assumption | omega) (by first | assumption | omega) (by first | assumption | omega) (by first | assumption | omega) rfl (by rw [hz1] at hq0_53; exact hq0_53)) gX5_run_X5_doOrder rfl 1 (by decide +kernel) (by decide) 0 5 rfl rfl rfl [0, 1, 2, 3, 4] [5] rfl rfl rfl (Nat.le_of_ble_eq_true rfl) ⟨Nat.zero_le _, Nat.zero_le _⟩ ?_
            intro v0 w0 hq
            obtain ⟨z_80, f2_80, c2_80, F2_80, rfl, rfl, hq0_80, hq1_80⟩ := hq
            refine ⟨(fst_f (fst_c rfl (fst_c stW_fst rfl))), [[cO u0 5 [.ref (b 0), vI o, vI i, vI 0, vI 0]], stW G b c2_80 F2_80, [cO o0 2 [.ref o1, vI n, vI q_53, vI (chA tx n i), .ref o2, vI nr2_53]], [cA o1 G.2.1.2.2.1 60 tx], [cA o2 G.2.1.1 3 W2_53], stW G a c F], rfl, rfl, rfl, ?_⟩
            show fSt l G X 0 0 83 [(1, .ref o0), (2, .ref (a 0)), (0, .ref u0)] [vI z_80] ([[cO u0 5 [.ref (b 0), vI o, vI i, vI 0, vI 0]], stW G b c2_80 F2_80, [cO o0 2 [.ref o1, vI n, vI q_53, vI (chA tx n i), .ref o2, vI nr2_53]], [cA o1 G.2.1.2.2.1 60 tx], [cA o2 G.2.1.1 3 W2_53], stW G a c F] : List va_W).flatten
            have hI2 := caF_inv (X := tx) (n := n) (i := i) hI1 (by omega)
            have hzr := caF_rg (X := tx) (n := n) (i := i) hI1 (by omega)
            have e1 : z_80 = (caF tx n f1 i).1 := congrArg Prod.fst hq1_80
            have e2 : f2_80 = (caF tx n f1 i).2 := congrArg Prod.snd hq1_80
            have hIn : Inv (B + 300 * (o + 1)) f2_80 := by rw [e2]; exact hI2.mono (by omega)
            rw [← e1] at hzr
            refine s_istore_n 3 [(3, vI z_80), (1, .ref o0), (2, .ref (a 0)), (0, .ref u0)] C dX5_run_83 rfl (by decide) rfl ?_
            refine s_iload_n 3 C dX5_run_84 rfl 0 rfl ?_
            refine s_if_ge 99 C dX5_run_85 (by decide) (by omega) (fun h_85 => ?_) (fun h_85 => ?_)
            · refine s_aload_n 0 C dX5_run_99 rfl 3 rfl ?_
              refine s_aload_n 1 C dX5_run_100 rfl 1 rfl ?_
              refine s_get C dX5_run_101 2 rfl hinX2 13 rfl 2 (by decide) (by decide +kernel) rfl ?_
              refine s_put ([[cO u0 5 [.ref (b 0), vI o, vI q_53, vI 0, vI 0]], stW G b c2_80 F2_80, [cO o0 2 [.ref o1, vI n, vI q_53, vI (chA tx n i), .ref o2, vI nr2_53]], [cA o1 G.2.1.2.2.1 60 tx], [cA o2 G.2.1.1 3 W2_53], stW G a c F] : List va_W).flatten C dX5_run_104 5 rfl hinX5 tyX5 tyX5_ok nmX5 0 rfl 2 (by decide) (by decide +kernel) rfl rfl rfl (Nat.le_of_ble_eq_true rfl) rfl ?_
              refine s_aload_n 0 C dX5_run_107 rfl 3 rfl ?_
              refine s_dup C dX5_run_108 rfl ?_
              refine s_get C dX5_run_109 5 rfl hinX5 0 rfl 1 (by decide) (by decide +kernel) rfl ?_
              refine s_iconst C dX5_run_112 ?_
              refine s_iadd C dX5_run_113 ?_
              refine s_put ([[cO u0 5 [.ref (b 0), vI (o + 1), vI q_53, vI 0, vI 0]], stW G b c2_80 F2_80, [cO o0 2 [.ref o1, vI n, vI q_53, vI (chA tx n i), .ref o2, vI nr2_53]], [cA o1 G.2.1.2.2.1 60 tx], [cA o2 G.2.1.1 3 W2_53], stW G a c F] : List va_W).flatten C dX5_run_114 5 rfl hinX5 tyX5 tyX5_ok nmX5 0 rfl 1 (by decide) (by decide +kernel) rfl rfl rfl (Nat.le_of_ble_eq_true rfl) rfl ?_
              refine s_goto 28 C dX5_run_117 (by decide) ?_
              refine s_lv [(1, .ref o0), (2, .ref (a 0)), (0, .ref u0)] [1, 2, 3] rfl ?_
              exact ih_28 f2_80 c2_80 F2_80 W2_53 q_53 (chA tx n i) nr2_53 q_53 (o + 1) hq0_80 hIn (by omega) hq_W (hPL.trans (by rw [hfu, plR_go (by omega) hro (by omega), ← e2, ← hq_q])) (by omega)
            · refine s_aload_n 0 C dX5_run_88 rfl 3 rfl ?_
              refine s_iconst C dX5_run_89 ?_
              refine s_put ([[cO u0 5 [.ref (b 0), vI o, vI i, vI 2, vI 0]], stW G b c2_80 F2_80, [cO o0 2 [.ref o1, vI n, vI q_53, vI (chA tx n i), .ref o2, vI nr2_53]], [cA o1 G.2.1.2.2.1 60 tx], [cA o2 G.2.1.1 3 W2_53], stW G a c F] : List va_W).flatten C dX5_run_90 5 rfl hinX5 tyX5 tyX5_ok nmX5 0 rfl 3 (by decide) (by decide +kernel) rfl rfl rfl (Nat.le_of_ble_eq_true rfl) rfl ?_
              refine s_aload_n 0 C dX5_run_93 rfl 3 rfl ?_
              refine s_iload_n 3 C dX5_run_94 rfl 0 rfl ?_
              refine s_put ([[cO u0 5 [.ref (b 0), vI o, vI i, vI 2, vI z_80]], stW G b c2_80 F2_80, [cO o0 2 [.ref o1, vI n, vI q_53, vI (chA tx n i), .ref o2, vI nr2_53]], [cA o1 G.2.1.2.2.1 60 tx], [cA o2 G.2.1.1 3 W2_53], stW G a c F] : List va_W).flatten C dX5_run_95 5 rfl hinX5 tyX5 tyX5_ok nmX5 0 rfl 4 (by decide) (by decide +kernel) rfl rfl rfl (Nat.le_of_ble_eq_true rfl) rfl ?_
              exact s_vret C E dX5_run_98 ⟨f2_80, c2_80, F2_80, W2_53, q_53, (chA tx n i), nr2_53, o, i, 2, z_80, rfl, rfl, hq0_80, (hIn.mono (by omega)), hq_W, (hPL.trans (by rw [hfu, plR_ref (by omega) hro (by omega), ← e1, ← e2] <;> rfl))⟩
          · have hro0 : rdO tx n i = false := by simpa using bI_f (hq_z.symm.trans h_56)
            refine s_aload_n 0 C dX5_run_59 rfl 2 rfl ?_
            refine s_iconst C dX5_run_60 ?_
            refine s_put ([[cO u0 5 [.ref (b 0), vI o, vI i, vI 1, vI 0]], stW G b c1 F1, [cO o0 2 [.ref o1, vI n, vI q_53, vI (chA tx n i), .ref o2, vI nr2_53]], [cA o1 G.2.1.2.2.1 60 tx], [cA o2 G.2.1.1 3 W2_53], stW G a c F] : List va_W).flatten C dX5_run_61 5 rfl hinX5 tyX5 tyX5_ok nmX5 0 rfl 3 (by decide) (by decide +kernel) rfl rfl rfl (Nat.le_of_ble_eq_true rfl) rfl ?_
            refine s_aload_n 0 C dX5_run_64 rfl 2 rfl ?_
            refine s_aload_n 1 C dX5_run_65 rfl 0 rfl ?_
            refine s_get C dX5_run_66 2 rfl hinX2 13 rfl 2 (by decide) (by decide +kernel) rfl ?_
            refine s_aload_n 0 C dX5_run_69 rfl 2 rfl ?_
            refine s_get C dX5_run_70 5 rfl hinX5 0 rfl 2 (by decide) (by decide +kernel) rfl ?_
            refine s_isub C dX5_run_73 ?_
            refine s_put ([[cO u0 5 [.ref (b 0), vI o, vI i, vI 1, vI (q_53 - i)]], stW G b c1 F1, [cO o0 2 [.ref o1, vI n, vI q_53, vI (chA tx n i), .ref o2, vI nr2_53]], [cA o1 G.2.1.2.2.1 60 tx], [cA o2 G.2.1.1 3 W2_53], stW G a c F] : List va_W).flatten C dX5_run_74 5 rfl hinX5 tyX5 tyX5_ok nmX5 0 rfl 4 (by decide) (by decide +kernel) rfl rfl rfl (Nat.le_of_ble_eq_true rfl) rfl ?_
            exact s_vret C E dX5_run_77 ⟨f1, c1, F1, W2_53, q_53, (chA tx n i), nr2_53, o, i, 1, (q_53 - i), rfl, rfl, hR1, (hI1.mono (by omega)), hq_W, (hPL.trans (by rw [hfu, plR_form (by omega) hro0, ← hq_q] <;> rfl))⟩
  refine s_lv [(1, .ref o0), (2, .ref (a 0)), (0, .ref u0)] [1, 2, 0] rfl ?_
  exact loop_28 (60 - 0 + 1 : Int).toNat f c F2_5 W at0 k0 r0 0 0 hq0_5 (hI.mono (by omega)) (by omega) hW rfl (by omega)

set_option maxHeartbeats 4000000 in
set_option maxRecDepth 100000 in
theorem c_X7_calls (l : Launch) (G : fG) (m0 m1 m2 m3 m4 m5 : Nat) (f P tx W : Int → Int) (B ps n i q9 fr rs ca os od : Int) (hI : Inv B f) (hB : B ≤ 1073000000) (hps : 0 ≤ ps ∧ ps ≤ 4) (hX : rX tx) (hn : 0 ≤ n ∧ n ≤ 60) (hi : 0 ≤ i ∧ i < n) (hod : od = chA tx n i) (hRO : RO tx n i 1 q9 3 W) : fCt l G yX7_calls wsX7_calls 4 87 0 0 [.ref m0] [cO m0 7 [.ref m1, .ref m2, .ref m3, vI ps, vI 1, .ref m4, vI n, vI q9, vI fr, vI rs, vI ca, vI os, vI od, .ref m5], cA m1 G.2.1.1 718 f, cA m2 G.2.1.1 2872 P, cA m5 G.2.1.1 3 W] (fun (v0 : Option Value) (w0 : va_W) => ∃ (z : Int) (f2 P2 : Int → Int) (ps2 : Int), v0 = some (vI z) ∧ w0 = [cO m0 7 [.ref m1, .ref m2, .ref m3, vI ps2, vI 1, .ref m4, vI n, vI q9, vI fr, vI rs, vI ca, vI os, vI od, .ref m5], cA m1 G.2.1.1 718 f2, cA m2 G.2.1.1 2872 P2, cA m5 G.2.1.1 3 W] ∧ ((z, f2) = caF tx n f i) ∧ (P = P2) ∧ (ps = ps2)) := by
  refine fs_met (cc := cX7_calls) (nL := 1) (ret := (some .int)) (by decide) rfl (Nat.le_of_ble_eq_true rfl) ?_
  intro X C E
  show fSt l G X 0 0 0 [(0, .ref m0)] [] [cO m0 7 [.ref m1, .ref m2, .ref m3, vI ps, vI 1, .ref m4, vI n, vI q9, vI fr, vI rs, vI ca, vI os, vI od, .ref m5], cA m1 G.2.1.1 718 f, cA m2 G.2.1.1 2872 P, cA m5 G.2.1.1 3 W]
  have hinX7 : ∀ w ∈ u_ws RX7 TX7 14, w ∈ wsX7_calls := by decide +kernel
  have hf := hI.rf
  have hnn := hI.n
  have htr := hI.tr
  have hcp := chA_rg (X := tx) (n := n) (i := i) hX
  have hro : rdO tx n i = true := RO_1 hRO
  obtain ⟨-, -, hnr, hW, hRV⟩ := hRO
  obtain ⟨⟨hA1, hA2⟩, hB1, hC1⟩ := hRV hro
  have hv1 := nV_in (X := tx) (n := n) (i := i + 1) (by omega)
  refine s_aload_n 0 C dX7_calls_0 rfl 0 rfl ?_
  refine s_get C dX7_calls_1 7 rfl hinX7 0 rfl 12 (by decide) (by decide +kernel) rfl ?_
  rcases (by omega : od = 97 ∨ od = 99 ∨ od = 111 ∨ od = 112 ∨ od = 115 ∨ (od ≠ 97 ∧ od ≠ 99 ∧ od ≠ 111 ∧ od ≠ 112 ∧ od ≠ 115)) with h_4 | h_4 | h_4 | h_4 | h_4 | h_4
  · refine s_look 78 (off := 74) C dX7_calls_4 (by decide) (by omega) (by rw [h_4]; rfl) (by decide) ?_
    refine s_aload_n 0 C dX7_calls_78 rfl 0 rfl ?_
    refine s_aload_n 0 C dX7_calls_79 rfl 0 rfl ?_
    refine s_get C dX7_calls_80 7 rfl hinX7 0 rfl 13 (by decide) (by decide +kernel) rfl ?_
    refine s_iconst C dX7_calls_83 ?_
    refine s_iald C dX7_calls_84 3 rfl 0 rfl (by omega) (by omega) (by omega) ?_
    refine s_top (nV tx n (i + 1)) (hA2) ?_
    refine s_callV (As := [vI (nV tx n (i + 1))]) (rest := []) C dX7_calls_85 (c_X7_abort l G m0 m1 m2 (.ref m3) [.ref m4, vI n, vI q9, vI fr, vI rs, vI ca, vI os, vI od, .ref m5] f P ps 1 (nV tx n (i + 1)) (by first | assumption | omega) (Or.inr rfl) hf (by first | assumption | omega) (by first | assumption | omega)) gX7_calls_X7_abort rfl 1 (by decide +kernel) (by decide) 0 7 rfl rfl rfl [0, 1, 2] rfl (by decide) rfl (Nat.le_of_ble_eq_true rfl) ⟨Nat.zero_le _, Nat.zero_le _⟩ ?_
    intro v0 w0 hq
    obtain ⟨z_85, f2_85, P2_85, ps2_85, rfl, rfl, hq0_85, hq1_85, hq2_85⟩ := hq
    refine ⟨(fst_k (fst_k (fst_k rfl))), ?_⟩
    show fSt l G X 0 0 88 [(0, .ref m0)] [vI z_85] [cO m0 7 [.ref m1, .ref m2, .ref m3, vI ps2_85, vI 1, .ref m4, vI n, vI q9, vI fr, vI rs, vI ca, vI os, vI od, .ref m5], cA m1 G.2.1.1 718 f2_85, cA m2 G.2.1.1 2872 P2_85, cA m5 G.2.1.1 3 W]
    exact s_iret C E dX7_calls_88 ⟨z_85, f2_85, P2_85, ps2_85, rfl, rfl, (by rw [caF, if_neg (by omega), if_neg (by omega), if_pos (by omega)]; exact hq0_85), (hq1_85.trans chP_1).symm, (hq2_85.trans chN_1).symm⟩
  · refine s_look 67 (off := 63) C dX7_calls_4 (by decide) (by omega) (by rw [h_4]; rfl) (by decide) ?_
    refine s_aload_n 0 C dX7_calls_67 rfl 0 rfl ?_
    refine s_aload_n 0 C dX7_calls_68 rfl 0 rfl ?_
    refine s_get C dX7_calls_69 7 rfl hinX7 0 rfl 13 (by decide) (by decide +kernel) rfl ?_
    refine s_iconst C dX7_calls_72 ?_
    refine s_iald C dX7_calls_73 3 rfl 0 rfl (by omega) (by omega) (by omega) ?_
    refine s_top (nV tx n (i + 1)) (hA2) ?_
    refine s_callV (As := [vI (nV tx n (i + 1))]) (rest := []) C dX7_calls_74 (c_X7_commit l G m0 m1 m2 (.ref m3) [.ref m4, vI n, vI q9, vI fr, vI rs, vI ca, vI os, vI od, .ref m5] f P ps 1 (nV tx n (i + 1)) (by first | assumption | omega) (Or.inr rfl) hf (by first | assumption | omega) (by first | assumption | omega)) gX7_calls_X7_commit rfl 1 (by decide +kernel) (by decide) 0 7 rfl rfl rfl [0, 1, 2] rfl (by decide) rfl (Nat.le_of_ble_eq_true rfl) ⟨Nat.zero_le _, Nat.zero_le _⟩ ?_
    intro v0 w0 hq
    obtain ⟨z_74, f2_74, P2_74, ps2_74, rfl, rfl, hq0_74, hq1_74, hq2_74⟩ := hq
    refine ⟨(fst_k (fst_k (fst_k rfl))), ?_⟩
    show fSt l G X 0 0 77 [(0, .ref m0)] [vI z_74] [cO m0 7 [.ref m1, .ref m2, .ref m3, vI ps2_74, vI 1, .ref m4, vI n, vI q9, vI fr, vI rs, vI ca, vI os, vI od, .ref m5], cA m1 G.2.1.1 718 f2_74, cA m2 G.2.1.1 2872 P2_74, cA m5 G.2.1.1 3 W]
    exact s_iret C E dX7_calls_77 ⟨z_74, f2_74, P2_74, ps2_74, rfl, rfl, (by rw [caF, if_neg (by omega), if_pos (by omega)]; exact hq0_74), (hq1_74.trans chP_1).symm, (hq2_74.trans chN_1).symm⟩
  · refine s_look 56 (off := 52) C dX7_calls_4 (by decide) (by omega) (by rw [h_4]; rfl) (by decide) ?_
    refine s_aload_n 0 C dX7_calls_56 rfl 0 rfl ?_
    refine s_aload_n 0 C dX7_calls_57 rfl 0 rfl ?_
    refine s_get C dX7_calls_58 7 rfl hinX7 0 rfl 13 (by decide) (by decide +kernel) rfl ?_
    refine s_iconst C dX7_calls_61 ?_
    refine s_iald C dX7_calls_62 3 rfl 0 rfl (by omega) (by omega) (by omega) ?_
    refine s_top (nV tx n (i + 1)) (hA2) ?_
    refine s_callV (As := [vI (nV tx n (i + 1))]) (rest := []) C dX7_calls_63 (c_X7_open l G m0 m1 m2 (.ref m3) [.ref m4, vI n, vI q9, vI fr, vI rs, vI ca, vI os, vI od, .ref m5] f P ps 1 (nV tx n (i + 1)) (by first | assumption | omega) (Or.inr rfl) hf (by first | assumption | omega) (by first | assumption | omega)) gX7_calls_X7_open rfl 1 (by decide +kernel) (by decide) 0 7 rfl rfl rfl [0, 1, 2] rfl (by decide) rfl (Nat.le_of_ble_eq_true rfl) ⟨Nat.zero_le _, Nat.zero_le _⟩ ?_
    intro v0 w0 hq
    obtain ⟨z_63, f2_63, P2_63, ps2_63, rfl, rfl, hq0_63, hq1_63, hq2_63⟩ := hq
    refine ⟨(fst_k (fst_k (fst_k rfl))), ?_⟩
    show fSt l G X 0 0 66 [(0, .ref m0)] [vI z_63] [cO m0 7 [.ref m1, .ref m2, .ref m3, vI ps2_63, vI 1, .ref m4, vI n, vI q9, vI fr, vI rs, vI ca, vI os, vI od, .ref m5], cA m1 G.2.1.1 718 f2_63, cA m2 G.2.1.1 2872 P2_63, cA m5 G.2.1.1 3 W]
    exact s_iret C E dX7_calls_66 ⟨z_63, f2_63, P2_63, ps2_63, rfl, rfl, (by rw [caF, if_pos (by omega)]; exact hq0_63), (hq1_63.trans chP_1).symm, (hq2_63.trans chN_1).symm⟩
  · refine s_look 89 (off := 85) C dX7_calls_4 (by decide) (by omega) (by rw [h_4]; rfl) (by decide) ?_
    have hfm := fmN_3 (kd := chA tx n i) (by omega)
    have hB2 := hB1 (by omega)
    have hC2 := hC1 hfm
    have hp2 := p2_in (X := tx) (n := n) (i := i) (by omega)
    have hv2 := nV_in (X := tx) (n := n) (i := p2 tx n i) (by omega)
    have hp3 := p3_in (X := tx) (n := n) (i := i) (by omega)
    have hv3 := nV_in (X := tx) (n := n) (i := p3 tx n i) (by omega)
    refine s_aload_n 0 C dX7_calls_89 rfl 0 rfl ?_
    refine s_aload_n 0 C dX7_calls_90 rfl 0 rfl ?_
    refine s_get C dX7_calls_91 7 rfl hinX7 0 rfl 13 (by decide) (by decide +kernel) rfl ?_
    refine s_iconst C dX7_calls_94 ?_
    refine s_iald C dX7_calls_95 3 rfl 0 rfl (by omega) (by omega) (by omega) ?_
    refine s_top (nV tx n (i + 1)) (hA2) ?_
    refine s_aload_n 0 C dX7_calls_96 rfl 0 rfl ?_
    refine s_get C dX7_calls_97 7 rfl hinX7 0 rfl 13 (by decide) (by decide +kernel) rfl ?_
    refine s_iconst C dX7_calls_100 ?_
    refine s_iald C dX7_calls_101 3 rfl 1 rfl (by omega) (by omega) (by omega) ?_
    refine s_top (nV tx n (p2 tx n i)) (hB2.2) ?_
    refine s_aload_n 0 C dX7_calls_102 rfl 0 rfl ?_
    refine s_get C dX7_calls_103 7 rfl hinX7 0 rfl 13 (by decide) (by decide +kernel) rfl ?_
    refine s_iconst C dX7_calls_106 ?_
    refine s_iald C dX7_calls_107 3 rfl 2 rfl (by omega) (by omega) (by omega) ?_
    refine s_top (nV tx n (p3 tx n i)) (hC2.2) ?_
    refine s_callV (As := [vI (nV tx n (i + 1)), vI (nV tx n (p2 tx n i)), vI (nV tx n (p3 tx n i))]) (rest := []) C dX7_calls_108 (c_X7_put l G m0 m1 m2 (.ref m3) [.ref m4, vI n, vI q9, vI fr, vI rs, vI ca, vI os, vI od, .ref m5] f P ps 1 (nV tx n (i + 1)) (nV tx n (p2 tx n i)) (nV tx n (p3 tx n i)) (by first | assumption | omega) (Or.inr rfl) hf (by first | assumption | omega) (by first | assumption | omega) (by first | assumption | omega) (by first | assumption | omega)) gX7_calls_X7_put rfl 3 (by decide +kernel) (by decide) 0 7 rfl rfl rfl [0, 1, 2] rfl (by decide) rfl (Nat.le_of_ble_eq_true rfl) ⟨Nat.zero_le _, Nat.zero_le _⟩ ?_
    intro v0 w0 hq
    obtain ⟨z_108, f2_108, P2_108, ps2_108, rfl, rfl, hq0_108, hq1_108, hq2_108⟩ := hq
    refine ⟨(fst_k (fst_k (fst_k rfl))), ?_⟩
    show fSt l G X 0 0 111 [(0, .ref m0)] [vI z_108] [cO m0 7 [.ref m1, .ref m2, .ref m3, vI ps2_108, vI 1, .ref m4, vI n, vI q9, vI fr, vI rs, vI ca, vI os, vI od, .ref m5], cA m1 G.2.1.1 718 f2_108, cA m2 G.2.1.1 2872 P2_108, cA m5 G.2.1.1 3 W]
    exact s_iret C E dX7_calls_111 ⟨z_108, f2_108, P2_108, ps2_108, rfl, rfl, (by rw [caF, if_neg (by omega), if_neg (by omega), if_neg (by omega), if_pos (by omega)]; exact hq0_108), (hq1_108.trans chP_1).symm, (hq2_108.trans chN_1).symm⟩
  · refine s_look 112 (off := 108) C dX7_calls_4 (by decide) (by omega) (by rw [h_4]; rfl) (by decide) ?_
    have hfm := fmN_2 (kd := chA tx n i) (by omega)
    have hB2 := hB1 (by omega)
    have hp2 := p2_in (X := tx) (n := n) (i := i) (by omega)
    have hv2 := nV_in (X := tx) (n := n) (i := p2 tx n i) (by omega)
    refine s_aload_n 0 C dX7_calls_112 rfl 0 rfl ?_
    refine s_aload_n 0 C dX7_calls_113 rfl 0 rfl ?_
    refine s_get C dX7_calls_114 7 rfl hinX7 0 rfl 13 (by decide) (by decide +kernel) rfl ?_
    refine s_iconst C dX7_calls_117 ?_
    refine s_iald C dX7_calls_118 3 rfl 0 rfl (by omega) (by omega) (by omega) ?_
    refine s_top (nV tx n (i + 1)) (hA2) ?_
    refine s_aload_n 0 C dX7_calls_119 rfl 0 rfl ?_
    refine s_get C dX7_calls_120 7 rfl hinX7 0 rfl 13 (by decide) (by decide +kernel) rfl ?_
    refine s_iconst C dX7_calls_123 ?_
    refine s_iald C dX7_calls_124 3 rfl 1 rfl (by omega) (by omega) (by omega) ?_
    refine s_top (nV tx n (p2 tx n i)) (hB2.2) ?_
    refine s_callV (As := [vI (nV tx n (i + 1)), vI (nV tx n (p2 tx n i))]) (rest := []) C dX7_calls_125 (c_X7_ship l G B m0 m1 m2 (.ref m3) [.ref m4, vI n, vI q9, vI fr, vI rs, vI ca, vI os, vI od, .ref m5] f P ps 1 (nV tx n (i + 1)) (nV tx n (p2 tx n i)) (by first | assumption | omega) (Or.inr rfl) hI (by first | assumption | omega) (by first | assumption | omega) (by first | assumption | omega)) gX7_calls_X7_ship rfl 2 (by decide +kernel) (by decide) 0 7 rfl rfl rfl [0, 1, 2] rfl (by decide) rfl (Nat.le_of_ble_eq_true rfl) ⟨Nat.zero_le _, Nat.zero_le _⟩ ?_
    intro v0 w0 hq
    obtain ⟨z_125, f2_125, P2_125, ps2_125, rfl, rfl, hq0_125, hq1_125, hq2_125⟩ := hq
    refine ⟨(fst_k (fst_k (fst_k rfl))), ?_⟩
    show fSt l G X 0 0 128 [(0, .ref m0)] [vI z_125] [cO m0 7 [.ref m1, .ref m2, .ref m3, vI ps2_125, vI 1, .ref m4, vI n, vI q9, vI fr, vI rs, vI ca, vI os, vI od, .ref m5], cA m1 G.2.1.1 718 f2_125, cA m2 G.2.1.1 2872 P2_125, cA m5 G.2.1.1 3 W]
    exact s_iret C E dX7_calls_128 ⟨z_125, f2_125, P2_125, ps2_125, rfl, rfl, (by rw [caF, if_neg (by omega), if_neg (by omega), if_neg (by omega), if_neg (by omega), if_pos (by omega)]; exact hq0_125), (hq1_125.trans chP_1).symm, (hq2_125.trans chN_1).symm⟩
  · refine s_look 129 (off := 125) C dX7_calls_4 (by decide) (by omega) (lk_none (l := [(97, 74), (99, 63), (111, 52), (112, 85), (115, 108)]) (by simp only [List.all_cons, List.all_nil, Bool.and_true, Bool.and_eq_true, bne_iff_ne, ne_eq]; omega)) (by decide) ?_
    refine s_aload_n 0 C dX7_calls_129 rfl 0 rfl ?_
    refine s_aload_n 0 C dX7_calls_130 rfl 0 rfl ?_
    refine s_get C dX7_calls_131 7 rfl hinX7 0 rfl 13 (by decide) (by decide +kernel) rfl ?_
    refine s_iconst C dX7_calls_134 ?_
    refine s_iald C dX7_calls_135 3 rfl 0 rfl (by omega) (by omega) (by omega) ?_
    refine s_top (nV tx n (i + 1)) (hA2) ?_
    refine s_callV (As := [vI (nV tx n (i + 1))]) (rest := []) C dX7_calls_136 (c_X7_tick l G B m0 m1 m2 (.ref m3) [.ref m4, vI n, vI q9, vI fr, vI rs, vI ca, vI os, vI od, .ref m5] f P ps 1 (nV tx n (i + 1)) (by first | assumption | omega) (Or.inr rfl) hI (by first | assumption | omega) (by first | assumption | omega)) gX7_calls_X7_tick rfl 1 (by decide +kernel) (by decide) 0 7 rfl rfl rfl [0, 1, 2] rfl (by decide) rfl (Nat.le_of_ble_eq_true rfl) ⟨Nat.zero_le _, Nat.zero_le _⟩ ?_
    intro v0 w0 hq
    obtain ⟨z_136, f2_136, P2_136, ps2_136, rfl, rfl, hq0_136, hq1_136, hq2_136⟩ := hq
    refine ⟨(fst_k (fst_k (fst_k rfl))), ?_⟩
    show fSt l G X 0 0 139 [(0, .ref m0)] [vI z_136] [cO m0 7 [.ref m1, .ref m2, .ref m3, vI ps2_136, vI 1, .ref m4, vI n, vI q9, vI fr, vI rs, vI ca, vI os, vI od, .ref m5], cA m1 G.2.1.1 718 f2_136, cA m2 G.2.1.1 2872 P2_136, cA m5 G.2.1.1 3 W]
    exact s_iret C E dX7_calls_139 ⟨z_136, f2_136, P2_136, ps2_136, rfl, rfl, (by rw [caF, if_neg (by omega), if_neg (by omega), if_neg (by omega), if_neg (by omega), if_neg (by omega)]; exact hq0_136), (hq1_136.trans chP_1).symm, (hq2_136.trans chN_1).symm⟩

set_option maxHeartbeats 4000000 in
set_option maxRecDepth 100000 in
theorem c_X7_plays (l : Launch) (G : fG) (m0 m1 m2 m3 m4 m5 : Nat) (f P tx W : Int → Int) (B ps rn n i0 fr rs ca os od : Int) (hI : Inv B f) (hB : B ≤ 1000000000) (hps : 0 ≤ ps ∧ ps ≤ 4) (hX : rX tx) (hn : 0 ≤ n ∧ n ≤ 60) (hW : rF W) : fCt l G yX7_plays wsX7_plays 5 107 0 0 [.ref m0] [cO m0 7 [.ref m1, .ref m2, .ref m3, vI ps, vI rn, .ref m4, vI n, vI i0, vI fr, vI rs, vI ca, vI os, vI od, .ref m5], cA m1 G.2.1.1 718 f, cA m2 G.2.1.1 2872 P, cA m4 G.2.1.1 60 tx, cA m5 G.2.1.1 3 W] (fun (v0 : Option Value) (w0 : va_W) => ∃ (z q fr2 rs2 ca2 o9 od2 : Int) (f2 W2 : Int → Int), v0 = some (vI z) ∧ w0 = [cO m0 7 [.ref m1, .ref m2, .ref m3, vI ps, vI 0, .ref m4, vI n, vI q, vI fr2, vI rs2, vI ca2, vI o9, vI od2, .ref m5], cA m1 G.2.1.1 718 f2, cA m2 G.2.1.1 2872 P, cA m4 G.2.1.1 60 tx, cA m5 G.2.1.1 3 W2] ∧ (rF W2) ∧ (Inv (B + 18300) f2) ∧ ((z = 1 ∧ plR tx n 60 f 0 0 = (true, f2, q, 0, 0, o9)) ∨ (z = 0 ∧ plR tx n 60 f 0 0 = (false, f2, fr2, rs2, ca2, o9 - 1))) ∧ (0 ≤ q ∧ q ≤ n)) := by
  refine fs_met (cc := cX7_plays) (nL := 4) (ret := (some .boolean)) (by decide) rfl (Nat.le_of_ble_eq_true rfl) ?_
  intro X C E
  show fSt l G X 0 0 0 [(0, .ref m0)] [] [cO m0 7 [.ref m1, .ref m2, .ref m3, vI ps, vI rn, .ref m4, vI n, vI i0, vI fr, vI rs, vI ca, vI os, vI od, .ref m5], cA m1 G.2.1.1 718 f, cA m2 G.2.1.1 2872 P, cA m4 G.2.1.1 60 tx, cA m5 G.2.1.1 3 W]
  have hinX7 : ∀ w ∈ u_ws RX7 TX7 14, w ∈ wsX7_plays := by decide +kernel
  refine s_aload_n 0 C dX7_plays_0 rfl 0 rfl ?_
  refine s_iconst C dX7_plays_1 ?_
  refine s_put [cO m0 7 [.ref m1, .ref m2, .ref m3, vI ps, vI 1, .ref m4, vI n, vI i0, vI fr, vI rs, vI ca, vI os, vI od, .ref m5], cA m1 G.2.1.1 718 f, cA m2 G.2.1.1 2872 P, cA m4 G.2.1.1 60 tx, cA m5 G.2.1.1 3 W] C dX7_plays_2 7 rfl hinX7 tyX7 tyX7_ok nmX7 0 rfl 4 (by decide) (by decide +kernel) rfl rfl rfl (Nat.le_of_ble_eq_true rfl) rfl ?_
  refine s_aload_n 0 C dX7_plays_5 rfl 0 rfl ?_
  refine s_iconst C dX7_plays_6 ?_
  refine s_put [cO m0 7 [.ref m1, .ref m2, .ref m3, vI ps, vI 1, .ref m4, vI n, vI 0, vI fr, vI rs, vI ca, vI os, vI od, .ref m5], cA m1 G.2.1.1 718 f, cA m2 G.2.1.1 2872 P, cA m4 G.2.1.1 60 tx, cA m5 G.2.1.1 3 W] C dX7_plays_7 7 rfl hinX7 tyX7 tyX7_ok nmX7 0 rfl 7 (by decide) (by decide +kernel) rfl rfl rfl (Nat.le_of_ble_eq_true rfl) rfl ?_
  refine s_aload_n 0 C dX7_plays_10 rfl 0 rfl ?_
  refine s_iconst C dX7_plays_11 ?_
  refine s_put [cO m0 7 [.ref m1, .ref m2, .ref m3, vI ps, vI 1, .ref m4, vI n, vI 0, vI 0, vI rs, vI ca, vI os, vI od, .ref m5], cA m1 G.2.1.1 718 f, cA m2 G.2.1.1 2872 P, cA m4 G.2.1.1 60 tx, cA m5 G.2.1.1 3 W] C dX7_plays_12 7 rfl hinX7 tyX7 tyX7_ok nmX7 0 rfl 8 (by decide) (by decide +kernel) rfl rfl rfl (Nat.le_of_ble_eq_true rfl) rfl ?_
  refine s_aload_n 0 C dX7_plays_15 rfl 0 rfl ?_
  refine s_iconst C dX7_plays_16 ?_
  refine s_put [cO m0 7 [.ref m1, .ref m2, .ref m3, vI ps, vI 1, .ref m4, vI n, vI 0, vI 0, vI rs, vI ca, vI 0, vI od, .ref m5], cA m1 G.2.1.1 718 f, cA m2 G.2.1.1 2872 P, cA m4 G.2.1.1 60 tx, cA m5 G.2.1.1 3 W] C dX7_plays_17 7 rfl hinX7 tyX7 tyX7_ok nmX7 0 rfl 11 (by decide) (by decide +kernel) rfl rfl rfl (Nat.le_of_ble_eq_true rfl) rfl ?_
  refine s_iconst C dX7_plays_20 ?_
  refine s_istore_n 1 [(1, vI 1), (0, .ref m0)] C dX7_plays_21 rfl (by decide) rfl ?_
  have loop_22 : ∀ (fuel : Nat) (f1 W1 : Int → Int) (sv i fr1 rs1 ca1 o od1 : Int), (rF W1) → (Inv (B + 300 * o) f1) → (0 ≤ i ∧ i ≤ n ∧ 0 ≤ o ∧ o ≤ 61) → ((sv = 1 ∧ o ≤ i ∧ plR tx n 60 f 0 0 = plR tx n (60 - o).toNat f1 i o) ∨ (sv = 0 ∧ plR tx n 60 f 0 0 = (false, f1, fr1, rs1, ca1, o - 1))) → (61 - o < (fuel : Int)) → fSt l G X 0 0 22 [(1, vI sv), (0, .ref m0)] [] [cO m0 7 [.ref m1, .ref m2, .ref m3, vI ps, vI 1, .ref m4, vI n, vI i, vI fr1, vI rs1, vI ca1, vI o, vI od1, .ref m5], cA m1 G.2.1.1 718 f1, cA m2 G.2.1.1 2872 P, cA m4 G.2.1.1 60 tx, cA m5 G.2.1.1 3 W1] := by
    intro fuel
    induction fuel with
    | zero =>
      intro f1 W1 sv i fr1 rs1 ca1 o od1 hW1 hI1 hio hcase hm
      exfalso
      omega
    | succ fuel ih_22 =>
      intro f1 W1 sv i fr1 rs1 ca1 o od1 hW1 hI1 hio hcase hm
      refine s_aload_n 0 C dX7_plays_22 rfl 1 rfl ?_
      refine s_get C dX7_plays_23 7 rfl hinX7 0 rfl 7 (by decide) (by decide +kernel) rfl ?_
      refine s_aload_n 0 C dX7_plays_26 rfl 1 rfl ?_
      refine s_get C dX7_plays_27 7 rfl hinX7 0 rfl 6 (by decide) (by decide +kernel) rfl ?_
      refine s_icmp_ge 124 C dX7_plays_30 (by decide) (by omega) (by omega) (fun h_30 => ?_) (fun h_30 => ?_)
      · refine s_aload_n 0 C dX7_plays_124 rfl 1 rfl ?_
        refine s_iconst C dX7_plays_125 ?_
        refine s_put [cO m0 7 [.ref m1, .ref m2, .ref m3, vI ps, vI 0, .ref m4, vI n, vI i, vI fr1, vI rs1, vI ca1, vI o, vI od1, .ref m5], cA m1 G.2.1.1 718 f1, cA m2 G.2.1.1 2872 P, cA m4 G.2.1.1 60 tx, cA m5 G.2.1.1 3 W1] C dX7_plays_126 7 rfl hinX7 tyX7 tyX7_ok nmX7 0 rfl 4 (by decide) (by decide +kernel) rfl rfl rfl (Nat.le_of_ble_eq_true rfl) rfl ?_
        refine s_iload_n 1 C dX7_plays_129 rfl 0 rfl ?_
        exact s_zret C E dX7_plays_130 (narB (by rcases hcase with ⟨g1, -, -⟩ | ⟨g1, -⟩ <;> omega)) ⟨sv, i, fr1, rs1, ca1, o, od1, f1, W1, rfl, rfl, hW1, (hI1.mono (by omega)), (by rcases hcase with ⟨g1, -, g3⟩ | g; (· exact Or.inl ⟨g1, g3.trans (plR_end (by omega) _)⟩); (· exact Or.inr g)), (by omega)⟩
      · refine s_iload_n 1 C dX7_plays_33 rfl 0 rfl ?_
        refine s_if_eq 124 C dX7_plays_34 (by decide) (by rcases hcase with ⟨g1, -, -⟩ | ⟨g1, -⟩ <;> omega) (fun h_34 => ?_) (fun h_34 => ?_)
        · refine s_aload_n 0 C dX7_plays_124 rfl 1 rfl ?_
          refine s_iconst C dX7_plays_125 ?_
          refine s_put [cO m0 7 [.ref m1, .ref m2, .ref m3, vI ps, vI 0, .ref m4, vI n, vI i, vI fr1, vI rs1, vI ca1, vI o, vI od1, .ref m5], cA m1 G.2.1.1 718 f1, cA m2 G.2.1.1 2872 P, cA m4 G.2.1.1 60 tx, cA m5 G.2.1.1 3 W1] C dX7_plays_126 7 rfl hinX7 tyX7 tyX7_ok nmX7 0 rfl 4 (by decide) (by decide +kernel) rfl rfl rfl (Nat.le_of_ble_eq_true rfl) rfl ?_
          refine s_iload_n 1 C dX7_plays_129 rfl 0 rfl ?_
          exact s_zret C E dX7_plays_130 (narB (by rcases hcase with ⟨g1, -, -⟩ | ⟨g1, -⟩ <;> omega)) ⟨sv, i, fr1, rs1, ca1, o, od1, f1, W1, rfl, rfl, hW1, (hI1.mono (by omega)), (by rcases hcase with ⟨g1, -, g3⟩ | g; (· exact Or.inl ⟨g1, g3.trans (plR_end (by omega) _)⟩); (· exact Or.inr g)), (by omega)⟩
        · obtain ⟨hs1, hoi, hPL⟩ : sv = 1 ∧ o ≤ i ∧ plR tx n 60 f 0 0 = plR tx n (60 - o).toNat f1 i o := by rcases hcase with g | ⟨g1, -⟩; (· exact g); (· exfalso; omega)
          have hfu : (60 - o).toNat = (60 - (o + 1)).toNat + 1 := by omega
          refine s_aload_n 0 C dX7_plays_37 rfl 1 rfl ?_
          refine s_aload_n 0 C dX7_plays_38 rfl 1 rfl ?_
          refine s_get C dX7_plays_39 7 rfl hinX7 0 rfl 7 (by decide) (by decide +kernel) rfl ?_
          refine s_put [cO m0 7 [.ref m1, .ref m2, .ref m3, vI ps, vI 1, .ref m4, vI n, vI i, vI i, vI rs1, vI ca1, vI o, vI od1, .ref m5], cA m1 G.2.1.1 718 f1, cA m2 G.2.1.1 2872 P, cA m4 G.2.1.1 60 tx, cA m5 G.2.1.1 3 W1] C dX7_plays_42 7 rfl hinX7 tyX7 tyX7_ok nmX7 0 rfl 8 (by decide) (by decide +kernel) rfl rfl rfl (Nat.le_of_ble_eq_true rfl) rfl ?_
          refine s_aload_n 0 C dX7_plays_45 rfl 1 rfl ?_
          refine s_callV (As := []) (rest := []) C dX7_plays_46 (w_X7_reads l G m0 m4 m5 (.ref m1) (.ref m2) (.ref m3) (vI ps) (vI 1) n i i rs1 ca1 o od1 tx W1 (by first | assumption | omega) hX (by first | assumption | omega) hW1) gX7_plays_X7_reads rfl 0 (by decide +kernel) (by decide) 0 7 rfl rfl rfl [0, 3, 4] rfl (by decide) rfl (Nat.le_of_ble_eq_true rfl) ⟨Nat.zero_le _, Nat.zero_le _⟩ ?_
          intro v0 w0 hq
          obtain ⟨z_46, q_46, od2_46, W2_46, rfl, rfl, hq0_46, hq1_46⟩ := hq
          refine ⟨(fst_k (fst_k (fst_k rfl))), ?_⟩
          show fSt l G X 0 0 49 [(1, vI sv), (0, .ref m0)] [vI z_46] [cO m0 7 [.ref m1, .ref m2, .ref m3, vI ps, vI 1, .ref m4, vI n, vI q_46, vI i, vI rs1, vI ca1, vI o, vI od2_46, .ref m5], cA m1 G.2.1.1 718 f1, cA m2 G.2.1.1 2872 P, cA m4 G.2.1.1 60 tx, cA m5 G.2.1.1 3 W2_46]
          obtain ⟨hq_z, hq_q, hq_nr, hq_W, -⟩ := id hq0_46
          have hra := rdA_in (X := tx) (n := n) (i := i) (by omega)
          refine s_istore_n 2 [(2, vI z_46), (1, vI sv), (0, .ref m0)] C dX7_plays_49 rfl (by decide) rfl ?_
          refine s_iload_n 2 C dX7_plays_50 rfl 0 rfl ?_
          refine s_if_eq 61 C dX7_plays_51 (by decide) (by rw [hq_z]; exact bI_rng) (fun h_51 => ?_) (fun h_51 => ?_)
          · have hro0 : rdO tx n i = false := by simpa using bI_f (hq_z.symm.trans h_51)
            have hz0 : z_46 = 0 := h_51
            subst hz0
            refine s_iconst C dX7_plays_61 ?_
            refine s_istore_n 3 [(3, vI 0), (2, vI 0), (1, vI sv), (0, .ref m0)] C dX7_plays_62 rfl (by decide) rfl ?_
            refine s_iload_n 2 C dX7_plays_63 rfl 1 rfl ?_
            refine s_if_eq 75 C dX7_plays_64 (by decide) (by decide) (fun h => ?_) (fun h => absurd h (by decide))
            refine s_iconst C dX7_plays_75 ?_
            refine s_istore_n 1 [(1, vI 0), (3, vI 0), (2, vI 0), (0, .ref m0)] C dX7_plays_76 rfl (by decide) rfl ?_
            refine s_aload_n 0 C dX7_plays_77 rfl 3 rfl ?_
            refine s_iload_n 2 C dX7_plays_78 rfl 2 rfl ?_
            refine s_if_eq 86 C dX7_plays_79 (by decide) (by decide) (fun h => ?_) (fun h => absurd h (by decide))
            refine s_iconst C dX7_plays_86 ?_
            refine s_put [cO m0 7 [.ref m1, .ref m2, .ref m3, vI ps, vI 1, .ref m4, vI n, vI q_46, vI i, vI 1, vI ca1, vI o, vI od2_46, .ref m5], cA m1 G.2.1.1 718 f1, cA m2 G.2.1.1 2872 P, cA m4 G.2.1.1 60 tx, cA m5 G.2.1.1 3 W2_46] C dX7_plays_87 7 rfl hinX7 tyX7 tyX7_ok nmX7 0 rfl 9 (by decide) (by decide +kernel) rfl rfl rfl (Nat.le_of_ble_eq_true rfl) rfl ?_
            refine s_aload_n 0 C dX7_plays_90 rfl 3 rfl ?_
            refine s_iload_n 2 C dX7_plays_91 rfl 2 rfl ?_
            refine s_if_eq 99 C dX7_plays_92 (by decide) (by decide) (fun h => ?_) (fun h => absurd h (by decide))
            refine s_aload_n 0 C dX7_plays_99 rfl 3 rfl ?_
            refine s_get C dX7_plays_100 7 rfl hinX7 0 rfl 7 (by decide) (by decide +kernel) rfl ?_
            refine s_aload_n 0 C dX7_plays_103 rfl 3 rfl ?_
            refine s_get C dX7_plays_104 7 rfl hinX7 0 rfl 8 (by decide) (by decide +kernel) rfl ?_
            refine s_isub C dX7_plays_107 ?_
            refine s_put [cO m0 7 [.ref m1, .ref m2, .ref m3, vI ps, vI 1, .ref m4, vI n, vI q_46, vI i, vI 1, vI (q_46 - i), vI o, vI od2_46, .ref m5], cA m1 G.2.1.1 718 f1, cA m2 G.2.1.1 2872 P, cA m4 G.2.1.1 60 tx, cA m5 G.2.1.1 3 W2_46] C dX7_plays_108 7 rfl hinX7 tyX7 tyX7_ok nmX7 0 rfl 10 (by decide) (by decide +kernel) rfl rfl rfl (Nat.le_of_ble_eq_true rfl) rfl ?_
            refine s_aload_n 0 C dX7_plays_111 rfl 3 rfl ?_
            refine s_dup C dX7_plays_112 rfl ?_
            refine s_get C dX7_plays_113 7 rfl hinX7 0 rfl 11 (by decide) (by decide +kernel) rfl ?_
            refine s_iconst C dX7_plays_116 ?_
            refine s_iadd C dX7_plays_117 ?_
            refine s_put [cO m0 7 [.ref m1, .ref m2, .ref m3, vI ps, vI 1, .ref m4, vI n, vI q_46, vI i, vI 1, vI (q_46 - i), vI (o + 1), vI od2_46, .ref m5], cA m1 G.2.1.1 718 f1, cA m2 G.2.1.1 2872 P, cA m4 G.2.1.1 60 tx, cA m5 G.2.1.1 3 W2_46] C dX7_plays_118 7 rfl hinX7 tyX7 tyX7_ok nmX7 0 rfl 11 (by decide) (by decide +kernel) rfl rfl rfl (Nat.le_of_ble_eq_true rfl) rfl ?_
            refine s_goto 22 C dX7_plays_121 (by decide) ?_
            refine s_lv [(1, vI 0), (0, .ref m0)] [0, 3] rfl ?_
            exact ih_22 f1 W2_46 0 q_46 i 1 (q_46 - i) (o + 1) od2_46 hq_W (hI1.mono (by omega)) (by omega) (Or.inr ⟨rfl, hPL.trans (by rw [hfu, plR_form (by omega) hro0, ← hq_q, show o + 1 - 1 = o by omega])⟩) (by omega)
          · have hz1 : z_46 = 1 := by rw [hq_z] at h_51 ⊢; rcases bI_01 (p := rdO tx n i = true) with g | g <;> omega
            have hro : rdO tx n i = true := bI_t (by rw [← hq_z]; omega)
            have hra2 := hra.2.2 hro
            subst hz1
            refine s_aload_n 0 C dX7_plays_54 rfl 2 rfl ?_
            refine s_callV (As := []) (rest := []) C dX7_plays_55 (c_X7_calls l G m0 m1 m2 m3 m4 m5 f1 P tx W2_46 (B + 300 * o) ps n i q_46 i rs1 ca1 o od2_46 (by first | assumption | omega) (by first | assumption | omega) (by first | assumption | omega) hX (by first | assumption | omega) (by first | assumption | omega) (hq1_46 hro) hq0_46) gX7_plays_X7_calls rfl 0 (by decide +kernel) (by decide) 0 7 rfl rfl rfl [0, 1, 2, 4] rfl (by decide) rfl (Nat.le_of_ble_eq_true rfl) ⟨Nat.zero_le _, Nat.zero_le _⟩ ?_
            intro v0 w0 hq
            obtain ⟨z_55, f2_55, P2_55, ps2_55, rfl, rfl, hq0_55, hq1_55, hq2_55⟩ := hq
            refine ⟨(fst_k (fst_k (fst_k rfl))), ?_⟩
            show fSt l G X 0 0 58 [(2, vI 1), (1, vI sv), (0, .ref m0)] [vI z_55] [cO m0 7 [.ref m1, .ref m2, .ref m3, vI ps2_55, vI 1, .ref m4, vI n, vI q_46, vI i, vI rs1, vI ca1, vI o, vI od2_46, .ref m5], cA m1 G.2.1.1 718 f2_55, cA m2 G.2.1.1 2872 P2_55, cA m4 G.2.1.1 60 tx, cA m5 G.2.1.1 3 W2_46]
            have hI2 := caF_inv (X := tx) (n := n) (i := i) hI1 (by omega)
            have hzr := caF_rg (X := tx) (n := n) (i := i) hI1 (by omega)
            have e1 : z_55 = (caF tx n f1 i).1 := congrArg Prod.fst hq0_55
            have e2 : f2_55 = (caF tx n f1 i).2 := congrArg Prod.snd hq0_55
            have hIn : Inv (B + 300 * (o + 1)) f2_55 := by rw [e2]; exact hI2.mono (by omega)
            rw [← e1] at hzr
            have hP9 := hq1_55
            have hps9 := hq2_55
            subst hP9
            subst hps9
            refine s_goto 62 C dX7_plays_58 (by decide) ?_
            refine s_istore_n 3 [(3, vI z_55), (2, vI 1), (1, vI sv), (0, .ref m0)] C dX7_plays_62 rfl (by decide) rfl ?_
            refine s_iload_n 2 C dX7_plays_63 rfl 1 rfl ?_
            refine s_if_eq 75 C dX7_plays_64 (by decide) (by decide) (fun h => absurd h (by decide)) (fun h => ?_)
            refine s_iload_n 3 C dX7_plays_67 rfl 0 rfl ?_
            refine s_if_lt 75 C dX7_plays_68 (by decide) (by omega) (fun h_68 => ?_) (fun h_68 => ?_)
            · refine s_iconst C dX7_plays_75 ?_
              refine s_istore_n 1 [(1, vI 0), (3, vI z_55), (2, vI 1), (0, .ref m0)] C dX7_plays_76 rfl (by decide) rfl ?_
              refine s_aload_n 0 C dX7_plays_77 rfl 3 rfl ?_
              refine s_iload_n 2 C dX7_plays_78 rfl 2 rfl ?_
              refine s_if_eq 86 C dX7_plays_79 (by decide) (by decide) (fun h => absurd h (by decide)) (fun h => ?_)
              refine s_iconst C dX7_plays_82 ?_
              refine s_goto 87 C dX7_plays_83 (by decide) ?_
              refine s_put [cO m0 7 [.ref m1, .ref m2, .ref m3, vI ps, vI 1, .ref m4, vI n, vI q_46, vI i, vI 2, vI ca1, vI o, vI od2_46, .ref m5], cA m1 G.2.1.1 718 f2_55, cA m2 G.2.1.1 2872 P, cA m4 G.2.1.1 60 tx, cA m5 G.2.1.1 3 W2_46] C dX7_plays_87 7 rfl hinX7 tyX7 tyX7_ok nmX7 0 rfl 9 (by decide) (by decide +kernel) rfl rfl rfl (Nat.le_of_ble_eq_true rfl) rfl ?_
              refine s_aload_n 0 C dX7_plays_90 rfl 3 rfl ?_
              refine s_iload_n 2 C dX7_plays_91 rfl 2 rfl ?_
              refine s_if_eq 99 C dX7_plays_92 (by decide) (by decide) (fun h => absurd h (by decide)) (fun h => ?_)
              refine s_iload_n 3 C dX7_plays_95 rfl 1 rfl ?_
              refine s_goto 108 C dX7_plays_96 (by decide) ?_
              refine s_put [cO m0 7 [.ref m1, .ref m2, .ref m3, vI ps, vI 1, .ref m4, vI n, vI q_46, vI i, vI 2, vI z_55, vI o, vI od2_46, .ref m5], cA m1 G.2.1.1 718 f2_55, cA m2 G.2.1.1 2872 P, cA m4 G.2.1.1 60 tx, cA m5 G.2.1.1 3 W2_46] C dX7_plays_108 7 rfl hinX7 tyX7 tyX7_ok nmX7 0 rfl 10 (by decide) (by decide +kernel) rfl rfl rfl (Nat.le_of_ble_eq_true rfl) rfl ?_
              refine s_aload_n 0 C dX7_plays_111 rfl 3 rfl ?_
              refine s_dup C dX7_plays_112 rfl ?_
              refine s_get C dX7_plays_113 7 rfl hinX7 0 rfl 11 (by decide) (by decide +kernel) rfl ?_
              refine s_iconst C dX7_plays_116 ?_
              refine s_iadd C dX7_plays_117 ?_
              refine s_put [cO m0 7 [.ref m1, .ref m2, .ref m3, vI ps, vI 1, .ref m4, vI n, vI q_46, vI i, vI 2, vI z_55, vI (o + 1), vI od2_46, .ref m5], cA m1 G.2.1.1 718 f2_55, cA m2 G.2.1.1 2872 P, cA m4 G.2.1.1 60 tx, cA m5 G.2.1.1 3 W2_46] C dX7_plays_118 7 rfl hinX7 tyX7 tyX7_ok nmX7 0 rfl 11 (by decide) (by decide +kernel) rfl rfl rfl (Nat.le_of_ble_eq_true rfl) rfl ?_
              refine s_goto 22 C dX7_plays_121 (by decide) ?_
              refine s_lv [(1, vI 0), (0, .ref m0)] [0, 3] rfl ?_
              exact ih_22 f2_55 W2_46 0 q_46 i 2 z_55 (o + 1) od2_46 hq_W hIn (by omega) (Or.inr ⟨rfl, hPL.trans (by rw [hfu, plR_ref (by omega) hro (by omega), ← e1, ← e2, show o + 1 - 1 = o by omega])⟩) (by omega)
            · refine s_iconst C dX7_plays_71 ?_
              refine s_goto 76 C dX7_plays_72 (by decide) ?_
              refine s_istore_n 1 [(1, vI 1), (3, vI z_55), (2, vI 1), (0, .ref m0)] C dX7_plays_76 rfl (by decide) rfl ?_
              refine s_aload_n 0 C dX7_plays_77 rfl 3 rfl ?_
              refine s_iload_n 2 C dX7_plays_78 rfl 2 rfl ?_
              refine s_if_eq 86 C dX7_plays_79 (by decide) (by decide) (fun h => absurd h (by decide)) (fun h => ?_)
              refine s_iconst C dX7_plays_82 ?_
              refine s_goto 87 C dX7_plays_83 (by decide) ?_
              refine s_put [cO m0 7 [.ref m1, .ref m2, .ref m3, vI ps, vI 1, .ref m4, vI n, vI q_46, vI i, vI 2, vI ca1, vI o, vI od2_46, .ref m5], cA m1 G.2.1.1 718 f2_55, cA m2 G.2.1.1 2872 P, cA m4 G.2.1.1 60 tx, cA m5 G.2.1.1 3 W2_46] C dX7_plays_87 7 rfl hinX7 tyX7 tyX7_ok nmX7 0 rfl 9 (by decide) (by decide +kernel) rfl rfl rfl (Nat.le_of_ble_eq_true rfl) rfl ?_
              refine s_aload_n 0 C dX7_plays_90 rfl 3 rfl ?_
              refine s_iload_n 2 C dX7_plays_91 rfl 2 rfl ?_
              refine s_if_eq 99 C dX7_plays_92 (by decide) (by decide) (fun h => absurd h (by decide)) (fun h => ?_)
              refine s_iload_n 3 C dX7_plays_95 rfl 1 rfl ?_
              refine s_goto 108 C dX7_plays_96 (by decide) ?_
              refine s_put [cO m0 7 [.ref m1, .ref m2, .ref m3, vI ps, vI 1, .ref m4, vI n, vI q_46, vI i, vI 2, vI z_55, vI o, vI od2_46, .ref m5], cA m1 G.2.1.1 718 f2_55, cA m2 G.2.1.1 2872 P, cA m4 G.2.1.1 60 tx, cA m5 G.2.1.1 3 W2_46] C dX7_plays_108 7 rfl hinX7 tyX7 tyX7_ok nmX7 0 rfl 10 (by decide) (by decide +kernel) rfl rfl rfl (Nat.le_of_ble_eq_true rfl) rfl ?_
              refine s_aload_n 0 C dX7_plays_111 rfl 3 rfl ?_
              refine s_dup C dX7_plays_112 rfl ?_
              refine s_get C dX7_plays_113 7 rfl hinX7 0 rfl 11 (by decide) (by decide +kernel) rfl ?_
              refine s_iconst C dX7_plays_116 ?_
              refine s_iadd C dX7_plays_117 ?_
              refine s_put [cO m0 7 [.ref m1, .ref m2, .ref m3, vI ps, vI 1, .ref m4, vI n, vI q_46, vI i, vI 2, vI z_55, vI (o + 1), vI od2_46, .ref m5], cA m1 G.2.1.1 718 f2_55, cA m2 G.2.1.1 2872 P, cA m4 G.2.1.1 60 tx, cA m5 G.2.1.1 3 W2_46] C dX7_plays_118 7 rfl hinX7 tyX7 tyX7_ok nmX7 0 rfl 11 (by decide) (by decide +kernel) rfl rfl rfl (Nat.le_of_ble_eq_true rfl) rfl ?_
              refine s_goto 22 C dX7_plays_121 (by decide) ?_
              refine s_lv [(1, vI 1), (0, .ref m0)] [0, 3] rfl ?_
              exact ih_22 f2_55 W2_46 1 q_46 i 2 z_55 (o + 1) od2_46 hq_W hIn (by omega) (Or.inl ⟨rfl, by omega, hPL.trans (by rw [hfu, plR_go (by omega) hro (by omega), ← e2, ← hq_q])⟩) (by omega)
  exact loop_22 (61 - 0 + 1 : Int).toNat f W 1 0 0 rs ca 0 od hW (hI.mono (by omega)) (by omega) (Or.inl ⟨rfl, by omega, rfl⟩) (by omega)

set_option maxHeartbeats 4000000 in
set_option maxRecDepth 100000 in
theorem c_X7_fault (l : Launch) (G : fG) (m0 m1 m2 m3 m4 m5 : Nat) (f P g tx W : Int → Int) (B ps n i0 fr rs ca os od wh : Int) (hI : Inv B f) (hB : B ≤ 1000000000) (hps : 0 ≤ ps ∧ ps ≤ 4) (hX : rX tx) (hn : 0 ≤ n ∧ n ≤ 60) (hW : rF W) (hwh : -2147483648 ≤ wh ∧ wh < 2147483648) : fCt l G yX7_fault wsX7_fault 6 130 0 0 [.ref m0, vI wh] [cO m0 7 [.ref m1, .ref m2, .ref m3, vI ps, vI 0, .ref m4, vI n, vI i0, vI fr, vI rs, vI ca, vI os, vI od, .ref m5], cA m1 G.2.1.1 718 f, cA m2 G.2.1.1 2872 P, cA m3 G.2.1.1 718 g, cA m4 G.2.1.1 60 tx, cA m5 G.2.1.1 3 W] (fun (v0 : Option Value) (w0 : va_W) => ∃ (fr2 rs2 ca2 o9 od2 q : Int) (g2 W2 : Int → Int), v0 = some (vI (flt (plR tx n 60 f 0 0) wh)) ∧ w0 = [cO m0 7 [.ref m1, .ref m2, .ref m3, vI ps, vI 0, .ref m4, vI n, vI q, vI fr2, vI rs2, vI ca2, vI o9, vI od2, .ref m5], cA m1 G.2.1.1 718 f, cA m2 G.2.1.1 2872 P, cA m3 G.2.1.1 718 g2, cA m4 G.2.1.1 60 tx, cA m5 G.2.1.1 3 W2] ∧ (rF W2)) := by
  refine fs_met (cc := cX7_fault) (nL := 3) (ret := (some .int)) (by decide) rfl (Nat.le_of_ble_eq_true rfl) ?_
  intro X C E
  show fSt l G X 0 0 0 [(0, .ref m0), (1, vI wh)] [] [cO m0 7 [.ref m1, .ref m2, .ref m3, vI ps, vI 0, .ref m4, vI n, vI i0, vI fr, vI rs, vI ca, vI os, vI od, .ref m5], cA m1 G.2.1.1 718 f, cA m2 G.2.1.1 2872 P, cA m3 G.2.1.1 718 g, cA m4 G.2.1.1 60 tx, cA m5 G.2.1.1 3 W]
  have hinX7 : ∀ w ∈ u_ws RX7 TX7 14, w ∈ wsX7_fault := by decide +kernel
  refine s_iload_n 1 C dX7_fault_0 rfl 1 rfl ?_
  refine s_iconst C dX7_fault_1 ?_
  refine s_iconst C dX7_fault_2 ?_
  refine s_callS (As := [vI wh, vI 0, vI 2]) (rest := []) C dX7_fault_3 (c_X7_in l G wh 0 2 (by first | assumption | omega) (by first | assumption | omega) (by first | assumption | omega)) gX7_fault_X7_in rfl 3 (by decide +kernel) (by decide) [] rfl (by decide) rfl (Nat.le_of_ble_eq_true rfl) ⟨Nat.zero_le _, Nat.zero_le _⟩ ?_
  intro v0 w0 hq
  obtain ⟨rfl, rfl⟩ := hq
  refine ⟨rfl, ?_⟩
  show fSt l G X 0 0 6 [(0, .ref m0), (1, vI wh)] [vI (bI (0 ≤ wh ∧ wh ≤ 2))] [cO m0 7 [.ref m1, .ref m2, .ref m3, vI ps, vI 0, .ref m4, vI n, vI i0, vI fr, vI rs, vI ca, vI os, vI od, .ref m5], cA m1 G.2.1.1 718 f, cA m2 G.2.1.1 2872 P, cA m3 G.2.1.1 718 g, cA m4 G.2.1.1 60 tx, cA m5 G.2.1.1 3 W]
  refine s_if_ne 12 C dX7_fault_6 (by decide) bI_rng (fun h_6 => ?_) (fun h_6 => ?_)
  · have h_6 := bI_t h_6
    refine s_aload_n 0 C dX7_fault_12 rfl 0 rfl ?_
    refine s_get C dX7_fault_13 7 rfl hinX7 0 rfl 0 (by decide) (by decide +kernel) rfl ?_
    refine s_aload_n 0 C dX7_fault_16 rfl 0 rfl ?_
    refine s_get C dX7_fault_17 7 rfl hinX7 0 rfl 2 (by decide) (by decide +kernel) rfl ?_
    refine s_callS (As := [.ref m1, .ref m3]) (rest := []) C dX7_fault_20 (c_X7_copies l G m1 m3 f g) gX7_fault_X7_copies rfl 2 (by decide +kernel) (by decide) [1, 3] rfl (by decide) rfl (Nat.le_of_ble_eq_true rfl) ⟨Nat.zero_le _, Nat.zero_le _⟩ ?_
    intro v0 w0 hq
    obtain ⟨rfl, rfl⟩ := hq
    refine ⟨(fst_k (fst_k rfl)), ?_⟩
    show fSt l G X 0 0 23 [(0, .ref m0), (1, vI wh)] [] [cO m0 7 [.ref m1, .ref m2, .ref m3, vI ps, vI 0, .ref m4, vI n, vI i0, vI fr, vI rs, vI ca, vI os, vI od, .ref m5], cA m1 G.2.1.1 718 f, cA m2 G.2.1.1 2872 P, cA m3 G.2.1.1 718 f, cA m4 G.2.1.1 60 tx, cA m5 G.2.1.1 3 W]
    refine s_aload_n 0 C dX7_fault_23 rfl 0 rfl ?_
    refine s_callV (As := []) (rest := []) C dX7_fault_24 (c_X7_plays l G m0 m1 m2 m3 m4 m5 f P tx W B ps 0 n i0 fr rs ca os od hI (by first | assumption | omega) (by first | assumption | omega) hX (by first | assumption | omega) hW) gX7_fault_X7_plays rfl 0 (by decide +kernel) (by decide) 0 7 rfl rfl rfl [0, 1, 2, 4, 5] rfl (by decide) rfl (Nat.le_of_ble_eq_true rfl) ⟨Nat.zero_le _, Nat.zero_le _⟩ ?_
    intro v0 w0 hq
    obtain ⟨z_24, q_24, fr2_24, rs2_24, ca2_24, o9_24, od2_24, f2_24, W2_24, rfl, rfl, hq0_24, hq1_24, hq2_24, hq3_24⟩ := hq
    refine ⟨(fst_k (fst_k (fst_k (fst_k (fst_k rfl))))), ?_⟩
    show fSt l G X 0 0 27 [(0, .ref m0), (1, vI wh)] [vI z_24] [cO m0 7 [.ref m1, .ref m2, .ref m3, vI ps, vI 0, .ref m4, vI n, vI q_24, vI fr2_24, vI rs2_24, vI ca2_24, vI o9_24, vI od2_24, .ref m5], cA m1 G.2.1.1 718 f2_24, cA m2 G.2.1.1 2872 P, cA m3 G.2.1.1 718 f, cA m4 G.2.1.1 60 tx, cA m5 G.2.1.1 3 W2_24]
    refine s_istore_n 2 [(2, vI z_24), (0, .ref m0), (1, vI wh)] C dX7_fault_27 rfl (by decide) rfl ?_
    refine s_aload_n 0 C dX7_fault_28 rfl 1 rfl ?_
    refine s_get C dX7_fault_29 7 rfl hinX7 0 rfl 2 (by decide) (by decide +kernel) rfl ?_
    refine s_aload_n 0 C dX7_fault_32 rfl 1 rfl ?_
    refine s_get C dX7_fault_33 7 rfl hinX7 0 rfl 0 (by decide) (by decide +kernel) rfl ?_
    refine s_callS (As := [.ref m3, .ref m1]) (rest := []) C dX7_fault_36 (c_X7_copies l G m3 m1 f f2_24) gX7_fault_X7_copies rfl 2 (by decide +kernel) (by decide) [3, 1] rfl (by decide) rfl (Nat.le_of_ble_eq_true rfl) ⟨Nat.zero_le _, Nat.zero_le _⟩ ?_
    intro v0 w0 hq
    obtain ⟨rfl, rfl⟩ := hq
    refine ⟨(fst_k (fst_k rfl)), ?_⟩
    show fSt l G X 0 0 39 [(2, vI z_24), (0, .ref m0), (1, vI wh)] [] [cO m0 7 [.ref m1, .ref m2, .ref m3, vI ps, vI 0, .ref m4, vI n, vI q_24, vI fr2_24, vI rs2_24, vI ca2_24, vI o9_24, vI od2_24, .ref m5], cA m1 G.2.1.1 718 f, cA m2 G.2.1.1 2872 P, cA m3 G.2.1.1 718 f, cA m4 G.2.1.1 60 tx, cA m5 G.2.1.1 3 W2_24]
    refine s_iload_n 2 C dX7_fault_39 rfl 0 rfl ?_
    refine s_if_eq 48 C dX7_fault_40 (by decide) (by rcases hq2_24 with ⟨g1, -⟩ | ⟨g1, -⟩ <;> omega) (fun h_40 => ?_) (fun h_40 => ?_)
    · obtain ⟨hz9, hpl⟩ : z_24 = 0 ∧ plR tx n 60 f 0 0 = (false, f2_24, fr2_24, rs2_24, ca2_24, o9_24 - 1) := by rcases hq2_24 with g | g; (· exfalso; omega); (· exact g)
      refine s_iload_n 1 C dX7_fault_48 rfl 2 rfl ?_
      refine s_if_ne 59 C dX7_fault_49 (by decide) (by omega) (fun h_49 => ?_) (fun h_49 => ?_)
      · refine s_iload_n 1 C dX7_fault_59 rfl 2 rfl ?_
        refine s_iconst C dX7_fault_60 ?_
        refine s_icmp_ne 71 C dX7_fault_61 (by decide) (by omega) (by omega) (fun h_61 => ?_) (fun h_61 => ?_)
        · refine s_aload_n 0 C dX7_fault_71 rfl 1 rfl ?_
          refine s_get C dX7_fault_72 7 rfl hinX7 0 rfl 10 (by decide) (by decide +kernel) rfl ?_
          exact s_iret C E dX7_fault_75 ⟨fr2_24, rs2_24, ca2_24, o9_24, od2_24, q_24, f, W2_24, (congrArg (fun z => some (vI z)) (by first | exact (flt_t hpl (by omega)).symm | (rw [flt_f hpl (by omega), if_pos (by omega)]; done) | (rw [flt_f hpl (by omega), if_neg (by omega), if_pos (by omega)]; done) | (rw [flt_f hpl (by omega), if_neg (by omega), if_neg (by omega)]; done))), rfl, hq0_24⟩
        · refine s_aload_n 0 C dX7_fault_64 rfl 1 rfl ?_
          refine s_get C dX7_fault_65 7 rfl hinX7 0 rfl 9 (by decide) (by decide +kernel) rfl ?_
          refine s_goto 75 C dX7_fault_68 (by decide) ?_
          exact s_iret C E dX7_fault_75 ⟨fr2_24, rs2_24, ca2_24, o9_24, od2_24, q_24, f, W2_24, (congrArg (fun z => some (vI z)) (by first | exact (flt_t hpl (by omega)).symm | (rw [flt_f hpl (by omega), if_pos (by omega)]; done) | (rw [flt_f hpl (by omega), if_neg (by omega), if_pos (by omega)]; done) | (rw [flt_f hpl (by omega), if_neg (by omega), if_neg (by omega)]; done))), rfl, hq0_24⟩
      · refine s_aload_n 0 C dX7_fault_52 rfl 1 rfl ?_
        refine s_get C dX7_fault_53 7 rfl hinX7 0 rfl 8 (by decide) (by decide +kernel) rfl ?_
        refine s_goto 75 C dX7_fault_56 (by decide) ?_
        exact s_iret C E dX7_fault_75 ⟨fr2_24, rs2_24, ca2_24, o9_24, od2_24, q_24, f, W2_24, (congrArg (fun z => some (vI z)) (by first | exact (flt_t hpl (by omega)).symm | (rw [flt_f hpl (by omega), if_pos (by omega)]; done) | (rw [flt_f hpl (by omega), if_neg (by omega), if_pos (by omega)]; done) | (rw [flt_f hpl (by omega), if_neg (by omega), if_neg (by omega)]; done))), rfl, hq0_24⟩
    · obtain ⟨hz9, hpl⟩ : z_24 = 1 ∧ plR tx n 60 f 0 0 = (true, f2_24, q_24, 0, 0, o9_24) := by rcases hq2_24 with g | g; (· exact g); (· exfalso; omega)
      refine s_ldc (z := -1000004) C (by decide +kernel) dX7_fault_43 ?_
      refine s_goto 75 C dX7_fault_45 (by decide) ?_
      exact s_iret C E dX7_fault_75 ⟨fr2_24, rs2_24, ca2_24, o9_24, od2_24, q_24, f, W2_24, (congrArg (fun z => some (vI z)) (by first | exact (flt_t hpl (by omega)).symm | (rw [flt_f hpl (by omega), if_pos (by omega)]; done) | (rw [flt_f hpl (by omega), if_neg (by omega), if_pos (by omega)]; done) | (rw [flt_f hpl (by omega), if_neg (by omega), if_neg (by omega)]; done))), rfl, hq0_24⟩
  · have h_6 := bI_f h_6
    refine s_ldc (z := -1000001) C (by decide +kernel) dX7_fault_9 ?_
    exact s_iret C E dX7_fault_11 ⟨fr, rs, ca, os, od, i0, g, W, (congrArg (fun z => some (vI z)) (flt_o (by omega)).symm), rfl, hW⟩

set_option maxHeartbeats 4000000 in
set_option maxRecDepth 100000 in
theorem c_X7_play (l : Launch) (G : fG) (m0 m1 m2 m3 m4 m5 : Nat) (f P g tx W : Int → Int) (B ps n i0 fr rs ca os od : Int) (hI : Inv B f) (hB : B ≤ 1000000000) (hps : 0 ≤ ps ∧ ps ≤ 4) (hX : rX tx) (hn : 0 ≤ n ∧ n ≤ 60) (hW : rF W) : fCt l G yX7_play wsX7_play 6 130 0 0 [.ref m0] [cO m0 7 [.ref m1, .ref m2, .ref m3, vI ps, vI 0, .ref m4, vI n, vI i0, vI fr, vI rs, vI ca, vI os, vI od, .ref m5], cA m1 G.2.1.1 718 f, cA m2 G.2.1.1 2872 P, cA m3 G.2.1.1 718 g, cA m4 G.2.1.1 60 tx, cA m5 G.2.1.1 3 W] (fun (v0 : Option Value) (w0 : va_W) => ∃ (z ps2 : Int) (f2 P2 : Int → Int) (fr2 rs2 ca2 o9 od2 q : Int) (g2 W2 : Int → Int), v0 = some (vI z) ∧ w0 = [cO m0 7 [.ref m1, .ref m2, .ref m3, vI ps2, vI 0, .ref m4, vI n, vI q, vI fr2, vI rs2, vI ca2, vI o9, vI od2, .ref m5], cA m1 G.2.1.1 718 f2, cA m2 G.2.1.1 2872 P2, cA m3 G.2.1.1 718 g2, cA m4 G.2.1.1 60 tx, cA m5 G.2.1.1 3 W2] ∧ (rF W2) ∧ (((plR tx n 60 f 0 0).1 = true ∧ z = (plR tx n 60 f 0 0).2.2.2.2.2 ∧ f2 = (plR tx n 60 f 0 0).2.1 ∧ P2 = pS P ps f ∧ ps2 = pQ ps) ∨ ((plR tx n 60 f 0 0).1 = false ∧ z = -1000002 ∧ f2 = f ∧ P2 = P ∧ ps2 = ps))) := by
  refine fs_met (cc := cX7_play) (nL := 2) (ret := (some .int)) (by decide) rfl (Nat.le_of_ble_eq_true rfl) ?_
  intro X C E
  show fSt l G X 0 0 0 [(0, .ref m0)] [] [cO m0 7 [.ref m1, .ref m2, .ref m3, vI ps, vI 0, .ref m4, vI n, vI i0, vI fr, vI rs, vI ca, vI os, vI od, .ref m5], cA m1 G.2.1.1 718 f, cA m2 G.2.1.1 2872 P, cA m3 G.2.1.1 718 g, cA m4 G.2.1.1 60 tx, cA m5 G.2.1.1 3 W]
  have hinX7 : ∀ w ∈ u_ws RX7 TX7 14, w ∈ wsX7_play := by decide +kernel
  have hpq : 0 ≤ chN 0 ps ∧ chN 0 ps ≤ 4 := by rw [chN, if_pos rfl, pQ]; split <;> omega
  refine s_aload_n 0 C dX7_play_0 rfl 0 rfl ?_
  refine s_get C dX7_play_1 7 rfl hinX7 0 rfl 0 (by decide) (by decide +kernel) rfl ?_
  refine s_aload_n 0 C dX7_play_4 rfl 0 rfl ?_
  refine s_get C dX7_play_5 7 rfl hinX7 0 rfl 2 (by decide) (by decide +kernel) rfl ?_
  refine s_callS (As := [.ref m1, .ref m3]) (rest := []) C dX7_play_8 (c_X7_copies l G m1 m3 f g) gX7_play_X7_copies rfl 2 (by decide +kernel) (by decide) [1, 3] rfl (by decide) rfl (Nat.le_of_ble_eq_true rfl) ⟨Nat.zero_le _, Nat.zero_le _⟩ ?_
  intro v0 w0 hq
  obtain ⟨rfl, rfl⟩ := hq
  refine ⟨(fst_k (fst_k rfl)), ?_⟩
  show fSt l G X 0 0 11 [(0, .ref m0)] [] [cO m0 7 [.ref m1, .ref m2, .ref m3, vI ps, vI 0, .ref m4, vI n, vI i0, vI fr, vI rs, vI ca, vI os, vI od, .ref m5], cA m1 G.2.1.1 718 f, cA m2 G.2.1.1 2872 P, cA m3 G.2.1.1 718 f, cA m4 G.2.1.1 60 tx, cA m5 G.2.1.1 3 W]
  refine s_aload_n 0 C dX7_play_11 rfl 0 rfl ?_
  refine s_callV (As := []) (rest := []) C dX7_play_12 (c_X7_plays l G m0 m1 m2 m3 m4 m5 f P tx W B ps 0 n i0 fr rs ca os od hI (by first | assumption | omega) (by first | assumption | omega) hX (by first | assumption | omega) hW) gX7_play_X7_plays rfl 0 (by decide +kernel) (by decide) 0 7 rfl rfl rfl [0, 1, 2, 4, 5] rfl (by decide) rfl (Nat.le_of_ble_eq_true rfl) ⟨Nat.zero_le _, Nat.zero_le _⟩ ?_
  intro v0 w0 hq
  obtain ⟨z_12, q_12, fr2_12, rs2_12, ca2_12, o9_12, od2_12, f2_12, W2_12, rfl, rfl, hq0_12, hq1_12, hq2_12, hq3_12⟩ := hq
  refine ⟨(fst_k (fst_k (fst_k (fst_k (fst_k rfl))))), ?_⟩
  show fSt l G X 0 0 15 [(0, .ref m0)] [vI z_12] [cO m0 7 [.ref m1, .ref m2, .ref m3, vI ps, vI 0, .ref m4, vI n, vI q_12, vI fr2_12, vI rs2_12, vI ca2_12, vI o9_12, vI od2_12, .ref m5], cA m1 G.2.1.1 718 f2_12, cA m2 G.2.1.1 2872 P, cA m3 G.2.1.1 718 f, cA m4 G.2.1.1 60 tx, cA m5 G.2.1.1 3 W2_12]
  refine s_istore_n 1 [(1, vI z_12), (0, .ref m0)] C dX7_play_15 rfl (by decide) rfl ?_
  refine s_aload_n 0 C dX7_play_16 rfl 1 rfl ?_
  refine s_get C dX7_play_17 7 rfl hinX7 0 rfl 2 (by decide) (by decide +kernel) rfl ?_
  refine s_aload_n 0 C dX7_play_20 rfl 1 rfl ?_
  refine s_get C dX7_play_21 7 rfl hinX7 0 rfl 0 (by decide) (by decide +kernel) rfl ?_
  refine s_callS (As := [.ref m3, .ref m1]) (rest := []) C dX7_play_24 (c_X7_copies l G m3 m1 f f2_12) gX7_play_X7_copies rfl 2 (by decide +kernel) (by decide) [3, 1] rfl (by decide) rfl (Nat.le_of_ble_eq_true rfl) ⟨Nat.zero_le _, Nat.zero_le _⟩ ?_
  intro v0 w0 hq
  obtain ⟨rfl, rfl⟩ := hq
  refine ⟨(fst_k (fst_k rfl)), ?_⟩
  show fSt l G X 0 0 27 [(1, vI z_12), (0, .ref m0)] [] [cO m0 7 [.ref m1, .ref m2, .ref m3, vI ps, vI 0, .ref m4, vI n, vI q_12, vI fr2_12, vI rs2_12, vI ca2_12, vI o9_12, vI od2_12, .ref m5], cA m1 G.2.1.1 718 f, cA m2 G.2.1.1 2872 P, cA m3 G.2.1.1 718 f, cA m4 G.2.1.1 60 tx, cA m5 G.2.1.1 3 W2_12]
  refine s_iload_n 1 C dX7_play_27 rfl 0 rfl ?_
  refine s_if_ne 34 C dX7_play_28 (by decide) (by rcases hq2_12 with ⟨g1, -⟩ | ⟨g1, -⟩ <;> omega) (fun h_28 => ?_) (fun h_28 => ?_)
  · obtain ⟨hz9, hpl⟩ : z_12 = 1 ∧ plR tx n 60 f 0 0 = (true, f2_12, q_12, 0, 0, o9_12) := by rcases hq2_12 with g | g; (· exact g); (· exfalso; omega)
    refine s_aload_n 0 C dX7_play_34 rfl 1 rfl ?_
    refine s_callV (As := []) (rest := []) C dX7_play_35 (c_X7_changes l G m0 m1 m2 (.ref m3) [.ref m4, vI n, vI q_12, vI fr2_12, vI rs2_12, vI ca2_12, vI o9_12, vI od2_12, .ref m5] f P ps 0 (by first | assumption | omega) (Or.inl rfl)) gX7_play_X7_changes rfl 0 (by decide +kernel) (by decide) 0 7 rfl rfl rfl [0, 1, 2] rfl (by decide) rfl (Nat.le_of_ble_eq_true rfl) ⟨Nat.zero_le _, Nat.zero_le _⟩ ?_
    intro v0 w0 hq
    obtain ⟨rfl, rfl⟩ := hq
    refine ⟨(fst_k (fst_k (fst_k rfl))), ?_⟩
    show fSt l G X 0 0 38 [(1, vI z_12), (0, .ref m0)] [] [cO m0 7 [.ref m1, .ref m2, .ref m3, vI (chN 0 ps), vI 0, .ref m4, vI n, vI q_12, vI fr2_12, vI rs2_12, vI ca2_12, vI o9_12, vI od2_12, .ref m5], cA m1 G.2.1.1 718 f, cA m2 G.2.1.1 2872 (chP 0 P ps f), cA m3 G.2.1.1 718 f, cA m4 G.2.1.1 60 tx, cA m5 G.2.1.1 3 W2_12]
    refine s_aload_n 0 C dX7_play_38 rfl 1 rfl ?_
    refine s_callV (As := []) (rest := []) C dX7_play_39 (c_X7_plays l G m0 m1 m2 m3 m4 m5 f (chP 0 P ps f) tx W2_12 B (chN 0 ps) 0 n q_12 fr2_12 rs2_12 ca2_12 o9_12 od2_12 hI (by first | assumption | omega) hpq hX (by first | assumption | omega) hq0_12) gX7_play_X7_plays rfl 0 (by decide +kernel) (by decide) 0 7 rfl rfl rfl [0, 1, 2, 4, 5] rfl (by decide) rfl (Nat.le_of_ble_eq_true rfl) ⟨Nat.zero_le _, Nat.zero_le _⟩ ?_
    intro v0 w0 hq
    obtain ⟨z_39, q_39, fr2_39, rs2_39, ca2_39, o9_39, od2_39, f2_39, W2_39, rfl, rfl, hq0_39, hq1_39, hq2_39, hq3_39⟩ := hq
    refine ⟨(fst_k (fst_k (fst_k (fst_k (fst_k rfl))))), ?_⟩
    show fSt l G X 0 0 42 [(1, vI z_12), (0, .ref m0)] [vI z_39] [cO m0 7 [.ref m1, .ref m2, .ref m3, vI (chN 0 ps), vI 0, .ref m4, vI n, vI q_39, vI fr2_39, vI rs2_39, vI ca2_39, vI o9_39, vI od2_39, .ref m5], cA m1 G.2.1.1 718 f2_39, cA m2 G.2.1.1 2872 (chP 0 P ps f), cA m3 G.2.1.1 718 f, cA m4 G.2.1.1 60 tx, cA m5 G.2.1.1 3 W2_39]
    obtain ⟨hz39, hp39⟩ : z_39 = 1 ∧ plR tx n 60 f 0 0 = (true, f2_39, q_39, 0, 0, o9_39) := by rcases hq2_39 with g | ⟨g1, g2⟩; (· exact g); (· rw [hpl] at g2; cases g2)
    refine s_if_eq 52 C dX7_play_42 (by decide) (by omega) (fun h_42 => ?_) (fun h_42 => ?_)
    · exfalso
      omega
    · refine s_aload_n 0 C dX7_play_45 rfl 1 rfl ?_
      refine s_get C dX7_play_46 7 rfl hinX7 0 rfl 11 (by decide) (by decide +kernel) rfl ?_
      refine s_goto 54 C dX7_play_49 (by decide) ?_
      exact s_iret C E dX7_play_54 ⟨o9_39, (chN 0 ps), f2_39, (chP 0 P ps f), fr2_39, rs2_39, ca2_39, o9_39, od2_39, q_39, f, W2_39, rfl, rfl, hq0_39, (Or.inl ⟨by rw [hp39], by rw [hp39], by rw [hp39], if_pos rfl, if_pos rfl⟩)⟩
  · obtain ⟨hz9, hpl⟩ : z_12 = 0 ∧ plR tx n 60 f 0 0 = (false, f2_12, fr2_12, rs2_12, ca2_12, o9_12 - 1) := by rcases hq2_12 with g | g; (· exfalso; omega); (· exact g)
    refine s_ldc (z := -1000002) C (by decide +kernel) dX7_play_31 ?_
    exact s_iret C E dX7_play_33 ⟨(-1000002), ps, f, P, fr2_12, rs2_12, ca2_12, o9_12, od2_12, q_12, f, W2_12, rfl, rfl, hq0_12, (Or.inr ⟨by rw [hpl], rfl, rfl, rfl, rfl⟩)⟩

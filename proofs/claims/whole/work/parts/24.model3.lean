set_option maxHeartbeats 4000000 in
set_option maxRecDepth 100000 in
theorem c_X7_lays (l : Launch) (G : fG) (m0 m1 : Nat) (xs : List Value) (f : Int → Int) (b p a : Int) (hb : 0 ≤ b ∧ b ≤ 1) (hp : 0 ≤ p ∧ p ≤ 100) : fCt l G yX7_lays wsX7_lays 1 23 0 0 [.ref m0, vI b, vI p, vI a] [cO m0 7 (.ref m1 :: xs), cA m1 G.2.1.1 718 f] (fun (v0 : Option Value) (w0 : va_W) => v0 = none ∧ w0 = [cO m0 7 (.ref m1 :: xs), cA m1 G.2.1.1 718 (sp_lay f b p a)]) := by
  refine fs_met (cc := cX7_lays) (nL := 4) (ret := none) (by decide) rfl (Nat.le_of_ble_eq_true rfl) ?_
  intro X C E
  show fSt l G X 0 0 0 [(0, .ref m0), (1, vI b), (2, vI p), (3, vI a)] [] [cO m0 7 (.ref m1 :: xs), cA m1 G.2.1.1 718 f]
  have hinX7 : ∀ w ∈ u_ws RX7 TX7 14, w ∈ wsX7_lays := by decide +kernel
  refine s_aload_n 0 C dX7_lays_0 rfl 0 rfl ?_
  refine s_get C dX7_lays_1 7 rfl hinX7 0 rfl 0 (by decide) (by decide +kernel) rfl ?_
  refine s_bipush (z := 12) C dX7_lays_4 rfl ?_
  refine s_iconst C dX7_lays_6 ?_
  refine s_iload_n 1 C dX7_lays_7 rfl 1 rfl ?_
  refine s_imul C dX7_lays_8 ?_
  refine s_iadd C dX7_lays_9 ?_
  refine s_iconst C dX7_lays_10 ?_
  refine s_iadd C dX7_lays_11 ?_
  refine s_iload_n 2 C dX7_lays_12 rfl 2 rfl ?_
  refine s_iast [cO m0 7 (.ref m1 :: xs), cA m1 G.2.1.1 718 (uZ f (3 * b + 12) p)] C dX7_lays_13 1 rfl (3 * b + 12) (by omega) (by omega) (by omega) (by omega) rfl ?_
  refine s_aload_n 0 C dX7_lays_14 rfl 0 rfl ?_
  refine s_get C dX7_lays_15 7 rfl hinX7 0 rfl 0 (by decide) (by decide +kernel) rfl ?_
  refine s_bipush (z := 12) C dX7_lays_18 rfl ?_
  refine s_iconst C dX7_lays_20 ?_
  refine s_iload_n 1 C dX7_lays_21 rfl 1 rfl ?_
  refine s_imul C dX7_lays_22 ?_
  refine s_iadd C dX7_lays_23 ?_
  refine s_iconst C dX7_lays_24 ?_
  refine s_iadd C dX7_lays_25 ?_
  refine s_iload_n 2 C dX7_lays_26 rfl 2 rfl ?_
  refine s_iast [cO m0 7 (.ref m1 :: xs), cA m1 G.2.1.1 718 (uZ (uZ f (3 * b + 12) p) (3 * b + 13) p)] C dX7_lays_27 1 rfl (3 * b + 13) (by omega) (by omega) (by omega) (by omega) rfl ?_
  refine s_aload_n 0 C dX7_lays_28 rfl 0 rfl ?_
  refine s_get C dX7_lays_29 7 rfl hinX7 0 rfl 0 (by decide) (by decide +kernel) rfl ?_
  refine s_bipush (z := 12) C dX7_lays_32 rfl ?_
  refine s_iconst C dX7_lays_34 ?_
  refine s_iload_n 1 C dX7_lays_35 rfl 1 rfl ?_
  refine s_imul C dX7_lays_36 ?_
  refine s_iadd C dX7_lays_37 ?_
  refine s_iconst C dX7_lays_38 ?_
  refine s_iadd C dX7_lays_39 ?_
  refine s_iload_n 3 C dX7_lays_40 rfl 3 rfl ?_
  refine s_iast [cO m0 7 (.ref m1 :: xs), cA m1 G.2.1.1 718 (uZ (uZ (uZ f (3 * b + 12) p) (3 * b + 13) p) (3 * b + 14) a)] C dX7_lays_41 1 rfl (3 * b + 14) (by omega) (by omega) (by omega) (by omega) rfl ?_
  refine s_aload_n 0 C dX7_lays_42 rfl 0 rfl ?_
  refine s_iload_n 1 C dX7_lays_43 rfl 1 rfl ?_
  refine s_iconst C dX7_lays_44 ?_
  refine s_callV (As := [vI b, vI 0]) (rest := []) C dX7_lays_45 (c_X7_fillsGaps l G m0 m1 xs (uZ (uZ (uZ f (3 * b + 12) p) (3 * b + 13) p) (3 * b + 14) a) b 0 (by first | assumption | omega) (by first | assumption | omega)) gX7_lays_X7_fillsGaps rfl 2 (by decide +kernel) (by decide) 0 7 rfl rfl rfl [0, 1] rfl (by decide) rfl (Nat.le_of_ble_eq_true rfl) ⟨Nat.zero_le _, Nat.zero_le _⟩ ?_
  intro v0 w0 hq
  obtain ⟨rfl, rfl⟩ := hq
  refine ⟨rfl, ?_⟩
  show fSt l G X 0 0 48 [(0, .ref m0), (1, vI b), (2, vI p), (3, vI a)] [] [cO m0 7 (.ref m1 :: xs), cA m1 G.2.1.1 718 (fG0 (uZ (uZ (uZ f (3 * b + 12) p) (3 * b + 13) p) (3 * b + 14) a) b 0 (100 * b + 118))]
  exact s_vret C E dX7_lays_48 ⟨rfl, rfl⟩

set_option maxHeartbeats 4000000 in
set_option maxRecDepth 100000 in
theorem c_X7_wouldBeLost (l : Launch) (G : fG) (m0 m1 : Nat) (xs : List Value) (f : Int → Int) (b : Int) (hf : rF f) (hb : 0 ≤ b ∧ b ≤ 1) (hS : 0 ≤ oS f b 1 ∧ oS f b 1 ≤ f 0 ∧ f 0 ≤ 100) : fCt l G yX7_wouldBeLost wsX7_wouldBeLost 2 46 0 0 [.ref m0, vI b] [cO m0 7 (.ref m1 :: xs), cA m1 G.2.1.1 718 f] (fun (v0 : Option Value) (w0 : va_W) => v0 = some (vI (mB f (oS f b 1 + 1) (f 0))) ∧ w0 = [cO m0 7 (.ref m1 :: xs), cA m1 G.2.1.1 718 f]) := by
  refine fs_met (cc := cX7_wouldBeLost) (nL := 2) (ret := (some .int)) (by decide) rfl (Nat.le_of_ble_eq_true rfl) ?_
  intro X C E
  show fSt l G X 0 0 0 [(0, .ref m0), (1, vI b)] [] [cO m0 7 (.ref m1 :: xs), cA m1 G.2.1.1 718 f]
  have hinX7 : ∀ w ∈ u_ws RX7 TX7 14, w ∈ wsX7_wouldBeLost := by decide +kernel
  refine s_aload_n 0 C dX7_wouldBeLost_0 rfl 0 rfl ?_
  refine s_aload_n 0 C dX7_wouldBeLost_1 rfl 0 rfl ?_
  refine s_iload_n 1 C dX7_wouldBeLost_2 rfl 1 rfl ?_
  refine s_iconst C dX7_wouldBeLost_3 ?_
  refine s_callV (As := [vI b, vI 1]) (rest := [.ref m0]) C dX7_wouldBeLost_4 (c_X7_ofStandby l G m0 m1 xs f b 1 (by first | assumption | omega)) gX7_wouldBeLost_X7_ofStandby rfl 2 (by decide +kernel) (by decide) 0 7 rfl rfl rfl [0, 1] rfl (by decide) rfl (Nat.le_of_ble_eq_true rfl) ⟨Nat.zero_le _, Nat.zero_le _⟩ ?_
  intro v0 w0 hq
  obtain ⟨rfl, rfl⟩ := hq
  refine ⟨rfl, ?_⟩
  show fSt l G X 0 0 7 [(0, .ref m0), (1, vI b)] [vI (oS f b 1), .ref m0] [cO m0 7 (.ref m1 :: xs), cA m1 G.2.1.1 718 f]
  refine s_iconst C dX7_wouldBeLost_7 ?_
  refine s_iadd C dX7_wouldBeLost_8 ?_
  refine s_aload_n 0 C dX7_wouldBeLost_9 rfl 0 rfl ?_
  refine s_get C dX7_wouldBeLost_10 7 rfl hinX7 0 rfl 0 (by decide) (by decide +kernel) rfl ?_
  refine s_iconst C dX7_wouldBeLost_13 ?_
  refine s_iald C dX7_wouldBeLost_14 1 rfl 0 rfl (by omega) (by omega) (by omega) ?_
  refine s_callV (As := [vI ((oS f b 1) + 1), vI (f 0)]) (rest := []) C dX7_wouldBeLost_15 (c_X7_commits l G m0 m1 xs f ((oS f b 1) + 1) (f 0) (by first | assumption | omega) (by first | assumption | omega)) gX7_wouldBeLost_X7_commits rfl 2 (by decide +kernel) (by decide) 0 7 rfl rfl rfl [0, 1] rfl (by decide) rfl (Nat.le_of_ble_eq_true rfl) ⟨Nat.zero_le _, Nat.zero_le _⟩ ?_
  intro v0 w0 hq
  obtain ⟨rfl, rfl⟩ := hq
  refine ⟨rfl, ?_⟩
  show fSt l G X 0 0 18 [(0, .ref m0), (1, vI b)] [vI (mB f ((oS f b 1) + 1) (f 0))] [cO m0 7 (.ref m1 :: xs), cA m1 G.2.1.1 718 f]
  exact s_iret C E dX7_wouldBeLost_18 ⟨congrArg (fun z => some (vI z)) (rfl), rfl⟩

set_option maxHeartbeats 4000000 in
set_option maxRecDepth 100000 in
theorem c_X7_tick (l : Launch) (G : fG) (B : Int) (m0 m1 m2 : Nat) (x3 : Value) (xs : List Value) (f P : Int → Int) (ps rn t : Int) (hps : 0 ≤ ps ∧ ps ≤ 4) (hrn : rn = 0 ∨ rn = 1) (hI : Inv B f) (hB : B ≤ 1073000000) (ht : -2147483648 ≤ t ∧ t < 2147483648) : fCt l G yX7_tick wsX7_tick 2 49 0 0 [.ref m0, vI t] [cO m0 7 (.ref m1 :: .ref m2 :: x3 :: vI ps :: vI rn :: xs), cA m1 G.2.1.1 718 f, cA m2 G.2.1.1 2872 P] (fun (v0 : Option Value) (w0 : va_W) => ∃ (z : Int) (f2 P2 : Int → Int) (ps2 : Int), v0 = some (vI z) ∧ w0 = [cO m0 7 (.ref m1 :: .ref m2 :: x3 :: vI ps2 :: vI rn :: xs), cA m1 G.2.1.1 718 f2, cA m2 G.2.1.1 2872 P2] ∧ ((z, f2) = sp_tick f t) ∧ (P2 = if z < 0 then P else chP rn P ps f) ∧ (ps2 = if z < 0 then ps else chN rn ps)) := by
  refine fs_met (cc := cX7_tick) (nL := 6) (ret := (some .int)) (by decide) rfl (Nat.le_of_ble_eq_true rfl) ?_
  intro X C E
  show fSt l G X 0 0 0 [(0, .ref m0), (1, vI t)] [] [cO m0 7 (.ref m1 :: .ref m2 :: x3 :: vI ps :: vI rn :: xs), cA m1 G.2.1.1 718 f, cA m2 G.2.1.1 2872 P]
  have hinX7 : ∀ w ∈ u_ws RX7 TX7 14, w ∈ wsX7_tick := by decide +kernel
  have hf := hI.rf
  have hn := hI.n
  have htk := hI.tk
  have hlo := hI.lo
  have hln := hI.ln
  have hlc := hI.lc
  have hap := hI.ap
  have hrt := hI.rt
  have hdl := hI.dl
  have hT := hI.TI (by omega)
  refine s_iload_n 1 C dX7_tick_0 rfl 1 rfl ?_
  refine s_iconst C dX7_tick_1 ?_
  refine s_bipush (z := 99) C dX7_tick_2 rfl ?_
  refine s_callS (As := [vI t, vI 1, vI 99]) (rest := []) C dX7_tick_4 (c_X7_in l G t 1 99 (by first | assumption | omega) (by first | assumption | omega) (by first | assumption | omega)) gX7_tick_X7_in rfl 3 (by decide +kernel) (by decide) [] rfl (by decide) rfl (Nat.le_of_ble_eq_true rfl) ⟨Nat.zero_le _, Nat.zero_le _⟩ ?_
  intro v0 w0 hq
  obtain ⟨rfl, rfl⟩ := hq
  refine ⟨rfl, ?_⟩
  show fSt l G X 0 0 7 [(0, .ref m0), (1, vI t)] [vI (bI (1 ≤ t ∧ t ≤ 99))] [cO m0 7 (.ref m1 :: .ref m2 :: x3 :: vI ps :: vI rn :: xs), cA m1 G.2.1.1 718 f, cA m2 G.2.1.1 2872 P]
  refine s_if_ne 13 C dX7_tick_7 (by decide) bI_rng (fun h_7 => ?_) (fun h_7 => ?_)
  · have h_7 := bI_t h_7
    refine s_aload_n 0 C dX7_tick_13 rfl 0 rfl ?_
    refine s_callV (As := []) (rest := []) C dX7_tick_14 (c_X7_changes l G m0 m1 m2 (x3) xs f P ps rn (by first | assumption | omega) (by first | assumption | omega)) gX7_tick_X7_changes rfl 0 (by decide +kernel) (by decide) 0 7 rfl rfl rfl [0, 1, 2] rfl (by decide) rfl (Nat.le_of_ble_eq_true rfl) ⟨Nat.zero_le _, Nat.zero_le _⟩ ?_
    intro v0 w0 hq
    obtain ⟨rfl, rfl⟩ := hq
    refine ⟨rfl, ?_⟩
    show fSt l G X 0 0 17 [(0, .ref m0), (1, vI t)] [] [cO m0 7 (.ref m1 :: .ref m2 :: x3 :: vI (chN rn ps) :: vI rn :: xs), cA m1 G.2.1.1 718 f, cA m2 G.2.1.1 2872 (chP rn P ps f)]
    refine s_iconst C dX7_tick_17 ?_
    refine s_istore_n 2 [(2, vI 0), (0, .ref m0), (1, vI t)] C dX7_tick_18 rfl (by decide) rfl ?_
    refine s_iconst C dX7_tick_19 ?_
    refine s_istore_n 3 [(3, vI 0), (2, vI 0), (0, .ref m0), (1, vI t)] C dX7_tick_20 rfl (by decide) rfl ?_
    have loop_21 : ∀ (fuel : Nat) (k c : Int) (U : Int → Int), (0 ≤ k ∧ k ≤ t) → (U = tkN f k.toNat) → (c = U 13 + U 16 - f 13 - f 16) → (t - k < (fuel : Int)) → fSt l G X 0 0 21 [(0, .ref m0), (1, vI t), (2, vI c), (3, vI k)] [] [cO m0 7 (.ref m1 :: .ref m2 :: x3 :: vI (chN rn ps) :: vI rn :: xs), cA m1 G.2.1.1 718 U, cA m2 G.2.1.1 2872 (chP rn P ps f)] := by
      intro fuel
      induction fuel with
      | zero =>
        intro k c U hk hU hcs hm
        exfalso
        omega
      | succ fuel ih_21 =>
        intro k c U hk hU hcs hm
        refine s_iload_n 3 C dX7_tick_21 rfl 3 rfl ?_
        refine s_iload_n 1 C dX7_tick_22 rfl 1 rfl ?_
        refine s_icmp_ge 109 C dX7_tick_23 (by decide) (by omega) (by omega) (fun h_23 => ?_) (fun h_23 => ?_)
        · have hsum := tkN_up hT k.toNat (by omega)
          refine s_aload_n 0 C dX7_tick_109 rfl 0 rfl ?_
          refine s_get C dX7_tick_110 7 rfl hinX7 0 rfl 0 (by decide) (by decide +kernel) rfl ?_
          refine s_bipush (z := 6) C dX7_tick_113 rfl ?_
          refine s_dup2 C dX7_tick_115 rfl rfl ?_
          refine s_iald C dX7_tick_116 1 rfl 6 rfl (by omega) (by omega) (by omega) ?_
          refine s_iload_n 2 C dX7_tick_117 rfl 2 rfl ?_
          refine s_iadd C dX7_tick_118 ?_
          refine s_iast [cO m0 7 (.ref m1 :: .ref m2 :: x3 :: vI (chN rn ps) :: vI rn :: xs), cA m1 G.2.1.1 718 (uZ U 6 ((U 6) + c)), cA m2 G.2.1.1 2872 (chP rn P ps f)] C dX7_tick_119 1 rfl 6 rfl (by omega) (by omega) (by omega) rfl ?_
          refine s_iload_n 2 C dX7_tick_120 rfl 2 rfl ?_
          exact s_iret C E dX7_tick_121 ⟨c, (uZ U 6 ((U 6) + c)), (chP rn P ps f), (chN rn ps), rfl, rfl, (by have e9 : t.toNat = k.toNat := (by omega); rw [sp_tick, if_pos (by omega), e9, ← hU, hcs]), (if_neg (by rw [hcs, hU]; omega)).symm, (if_neg (by rw [hcs, hU]; omega)).symm⟩
        · have hTU : TI U (B + k) := by rw [hU]; have h9 := hT.n k.toNat (by omega); rwa [show ((k.toNat : Nat) : Int) = k by omega] at h9
          have hU7 := hTU.2.2.1
          have hU1 := hTU.2.1
          have hTa := hTU.a (by omega)
          have hTb := hTU.b (by omega)
          have hSa := hTa.S (b := 0) (by omega)
          have hSb := hTb.S (b := 1) (by omega)
          refine s_aload_n 0 C dX7_tick_26 rfl 0 rfl ?_
          refine s_get C dX7_tick_27 7 rfl hinX7 0 rfl 0 (by decide) (by decide +kernel) rfl ?_
          refine s_iconst C dX7_tick_30 ?_
          refine s_dup2 C dX7_tick_31 rfl rfl ?_
          refine s_iald C dX7_tick_32 1 rfl 1 rfl (by omega) (by omega) (by omega) ?_
          refine s_iconst C dX7_tick_33 ?_
          refine s_iadd C dX7_tick_34 ?_
          refine s_iast [cO m0 7 (.ref m1 :: .ref m2 :: x3 :: vI (chN rn ps) :: vI rn :: xs), cA m1 G.2.1.1 718 (uZ U 1 ((U 1) + 1)), cA m2 G.2.1.1 2872 (chP rn P ps f)] C dX7_tick_35 1 rfl 1 rfl (by omega) (by omega) (by omega) rfl ?_
          refine s_iconst C dX7_tick_36 ?_
          refine s_istore [(4, vI 0), (0, .ref m0), (1, vI t), (2, vI c), (3, vI k)] C dX7_tick_37 (by decide) rfl ?_
          refine s_iload C dX7_tick_39 0 rfl ?_
          refine s_iconst C dX7_tick_41 ?_
          refine s_icmp_ge 103 C dX7_tick_42 (by decide) (by decide) (by decide) (fun h => absurd h (by decide)) (fun h => ?_)
          refine s_aload_n 0 C dX7_tick_45 rfl 1 rfl ?_
          refine s_iload C dX7_tick_46 0 rfl ?_
          refine s_aload_n 0 C dX7_tick_48 rfl 1 rfl ?_
          refine s_iload C dX7_tick_49 0 rfl ?_
          refine s_iconst C dX7_tick_51 ?_
          refine s_callV (As := [vI 0, vI 1]) (rest := [vI 0, .ref m0]) C dX7_tick_52 (c_X7_ofStandby l G m0 m1 (.ref m2 :: x3 :: vI (chN rn ps) :: vI rn :: xs) (uZ U 1 ((U 1) + 1)) 0 1 (by first | assumption | omega)) gX7_tick_X7_ofStandby rfl 2 (by decide +kernel) (by decide) 0 7 rfl rfl rfl [0, 1] rfl (by decide) rfl (Nat.le_of_ble_eq_true rfl) ⟨Nat.zero_le _, Nat.zero_le _⟩ ?_
          intro v0 w0 hq
          obtain ⟨rfl, rfl⟩ := hq
          refine ⟨rfl, ?_⟩
          show fSt l G X 0 0 55 [(4, vI 0), (0, .ref m0), (1, vI t), (2, vI c), (3, vI k)] [vI (oS (uZ U 1 ((U 1) + 1)) 0 1), vI 0, .ref m0] [cO m0 7 (.ref m1 :: .ref m2 :: x3 :: vI (chN rn ps) :: vI rn :: xs), cA m1 G.2.1.1 718 (uZ U 1 ((U 1) + 1)), cA m2 G.2.1.1 2872 (chP rn P ps f)]
          refine s_aload_n 0 C dX7_tick_55 rfl 1 rfl ?_
          refine s_get C dX7_tick_56 7 rfl hinX7 0 rfl 0 (by decide) (by decide +kernel) rfl ?_
          refine s_iconst C dX7_tick_59 ?_
          refine s_iald C dX7_tick_60 1 rfl 1 rfl (by omega) (by omega) (by omega) ?_
          refine s_top ((U 1) + 1) uZ_s ?_
          refine s_aload_n 0 C dX7_tick_61 rfl 1 rfl ?_
          refine s_get C dX7_tick_62 7 rfl hinX7 0 rfl 0 (by decide) (by decide +kernel) rfl ?_
          refine s_bipush (z := 7) C dX7_tick_65 rfl ?_
          refine s_iald C dX7_tick_67 1 rfl 7 rfl (by omega) (by omega) (by omega) ?_
          refine s_top (U 7) (uZ_n (by omega)) ?_
          refine s_callV (As := [vI 0, vI (oS (uZ U 1 ((U 1) + 1)) 0 1), vI ((U 1) + 1), vI (U 7)]) (rest := []) C dX7_tick_68 (c_X7_goes l G (B + k + 1) m0 m1 (.ref m2 :: x3 :: vI (chN rn ps) :: vI rn :: xs) (uZ U 1 ((U 1) + 1)) 0 (oS (uZ U 1 ((U 1) + 1)) 0 1) ((U 1) + 1) (U 7) (by first | exact hTa | exact hTb) (by first | assumption | omega) (by first | exact ⟨hSa.1, hSa.2.1⟩ | exact ⟨hSb.1, hSb.2.1⟩) (by first | assumption | omega) (by first | assumption | omega)) gX7_tick_X7_goes rfl 4 (by decide +kernel) (by decide) 0 7 rfl rfl rfl [0, 1] rfl (by decide) rfl (Nat.le_of_ble_eq_true rfl) ⟨Nat.zero_le _, Nat.zero_le _⟩ ?_
          intro v0 w0 hq
          obtain ⟨rfl, rfl⟩ := hq
          refine ⟨rfl, ?_⟩
          show fSt l G X 0 0 71 [(4, vI 0), (0, .ref m0), (1, vI t), (2, vI c), (3, vI k)] [vI (go (uZ U 1 ((U 1) + 1)) 0 (oS (uZ U 1 ((U 1) + 1)) 0 1) ((U 1) + 1) (U 7))] [cO m0 7 (.ref m1 :: .ref m2 :: x3 :: vI (chN rn ps) :: vI rn :: xs), cA m1 G.2.1.1 718 (uZ U 1 ((U 1) + 1)), cA m2 G.2.1.1 2872 (chP rn P ps f)]
          refine s_istore [(5, vI (go (uZ U 1 ((U 1) + 1)) 0 (oS (uZ U 1 ((U 1) + 1)) 0 1) ((U 1) + 1) (U 7))), (4, vI 0), (0, .ref m0), (1, vI t), (2, vI c), (3, vI k)] C dX7_tick_71 (by decide) rfl ?_
          refine s_aload_n 0 C dX7_tick_73 rfl 2 rfl ?_
          refine s_get C dX7_tick_74 7 rfl hinX7 0 rfl 0 (by decide) (by decide +kernel) rfl ?_
          refine s_bipush (z := 12) C dX7_tick_77 rfl ?_
          refine s_iconst C dX7_tick_79 ?_
          refine s_iload C dX7_tick_80 1 rfl ?_
          refine s_imul C dX7_tick_82 ?_
          refine s_iadd C dX7_tick_83 ?_
          refine s_iconst C dX7_tick_84 ?_
          refine s_iadd C dX7_tick_85 ?_
          refine s_dup2 C dX7_tick_86 rfl rfl ?_
          refine s_iald C dX7_tick_87 1 rfl 13 (by omega) (by omega) (by omega) (by omega) ?_
          refine s_top (U 13) (uZ_n (by omega)) ?_
          refine s_iload C dX7_tick_88 0 rfl ?_
          refine s_iadd C dX7_tick_90 ?_
          refine s_iast [cO m0 7 (.ref m1 :: .ref m2 :: x3 :: vI (chN rn ps) :: vI rn :: xs), cA m1 G.2.1.1 718 (uZ (uZ U 1 ((U 1) + 1)) 13 ((U 13) + (go (uZ U 1 ((U 1) + 1)) 0 (oS (uZ U 1 ((U 1) + 1)) 0 1) ((U 1) + 1) (U 7)))), cA m2 G.2.1.1 2872 (chP rn P ps f)] C dX7_tick_91 1 rfl 13 (by omega) (by omega) (by omega) (by omega) rfl ?_
          refine s_iload_n 2 C dX7_tick_92 rfl 4 rfl ?_
          refine s_iload C dX7_tick_93 0 rfl ?_
          refine s_iadd C dX7_tick_95 ?_
          refine s_istore_n 2 [(2, vI (c + (go (uZ U 1 ((U 1) + 1)) 0 (oS (uZ U 1 ((U 1) + 1)) 0 1) ((U 1) + 1) (U 7)))), (5, vI (go (uZ U 1 ((U 1) + 1)) 0 (oS (uZ U 1 ((U 1) + 1)) 0 1) ((U 1) + 1) (U 7))), (4, vI 0), (0, .ref m0), (1, vI t), (3, vI k)] C dX7_tick_96 rfl (by decide) rfl ?_
          refine s_iinc [(4, vI (0 + 1)), (2, vI (c + (go (uZ U 1 ((U 1) + 1)) 0 (oS (uZ U 1 ((U 1) + 1)) 0 1) ((U 1) + 1) (U 7)))), (5, vI (go (uZ U 1 ((U 1) + 1)) 0 (oS (uZ U 1 ((U 1) + 1)) 0 1) ((U 1) + 1) (U 7))), (0, .ref m0), (1, vI t), (3, vI k)] C dX7_tick_97 2 rfl (by decide) rfl ?_
          refine s_goto 39 C dX7_tick_100 (by decide) ?_
          refine s_iload C dX7_tick_39 0 rfl ?_
          refine s_iconst C dX7_tick_41 ?_
          refine s_icmp_ge 103 C dX7_tick_42 (by decide) (by decide) (by decide) (fun h => absurd h (by decide)) (fun h => ?_)
          refine s_aload_n 0 C dX7_tick_45 rfl 3 rfl ?_
          refine s_iload C dX7_tick_46 0 rfl ?_
          refine s_aload_n 0 C dX7_tick_48 rfl 3 rfl ?_
          refine s_iload C dX7_tick_49 0 rfl ?_
          refine s_iconst C dX7_tick_51 ?_
          refine s_callV (As := [vI (0 + 1), vI 1]) (rest := [vI (0 + 1), .ref m0]) C dX7_tick_52 (c_X7_ofStandby l G m0 m1 (.ref m2 :: x3 :: vI (chN rn ps) :: vI rn :: xs) (uZ (uZ U 1 ((U 1) + 1)) 13 ((U 13) + (go (uZ U 1 ((U 1) + 1)) 0 (oS (uZ U 1 ((U 1) + 1)) 0 1) ((U 1) + 1) (U 7)))) (0 + 1) 1 (by first | assumption | omega)) gX7_tick_X7_ofStandby rfl 2 (by decide +kernel) (by decide) 0 7 rfl rfl rfl [0, 1] rfl (by decide) rfl (Nat.le_of_ble_eq_true rfl) ⟨Nat.zero_le _, Nat.zero_le _⟩ ?_
          intro v0 w0 hq
          obtain ⟨rfl, rfl⟩ := hq
          refine ⟨rfl, ?_⟩
          show fSt l G X 0 0 55 [(4, vI (0 + 1)), (2, vI (c + (go (uZ U 1 ((U 1) + 1)) 0 (oS (uZ U 1 ((U 1) + 1)) 0 1) ((U 1) + 1) (U 7)))), (5, vI (go (uZ U 1 ((U 1) + 1)) 0 (oS (uZ U 1 ((U 1) + 1)) 0 1) ((U 1) + 1) (U 7))), (0, .ref m0), (1, vI t), (3, vI k)] [vI (oS (uZ (uZ U 1 ((U 1) + 1)) 13 ((U 13) + (go (uZ U 1 ((U 1) + 1)) 0 (oS (uZ U 1 ((U 1) + 1)) 0 1) ((U 1) + 1) (U 7)))) (0 + 1) 1), vI (0 + 1), .ref m0] [cO m0 7 (.ref m1 :: .ref m2 :: x3 :: vI (chN rn ps) :: vI rn :: xs), cA m1 G.2.1.1 718 (uZ (uZ U 1 ((U 1) + 1)) 13 ((U 13) + (go (uZ U 1 ((U 1) + 1)) 0 (oS (uZ U 1 ((U 1) + 1)) 0 1) ((U 1) + 1) (U 7)))), cA m2 G.2.1.1 2872 (chP rn P ps f)]
          refine s_aload_n 0 C dX7_tick_55 rfl 3 rfl ?_
          refine s_get C dX7_tick_56 7 rfl hinX7 0 rfl 0 (by decide) (by decide +kernel) rfl ?_
          refine s_iconst C dX7_tick_59 ?_
          refine s_iald C dX7_tick_60 1 rfl 1 rfl (by omega) (by omega) (by omega) ?_
          refine s_top ((uZ U 1 ((U 1) + 1)) 1) (uZ_n (by omega)) ?_
          refine s_top ((U 1) + 1) uZ_s ?_
          refine s_aload_n 0 C dX7_tick_61 rfl 3 rfl ?_
          refine s_get C dX7_tick_62 7 rfl hinX7 0 rfl 0 (by decide) (by decide +kernel) rfl ?_
          refine s_bipush (z := 7) C dX7_tick_65 rfl ?_
          refine s_iald C dX7_tick_67 1 rfl 7 rfl (by omega) (by omega) (by omega) ?_
          refine s_top ((uZ U 1 ((U 1) + 1)) 7) (uZ_n (by omega)) ?_
          refine s_top (U 7) (uZ_n (by omega)) ?_
          refine s_callV (As := [vI (0 + 1), vI (oS (uZ (uZ U 1 ((U 1) + 1)) 13 ((U 13) + (go (uZ U 1 ((U 1) + 1)) 0 (oS (uZ U 1 ((U 1) + 1)) 0 1) ((U 1) + 1) (U 7)))) (0 + 1) 1), vI ((U 1) + 1), vI (U 7)]) (rest := []) C dX7_tick_68 (c_X7_goes l G (B + k + 1) m0 m1 (.ref m2 :: x3 :: vI (chN rn ps) :: vI rn :: xs) (uZ (uZ U 1 ((U 1) + 1)) 13 ((U 13) + (go (uZ U 1 ((U 1) + 1)) 0 (oS (uZ U 1 ((U 1) + 1)) 0 1) ((U 1) + 1) (U 7)))) (0 + 1) (oS (uZ (uZ U 1 ((U 1) + 1)) 13 ((U 13) + (go (uZ U 1 ((U 1) + 1)) 0 (oS (uZ U 1 ((U 1) + 1)) 0 1) ((U 1) + 1) (U 7)))) (0 + 1) 1) ((U 1) + 1) (U 7) (by first | exact hTa | exact hTb) (by first | assumption | omega) (by first | exact ⟨hSa.1, hSa.2.1⟩ | exact ⟨hSb.1, hSb.2.1⟩) (by first | assumption | omega) (by first | assumption | omega)) gX7_tick_X7_goes rfl 4 (by decide +kernel) (by decide) 0 7 rfl rfl rfl [0, 1] rfl (by decide) rfl (Nat.le_of_ble_eq_true rfl) ⟨Nat.zero_le _, Nat.zero_le _⟩ ?_
          intro v0 w0 hq
          obtain ⟨rfl, rfl⟩ := hq
          refine ⟨rfl, ?_⟩
          show fSt l G X 0 0 71 [(4, vI (0 + 1)), (2, vI (c + (go (uZ U 1 ((U 1) + 1)) 0 (oS (uZ U 1 ((U 1) + 1)) 0 1) ((U 1) + 1) (U 7)))), (5, vI (go (uZ U 1 ((U 1) + 1)) 0 (oS (uZ U 1 ((U 1) + 1)) 0 1) ((U 1) + 1) (U 7))), (0, .ref m0), (1, vI t), (3, vI k)] [vI (go (uZ (uZ U 1 ((U 1) + 1)) 13 ((U 13) + (go (uZ U 1 ((U 1) + 1)) 0 (oS (uZ U 1 ((U 1) + 1)) 0 1) ((U 1) + 1) (U 7)))) (0 + 1) (oS (uZ (uZ U 1 ((U 1) + 1)) 13 ((U 13) + (go (uZ U 1 ((U 1) + 1)) 0 (oS (uZ U 1 ((U 1) + 1)) 0 1) ((U 1) + 1) (U 7)))) (0 + 1) 1) ((U 1) + 1) (U 7))] [cO m0 7 (.ref m1 :: .ref m2 :: x3 :: vI (chN rn ps) :: vI rn :: xs), cA m1 G.2.1.1 718 (uZ (uZ U 1 ((U 1) + 1)) 13 ((U 13) + (go (uZ U 1 ((U 1) + 1)) 0 (oS (uZ U 1 ((U 1) + 1)) 0 1) ((U 1) + 1) (U 7)))), cA m2 G.2.1.1 2872 (chP rn P ps f)]
          refine s_istore [(5, vI (go (uZ (uZ U 1 ((U 1) + 1)) 13 ((U 13) + (go (uZ U 1 ((U 1) + 1)) 0 (oS (uZ U 1 ((U 1) + 1)) 0 1) ((U 1) + 1) (U 7)))) (0 + 1) (oS (uZ (uZ U 1 ((U 1) + 1)) 13 ((U 13) + (go (uZ U 1 ((U 1) + 1)) 0 (oS (uZ U 1 ((U 1) + 1)) 0 1) ((U 1) + 1) (U 7)))) (0 + 1) 1) ((U 1) + 1) (U 7))), (4, vI (0 + 1)), (2, vI (c + (go (uZ U 1 ((U 1) + 1)) 0 (oS (uZ U 1 ((U 1) + 1)) 0 1) ((U 1) + 1) (U 7)))), (0, .ref m0), (1, vI t), (3, vI k)] C dX7_tick_71 (by decide) rfl ?_
          refine s_aload_n 0 C dX7_tick_73 rfl 3 rfl ?_
          refine s_get C dX7_tick_74 7 rfl hinX7 0 rfl 0 (by decide) (by decide +kernel) rfl ?_
          refine s_bipush (z := 12) C dX7_tick_77 rfl ?_
          refine s_iconst C dX7_tick_79 ?_
          refine s_iload C dX7_tick_80 1 rfl ?_
          refine s_imul C dX7_tick_82 ?_
          refine s_iadd C dX7_tick_83 ?_
          refine s_iconst C dX7_tick_84 ?_
          refine s_iadd C dX7_tick_85 ?_
          refine s_dup2 C dX7_tick_86 rfl rfl ?_
          refine s_iald C dX7_tick_87 1 rfl 16 (by omega) (by omega) (by omega) (by omega) ?_
          refine s_top ((uZ U 1 ((U 1) + 1)) 16) (uZ_n (by omega)) ?_
          refine s_top (U 16) (uZ_n (by omega)) ?_
          refine s_iload C dX7_tick_88 0 rfl ?_
          refine s_iadd C dX7_tick_90 ?_
          refine s_iast [cO m0 7 (.ref m1 :: .ref m2 :: x3 :: vI (chN rn ps) :: vI rn :: xs), cA m1 G.2.1.1 718 (uZ (uZ (uZ U 1 ((U 1) + 1)) 13 ((U 13) + (go (uZ U 1 ((U 1) + 1)) 0 (oS (uZ U 1 ((U 1) + 1)) 0 1) ((U 1) + 1) (U 7)))) 16 ((U 16) + (go (uZ (uZ U 1 ((U 1) + 1)) 13 ((U 13) + (go (uZ U 1 ((U 1) + 1)) 0 (oS (uZ U 1 ((U 1) + 1)) 0 1) ((U 1) + 1) (U 7)))) (0 + 1) (oS (uZ (uZ U 1 ((U 1) + 1)) 13 ((U 13) + (go (uZ U 1 ((U 1) + 1)) 0 (oS (uZ U 1 ((U 1) + 1)) 0 1) ((U 1) + 1) (U 7)))) (0 + 1) 1) ((U 1) + 1) (U 7)))), cA m2 G.2.1.1 2872 (chP rn P ps f)] C dX7_tick_91 1 rfl 16 (by omega) (by omega) (by omega) (by omega) rfl ?_
          refine s_iload_n 2 C dX7_tick_92 rfl 2 rfl ?_
          refine s_iload C dX7_tick_93 0 rfl ?_
          refine s_iadd C dX7_tick_95 ?_
          refine s_istore_n 2 [(2, vI (c + (go (uZ U 1 ((U 1) + 1)) 0 (oS (uZ U 1 ((U 1) + 1)) 0 1) ((U 1) + 1) (U 7)) + (go (uZ (uZ U 1 ((U 1) + 1)) 13 ((U 13) + (go (uZ U 1 ((U 1) + 1)) 0 (oS (uZ U 1 ((U 1) + 1)) 0 1) ((U 1) + 1) (U 7)))) (0 + 1) (oS (uZ (uZ U 1 ((U 1) + 1)) 13 ((U 13) + (go (uZ U 1 ((U 1) + 1)) 0 (oS (uZ U 1 ((U 1) + 1)) 0 1) ((U 1) + 1) (U 7)))) (0 + 1) 1) ((U 1) + 1) (U 7)))), (5, vI (go (uZ (uZ U 1 ((U 1) + 1)) 13 ((U 13) + (go (uZ U 1 ((U 1) + 1)) 0 (oS (uZ U 1 ((U 1) + 1)) 0 1) ((U 1) + 1) (U 7)))) (0 + 1) (oS (uZ (uZ U 1 ((U 1) + 1)) 13 ((U 13) + (go (uZ U 1 ((U 1) + 1)) 0 (oS (uZ U 1 ((U 1) + 1)) 0 1) ((U 1) + 1) (U 7)))) (0 + 1) 1) ((U 1) + 1) (U 7))), (4, vI (0 + 1)), (0, .ref m0), (1, vI t), (3, vI k)] C dX7_tick_96 rfl (by decide) rfl ?_
          refine s_iinc [(4, vI (0 + 1 + 1)), (2, vI (c + (go (uZ U 1 ((U 1) + 1)) 0 (oS (uZ U 1 ((U 1) + 1)) 0 1) ((U 1) + 1) (U 7)) + (go (uZ (uZ U 1 ((U 1) + 1)) 13 ((U 13) + (go (uZ U 1 ((U 1) + 1)) 0 (oS (uZ U 1 ((U 1) + 1)) 0 1) ((U 1) + 1) (U 7)))) (0 + 1) (oS (uZ (uZ U 1 ((U 1) + 1)) 13 ((U 13) + (go (uZ U 1 ((U 1) + 1)) 0 (oS (uZ U 1 ((U 1) + 1)) 0 1) ((U 1) + 1) (U 7)))) (0 + 1) 1) ((U 1) + 1) (U 7)))), (5, vI (go (uZ (uZ U 1 ((U 1) + 1)) 13 ((U 13) + (go (uZ U 1 ((U 1) + 1)) 0 (oS (uZ U 1 ((U 1) + 1)) 0 1) ((U 1) + 1) (U 7)))) (0 + 1) (oS (uZ (uZ U 1 ((U 1) + 1)) 13 ((U 13) + (go (uZ U 1 ((U 1) + 1)) 0 (oS (uZ U 1 ((U 1) + 1)) 0 1) ((U 1) + 1) (U 7)))) (0 + 1) 1) ((U 1) + 1) (U 7))), (0, .ref m0), (1, vI t), (3, vI k)] C dX7_tick_97 2 rfl (by decide) rfl ?_
          refine s_goto 39 C dX7_tick_100 (by decide) ?_
          refine s_iload C dX7_tick_39 0 rfl ?_
          refine s_iconst C dX7_tick_41 ?_
          refine s_icmp_ge 103 C dX7_tick_42 (by decide) (by decide) (by decide) (fun h => ?_) (fun h => absurd h (by decide))
          have hcs2 : c + go (tkA U) 0 (oS (tkA U) 0 1) (U 1 + 1) (U 7) + go (tkB U) 1 (oS (tkB U) 1 1) (U 1 + 1) (U 7) = tk1 U 13 + tk1 U 16 - f 13 - f 16 := by rw [tk1_13, tk1_16]; omega
          refine s_iinc [(3, vI (k + 1)), (4, vI (0 + 1 + 1)), (2, vI (c + (go (uZ U 1 ((U 1) + 1)) 0 (oS (uZ U 1 ((U 1) + 1)) 0 1) ((U 1) + 1) (U 7)) + (go (uZ (uZ U 1 ((U 1) + 1)) 13 ((U 13) + (go (uZ U 1 ((U 1) + 1)) 0 (oS (uZ U 1 ((U 1) + 1)) 0 1) ((U 1) + 1) (U 7)))) (0 + 1) (oS (uZ (uZ U 1 ((U 1) + 1)) 13 ((U 13) + (go (uZ U 1 ((U 1) + 1)) 0 (oS (uZ U 1 ((U 1) + 1)) 0 1) ((U 1) + 1) (U 7)))) (0 + 1) 1) ((U 1) + 1) (U 7)))), (5, vI (go (uZ (uZ U 1 ((U 1) + 1)) 13 ((U 13) + (go (uZ U 1 ((U 1) + 1)) 0 (oS (uZ U 1 ((U 1) + 1)) 0 1) ((U 1) + 1) (U 7)))) (0 + 1) (oS (uZ (uZ U 1 ((U 1) + 1)) 13 ((U 13) + (go (uZ U 1 ((U 1) + 1)) 0 (oS (uZ U 1 ((U 1) + 1)) 0 1) ((U 1) + 1) (U 7)))) (0 + 1) 1) ((U 1) + 1) (U 7))), (0, .ref m0), (1, vI t)] C dX7_tick_103 5 rfl (by decide) rfl ?_
          refine s_goto 21 C dX7_tick_106 (by decide) ?_
          refine s_lv [(0, .ref m0), (1, vI t), (2, vI (c + (go (uZ U 1 ((U 1) + 1)) 0 (oS (uZ U 1 ((U 1) + 1)) 0 1) ((U 1) + 1) (U 7)) + (go (uZ (uZ U 1 ((U 1) + 1)) 13 ((U 13) + (go (uZ U 1 ((U 1) + 1)) 0 (oS (uZ U 1 ((U 1) + 1)) 0 1) ((U 1) + 1) (U 7)))) (0 + 1) (oS (uZ (uZ U 1 ((U 1) + 1)) 13 ((U 13) + (go (uZ U 1 ((U 1) + 1)) 0 (oS (uZ U 1 ((U 1) + 1)) 0 1) ((U 1) + 1) (U 7)))) (0 + 1) 1) ((U 1) + 1) (U 7)))), (3, vI (k + 1))] [4, 5, 2, 0] rfl ?_
          exact ih_21 (k + 1) (c + (go (uZ U 1 ((U 1) + 1)) 0 (oS (uZ U 1 ((U 1) + 1)) 0 1) ((U 1) + 1) (U 7)) + (go (uZ (uZ U 1 ((U 1) + 1)) 13 ((U 13) + (go (uZ U 1 ((U 1) + 1)) 0 (oS (uZ U 1 ((U 1) + 1)) 0 1) ((U 1) + 1) (U 7)))) (0 + 1) (oS (uZ (uZ U 1 ((U 1) + 1)) 13 ((U 13) + (go (uZ U 1 ((U 1) + 1)) 0 (oS (uZ U 1 ((U 1) + 1)) 0 1) ((U 1) + 1) (U 7)))) (0 + 1) 1) ((U 1) + 1) (U 7))) (uZ (uZ (uZ U 1 ((U 1) + 1)) 13 ((U 13) + (go (uZ U 1 ((U 1) + 1)) 0 (oS (uZ U 1 ((U 1) + 1)) 0 1) ((U 1) + 1) (U 7)))) 16 ((U 16) + (go (uZ (uZ U 1 ((U 1) + 1)) 13 ((U 13) + (go (uZ U 1 ((U 1) + 1)) 0 (oS (uZ U 1 ((U 1) + 1)) 0 1) ((U 1) + 1) (U 7)))) (0 + 1) (oS (uZ (uZ U 1 ((U 1) + 1)) 13 ((U 13) + (go (uZ U 1 ((U 1) + 1)) 0 (oS (uZ U 1 ((U 1) + 1)) 0 1) ((U 1) + 1) (U 7)))) (0 + 1) 1) ((U 1) + 1) (U 7)))) (by omega) (by rw [show (k + 1).toNat = k.toNat + 1 by omega, tkN, ← hU]; rfl) hcs2 (by omega)
    refine s_lv [(0, .ref m0), (1, vI t), (2, vI 0), (3, vI 0)] [2, 3, 1, 0] rfl ?_
    exact loop_21 (t - 0 + 1 : Int).toNat 0 0 f (by omega) rfl (by omega) (by omega)
  · have h_7 := bI_f h_7
    refine s_ldc (z := -1000001) C (by decide +kernel) dX7_tick_10 ?_
    exact s_iret C E dX7_tick_12 ⟨(-1000001), f, P, ps, rfl, rfl, (by rw [sp_tick, if_neg (by omega)]), (if_pos (by omega)).symm, (if_pos (by omega)).symm⟩

set_option maxHeartbeats 4000000 in
set_option maxRecDepth 100000 in
theorem c_X7_promote (l : Launch) (G : fG) (B : Int) (m0 m1 m2 : Nat) (x3 : Value) (xs : List Value) (f P : Int → Int) (ps rn b : Int) (hps : 0 ≤ ps ∧ ps ≤ 4) (hrn : rn = 0 ∨ rn = 1) (hI : Inv B f) (hB : B ≤ 1073000000) (hb : -2147483648 ≤ b ∧ b < 2147483648) : fCt l G yX7_promote wsX7_promote 3 67 0 0 [.ref m0, vI b] [cO m0 7 (.ref m1 :: .ref m2 :: x3 :: vI ps :: vI rn :: xs), cA m1 G.2.1.1 718 f, cA m2 G.2.1.1 2872 P] (fun (v0 : Option Value) (w0 : va_W) => ∃ (z : Int) (f2 P2 : Int → Int) (ps2 : Int), v0 = some (vI z) ∧ w0 = [cO m0 7 (.ref m1 :: .ref m2 :: x3 :: vI ps2 :: vI rn :: xs), cA m1 G.2.1.1 718 f2, cA m2 G.2.1.1 2872 P2] ∧ ((z, f2) = sp_promote f b) ∧ (P2 = if z < 0 then P else chP rn P ps f) ∧ (ps2 = if z < 0 then ps else chN rn ps)) := by
  refine fs_met (cc := cX7_promote) (nL := 6) (ret := (some .int)) (by decide) rfl (Nat.le_of_ble_eq_true rfl) ?_
  intro X C E
  show fSt l G X 0 0 0 [(0, .ref m0), (1, vI b)] [] [cO m0 7 (.ref m1 :: .ref m2 :: x3 :: vI ps :: vI rn :: xs), cA m1 G.2.1.1 718 f, cA m2 G.2.1.1 2872 P]
  have hinX7 : ∀ w ∈ u_ws RX7 TX7 14, w ∈ wsX7_promote := by decide +kernel
  have hf := hI.rf
  have hn := hI.n
  have htk := hI.tk
  have hlo := hI.lo
  have hln := hI.ln
  have hlc := hI.lc
  have hap := hI.ap
  have hrt := hI.rt
  have hdl := hI.dl
  refine s_iload_n 1 C dX7_promote_0 rfl 1 rfl ?_
  refine s_callS (As := [vI b]) (rest := []) C dX7_promote_1 (c_X7_isStandby l G b (by first | assumption | omega)) gX7_promote_X7_isStandby rfl 1 (by decide +kernel) (by decide) [] rfl (by decide) rfl (Nat.le_of_ble_eq_true rfl) ⟨Nat.zero_le _, Nat.zero_le _⟩ ?_
  intro v0 w0 hq
  obtain ⟨rfl, rfl⟩ := hq
  refine ⟨rfl, ?_⟩
  show fSt l G X 0 0 4 [(0, .ref m0), (1, vI b)] [vI (bI (0 ≤ b ∧ b ≤ 1))] [cO m0 7 (.ref m1 :: .ref m2 :: x3 :: vI ps :: vI rn :: xs), cA m1 G.2.1.1 718 f, cA m2 G.2.1.1 2872 P]
  refine s_if_ne 10 C dX7_promote_4 (by decide) bI_rng (fun h_4 => ?_) (fun h_4 => ?_)
  · have h_4 := bI_t h_4
    refine s_aload_n 0 C dX7_promote_10 rfl 0 rfl ?_
    refine s_iload_n 1 C dX7_promote_11 rfl 1 rfl ?_
    refine s_iconst C dX7_promote_12 ?_
    refine s_callV (As := [vI b, vI 2]) (rest := []) C dX7_promote_13 (c_X7_ofStandby l G m0 m1 (.ref m2 :: x3 :: vI ps :: vI rn :: xs) f b 2 (by first | assumption | omega)) gX7_promote_X7_ofStandby rfl 2 (by decide +kernel) (by decide) 0 7 rfl rfl rfl [0, 1] rfl (by decide) rfl (Nat.le_of_ble_eq_true rfl) ⟨Nat.zero_le _, Nat.zero_le _⟩ ?_
    intro v0 w0 hq
    obtain ⟨rfl, rfl⟩ := hq
    refine ⟨rfl, ?_⟩
    show fSt l G X 0 0 16 [(0, .ref m0), (1, vI b)] [vI (oS f b 2)] [cO m0 7 (.ref m1 :: .ref m2 :: x3 :: vI ps :: vI rn :: xs), cA m1 G.2.1.1 718 f, cA m2 G.2.1.1 2872 P]
    refine s_iconst C dX7_promote_16 ?_
    refine s_icmp_ne 23 C dX7_promote_17 (by decide) (hf _) (by omega) (fun h_17 => ?_) (fun h_17 => ?_)
    · have hS := hI.S b h_4.1 h_4.2
      have hmb := mB_in (f := f) (a := oS f b 1 + 1) (z := f 0) (by omega)
      refine s_aload_n 0 C dX7_promote_23 rfl 0 rfl ?_
      refine s_callV (As := []) (rest := []) C dX7_promote_24 (c_X7_changes l G m0 m1 m2 (x3) xs f P ps rn (by first | assumption | omega) (by first | assumption | omega)) gX7_promote_X7_changes rfl 0 (by decide +kernel) (by decide) 0 7 rfl rfl rfl [0, 1, 2] rfl (by decide) rfl (Nat.le_of_ble_eq_true rfl) ⟨Nat.zero_le _, Nat.zero_le _⟩ ?_
      intro v0 w0 hq
      obtain ⟨rfl, rfl⟩ := hq
      refine ⟨rfl, ?_⟩
      show fSt l G X 0 0 27 [(0, .ref m0), (1, vI b)] [] [cO m0 7 (.ref m1 :: .ref m2 :: x3 :: vI (chN rn ps) :: vI rn :: xs), cA m1 G.2.1.1 718 f, cA m2 G.2.1.1 2872 (chP rn P ps f)]
      refine s_aload_n 0 C dX7_promote_27 rfl 0 rfl ?_
      refine s_iload_n 1 C dX7_promote_28 rfl 1 rfl ?_
      refine s_callV (As := [vI b]) (rest := []) C dX7_promote_29 (c_X7_wouldBeLost l G m0 m1 (.ref m2 :: x3 :: vI (chN rn ps) :: vI rn :: xs) f b (by first | assumption | omega) (by first | assumption | omega) (by first | assumption | omega)) gX7_promote_X7_wouldBeLost rfl 1 (by decide +kernel) (by decide) 0 7 rfl rfl rfl [0, 1] rfl (by decide) rfl (Nat.le_of_ble_eq_true rfl) ⟨Nat.zero_le _, Nat.zero_le _⟩ ?_
      intro v0 w0 hq
      obtain ⟨rfl, rfl⟩ := hq
      refine ⟨rfl, ?_⟩
      show fSt l G X 0 0 32 [(0, .ref m0), (1, vI b)] [vI (mB f (oS f b 1 + 1) (f 0))] [cO m0 7 (.ref m1 :: .ref m2 :: x3 :: vI (chN rn ps) :: vI rn :: xs), cA m1 G.2.1.1 718 f, cA m2 G.2.1.1 2872 (chP rn P ps f)]
      refine s_istore_n 2 [(2, vI (mB f (oS f b 1 + 1) (f 0))), (0, .ref m0), (1, vI b)] C dX7_promote_32 rfl (by decide) rfl ?_
      refine s_aload_n 0 C dX7_promote_33 rfl 1 rfl ?_
      refine s_iload_n 1 C dX7_promote_34 rfl 2 rfl ?_
      refine s_iconst C dX7_promote_35 ?_
      refine s_callV (As := [vI b, vI 1]) (rest := []) C dX7_promote_36 (c_X7_ofStandby l G m0 m1 (.ref m2 :: x3 :: vI (chN rn ps) :: vI rn :: xs) f b 1 (by first | assumption | omega)) gX7_promote_X7_ofStandby rfl 2 (by decide +kernel) (by decide) 0 7 rfl rfl rfl [0, 1] rfl (by decide) rfl (Nat.le_of_ble_eq_true rfl) ⟨Nat.zero_le _, Nat.zero_le _⟩ ?_
      intro v0 w0 hq
      obtain ⟨rfl, rfl⟩ := hq
      refine ⟨rfl, ?_⟩
      show fSt l G X 0 0 39 [(2, vI (mB f (oS f b 1 + 1) (f 0))), (0, .ref m0), (1, vI b)] [vI (oS f b 1)] [cO m0 7 (.ref m1 :: .ref m2 :: x3 :: vI (chN rn ps) :: vI rn :: xs), cA m1 G.2.1.1 718 f, cA m2 G.2.1.1 2872 (chP rn P ps f)]
      refine s_istore_n 3 [(3, vI (oS f b 1)), (2, vI (mB f (oS f b 1 + 1) (f 0))), (0, .ref m0), (1, vI b)] C dX7_promote_39 rfl (by decide) rfl ?_
      refine s_iload_n 3 C dX7_promote_40 rfl 0 rfl ?_
      refine s_aload_n 0 C dX7_promote_41 rfl 2 rfl ?_
      refine s_get C dX7_promote_42 7 rfl hinX7 0 rfl 0 (by decide) (by decide +kernel) rfl ?_
      refine s_iconst C dX7_promote_45 ?_
      refine s_iald C dX7_promote_46 1 rfl 0 rfl (by omega) (by omega) (by omega) ?_
      refine s_icmp_ge 54 C dX7_promote_47 (by decide) (hf _) (hf _) (fun h_47 => ?_) (fun h_47 => ?_)
      · refine s_iconst C dX7_promote_54 ?_
        refine s_istore [(4, vI 0), (3, vI (oS f b 1)), (2, vI (mB f (oS f b 1 + 1) (f 0))), (0, .ref m0), (1, vI b)] C dX7_promote_55 (by decide) rfl ?_
        refine s_aload_n 0 C dX7_promote_57 rfl 3 rfl ?_
        refine s_get C dX7_promote_58 7 rfl hinX7 0 rfl 0 (by decide) (by decide +kernel) rfl ?_
        refine s_iconst C dX7_promote_61 ?_
        refine s_iload_n 3 C dX7_promote_62 rfl 1 rfl ?_
        refine s_iast [cO m0 7 (.ref m1 :: .ref m2 :: x3 :: vI (chN rn ps) :: vI rn :: xs), cA m1 G.2.1.1 718 (uZ f 0 (oS f b 1)), cA m2 G.2.1.1 2872 (chP rn P ps f)] C dX7_promote_63 1 rfl 0 rfl (by omega) (by omega) (by omega) rfl ?_
        refine s_aload_n 0 C dX7_promote_64 rfl 3 rfl ?_
        refine s_get C dX7_promote_65 7 rfl hinX7 0 rfl 0 (by decide) (by decide +kernel) rfl ?_
        refine s_iconst C dX7_promote_68 ?_
        refine s_dup2 C dX7_promote_69 rfl rfl ?_
        refine s_iald C dX7_promote_70 1 rfl 4 rfl (by omega) (by omega) (by omega) ?_
        refine s_top (f 4) (uZ_n (by omega)) ?_
        refine s_iload_n 2 C dX7_promote_71 rfl 2 rfl ?_
        refine s_iadd C dX7_promote_72 ?_
        refine s_iast [cO m0 7 (.ref m1 :: .ref m2 :: x3 :: vI (chN rn ps) :: vI rn :: xs), cA m1 G.2.1.1 718 (uZ (uZ f 0 (oS f b 1)) 4 ((f 4) + (mB f (oS f b 1 + 1) (f 0)))), cA m2 G.2.1.1 2872 (chP rn P ps f)] C dX7_promote_73 1 rfl 4 rfl (by omega) (by omega) (by omega) rfl ?_
        refine s_aload_n 0 C dX7_promote_74 rfl 3 rfl ?_
        refine s_get C dX7_promote_75 7 rfl hinX7 0 rfl 0 (by decide) (by decide +kernel) rfl ?_
        refine s_iconst C dX7_promote_78 ?_
        refine s_dup2 C dX7_promote_79 rfl rfl ?_
        refine s_iald C dX7_promote_80 1 rfl 2 rfl (by omega) (by omega) (by omega) ?_
        refine s_top ((uZ f 0 (oS f b 1)) 2) (uZ_n (by omega)) ?_
        refine s_top (f 2) (uZ_n (by omega)) ?_
        refine s_iconst C dX7_promote_81 ?_
        refine s_iadd C dX7_promote_82 ?_
        refine s_iast [cO m0 7 (.ref m1 :: .ref m2 :: x3 :: vI (chN rn ps) :: vI rn :: xs), cA m1 G.2.1.1 718 (uZ (uZ (uZ f 0 (oS f b 1)) 4 ((f 4) + (mB f (oS f b 1 + 1) (f 0)))) 2 ((f 2) + 1)), cA m2 G.2.1.1 2872 (chP rn P ps f)] C dX7_promote_83 1 rfl 2 rfl (by omega) (by omega) (by omega) rfl ?_
        refine s_iconst C dX7_promote_84 ?_
        refine s_istore [(5, vI 0), (4, vI 0), (3, vI (oS f b 1)), (2, vI (mB f (oS f b 1 + 1) (f 0))), (0, .ref m0), (1, vI b)] C dX7_promote_85 (by decide) rfl ?_
        refine s_iload C dX7_promote_87 0 rfl ?_
        refine s_iconst C dX7_promote_89 ?_
        refine s_icmp_ge 110 C dX7_promote_90 (by decide) (by decide) (by decide) (fun h => absurd h (by decide)) (fun h => ?_)
        refine s_aload_n 0 C dX7_promote_93 rfl 4 rfl ?_
        refine s_get C dX7_promote_94 7 rfl hinX7 0 rfl 0 (by decide) (by decide +kernel) rfl ?_
        refine s_bipush (z := 9) C dX7_promote_97 rfl ?_
        refine s_iload C dX7_promote_99 0 rfl ?_
        refine s_iadd C dX7_promote_101 ?_
        refine s_iconst C dX7_promote_102 ?_
        refine s_iast [cO m0 7 (.ref m1 :: .ref m2 :: x3 :: vI (chN rn ps) :: vI rn :: xs), cA m1 G.2.1.1 718 (uZ (uZ (uZ (uZ f 0 (oS f b 1)) 4 ((f 4) + (mB f (oS f b 1 + 1) (f 0)))) 2 ((f 2) + 1)) 9 0), cA m2 G.2.1.1 2872 (chP rn P ps f)] C dX7_promote_103 1 rfl 9 (by omega) (by omega) (by omega) (by omega) rfl ?_
        refine s_iinc [(5, vI (0 + 1)), (4, vI 0), (3, vI (oS f b 1)), (2, vI (mB f (oS f b 1 + 1) (f 0))), (0, .ref m0), (1, vI b)] C dX7_promote_104 0 rfl (by decide) rfl ?_
        refine s_goto 87 C dX7_promote_107 (by decide) ?_
        refine s_iload C dX7_promote_87 0 rfl ?_
        refine s_iconst C dX7_promote_89 ?_
        refine s_icmp_ge 110 C dX7_promote_90 (by decide) (by decide) (by decide) (fun h => absurd h (by decide)) (fun h => ?_)
        refine s_aload_n 0 C dX7_promote_93 rfl 4 rfl ?_
        refine s_get C dX7_promote_94 7 rfl hinX7 0 rfl 0 (by decide) (by decide +kernel) rfl ?_
        refine s_bipush (z := 9) C dX7_promote_97 rfl ?_
        refine s_iload C dX7_promote_99 0 rfl ?_
        refine s_iadd C dX7_promote_101 ?_
        refine s_iconst C dX7_promote_102 ?_
        refine s_iast [cO m0 7 (.ref m1 :: .ref m2 :: x3 :: vI (chN rn ps) :: vI rn :: xs), cA m1 G.2.1.1 718 (uZ (uZ (uZ (uZ (uZ f 0 (oS f b 1)) 4 ((f 4) + (mB f (oS f b 1 + 1) (f 0)))) 2 ((f 2) + 1)) 9 0) 10 0), cA m2 G.2.1.1 2872 (chP rn P ps f)] C dX7_promote_103 1 rfl 10 (by omega) (by omega) (by omega) (by omega) rfl ?_
        refine s_iinc [(5, vI (0 + 1 + 1)), (4, vI 0), (3, vI (oS f b 1)), (2, vI (mB f (oS f b 1 + 1) (f 0))), (0, .ref m0), (1, vI b)] C dX7_promote_104 0 rfl (by decide) rfl ?_
        refine s_goto 87 C dX7_promote_107 (by decide) ?_
        refine s_iload C dX7_promote_87 0 rfl ?_
        refine s_iconst C dX7_promote_89 ?_
        refine s_icmp_ge 110 C dX7_promote_90 (by decide) (by decide) (by decide) (fun h => absurd h (by decide)) (fun h => ?_)
        refine s_aload_n 0 C dX7_promote_93 rfl 4 rfl ?_
        refine s_get C dX7_promote_94 7 rfl hinX7 0 rfl 0 (by decide) (by decide +kernel) rfl ?_
        refine s_bipush (z := 9) C dX7_promote_97 rfl ?_
        refine s_iload C dX7_promote_99 0 rfl ?_
        refine s_iadd C dX7_promote_101 ?_
        refine s_iconst C dX7_promote_102 ?_
        refine s_iast [cO m0 7 (.ref m1 :: .ref m2 :: x3 :: vI (chN rn ps) :: vI rn :: xs), cA m1 G.2.1.1 718 (uZ (uZ (uZ (uZ (uZ (uZ f 0 (oS f b 1)) 4 ((f 4) + (mB f (oS f b 1 + 1) (f 0)))) 2 ((f 2) + 1)) 9 0) 10 0) 11 0), cA m2 G.2.1.1 2872 (chP rn P ps f)] C dX7_promote_103 1 rfl 11 (by omega) (by omega) (by omega) (by omega) rfl ?_
        refine s_iinc [(5, vI (0 + 1 + 1 + 1)), (4, vI 0), (3, vI (oS f b 1)), (2, vI (mB f (oS f b 1 + 1) (f 0))), (0, .ref m0), (1, vI b)] C dX7_promote_104 0 rfl (by decide) rfl ?_
        refine s_goto 87 C dX7_promote_107 (by decide) ?_
        refine s_iload C dX7_promote_87 0 rfl ?_
        refine s_iconst C dX7_promote_89 ?_
        refine s_icmp_ge 110 C dX7_promote_90 (by decide) (by decide) (by decide) (fun h => ?_) (fun h => absurd h (by decide))
        refine s_aload_n 0 C dX7_promote_110 rfl 4 rfl ?_
        refine s_iload_n 1 C dX7_promote_111 rfl 5 rfl ?_
        refine s_iload_n 3 C dX7_promote_112 rfl 2 rfl ?_
        refine s_iload C dX7_promote_113 1 rfl ?_
        refine s_if_eq 122 C dX7_promote_115 (by decide) (by decide) (fun h => ?_) (fun h => absurd h (by decide))
        refine s_iconst C dX7_promote_122 ?_
        refine s_callV (As := [vI b, vI (oS f b 1), vI 0]) (rest := []) C dX7_promote_123 (c_X7_lays l G m0 m1 (.ref m2 :: x3 :: vI (chN rn ps) :: vI rn :: xs) (uZ (uZ (uZ (uZ (uZ (uZ f 0 (oS f b 1)) 4 ((f 4) + (mB f (oS f b 1 + 1) (f 0)))) 2 ((f 2) + 1)) 9 0) 10 0) 11 0) b (oS f b 1) 0 (by first | assumption | omega) (by first | assumption | omega)) gX7_promote_X7_lays rfl 3 (by decide +kernel) (by decide) 0 7 rfl rfl rfl [0, 1] rfl (by decide) rfl (Nat.le_of_ble_eq_true rfl) ⟨Nat.zero_le _, Nat.zero_le _⟩ ?_
        intro v0 w0 hq
        obtain ⟨rfl, rfl⟩ := hq
        refine ⟨rfl, ?_⟩
        show fSt l G X 0 0 126 [(5, vI (0 + 1 + 1 + 1)), (4, vI 0), (3, vI (oS f b 1)), (2, vI (mB f (oS f b 1 + 1) (f 0))), (0, .ref m0), (1, vI b)] [] [cO m0 7 (.ref m1 :: .ref m2 :: x3 :: vI (chN rn ps) :: vI rn :: xs), cA m1 G.2.1.1 718 (sp_lay (uZ (uZ (uZ (uZ (uZ (uZ f 0 (oS f b 1)) 4 ((f 4) + (mB f (oS f b 1 + 1) (f 0)))) 2 ((f 2) + 1)) 9 0) 10 0) 11 0) b (oS f b 1) 0), cA m2 G.2.1.1 2872 (chP rn P ps f)]
        refine s_wld (ws0 := [cO m0 7 (.ref m1 :: .ref m2 :: x3 :: vI (chN rn ps) :: vI rn :: xs), cA m1 G.2.1.1 718 (sp_lay (pmA f (oS f b 1) (mB f (oS f b 1 + 1) (f 0))) b (oS f b 1) 0), cA m2 G.2.1.1 2872 (chP rn P ps f)]) rfl ?_
        refine s_bipush (z := 15) C dX7_promote_126 rfl ?_
        refine s_iconst C dX7_promote_128 ?_
        refine s_iload_n 1 C dX7_promote_129 rfl 5 rfl ?_
        refine s_imul C dX7_promote_130 ?_
        refine s_isub C dX7_promote_131 ?_
        refine s_istore [(5, vI (15 - (3 * b))), (4, vI 0), (3, vI (oS f b 1)), (2, vI (mB f (oS f b 1 + 1) (f 0))), (0, .ref m0), (1, vI b)] C dX7_promote_132 (by decide) rfl ?_
        have hrY : rF (pmA f (oS f b 1) (mB f (oS f b 1 + 1) (f 0))) := ((((((hf.up (by omega)).up (by omega)).up (by omega)).up (by omega)).up (by omega)).up (by omega))
        have hrL : ∀ g : Int, 0 ≤ g ∧ g ≤ 1 → rF (sp_lay (pmA f (oS f b 1) (mB f (oS f b 1 + 1) (f 0))) b (oS f b 1) g) := fun g hg => rF_lay hrY (by omega) (by omega)
        refine s_aload_n 0 C dX7_promote_134 rfl 4 rfl ?_
        refine s_get C dX7_promote_135 7 rfl hinX7 0 rfl 0 (by decide) (by decide +kernel) rfl ?_
        refine s_iload C dX7_promote_138 0 rfl ?_
        refine s_iconst C dX7_promote_140 ?_
        refine s_iadd C dX7_promote_141 ?_
        refine s_aload_n 0 C dX7_promote_142 rfl 4 rfl ?_
        refine s_get C dX7_promote_143 7 rfl hinX7 0 rfl 0 (by decide) (by decide +kernel) rfl ?_
        refine s_iload C dX7_promote_146 0 rfl ?_
        refine s_iconst C dX7_promote_148 ?_
        refine s_iadd C dX7_promote_149 ?_
        refine s_iald C dX7_promote_150 1 rfl (15 - (3 * b)) (by omega) (by omega) (by omega) (by omega) ?_
        refine s_iload_n 3 C dX7_promote_151 rfl 2 rfl ?_
        refine s_icmp_le 159 C dX7_promote_152 (by decide) (hrL _ (by omega) _) (by omega) (fun h_152 => ?_) (fun h_152 => ?_)
        · refine s_aload_n 0 C dX7_promote_159 rfl 4 rfl ?_
          refine s_get C dX7_promote_160 7 rfl hinX7 0 rfl 0 (by decide) (by decide +kernel) rfl ?_
          refine s_iload C dX7_promote_163 0 rfl ?_
          refine s_iconst C dX7_promote_165 ?_
          refine s_iadd C dX7_promote_166 ?_
          refine s_iald C dX7_promote_167 1 rfl (15 - (3 * b)) (by omega) (by omega) (by omega) (by omega) ?_
          refine s_iast [cO m0 7 (.ref m1 :: .ref m2 :: x3 :: vI (chN rn ps) :: vI rn :: xs), cA m1 G.2.1.1 718 (uZ (sp_lay (pmA f (oS f b 1) (mB f (oS f b 1 + 1) (f 0))) b (oS f b 1) 0) (15 - (3 * b)) ((sp_lay (pmA f (oS f b 1) (mB f (oS f b 1 + 1) (f 0))) b (oS f b 1) 0) (15 - (3 * b)))), cA m2 G.2.1.1 2872 (chP rn P ps f)] C dX7_promote_168 1 rfl (15 - (3 * b)) (by omega) (by omega) (by omega) (by omega) rfl ?_
          refine s_aload_n 0 C dX7_promote_169 rfl 4 rfl ?_
          refine s_iconst C dX7_promote_170 ?_
          refine s_iload_n 1 C dX7_promote_171 rfl 5 rfl ?_
          refine s_isub C dX7_promote_172 ?_
          refine s_iload_n 3 C dX7_promote_173 rfl 2 rfl ?_
          refine s_callV (As := [vI (1 - b), vI (oS f b 1)]) (rest := []) C dX7_promote_174 (c_X7_fillsGaps l G m0 m1 (.ref m2 :: x3 :: vI (chN rn ps) :: vI rn :: xs) (uZ (sp_lay (pmA f (oS f b 1) (mB f (oS f b 1 + 1) (f 0))) b (oS f b 1) 0) (15 - (3 * b)) ((sp_lay (pmA f (oS f b 1) (mB f (oS f b 1 + 1) (f 0))) b (oS f b 1) 0) (15 - (3 * b)))) (1 - b) (oS f b 1) (by first | assumption | omega) (by first | assumption | omega)) gX7_promote_X7_fillsGaps rfl 2 (by decide +kernel) (by decide) 0 7 rfl rfl rfl [0, 1] rfl (by decide) rfl (Nat.le_of_ble_eq_true rfl) ⟨Nat.zero_le _, Nat.zero_le _⟩ ?_
          intro v0 w0 hq
          obtain ⟨rfl, rfl⟩ := hq
          refine ⟨rfl, ?_⟩
          show fSt l G X 0 0 177 [(5, vI (15 - (3 * b))), (4, vI 0), (3, vI (oS f b 1)), (2, vI (mB f (oS f b 1 + 1) (f 0))), (0, .ref m0), (1, vI b)] [] [cO m0 7 (.ref m1 :: .ref m2 :: x3 :: vI (chN rn ps) :: vI rn :: xs), cA m1 G.2.1.1 718 (fG0 (uZ (sp_lay (pmA f (oS f b 1) (mB f (oS f b 1 + 1) (f 0))) b (oS f b 1) 0) (15 - (3 * b)) ((sp_lay (pmA f (oS f b 1) (mB f (oS f b 1 + 1) (f 0))) b (oS f b 1) 0) (15 - (3 * b)))) (1 - b) (oS f b 1) (100 * (1 - b) + 118)), cA m2 G.2.1.1 2872 (chP rn P ps f)]
          refine s_wld (ws0 := [cO m0 7 (.ref m1 :: .ref m2 :: x3 :: vI (chN rn ps) :: vI rn :: xs), cA m1 G.2.1.1 718 (pmB (sp_lay (pmA f (oS f b 1) (mB f (oS f b 1 + 1) (f 0))) b (oS f b 1) 0) b (oS f b 1)), cA m2 G.2.1.1 2872 (chP rn P ps f)]) (by rw [pmB, if_neg (by omega)]) ?_
          refine s_aload_n 0 C dX7_promote_177 rfl 4 rfl ?_
          refine s_get C dX7_promote_178 7 rfl hinX7 0 rfl 0 (by decide) (by decide +kernel) rfl ?_
          refine s_iload C dX7_promote_181 0 rfl ?_
          refine s_iconst C dX7_promote_183 ?_
          refine s_iadd C dX7_promote_184 ?_
          refine s_iald C dX7_promote_185 1 rfl (16 - (3 * b)) (by omega) (by omega) (by omega) (by omega) ?_
          refine s_iload_n 3 C dX7_promote_186 rfl 2 rfl ?_
          refine s_icmp_le 210 C dX7_promote_187 (by decide) (rF_pmB (hrL _ (by omega)) (by omega) _) (by omega) (fun h_187 => ?_) (fun h_187 => ?_)
          · refine s_iload_n 2 C dX7_promote_210 rfl 3 rfl ?_
            refine s_wld (ws0 := [cO m0 7 (.ref m1 :: .ref m2 :: x3 :: vI (chN rn ps) :: vI rn :: xs), cA m1 G.2.1.1 718 (pmC (pmB (sp_lay (pmA f (oS f b 1) (mB f (oS f b 1 + 1) (f 0))) b (oS f b 1) 0) b (oS f b 1)) b (oS f b 1)), cA m2 G.2.1.1 2872 (chP rn P ps f)]) (by rw [pmC, if_neg (by omega)]) ?_
            exact s_iret C E dX7_promote_211 ⟨(mB f (oS f b 1 + 1) (f 0)), (pmC (pmB (sp_lay (pmA f (oS f b 1) (mB f (oS f b 1 + 1) (f 0))) b (oS f b 1) 0) b (oS f b 1)) b (oS f b 1)), (chP rn P ps f), (chN rn ps), rfl, rfl, (by rw [sp_promote, if_pos h_4, if_neg (by omega), if_neg (by omega)]), (if_neg (by omega)).symm, (if_neg (by omega)).symm⟩
          · refine s_aload_n 0 C dX7_promote_190 rfl 4 rfl ?_
            refine s_get C dX7_promote_191 7 rfl hinX7 0 rfl 0 (by decide) (by decide +kernel) rfl ?_
            refine s_iload C dX7_promote_194 0 rfl ?_
            refine s_iconst C dX7_promote_196 ?_
            refine s_iadd C dX7_promote_197 ?_
            refine s_iload_n 3 C dX7_promote_198 rfl 2 rfl ?_
            refine s_iast [cO m0 7 (.ref m1 :: .ref m2 :: x3 :: vI (chN rn ps) :: vI rn :: xs), cA m1 G.2.1.1 718 (uZ (pmB (sp_lay (pmA f (oS f b 1) (mB f (oS f b 1 + 1) (f 0))) b (oS f b 1) 0) b (oS f b 1)) (16 - (3 * b)) (oS f b 1)), cA m2 G.2.1.1 2872 (chP rn P ps f)] C dX7_promote_199 1 rfl (16 - (3 * b)) (by omega) (by omega) (by omega) (by omega) rfl ?_
            refine s_aload_n 0 C dX7_promote_200 rfl 4 rfl ?_
            refine s_get C dX7_promote_201 7 rfl hinX7 0 rfl 0 (by decide) (by decide +kernel) rfl ?_
            refine s_iload C dX7_promote_204 0 rfl ?_
            refine s_iconst C dX7_promote_206 ?_
            refine s_iadd C dX7_promote_207 ?_
            refine s_iconst C dX7_promote_208 ?_
            refine s_iast [cO m0 7 (.ref m1 :: .ref m2 :: x3 :: vI (chN rn ps) :: vI rn :: xs), cA m1 G.2.1.1 718 (uZ (uZ (pmB (sp_lay (pmA f (oS f b 1) (mB f (oS f b 1 + 1) (f 0))) b (oS f b 1) 0) b (oS f b 1)) (16 - (3 * b)) (oS f b 1)) (17 - (3 * b)) 1), cA m2 G.2.1.1 2872 (chP rn P ps f)] C dX7_promote_209 1 rfl (17 - (3 * b)) (by omega) (by omega) (by omega) (by omega) rfl ?_
            refine s_iload_n 2 C dX7_promote_210 rfl 3 rfl ?_
            refine s_wld (ws0 := [cO m0 7 (.ref m1 :: .ref m2 :: x3 :: vI (chN rn ps) :: vI rn :: xs), cA m1 G.2.1.1 718 (pmC (pmB (sp_lay (pmA f (oS f b 1) (mB f (oS f b 1 + 1) (f 0))) b (oS f b 1) 0) b (oS f b 1)) b (oS f b 1)), cA m2 G.2.1.1 2872 (chP rn P ps f)]) (by rw [pmC, if_pos (by omega)]) ?_
            exact s_iret C E dX7_promote_211 ⟨(mB f (oS f b 1 + 1) (f 0)), (pmC (pmB (sp_lay (pmA f (oS f b 1) (mB f (oS f b 1 + 1) (f 0))) b (oS f b 1) 0) b (oS f b 1)) b (oS f b 1)), (chP rn P ps f), (chN rn ps), rfl, rfl, (by rw [sp_promote, if_pos h_4, if_neg (by omega), if_neg (by omega)]), (if_neg (by omega)).symm, (if_neg (by omega)).symm⟩
        · refine s_iload_n 3 C dX7_promote_155 rfl 2 rfl ?_
          refine s_goto 168 C dX7_promote_156 (by decide) ?_
          refine s_iast [cO m0 7 (.ref m1 :: .ref m2 :: x3 :: vI (chN rn ps) :: vI rn :: xs), cA m1 G.2.1.1 718 (uZ (sp_lay (pmA f (oS f b 1) (mB f (oS f b 1 + 1) (f 0))) b (oS f b 1) 0) (15 - (3 * b)) (oS f b 1)), cA m2 G.2.1.1 2872 (chP rn P ps f)] C dX7_promote_168 1 rfl (15 - (3 * b)) (by omega) (by omega) (by omega) (by omega) rfl ?_
          refine s_aload_n 0 C dX7_promote_169 rfl 4 rfl ?_
          refine s_iconst C dX7_promote_170 ?_
          refine s_iload_n 1 C dX7_promote_171 rfl 5 rfl ?_
          refine s_isub C dX7_promote_172 ?_
          refine s_iload_n 3 C dX7_promote_173 rfl 2 rfl ?_
          refine s_callV (As := [vI (1 - b), vI (oS f b 1)]) (rest := []) C dX7_promote_174 (c_X7_fillsGaps l G m0 m1 (.ref m2 :: x3 :: vI (chN rn ps) :: vI rn :: xs) (uZ (sp_lay (pmA f (oS f b 1) (mB f (oS f b 1 + 1) (f 0))) b (oS f b 1) 0) (15 - (3 * b)) (oS f b 1)) (1 - b) (oS f b 1) (by first | assumption | omega) (by first | assumption | omega)) gX7_promote_X7_fillsGaps rfl 2 (by decide +kernel) (by decide) 0 7 rfl rfl rfl [0, 1] rfl (by decide) rfl (Nat.le_of_ble_eq_true rfl) ⟨Nat.zero_le _, Nat.zero_le _⟩ ?_
          intro v0 w0 hq
          obtain ⟨rfl, rfl⟩ := hq
          refine ⟨rfl, ?_⟩
          show fSt l G X 0 0 177 [(5, vI (15 - (3 * b))), (4, vI 0), (3, vI (oS f b 1)), (2, vI (mB f (oS f b 1 + 1) (f 0))), (0, .ref m0), (1, vI b)] [] [cO m0 7 (.ref m1 :: .ref m2 :: x3 :: vI (chN rn ps) :: vI rn :: xs), cA m1 G.2.1.1 718 (fG0 (uZ (sp_lay (pmA f (oS f b 1) (mB f (oS f b 1 + 1) (f 0))) b (oS f b 1) 0) (15 - (3 * b)) (oS f b 1)) (1 - b) (oS f b 1) (100 * (1 - b) + 118)), cA m2 G.2.1.1 2872 (chP rn P ps f)]
          refine s_wld (ws0 := [cO m0 7 (.ref m1 :: .ref m2 :: x3 :: vI (chN rn ps) :: vI rn :: xs), cA m1 G.2.1.1 718 (pmB (sp_lay (pmA f (oS f b 1) (mB f (oS f b 1 + 1) (f 0))) b (oS f b 1) 0) b (oS f b 1)), cA m2 G.2.1.1 2872 (chP rn P ps f)]) (by rw [pmB, if_pos (by omega)]) ?_
          refine s_aload_n 0 C dX7_promote_177 rfl 4 rfl ?_
          refine s_get C dX7_promote_178 7 rfl hinX7 0 rfl 0 (by decide) (by decide +kernel) rfl ?_
          refine s_iload C dX7_promote_181 0 rfl ?_
          refine s_iconst C dX7_promote_183 ?_
          refine s_iadd C dX7_promote_184 ?_
          refine s_iald C dX7_promote_185 1 rfl (16 - (3 * b)) (by omega) (by omega) (by omega) (by omega) ?_
          refine s_iload_n 3 C dX7_promote_186 rfl 2 rfl ?_
          refine s_icmp_le 210 C dX7_promote_187 (by decide) (rF_pmB (hrL _ (by omega)) (by omega) _) (by omega) (fun h_187 => ?_) (fun h_187 => ?_)
          · refine s_iload_n 2 C dX7_promote_210 rfl 3 rfl ?_
            refine s_wld (ws0 := [cO m0 7 (.ref m1 :: .ref m2 :: x3 :: vI (chN rn ps) :: vI rn :: xs), cA m1 G.2.1.1 718 (pmC (pmB (sp_lay (pmA f (oS f b 1) (mB f (oS f b 1 + 1) (f 0))) b (oS f b 1) 0) b (oS f b 1)) b (oS f b 1)), cA m2 G.2.1.1 2872 (chP rn P ps f)]) (by rw [pmC, if_neg (by omega)]) ?_
            exact s_iret C E dX7_promote_211 ⟨(mB f (oS f b 1 + 1) (f 0)), (pmC (pmB (sp_lay (pmA f (oS f b 1) (mB f (oS f b 1 + 1) (f 0))) b (oS f b 1) 0) b (oS f b 1)) b (oS f b 1)), (chP rn P ps f), (chN rn ps), rfl, rfl, (by rw [sp_promote, if_pos h_4, if_neg (by omega), if_neg (by omega)]), (if_neg (by omega)).symm, (if_neg (by omega)).symm⟩
          · refine s_aload_n 0 C dX7_promote_190 rfl 4 rfl ?_
            refine s_get C dX7_promote_191 7 rfl hinX7 0 rfl 0 (by decide) (by decide +kernel) rfl ?_
            refine s_iload C dX7_promote_194 0 rfl ?_
            refine s_iconst C dX7_promote_196 ?_
            refine s_iadd C dX7_promote_197 ?_
            refine s_iload_n 3 C dX7_promote_198 rfl 2 rfl ?_
            refine s_iast [cO m0 7 (.ref m1 :: .ref m2 :: x3 :: vI (chN rn ps) :: vI rn :: xs), cA m1 G.2.1.1 718 (uZ (pmB (sp_lay (pmA f (oS f b 1) (mB f (oS f b 1 + 1) (f 0))) b (oS f b 1) 0) b (oS f b 1)) (16 - (3 * b)) (oS f b 1)), cA m2 G.2.1.1 2872 (chP rn P ps f)] C dX7_promote_199 1 rfl (16 - (3 * b)) (by omega) (by omega) (by omega) (by omega) rfl ?_
            refine s_aload_n 0 C dX7_promote_200 rfl 4 rfl ?_
            refine s_get C dX7_promote_201 7 rfl hinX7 0 rfl 0 (by decide) (by decide +kernel) rfl ?_
            refine s_iload C dX7_promote_204 0 rfl ?_
            refine s_iconst C dX7_promote_206 ?_
            refine s_iadd C dX7_promote_207 ?_
            refine s_iconst C dX7_promote_208 ?_
            refine s_iast [cO m0 7 (.ref m1 :: .ref m2 :: x3 :: vI (chN rn ps) :: vI rn :: xs), cA m1 G.2.1.1 718 (uZ (uZ (pmB (sp_lay (pmA f (oS f b 1) (mB f (oS f b 1 + 1) (f 0))) b (oS f b 1) 0) b (oS f b 1)) (16 - (3 * b)) (oS f b 1)) (17 - (3 * b)) 1), cA m2 G.2.1.1 2872 (chP rn P ps f)] C dX7_promote_209 1 rfl (17 - (3 * b)) (by omega) (by omega) (by omega) (by omega) rfl ?_
            refine s_iload_n 2 C dX7_promote_210 rfl 3 rfl ?_
            refine s_wld (ws0 := [cO m0 7 (.ref m1 :: .ref m2 :: x3 :: vI (chN rn ps) :: vI rn :: xs), cA m1 G.2.1.1 718 (pmC (pmB (sp_lay (pmA f (oS f b 1) (mB f (oS f b 1 + 1) (f 0))) b (oS f b 1) 0) b (oS f b 1)) b (oS f b 1)), cA m2 G.2.1.1 2872 (chP rn P ps f)]) (by rw [pmC, if_pos (by omega)]) ?_
            exact s_iret C E dX7_promote_211 ⟨(mB f (oS f b 1 + 1) (f 0)), (pmC (pmB (sp_lay (pmA f (oS f b 1) (mB f (oS f b 1 + 1) (f 0))) b (oS f b 1) 0) b (oS f b 1)) b (oS f b 1)), (chP rn P ps f), (chN rn ps), rfl, rfl, (by rw [sp_promote, if_pos h_4, if_neg (by omega), if_neg (by omega)]), (if_neg (by omega)).symm, (if_neg (by omega)).symm⟩
      · refine s_iconst C dX7_promote_50 ?_
        refine s_goto 55 C dX7_promote_51 (by decide) ?_
        refine s_istore [(4, vI 1), (3, vI (oS f b 1)), (2, vI (mB f (oS f b 1 + 1) (f 0))), (0, .ref m0), (1, vI b)] C dX7_promote_55 (by decide) rfl ?_
        refine s_aload_n 0 C dX7_promote_57 rfl 3 rfl ?_
        refine s_get C dX7_promote_58 7 rfl hinX7 0 rfl 0 (by decide) (by decide +kernel) rfl ?_
        refine s_iconst C dX7_promote_61 ?_
        refine s_iload_n 3 C dX7_promote_62 rfl 1 rfl ?_
        refine s_iast [cO m0 7 (.ref m1 :: .ref m2 :: x3 :: vI (chN rn ps) :: vI rn :: xs), cA m1 G.2.1.1 718 (uZ f 0 (oS f b 1)), cA m2 G.2.1.1 2872 (chP rn P ps f)] C dX7_promote_63 1 rfl 0 rfl (by omega) (by omega) (by omega) rfl ?_
        refine s_aload_n 0 C dX7_promote_64 rfl 3 rfl ?_
        refine s_get C dX7_promote_65 7 rfl hinX7 0 rfl 0 (by decide) (by decide +kernel) rfl ?_
        refine s_iconst C dX7_promote_68 ?_
        refine s_dup2 C dX7_promote_69 rfl rfl ?_
        refine s_iald C dX7_promote_70 1 rfl 4 rfl (by omega) (by omega) (by omega) ?_
        refine s_top (f 4) (uZ_n (by omega)) ?_
        refine s_iload_n 2 C dX7_promote_71 rfl 2 rfl ?_
        refine s_iadd C dX7_promote_72 ?_
        refine s_iast [cO m0 7 (.ref m1 :: .ref m2 :: x3 :: vI (chN rn ps) :: vI rn :: xs), cA m1 G.2.1.1 718 (uZ (uZ f 0 (oS f b 1)) 4 ((f 4) + (mB f (oS f b 1 + 1) (f 0)))), cA m2 G.2.1.1 2872 (chP rn P ps f)] C dX7_promote_73 1 rfl 4 rfl (by omega) (by omega) (by omega) rfl ?_
        refine s_aload_n 0 C dX7_promote_74 rfl 3 rfl ?_
        refine s_get C dX7_promote_75 7 rfl hinX7 0 rfl 0 (by decide) (by decide +kernel) rfl ?_
        refine s_iconst C dX7_promote_78 ?_
        refine s_dup2 C dX7_promote_79 rfl rfl ?_
        refine s_iald C dX7_promote_80 1 rfl 2 rfl (by omega) (by omega) (by omega) ?_
        refine s_top ((uZ f 0 (oS f b 1)) 2) (uZ_n (by omega)) ?_
        refine s_top (f 2) (uZ_n (by omega)) ?_
        refine s_iconst C dX7_promote_81 ?_
        refine s_iadd C dX7_promote_82 ?_
        refine s_iast [cO m0 7 (.ref m1 :: .ref m2 :: x3 :: vI (chN rn ps) :: vI rn :: xs), cA m1 G.2.1.1 718 (uZ (uZ (uZ f 0 (oS f b 1)) 4 ((f 4) + (mB f (oS f b 1 + 1) (f 0)))) 2 ((f 2) + 1)), cA m2 G.2.1.1 2872 (chP rn P ps f)] C dX7_promote_83 1 rfl 2 rfl (by omega) (by omega) (by omega) rfl ?_
        refine s_iconst C dX7_promote_84 ?_
        refine s_istore [(5, vI 0), (4, vI 1), (3, vI (oS f b 1)), (2, vI (mB f (oS f b 1 + 1) (f 0))), (0, .ref m0), (1, vI b)] C dX7_promote_85 (by decide) rfl ?_
        refine s_iload C dX7_promote_87 0 rfl ?_
        refine s_iconst C dX7_promote_89 ?_
        refine s_icmp_ge 110 C dX7_promote_90 (by decide) (by decide) (by decide) (fun h => absurd h (by decide)) (fun h => ?_)
        refine s_aload_n 0 C dX7_promote_93 rfl 4 rfl ?_
        refine s_get C dX7_promote_94 7 rfl hinX7 0 rfl 0 (by decide) (by decide +kernel) rfl ?_
        refine s_bipush (z := 9) C dX7_promote_97 rfl ?_
        refine s_iload C dX7_promote_99 0 rfl ?_
        refine s_iadd C dX7_promote_101 ?_
        refine s_iconst C dX7_promote_102 ?_
        refine s_iast [cO m0 7 (.ref m1 :: .ref m2 :: x3 :: vI (chN rn ps) :: vI rn :: xs), cA m1 G.2.1.1 718 (uZ (uZ (uZ (uZ f 0 (oS f b 1)) 4 ((f 4) + (mB f (oS f b 1 + 1) (f 0)))) 2 ((f 2) + 1)) 9 0), cA m2 G.2.1.1 2872 (chP rn P ps f)] C dX7_promote_103 1 rfl 9 (by omega) (by omega) (by omega) (by omega) rfl ?_
        refine s_iinc [(5, vI (0 + 1)), (4, vI 1), (3, vI (oS f b 1)), (2, vI (mB f (oS f b 1 + 1) (f 0))), (0, .ref m0), (1, vI b)] C dX7_promote_104 0 rfl (by decide) rfl ?_
        refine s_goto 87 C dX7_promote_107 (by decide) ?_
        refine s_iload C dX7_promote_87 0 rfl ?_
        refine s_iconst C dX7_promote_89 ?_
        refine s_icmp_ge 110 C dX7_promote_90 (by decide) (by decide) (by decide) (fun h => absurd h (by decide)) (fun h => ?_)
        refine s_aload_n 0 C dX7_promote_93 rfl 4 rfl ?_
        refine s_get C dX7_promote_94 7 rfl hinX7 0 rfl 0 (by decide) (by decide +kernel) rfl ?_
        refine s_bipush (z := 9) C dX7_promote_97 rfl ?_
        refine s_iload C dX7_promote_99 0 rfl ?_
        refine s_iadd C dX7_promote_101 ?_
        refine s_iconst C dX7_promote_102 ?_
        refine s_iast [cO m0 7 (.ref m1 :: .ref m2 :: x3 :: vI (chN rn ps) :: vI rn :: xs), cA m1 G.2.1.1 718 (uZ (uZ (uZ (uZ (uZ f 0 (oS f b 1)) 4 ((f 4) + (mB f (oS f b 1 + 1) (f 0)))) 2 ((f 2) + 1)) 9 0) 10 0), cA m2 G.2.1.1 2872 (chP rn P ps f)] C dX7_promote_103 1 rfl 10 (by omega) (by omega) (by omega) (by omega) rfl ?_
        refine s_iinc [(5, vI (0 + 1 + 1)), (4, vI 1), (3, vI (oS f b 1)), (2, vI (mB f (oS f b 1 + 1) (f 0))), (0, .ref m0), (1, vI b)] C dX7_promote_104 0 rfl (by decide) rfl ?_
        refine s_goto 87 C dX7_promote_107 (by decide) ?_
        refine s_iload C dX7_promote_87 0 rfl ?_
        refine s_iconst C dX7_promote_89 ?_
        refine s_icmp_ge 110 C dX7_promote_90 (by decide) (by decide) (by decide) (fun h => absurd h (by decide)) (fun h => ?_)
        refine s_aload_n 0 C dX7_promote_93 rfl 4 rfl ?_
        refine s_get C dX7_promote_94 7 rfl hinX7 0 rfl 0 (by decide) (by decide +kernel) rfl ?_
        refine s_bipush (z := 9) C dX7_promote_97 rfl ?_
        refine s_iload C dX7_promote_99 0 rfl ?_
        refine s_iadd C dX7_promote_101 ?_
        refine s_iconst C dX7_promote_102 ?_
        refine s_iast [cO m0 7 (.ref m1 :: .ref m2 :: x3 :: vI (chN rn ps) :: vI rn :: xs), cA m1 G.2.1.1 718 (uZ (uZ (uZ (uZ (uZ (uZ f 0 (oS f b 1)) 4 ((f 4) + (mB f (oS f b 1 + 1) (f 0)))) 2 ((f 2) + 1)) 9 0) 10 0) 11 0), cA m2 G.2.1.1 2872 (chP rn P ps f)] C dX7_promote_103 1 rfl 11 (by omega) (by omega) (by omega) (by omega) rfl ?_
        refine s_iinc [(5, vI (0 + 1 + 1 + 1)), (4, vI 1), (3, vI (oS f b 1)), (2, vI (mB f (oS f b 1 + 1) (f 0))), (0, .ref m0), (1, vI b)] C dX7_promote_104 0 rfl (by decide) rfl ?_
        refine s_goto 87 C dX7_promote_107 (by decide) ?_
        refine s_iload C dX7_promote_87 0 rfl ?_
        refine s_iconst C dX7_promote_89 ?_
        refine s_icmp_ge 110 C dX7_promote_90 (by decide) (by decide) (by decide) (fun h => ?_) (fun h => absurd h (by decide))
        refine s_aload_n 0 C dX7_promote_110 rfl 4 rfl ?_
        refine s_iload_n 1 C dX7_promote_111 rfl 5 rfl ?_
        refine s_iload_n 3 C dX7_promote_112 rfl 2 rfl ?_
        refine s_iload C dX7_promote_113 1 rfl ?_
        refine s_if_eq 122 C dX7_promote_115 (by decide) (by decide) (fun h => absurd h (by decide)) (fun h => ?_)
        refine s_iconst C dX7_promote_118 ?_
        refine s_goto 123 C dX7_promote_119 (by decide) ?_
        refine s_callV (As := [vI b, vI (oS f b 1), vI 1]) (rest := []) C dX7_promote_123 (c_X7_lays l G m0 m1 (.ref m2 :: x3 :: vI (chN rn ps) :: vI rn :: xs) (uZ (uZ (uZ (uZ (uZ (uZ f 0 (oS f b 1)) 4 ((f 4) + (mB f (oS f b 1 + 1) (f 0)))) 2 ((f 2) + 1)) 9 0) 10 0) 11 0) b (oS f b 1) 1 (by first | assumption | omega) (by first | assumption | omega)) gX7_promote_X7_lays rfl 3 (by decide +kernel) (by decide) 0 7 rfl rfl rfl [0, 1] rfl (by decide) rfl (Nat.le_of_ble_eq_true rfl) ⟨Nat.zero_le _, Nat.zero_le _⟩ ?_
        intro v0 w0 hq
        obtain ⟨rfl, rfl⟩ := hq
        refine ⟨rfl, ?_⟩
        show fSt l G X 0 0 126 [(5, vI (0 + 1 + 1 + 1)), (4, vI 1), (3, vI (oS f b 1)), (2, vI (mB f (oS f b 1 + 1) (f 0))), (0, .ref m0), (1, vI b)] [] [cO m0 7 (.ref m1 :: .ref m2 :: x3 :: vI (chN rn ps) :: vI rn :: xs), cA m1 G.2.1.1 718 (sp_lay (uZ (uZ (uZ (uZ (uZ (uZ f 0 (oS f b 1)) 4 ((f 4) + (mB f (oS f b 1 + 1) (f 0)))) 2 ((f 2) + 1)) 9 0) 10 0) 11 0) b (oS f b 1) 1), cA m2 G.2.1.1 2872 (chP rn P ps f)]
        refine s_wld (ws0 := [cO m0 7 (.ref m1 :: .ref m2 :: x3 :: vI (chN rn ps) :: vI rn :: xs), cA m1 G.2.1.1 718 (sp_lay (pmA f (oS f b 1) (mB f (oS f b 1 + 1) (f 0))) b (oS f b 1) 1), cA m2 G.2.1.1 2872 (chP rn P ps f)]) rfl ?_
        refine s_bipush (z := 15) C dX7_promote_126 rfl ?_
        refine s_iconst C dX7_promote_128 ?_
        refine s_iload_n 1 C dX7_promote_129 rfl 5 rfl ?_
        refine s_imul C dX7_promote_130 ?_
        refine s_isub C dX7_promote_131 ?_
        refine s_istore [(5, vI (15 - (3 * b))), (4, vI 1), (3, vI (oS f b 1)), (2, vI (mB f (oS f b 1 + 1) (f 0))), (0, .ref m0), (1, vI b)] C dX7_promote_132 (by decide) rfl ?_
        have hrY : rF (pmA f (oS f b 1) (mB f (oS f b 1 + 1) (f 0))) := ((((((hf.up (by omega)).up (by omega)).up (by omega)).up (by omega)).up (by omega)).up (by omega))
        have hrL : ∀ g : Int, 0 ≤ g ∧ g ≤ 1 → rF (sp_lay (pmA f (oS f b 1) (mB f (oS f b 1 + 1) (f 0))) b (oS f b 1) g) := fun g hg => rF_lay hrY (by omega) (by omega)
        refine s_aload_n 0 C dX7_promote_134 rfl 4 rfl ?_
        refine s_get C dX7_promote_135 7 rfl hinX7 0 rfl 0 (by decide) (by decide +kernel) rfl ?_
        refine s_iload C dX7_promote_138 0 rfl ?_
        refine s_iconst C dX7_promote_140 ?_
        refine s_iadd C dX7_promote_141 ?_
        refine s_aload_n 0 C dX7_promote_142 rfl 4 rfl ?_
        refine s_get C dX7_promote_143 7 rfl hinX7 0 rfl 0 (by decide) (by decide +kernel) rfl ?_
        refine s_iload C dX7_promote_146 0 rfl ?_
        refine s_iconst C dX7_promote_148 ?_
        refine s_iadd C dX7_promote_149 ?_
        refine s_iald C dX7_promote_150 1 rfl (15 - (3 * b)) (by omega) (by omega) (by omega) (by omega) ?_
        refine s_iload_n 3 C dX7_promote_151 rfl 2 rfl ?_
        refine s_icmp_le 159 C dX7_promote_152 (by decide) (hrL _ (by omega) _) (by omega) (fun h_152 => ?_) (fun h_152 => ?_)
        · refine s_aload_n 0 C dX7_promote_159 rfl 4 rfl ?_
          refine s_get C dX7_promote_160 7 rfl hinX7 0 rfl 0 (by decide) (by decide +kernel) rfl ?_
          refine s_iload C dX7_promote_163 0 rfl ?_
          refine s_iconst C dX7_promote_165 ?_
          refine s_iadd C dX7_promote_166 ?_
          refine s_iald C dX7_promote_167 1 rfl (15 - (3 * b)) (by omega) (by omega) (by omega) (by omega) ?_
          refine s_iast [cO m0 7 (.ref m1 :: .ref m2 :: x3 :: vI (chN rn ps) :: vI rn :: xs), cA m1 G.2.1.1 718 (uZ (sp_lay (pmA f (oS f b 1) (mB f (oS f b 1 + 1) (f 0))) b (oS f b 1) 1) (15 - (3 * b)) ((sp_lay (pmA f (oS f b 1) (mB f (oS f b 1 + 1) (f 0))) b (oS f b 1) 1) (15 - (3 * b)))), cA m2 G.2.1.1 2872 (chP rn P ps f)] C dX7_promote_168 1 rfl (15 - (3 * b)) (by omega) (by omega) (by omega) (by omega) rfl ?_
          refine s_aload_n 0 C dX7_promote_169 rfl 4 rfl ?_
          refine s_iconst C dX7_promote_170 ?_
          refine s_iload_n 1 C dX7_promote_171 rfl 5 rfl ?_
          refine s_isub C dX7_promote_172 ?_
          refine s_iload_n 3 C dX7_promote_173 rfl 2 rfl ?_
          refine s_callV (As := [vI (1 - b), vI (oS f b 1)]) (rest := []) C dX7_promote_174 (c_X7_fillsGaps l G m0 m1 (.ref m2 :: x3 :: vI (chN rn ps) :: vI rn :: xs) (uZ (sp_lay (pmA f (oS f b 1) (mB f (oS f b 1 + 1) (f 0))) b (oS f b 1) 1) (15 - (3 * b)) ((sp_lay (pmA f (oS f b 1) (mB f (oS f b 1 + 1) (f 0))) b (oS f b 1) 1) (15 - (3 * b)))) (1 - b) (oS f b 1) (by first | assumption | omega) (by first | assumption | omega)) gX7_promote_X7_fillsGaps rfl 2 (by decide +kernel) (by decide) 0 7 rfl rfl rfl [0, 1] rfl (by decide) rfl (Nat.le_of_ble_eq_true rfl) ⟨Nat.zero_le _, Nat.zero_le _⟩ ?_
          intro v0 w0 hq
          obtain ⟨rfl, rfl⟩ := hq
          refine ⟨rfl, ?_⟩
          show fSt l G X 0 0 177 [(5, vI (15 - (3 * b))), (4, vI 1), (3, vI (oS f b 1)), (2, vI (mB f (oS f b 1 + 1) (f 0))), (0, .ref m0), (1, vI b)] [] [cO m0 7 (.ref m1 :: .ref m2 :: x3 :: vI (chN rn ps) :: vI rn :: xs), cA m1 G.2.1.1 718 (fG0 (uZ (sp_lay (pmA f (oS f b 1) (mB f (oS f b 1 + 1) (f 0))) b (oS f b 1) 1) (15 - (3 * b)) ((sp_lay (pmA f (oS f b 1) (mB f (oS f b 1 + 1) (f 0))) b (oS f b 1) 1) (15 - (3 * b)))) (1 - b) (oS f b 1) (100 * (1 - b) + 118)), cA m2 G.2.1.1 2872 (chP rn P ps f)]
          refine s_wld (ws0 := [cO m0 7 (.ref m1 :: .ref m2 :: x3 :: vI (chN rn ps) :: vI rn :: xs), cA m1 G.2.1.1 718 (pmB (sp_lay (pmA f (oS f b 1) (mB f (oS f b 1 + 1) (f 0))) b (oS f b 1) 1) b (oS f b 1)), cA m2 G.2.1.1 2872 (chP rn P ps f)]) (by rw [pmB, if_neg (by omega)]) ?_
          refine s_aload_n 0 C dX7_promote_177 rfl 4 rfl ?_
          refine s_get C dX7_promote_178 7 rfl hinX7 0 rfl 0 (by decide) (by decide +kernel) rfl ?_
          refine s_iload C dX7_promote_181 0 rfl ?_
          refine s_iconst C dX7_promote_183 ?_
          refine s_iadd C dX7_promote_184 ?_
          refine s_iald C dX7_promote_185 1 rfl (16 - (3 * b)) (by omega) (by omega) (by omega) (by omega) ?_
          refine s_iload_n 3 C dX7_promote_186 rfl 2 rfl ?_
          refine s_icmp_le 210 C dX7_promote_187 (by decide) (rF_pmB (hrL _ (by omega)) (by omega) _) (by omega) (fun h_187 => ?_) (fun h_187 => ?_)
          · refine s_iload_n 2 C dX7_promote_210 rfl 3 rfl ?_
            refine s_wld (ws0 := [cO m0 7 (.ref m1 :: .ref m2 :: x3 :: vI (chN rn ps) :: vI rn :: xs), cA m1 G.2.1.1 718 (pmC (pmB (sp_lay (pmA f (oS f b 1) (mB f (oS f b 1 + 1) (f 0))) b (oS f b 1) 1) b (oS f b 1)) b (oS f b 1)), cA m2 G.2.1.1 2872 (chP rn P ps f)]) (by rw [pmC, if_neg (by omega)]) ?_
            exact s_iret C E dX7_promote_211 ⟨(mB f (oS f b 1 + 1) (f 0)), (pmC (pmB (sp_lay (pmA f (oS f b 1) (mB f (oS f b 1 + 1) (f 0))) b (oS f b 1) 1) b (oS f b 1)) b (oS f b 1)), (chP rn P ps f), (chN rn ps), rfl, rfl, (by rw [sp_promote, if_pos h_4, if_neg (by omega), if_pos (by omega)]), (if_neg (by omega)).symm, (if_neg (by omega)).symm⟩
          · refine s_aload_n 0 C dX7_promote_190 rfl 4 rfl ?_
            refine s_get C dX7_promote_191 7 rfl hinX7 0 rfl 0 (by decide) (by decide +kernel) rfl ?_
            refine s_iload C dX7_promote_194 0 rfl ?_
            refine s_iconst C dX7_promote_196 ?_
            refine s_iadd C dX7_promote_197 ?_
            refine s_iload_n 3 C dX7_promote_198 rfl 2 rfl ?_
            refine s_iast [cO m0 7 (.ref m1 :: .ref m2 :: x3 :: vI (chN rn ps) :: vI rn :: xs), cA m1 G.2.1.1 718 (uZ (pmB (sp_lay (pmA f (oS f b 1) (mB f (oS f b 1 + 1) (f 0))) b (oS f b 1) 1) b (oS f b 1)) (16 - (3 * b)) (oS f b 1)), cA m2 G.2.1.1 2872 (chP rn P ps f)] C dX7_promote_199 1 rfl (16 - (3 * b)) (by omega) (by omega) (by omega) (by omega) rfl ?_
            refine s_aload_n 0 C dX7_promote_200 rfl 4 rfl ?_
            refine s_get C dX7_promote_201 7 rfl hinX7 0 rfl 0 (by decide) (by decide +kernel) rfl ?_
            refine s_iload C dX7_promote_204 0 rfl ?_
            refine s_iconst C dX7_promote_206 ?_
            refine s_iadd C dX7_promote_207 ?_
            refine s_iconst C dX7_promote_208 ?_
            refine s_iast [cO m0 7 (.ref m1 :: .ref m2 :: x3 :: vI (chN rn ps) :: vI rn :: xs), cA m1 G.2.1.1 718 (uZ (uZ (pmB (sp_lay (pmA f (oS f b 1) (mB f (oS f b 1 + 1) (f 0))) b (oS f b 1) 1) b (oS f b 1)) (16 - (3 * b)) (oS f b 1)) (17 - (3 * b)) 1), cA m2 G.2.1.1 2872 (chP rn P ps f)] C dX7_promote_209 1 rfl (17 - (3 * b)) (by omega) (by omega) (by omega) (by omega) rfl ?_
            refine s_iload_n 2 C dX7_promote_210 rfl 3 rfl ?_
            refine s_wld (ws0 := [cO m0 7 (.ref m1 :: .ref m2 :: x3 :: vI (chN rn ps) :: vI rn :: xs), cA m1 G.2.1.1 718 (pmC (pmB (sp_lay (pmA f (oS f b 1) (mB f (oS f b 1 + 1) (f 0))) b (oS f b 1) 1) b (oS f b 1)) b (oS f b 1)), cA m2 G.2.1.1 2872 (chP rn P ps f)]) (by rw [pmC, if_pos (by omega)]) ?_
            exact s_iret C E dX7_promote_211 ⟨(mB f (oS f b 1 + 1) (f 0)), (pmC (pmB (sp_lay (pmA f (oS f b 1) (mB f (oS f b 1 + 1) (f 0))) b (oS f b 1) 1) b (oS f b 1)) b (oS f b 1)), (chP rn P ps f), (chN rn ps), rfl, rfl, (by rw [sp_promote, if_pos h_4, if_neg (by omega), if_pos (by omega)]), (if_neg (by omega)).symm, (if_neg (by omega)).symm⟩
        · refine s_iload_n 3 C dX7_promote_155 rfl 2 rfl ?_
          refine s_goto 168 C dX7_promote_156 (by decide) ?_
          refine s_iast [cO m0 7 (.ref m1 :: .ref m2 :: x3 :: vI (chN rn ps) :: vI rn :: xs), cA m1 G.2.1.1 718 (uZ (sp_lay (pmA f (oS f b 1) (mB f (oS f b 1 + 1) (f 0))) b (oS f b 1) 1) (15 - (3 * b)) (oS f b 1)), cA m2 G.2.1.1 2872 (chP rn P ps f)] C dX7_promote_168 1 rfl (15 - (3 * b)) (by omega) (by omega) (by omega) (by omega) rfl ?_
          refine s_aload_n 0 C dX7_promote_169 rfl 4 rfl ?_
          refine s_iconst C dX7_promote_170 ?_
          refine s_iload_n 1 C dX7_promote_171 rfl 5 rfl ?_
          refine s_isub C dX7_promote_172 ?_
          refine s_iload_n 3 C dX7_promote_173 rfl 2 rfl ?_
          refine s_callV (As := [vI (1 - b), vI (oS f b 1)]) (rest := []) C dX7_promote_174 (c_X7_fillsGaps l G m0 m1 (.ref m2 :: x3 :: vI (chN rn ps) :: vI rn :: xs) (uZ (sp_lay (pmA f (oS f b 1) (mB f (oS f b 1 + 1) (f 0))) b (oS f b 1) 1) (15 - (3 * b)) (oS f b 1)) (1 - b) (oS f b 1) (by first | assumption | omega) (by first | assumption | omega)) gX7_promote_X7_fillsGaps rfl 2 (by decide +kernel) (by decide) 0 7 rfl rfl rfl [0, 1] rfl (by decide) rfl (Nat.le_of_ble_eq_true rfl) ⟨Nat.zero_le _, Nat.zero_le _⟩ ?_
          intro v0 w0 hq
          obtain ⟨rfl, rfl⟩ := hq
          refine ⟨rfl, ?_⟩
          show fSt l G X 0 0 177 [(5, vI (15 - (3 * b))), (4, vI 1), (3, vI (oS f b 1)), (2, vI (mB f (oS f b 1 + 1) (f 0))), (0, .ref m0), (1, vI b)] [] [cO m0 7 (.ref m1 :: .ref m2 :: x3 :: vI (chN rn ps) :: vI rn :: xs), cA m1 G.2.1.1 718 (fG0 (uZ (sp_lay (pmA f (oS f b 1) (mB f (oS f b 1 + 1) (f 0))) b (oS f b 1) 1) (15 - (3 * b)) (oS f b 1)) (1 - b) (oS f b 1) (100 * (1 - b) + 118)), cA m2 G.2.1.1 2872 (chP rn P ps f)]
          refine s_wld (ws0 := [cO m0 7 (.ref m1 :: .ref m2 :: x3 :: vI (chN rn ps) :: vI rn :: xs), cA m1 G.2.1.1 718 (pmB (sp_lay (pmA f (oS f b 1) (mB f (oS f b 1 + 1) (f 0))) b (oS f b 1) 1) b (oS f b 1)), cA m2 G.2.1.1 2872 (chP rn P ps f)]) (by rw [pmB, if_pos (by omega)]) ?_
          refine s_aload_n 0 C dX7_promote_177 rfl 4 rfl ?_
          refine s_get C dX7_promote_178 7 rfl hinX7 0 rfl 0 (by decide) (by decide +kernel) rfl ?_
          refine s_iload C dX7_promote_181 0 rfl ?_
          refine s_iconst C dX7_promote_183 ?_
          refine s_iadd C dX7_promote_184 ?_
          refine s_iald C dX7_promote_185 1 rfl (16 - (3 * b)) (by omega) (by omega) (by omega) (by omega) ?_
          refine s_iload_n 3 C dX7_promote_186 rfl 2 rfl ?_
          refine s_icmp_le 210 C dX7_promote_187 (by decide) (rF_pmB (hrL _ (by omega)) (by omega) _) (by omega) (fun h_187 => ?_) (fun h_187 => ?_)
          · refine s_iload_n 2 C dX7_promote_210 rfl 3 rfl ?_
            refine s_wld (ws0 := [cO m0 7 (.ref m1 :: .ref m2 :: x3 :: vI (chN rn ps) :: vI rn :: xs), cA m1 G.2.1.1 718 (pmC (pmB (sp_lay (pmA f (oS f b 1) (mB f (oS f b 1 + 1) (f 0))) b (oS f b 1) 1) b (oS f b 1)) b (oS f b 1)), cA m2 G.2.1.1 2872 (chP rn P ps f)]) (by rw [pmC, if_neg (by omega)]) ?_
            exact s_iret C E dX7_promote_211 ⟨(mB f (oS f b 1 + 1) (f 0)), (pmC (pmB (sp_lay (pmA f (oS f b 1) (mB f (oS f b 1 + 1) (f 0))) b (oS f b 1) 1) b (oS f b 1)) b (oS f b 1)), (chP rn P ps f), (chN rn ps), rfl, rfl, (by rw [sp_promote, if_pos h_4, if_neg (by omega), if_pos (by omega)]), (if_neg (by omega)).symm, (if_neg (by omega)).symm⟩
          · refine s_aload_n 0 C dX7_promote_190 rfl 4 rfl ?_
            refine s_get C dX7_promote_191 7 rfl hinX7 0 rfl 0 (by decide) (by decide +kernel) rfl ?_
            refine s_iload C dX7_promote_194 0 rfl ?_
            refine s_iconst C dX7_promote_196 ?_
            refine s_iadd C dX7_promote_197 ?_
            refine s_iload_n 3 C dX7_promote_198 rfl 2 rfl ?_
            refine s_iast [cO m0 7 (.ref m1 :: .ref m2 :: x3 :: vI (chN rn ps) :: vI rn :: xs), cA m1 G.2.1.1 718 (uZ (pmB (sp_lay (pmA f (oS f b 1) (mB f (oS f b 1 + 1) (f 0))) b (oS f b 1) 1) b (oS f b 1)) (16 - (3 * b)) (oS f b 1)), cA m2 G.2.1.1 2872 (chP rn P ps f)] C dX7_promote_199 1 rfl (16 - (3 * b)) (by omega) (by omega) (by omega) (by omega) rfl ?_
            refine s_aload_n 0 C dX7_promote_200 rfl 4 rfl ?_
            refine s_get C dX7_promote_201 7 rfl hinX7 0 rfl 0 (by decide) (by decide +kernel) rfl ?_
            refine s_iload C dX7_promote_204 0 rfl ?_
            refine s_iconst C dX7_promote_206 ?_
            refine s_iadd C dX7_promote_207 ?_
            refine s_iconst C dX7_promote_208 ?_
            refine s_iast [cO m0 7 (.ref m1 :: .ref m2 :: x3 :: vI (chN rn ps) :: vI rn :: xs), cA m1 G.2.1.1 718 (uZ (uZ (pmB (sp_lay (pmA f (oS f b 1) (mB f (oS f b 1 + 1) (f 0))) b (oS f b 1) 1) b (oS f b 1)) (16 - (3 * b)) (oS f b 1)) (17 - (3 * b)) 1), cA m2 G.2.1.1 2872 (chP rn P ps f)] C dX7_promote_209 1 rfl (17 - (3 * b)) (by omega) (by omega) (by omega) (by omega) rfl ?_
            refine s_iload_n 2 C dX7_promote_210 rfl 3 rfl ?_
            refine s_wld (ws0 := [cO m0 7 (.ref m1 :: .ref m2 :: x3 :: vI (chN rn ps) :: vI rn :: xs), cA m1 G.2.1.1 718 (pmC (pmB (sp_lay (pmA f (oS f b 1) (mB f (oS f b 1 + 1) (f 0))) b (oS f b 1) 1) b (oS f b 1)) b (oS f b 1)), cA m2 G.2.1.1 2872 (chP rn P ps f)]) (by rw [pmC, if_pos (by omega)]) ?_
            exact s_iret C E dX7_promote_211 ⟨(mB f (oS f b 1 + 1) (f 0)), (pmC (pmB (sp_lay (pmA f (oS f b 1) (mB f (oS f b 1 + 1) (f 0))) b (oS f b 1) 1) b (oS f b 1)) b (oS f b 1)), (chP rn P ps f), (chN rn ps), rfl, rfl, (by rw [sp_promote, if_pos h_4, if_neg (by omega), if_pos (by omega)]), (if_neg (by omega)).symm, (if_neg (by omega)).symm⟩
    · refine s_ldc (z := -1000002) C (by decide +kernel) dX7_promote_20 ?_
      exact s_iret C E dX7_promote_22 ⟨(-1000002), f, P, ps, rfl, rfl, (by rw [sp_promote, if_pos (by omega), if_pos (by omega)]), (if_pos (by omega)).symm, (if_pos (by omega)).symm⟩
  · have h_4 := bI_f h_4
    refine s_ldc (z := -1000001) C (by decide +kernel) dX7_promote_7 ?_
    exact s_iret C E dX7_promote_9 ⟨(-1000001), f, P, ps, rfl, rfl, (by rw [sp_promote, if_neg (by omega)]), (if_pos (by omega)).symm, (if_pos (by omega)).symm⟩

set_option maxHeartbeats 4000000 in
set_option maxRecDepth 100000 in
theorem c_X7_rebuild (l : Launch) (G : fG) (B : Int) (m0 m1 m2 : Nat) (x3 : Value) (xs : List Value) (f P : Int → Int) (ps rn b : Int) (hps : 0 ≤ ps ∧ ps ≤ 4) (hrn : rn = 0 ∨ rn = 1) (hI : Inv B f) (hB : B ≤ 1073000000) (hb : -2147483648 ≤ b ∧ b < 2147483648) : fCt l G yX7_rebuild wsX7_rebuild 2 46 0 0 [.ref m0, vI b] [cO m0 7 (.ref m1 :: .ref m2 :: x3 :: vI ps :: vI rn :: xs), cA m1 G.2.1.1 718 f, cA m2 G.2.1.1 2872 P] (fun (v0 : Option Value) (w0 : va_W) => ∃ (z : Int) (f2 P2 : Int → Int) (ps2 : Int), v0 = some (vI z) ∧ w0 = [cO m0 7 (.ref m1 :: .ref m2 :: x3 :: vI ps2 :: vI rn :: xs), cA m1 G.2.1.1 718 f2, cA m2 G.2.1.1 2872 P2] ∧ ((z, f2) = sp_rebuild f b) ∧ (P2 = if z < 0 then P else chP rn P ps f) ∧ (ps2 = if z < 0 then ps else chN rn ps)) := by
  refine fs_met (cc := cX7_rebuild) (nL := 2) (ret := (some .int)) (by decide) rfl (Nat.le_of_ble_eq_true rfl) ?_
  intro X C E
  show fSt l G X 0 0 0 [(0, .ref m0), (1, vI b)] [] [cO m0 7 (.ref m1 :: .ref m2 :: x3 :: vI ps :: vI rn :: xs), cA m1 G.2.1.1 718 f, cA m2 G.2.1.1 2872 P]
  have hinX7 : ∀ w ∈ u_ws RX7 TX7 14, w ∈ wsX7_rebuild := by decide +kernel
  have hf := hI.rf
  have hn := hI.n
  have htk := hI.tk
  have hlo := hI.lo
  have hln := hI.ln
  have hlc := hI.lc
  have hap := hI.ap
  have hrt := hI.rt
  have hdl := hI.dl
  refine s_iload_n 1 C dX7_rebuild_0 rfl 1 rfl ?_
  refine s_callS (As := [vI b]) (rest := []) C dX7_rebuild_1 (c_X7_isStandby l G b (by first | assumption | omega)) gX7_rebuild_X7_isStandby rfl 1 (by decide +kernel) (by decide) [] rfl (by decide) rfl (Nat.le_of_ble_eq_true rfl) ⟨Nat.zero_le _, Nat.zero_le _⟩ ?_
  intro v0 w0 hq
  obtain ⟨rfl, rfl⟩ := hq
  refine ⟨rfl, ?_⟩
  show fSt l G X 0 0 4 [(0, .ref m0), (1, vI b)] [vI (bI (0 ≤ b ∧ b ≤ 1))] [cO m0 7 (.ref m1 :: .ref m2 :: x3 :: vI ps :: vI rn :: xs), cA m1 G.2.1.1 718 f, cA m2 G.2.1.1 2872 P]
  refine s_if_ne 10 C dX7_rebuild_4 (by decide) bI_rng (fun h_4 => ?_) (fun h_4 => ?_)
  · have h_4 := bI_t h_4
    refine s_aload_n 0 C dX7_rebuild_10 rfl 0 rfl ?_
    refine s_callV (As := []) (rest := []) C dX7_rebuild_11 (c_X7_changes l G m0 m1 m2 (x3) xs f P ps rn (by first | assumption | omega) (by first | assumption | omega)) gX7_rebuild_X7_changes rfl 0 (by decide +kernel) (by decide) 0 7 rfl rfl rfl [0, 1, 2] rfl (by decide) rfl (Nat.le_of_ble_eq_true rfl) ⟨Nat.zero_le _, Nat.zero_le _⟩ ?_
    intro v0 w0 hq
    obtain ⟨rfl, rfl⟩ := hq
    refine ⟨rfl, ?_⟩
    show fSt l G X 0 0 14 [(0, .ref m0), (1, vI b)] [] [cO m0 7 (.ref m1 :: .ref m2 :: x3 :: vI (chN rn ps) :: vI rn :: xs), cA m1 G.2.1.1 718 f, cA m2 G.2.1.1 2872 (chP rn P ps f)]
    refine s_aload_n 0 C dX7_rebuild_14 rfl 0 rfl ?_
    refine s_iload_n 1 C dX7_rebuild_15 rfl 1 rfl ?_
    refine s_aload_n 0 C dX7_rebuild_16 rfl 0 rfl ?_
    refine s_get C dX7_rebuild_17 7 rfl hinX7 0 rfl 0 (by decide) (by decide +kernel) rfl ?_
    refine s_iconst C dX7_rebuild_20 ?_
    refine s_iald C dX7_rebuild_21 1 rfl 0 rfl (by omega) (by omega) (by omega) ?_
    refine s_iconst C dX7_rebuild_22 ?_
    refine s_callV (As := [vI b, vI (f 0), vI 0]) (rest := []) C dX7_rebuild_23 (c_X7_lays l G m0 m1 (.ref m2 :: x3 :: vI (chN rn ps) :: vI rn :: xs) f b (f 0) 0 (by first | assumption | omega) (by first | assumption | omega)) gX7_rebuild_X7_lays rfl 3 (by decide +kernel) (by decide) 0 7 rfl rfl rfl [0, 1] rfl (by decide) rfl (Nat.le_of_ble_eq_true rfl) ⟨Nat.zero_le _, Nat.zero_le _⟩ ?_
    intro v0 w0 hq
    obtain ⟨rfl, rfl⟩ := hq
    refine ⟨rfl, ?_⟩
    show fSt l G X 0 0 26 [(0, .ref m0), (1, vI b)] [] [cO m0 7 (.ref m1 :: .ref m2 :: x3 :: vI (chN rn ps) :: vI rn :: xs), cA m1 G.2.1.1 718 (sp_lay f b (f 0) 0), cA m2 G.2.1.1 2872 (chP rn P ps f)]
    refine s_aload_n 0 C dX7_rebuild_26 rfl 0 rfl ?_
    refine s_get C dX7_rebuild_27 7 rfl hinX7 0 rfl 0 (by decide) (by decide +kernel) rfl ?_
    refine s_iconst C dX7_rebuild_30 ?_
    refine s_iald C dX7_rebuild_31 1 rfl 0 rfl (by omega) (by omega) (by omega) ?_
    refine s_top (f 0) (sp_lay_lo h_4.1 (by omega)) ?_
    exact s_iret C E dX7_rebuild_32 ⟨(f 0), (sp_lay f b (f 0) 0), (chP rn P ps f), (chN rn ps), rfl, rfl, (by rw [sp_rebuild, if_pos (by omega)]), (if_neg (by omega)).symm, (if_neg (by omega)).symm⟩
  · have h_4 := bI_f h_4
    refine s_ldc (z := -1000001) C (by decide +kernel) dX7_rebuild_7 ?_
    exact s_iret C E dX7_rebuild_9 ⟨(-1000001), f, P, ps, rfl, rfl, (by rw [sp_rebuild, if_neg (by omega)]), (if_pos (by omega)).symm, (if_pos (by omega)).symm⟩

set_option maxHeartbeats 4000000 in
set_option maxRecDepth 100000 in
theorem c_X7_set (l : Launch) (G : fG) (B : Int) (m0 m1 m2 : Nat) (x3 : Value) (xs : List Value) (f P : Int → Int) (ps rn wh x : Int) (hps : 0 ≤ ps ∧ ps ≤ 4) (hrn : rn = 0 ∨ rn = 1) (hI : Inv B f) (hB : B ≤ 1073000000) (hwh : -2147483648 ≤ wh ∧ wh < 2147483648) (hx : -2147483648 ≤ x ∧ x < 2147483648) : fCt l G yX7_set wsX7_set 1 22 0 0 [.ref m0, vI wh, vI x] [cO m0 7 (.ref m1 :: .ref m2 :: x3 :: vI ps :: vI rn :: xs), cA m1 G.2.1.1 718 f, cA m2 G.2.1.1 2872 P] (fun (v0 : Option Value) (w0 : va_W) => ∃ (z : Int) (f2 P2 : Int → Int) (ps2 : Int), v0 = some (vI z) ∧ w0 = [cO m0 7 (.ref m1 :: .ref m2 :: x3 :: vI ps2 :: vI rn :: xs), cA m1 G.2.1.1 718 f2, cA m2 G.2.1.1 2872 P2] ∧ ((z, f2) = sp_set f wh x) ∧ (P2 = if z < 0 then P else chP rn P ps f) ∧ (ps2 = if z < 0 then ps else chN rn ps)) := by
  refine fs_met (cc := cX7_set) (nL := 4) (ret := (some .int)) (by decide) rfl (Nat.le_of_ble_eq_true rfl) ?_
  intro X C E
  show fSt l G X 0 0 0 [(0, .ref m0), (1, vI wh), (2, vI x)] [] [cO m0 7 (.ref m1 :: .ref m2 :: x3 :: vI ps :: vI rn :: xs), cA m1 G.2.1.1 718 f, cA m2 G.2.1.1 2872 P]
  have hinX7 : ∀ w ∈ u_ws RX7 TX7 14, w ∈ wsX7_set := by decide +kernel
  have hf := hI.rf
  have hn := hI.n
  have htk := hI.tk
  have hlo := hI.lo
  have hln := hI.ln
  have hlc := hI.lc
  have hap := hI.ap
  have hrt := hI.rt
  have hdl := hI.dl
  refine s_iload_n 1 C dX7_set_0 rfl 1 rfl ?_
  refine s_iconst C dX7_set_1 ?_
  refine s_iconst C dX7_set_2 ?_
  refine s_callS (As := [vI wh, vI 0, vI 1]) (rest := []) C dX7_set_3 (c_X7_in l G wh 0 1 (by first | assumption | omega) (by first | assumption | omega) (by first | assumption | omega)) gX7_set_X7_in rfl 3 (by decide +kernel) (by decide) [] rfl (by decide) rfl (Nat.le_of_ble_eq_true rfl) ⟨Nat.zero_le _, Nat.zero_le _⟩ ?_
  intro v0 w0 hq
  obtain ⟨rfl, rfl⟩ := hq
  refine ⟨rfl, ?_⟩
  show fSt l G X 0 0 6 [(0, .ref m0), (1, vI wh), (2, vI x)] [vI (bI (0 ≤ wh ∧ wh ≤ 1))] [cO m0 7 (.ref m1 :: .ref m2 :: x3 :: vI ps :: vI rn :: xs), cA m1 G.2.1.1 718 f, cA m2 G.2.1.1 2872 P]
  refine s_if_eq 21 C dX7_set_6 (by decide) bI_rng (fun h_6 => ?_) (fun h_6 => ?_)
  · have h_6 := bI_f h_6
    refine s_ldc (z := -1000001) C (by decide +kernel) dX7_set_21 ?_
    exact s_iret C E dX7_set_23 ⟨(-1000001), f, P, ps, rfl, rfl, (by rw [sp_set, if_neg (by omega)]), (if_pos (by omega)).symm, (if_pos (by omega)).symm⟩
  · have h_6 := bI_t h_6
    refine s_iload_n 2 C dX7_set_9 rfl 2 rfl ?_
    refine s_iconst C dX7_set_10 ?_
    refine s_iload_n 1 C dX7_set_11 rfl 1 rfl ?_
    refine s_isub C dX7_set_12 ?_
    refine s_bipush (z := 20) C dX7_set_13 rfl ?_
    refine s_callS (As := [vI x, vI (1 - wh), vI 20]) (rest := []) C dX7_set_15 (c_X7_in l G x (1 - wh) 20 (by first | assumption | omega) (by first | assumption | omega) (by first | assumption | omega)) gX7_set_X7_in rfl 3 (by decide +kernel) (by decide) [] rfl (by decide) rfl (Nat.le_of_ble_eq_true rfl) ⟨Nat.zero_le _, Nat.zero_le _⟩ ?_
    intro v0 w0 hq
    obtain ⟨rfl, rfl⟩ := hq
    refine ⟨rfl, ?_⟩
    show fSt l G X 0 0 18 [(0, .ref m0), (1, vI wh), (2, vI x)] [vI (bI ((1 - wh) ≤ x ∧ x ≤ 20))] [cO m0 7 (.ref m1 :: .ref m2 :: x3 :: vI ps :: vI rn :: xs), cA m1 G.2.1.1 718 f, cA m2 G.2.1.1 2872 P]
    refine s_if_ne 24 C dX7_set_18 (by decide) bI_rng (fun h_18 => ?_) (fun h_18 => ?_)
    · have h_18 := bI_t h_18
      have hs : 0 ≤ f (wh + 7) := by rcases (by omega : wh = 0 ∨ wh = 1) with e | e <;> rw [e]; (· exact (by omega : 0 ≤ f 7)); (· exact (by omega : 0 ≤ f 8))
      refine s_aload_n 0 C dX7_set_24 rfl 0 rfl ?_
      refine s_callV (As := []) (rest := []) C dX7_set_25 (c_X7_changes l G m0 m1 m2 (x3) xs f P ps rn (by first | assumption | omega) (by first | assumption | omega)) gX7_set_X7_changes rfl 0 (by decide +kernel) (by decide) 0 7 rfl rfl rfl [0, 1, 2] rfl (by decide) rfl (Nat.le_of_ble_eq_true rfl) ⟨Nat.zero_le _, Nat.zero_le _⟩ ?_
      intro v0 w0 hq
      obtain ⟨rfl, rfl⟩ := hq
      refine ⟨rfl, ?_⟩
      show fSt l G X 0 0 28 [(0, .ref m0), (1, vI wh), (2, vI x)] [] [cO m0 7 (.ref m1 :: .ref m2 :: x3 :: vI (chN rn ps) :: vI rn :: xs), cA m1 G.2.1.1 718 f, cA m2 G.2.1.1 2872 (chP rn P ps f)]
      refine s_aload_n 0 C dX7_set_28 rfl 0 rfl ?_
      refine s_get C dX7_set_29 7 rfl hinX7 0 rfl 0 (by decide) (by decide +kernel) rfl ?_
      refine s_bipush (z := 7) C dX7_set_32 rfl ?_
      refine s_iload_n 1 C dX7_set_34 rfl 1 rfl ?_
      refine s_iadd C dX7_set_35 ?_
      refine s_iald C dX7_set_36 1 rfl (wh + 7) (by omega) (by omega) (by omega) (by omega) ?_
      refine s_istore_n 3 [(3, vI (f (wh + 7))), (0, .ref m0), (1, vI wh), (2, vI x)] C dX7_set_37 rfl (by decide) rfl ?_
      refine s_aload_n 0 C dX7_set_38 rfl 1 rfl ?_
      refine s_get C dX7_set_39 7 rfl hinX7 0 rfl 0 (by decide) (by decide +kernel) rfl ?_
      refine s_bipush (z := 7) C dX7_set_42 rfl ?_
      refine s_iload_n 1 C dX7_set_44 rfl 2 rfl ?_
      refine s_iadd C dX7_set_45 ?_
      refine s_iload_n 2 C dX7_set_46 rfl 3 rfl ?_
      refine s_iast [cO m0 7 (.ref m1 :: .ref m2 :: x3 :: vI (chN rn ps) :: vI rn :: xs), cA m1 G.2.1.1 718 (uZ f (wh + 7) x), cA m2 G.2.1.1 2872 (chP rn P ps f)] C dX7_set_47 1 rfl (wh + 7) (by omega) (by omega) (by omega) (by omega) rfl ?_
      refine s_iload_n 3 C dX7_set_48 rfl 0 rfl ?_
      exact s_iret C E dX7_set_49 ⟨(f (wh + 7)), (uZ f (wh + 7) x), (chP rn P ps f), (chN rn ps), rfl, rfl, (by rw [sp_set, if_pos (by omega)]), (if_neg (by omega)).symm, (if_neg (by omega)).symm⟩
    · have h_18 := bI_f h_18
      refine s_ldc (z := -1000001) C (by decide +kernel) dX7_set_21 ?_
      exact s_iret C E dX7_set_23 ⟨(-1000001), f, P, ps, rfl, rfl, (by rw [sp_set, if_neg (by omega)]), (if_pos (by omega)).symm, (if_pos (by omega)).symm⟩

set_option maxHeartbeats 4000000 in
set_option maxRecDepth 100000 in
theorem c_X7_isFence (l : Launch) (G : fG) (m0 m1 : Nat) (xs : List Value) (f : Int → Int) (e : Int) (hf : rF f) (hn : 0 ≤ f 0 ∧ f 0 ≤ 100) (he : -2147483648 ≤ e ∧ e < 2147483648) : fCt l G yX7_isFence wsX7_isFence 1 22 0 0 [.ref m0, vI e] [cO m0 7 (.ref m1 :: xs), cA m1 G.2.1.1 718 f] (fun (v0 : Option Value) (w0 : va_W) => v0 = some (vI (bI (0 ≤ e ∧ e ≤ f 0))) ∧ w0 = [cO m0 7 (.ref m1 :: xs), cA m1 G.2.1.1 718 f]) := by
  refine fs_met (cc := cX7_isFence) (nL := 2) (ret := (some .boolean)) (by decide) rfl (Nat.le_of_ble_eq_true rfl) ?_
  intro X C E
  show fSt l G X 0 0 0 [(0, .ref m0), (1, vI e)] [] [cO m0 7 (.ref m1 :: xs), cA m1 G.2.1.1 718 f]
  have hinX7 : ∀ w ∈ u_ws RX7 TX7 14, w ∈ wsX7_isFence := by decide +kernel
  refine s_iload_n 1 C dX7_isFence_0 rfl 1 rfl ?_
  refine s_iconst C dX7_isFence_1 ?_
  refine s_aload_n 0 C dX7_isFence_2 rfl 0 rfl ?_
  refine s_get C dX7_isFence_3 7 rfl hinX7 0 rfl 0 (by decide) (by decide +kernel) rfl ?_
  refine s_iconst C dX7_isFence_6 ?_
  refine s_iald C dX7_isFence_7 1 rfl 0 rfl (by omega) (by omega) (by omega) ?_
  refine s_callS (As := [vI e, vI 0, vI (f 0)]) (rest := []) C dX7_isFence_8 (c_X7_in l G e 0 (f 0) (by first | assumption | omega) (by first | assumption | omega) (by first | assumption | omega)) gX7_isFence_X7_in rfl 3 (by decide +kernel) (by decide) [] rfl (by decide) rfl (Nat.le_of_ble_eq_true rfl) ⟨Nat.zero_le _, Nat.zero_le _⟩ ?_
  intro v0 w0 hq
  obtain ⟨rfl, rfl⟩ := hq
  refine ⟨rfl, ?_⟩
  show fSt l G X 0 0 11 [(0, .ref m0), (1, vI e)] [vI (bI (0 ≤ e ∧ e ≤ (f 0)))] [cO m0 7 (.ref m1 :: xs), cA m1 G.2.1.1 718 f]
  exact s_zret C E dX7_isFence_11 (narB bI_01) ⟨congrArg (fun z => some (vI z)) (bI_iff (by omega)), rfl⟩

set_option maxHeartbeats 4000000 in
set_option maxRecDepth 100000 in
theorem c_X7_canServe (l : Launch) (G : fG) (m0 m1 : Nat) (xs : List Value) (f : Int → Int) (b e : Int) (hf : rF f) (hb : 0 ≤ b ∧ b ≤ 1) (he : -2147483648 ≤ e ∧ e < 2147483648) : fCt l G yX7_canServe wsX7_canServe 1 22 0 0 [.ref m0, vI b, vI e] [cO m0 7 (.ref m1 :: xs), cA m1 G.2.1.1 718 f] (fun (v0 : Option Value) (w0 : va_W) => v0 = some (vI (bI (oS f b 2 = 0 ∧ e ≤ oS f b 1))) ∧ w0 = [cO m0 7 (.ref m1 :: xs), cA m1 G.2.1.1 718 f]) := by
  refine fs_met (cc := cX7_canServe) (nL := 3) (ret := (some .boolean)) (by decide) rfl (Nat.le_of_ble_eq_true rfl) ?_
  intro X C E
  show fSt l G X 0 0 0 [(0, .ref m0), (1, vI b), (2, vI e)] [] [cO m0 7 (.ref m1 :: xs), cA m1 G.2.1.1 718 f]
  refine s_aload_n 0 C dX7_canServe_0 rfl 0 rfl ?_
  refine s_iload_n 1 C dX7_canServe_1 rfl 1 rfl ?_
  refine s_iconst C dX7_canServe_2 ?_
  refine s_callV (As := [vI b, vI 2]) (rest := []) C dX7_canServe_3 (c_X7_ofStandby l G m0 m1 xs f b 2 (by first | assumption | omega)) gX7_canServe_X7_ofStandby rfl 2 (by decide +kernel) (by decide) 0 7 rfl rfl rfl [0, 1] rfl (by decide) rfl (Nat.le_of_ble_eq_true rfl) ⟨Nat.zero_le _, Nat.zero_le _⟩ ?_
  intro v0 w0 hq
  obtain ⟨rfl, rfl⟩ := hq
  refine ⟨rfl, ?_⟩
  show fSt l G X 0 0 6 [(0, .ref m0), (1, vI b), (2, vI e)] [vI (oS f b 2)] [cO m0 7 (.ref m1 :: xs), cA m1 G.2.1.1 718 f]
  refine s_if_ne 23 C dX7_canServe_6 (by decide) (hf _) (fun h_6 => ?_) (fun h_6 => ?_)
  · refine s_iconst C dX7_canServe_23 ?_
    exact s_zret C E dX7_canServe_24 rfl ⟨congrArg (fun z => some (vI z)) (bI_0 (by omega)), rfl⟩
  · refine s_aload_n 0 C dX7_canServe_9 rfl 0 rfl ?_
    refine s_iload_n 1 C dX7_canServe_10 rfl 1 rfl ?_
    refine s_iconst C dX7_canServe_11 ?_
    refine s_callV (As := [vI b, vI 1]) (rest := []) C dX7_canServe_12 (c_X7_ofStandby l G m0 m1 xs f b 1 (by first | assumption | omega)) gX7_canServe_X7_ofStandby rfl 2 (by decide +kernel) (by decide) 0 7 rfl rfl rfl [0, 1] rfl (by decide) rfl (Nat.le_of_ble_eq_true rfl) ⟨Nat.zero_le _, Nat.zero_le _⟩ ?_
    intro v0 w0 hq
    obtain ⟨rfl, rfl⟩ := hq
    refine ⟨rfl, ?_⟩
    show fSt l G X 0 0 15 [(0, .ref m0), (1, vI b), (2, vI e)] [vI (oS f b 1)] [cO m0 7 (.ref m1 :: xs), cA m1 G.2.1.1 718 f]
    refine s_iload_n 2 C dX7_canServe_15 rfl 2 rfl ?_
    refine s_icmp_lt 23 C dX7_canServe_16 (by decide) (hf _) (by omega) (fun h_16 => ?_) (fun h_16 => ?_)
    · refine s_iconst C dX7_canServe_23 ?_
      exact s_zret C E dX7_canServe_24 rfl ⟨congrArg (fun z => some (vI z)) (bI_0 (by omega)), rfl⟩
    · refine s_iconst C dX7_canServe_19 ?_
      refine s_goto 24 C dX7_canServe_20 (by decide) ?_
      exact s_zret C E dX7_canServe_24 rfl ⟨congrArg (fun z => some (vI z)) (bI_1 (by omega)), rfl⟩

set_option maxHeartbeats 4000000 in
set_option maxRecDepth 100000 in
theorem c_X7_read (l : Launch) (G : fG) (B : Int) (m0 m1 : Nat) (xs : List Value) (f : Int → Int) (b y e : Int) (hI : Inv B f) (hB : B ≤ 1073000000) (hb : -2147483648 ≤ b ∧ b < 2147483648) (hy : -2147483648 ≤ y ∧ y < 2147483648) (he : -2147483648 ≤ e ∧ e < 2147483648) : fCt l G yX7_read wsX7_read 4 92 0 0 [.ref m0, vI b, vI y, vI e] [cO m0 7 (.ref m1 :: xs), cA m1 G.2.1.1 718 f] (fun (v0 : Option Value) (w0 : va_W) => v0 = some (vI (sp_read f b y e)) ∧ w0 = [cO m0 7 (.ref m1 :: xs), cA m1 G.2.1.1 718 f]) := by
  refine fs_met (cc := cX7_read) (nL := 4) (ret := (some .int)) (by decide) rfl (Nat.le_of_ble_eq_true rfl) ?_
  intro X C E
  show fSt l G X 0 0 0 [(0, .ref m0), (1, vI b), (2, vI y), (3, vI e)] [] [cO m0 7 (.ref m1 :: xs), cA m1 G.2.1.1 718 f]
  have hf := hI.rf
  have hn := hI.n
  have htk := hI.tk
  have hlo := hI.lo
  have hln := hI.ln
  have hlc := hI.lc
  have hap := hI.ap
  have hrt := hI.rt
  have hdl := hI.dl
  refine s_iload_n 1 C dX7_read_0 rfl 1 rfl ?_
  refine s_callS (As := [vI b]) (rest := []) C dX7_read_1 (c_X7_isStandby l G b (by first | assumption | omega)) gX7_read_X7_isStandby rfl 1 (by decide +kernel) (by decide) [] rfl (by decide) rfl (Nat.le_of_ble_eq_true rfl) ⟨Nat.zero_le _, Nat.zero_le _⟩ ?_
  intro v0 w0 hq
  obtain ⟨rfl, rfl⟩ := hq
  refine ⟨rfl, ?_⟩
  show fSt l G X 0 0 4 [(0, .ref m0), (1, vI b), (2, vI y), (3, vI e)] [vI (bI (0 ≤ b ∧ b ≤ 1))] [cO m0 7 (.ref m1 :: xs), cA m1 G.2.1.1 718 f]
  refine s_if_eq 22 C dX7_read_4 (by decide) bI_rng (fun h_4 => ?_) (fun h_4 => ?_)
  · have h_4 := bI_f h_4
    refine s_ldc (z := -1000001) C (by decide +kernel) dX7_read_22 ?_
    exact s_iret C E dX7_read_24 ⟨congrArg (fun z => some (vI z)) (by rw [sp_read, if_neg (by omega)]), rfl⟩
  · have h_4 := bI_t h_4
    refine s_iload_n 2 C dX7_read_7 rfl 2 rfl ?_
    refine s_callS (As := [vI y]) (rest := []) C dX7_read_8 (c_X7_isKey l G y (by first | assumption | omega)) gX7_read_X7_isKey rfl 1 (by decide +kernel) (by decide) [] rfl (by decide) rfl (Nat.le_of_ble_eq_true rfl) ⟨Nat.zero_le _, Nat.zero_le _⟩ ?_
    intro v0 w0 hq
    obtain ⟨rfl, rfl⟩ := hq
    refine ⟨rfl, ?_⟩
    show fSt l G X 0 0 11 [(0, .ref m0), (1, vI b), (2, vI y), (3, vI e)] [vI (bI (0 ≤ y ∧ y ≤ 23))] [cO m0 7 (.ref m1 :: xs), cA m1 G.2.1.1 718 f]
    refine s_if_eq 22 C dX7_read_11 (by decide) bI_rng (fun h_11 => ?_) (fun h_11 => ?_)
    · have h_11 := bI_f h_11
      refine s_ldc (z := -1000001) C (by decide +kernel) dX7_read_22 ?_
      exact s_iret C E dX7_read_24 ⟨congrArg (fun z => some (vI z)) (by rw [sp_read, if_neg (by omega)]), rfl⟩
    · have h_11 := bI_t h_11
      refine s_aload_n 0 C dX7_read_14 rfl 0 rfl ?_
      refine s_iload_n 3 C dX7_read_15 rfl 3 rfl ?_
      refine s_callV (As := [vI e]) (rest := []) C dX7_read_16 (c_X7_isFence l G m0 m1 xs f e (by first | assumption | omega) (by first | assumption | omega) (by first | assumption | omega)) gX7_read_X7_isFence rfl 1 (by decide +kernel) (by decide) 0 7 rfl rfl rfl [0, 1] rfl (by decide) rfl (Nat.le_of_ble_eq_true rfl) ⟨Nat.zero_le _, Nat.zero_le _⟩ ?_
      intro v0 w0 hq
      obtain ⟨rfl, rfl⟩ := hq
      refine ⟨rfl, ?_⟩
      show fSt l G X 0 0 19 [(0, .ref m0), (1, vI b), (2, vI y), (3, vI e)] [vI (bI (0 ≤ e ∧ e ≤ f 0))] [cO m0 7 (.ref m1 :: xs), cA m1 G.2.1.1 718 f]
      refine s_if_ne 25 C dX7_read_19 (by decide) bI_rng (fun h_19 => ?_) (fun h_19 => ?_)
      · have h_19 := bI_t h_19
        have hS := hI.S b h_4.1 h_4.2
        refine s_aload_n 0 C dX7_read_25 rfl 0 rfl ?_
        refine s_iload_n 1 C dX7_read_26 rfl 1 rfl ?_
        refine s_iload_n 3 C dX7_read_27 rfl 3 rfl ?_
        refine s_callV (As := [vI b, vI e]) (rest := []) C dX7_read_28 (c_X7_canServe l G m0 m1 xs f b e (by first | assumption | omega) (by first | assumption | omega) (by first | assumption | omega)) gX7_read_X7_canServe rfl 2 (by decide +kernel) (by decide) 0 7 rfl rfl rfl [0, 1] rfl (by decide) rfl (Nat.le_of_ble_eq_true rfl) ⟨Nat.zero_le _, Nat.zero_le _⟩ ?_
        intro v0 w0 hq
        obtain ⟨rfl, rfl⟩ := hq
        refine ⟨rfl, ?_⟩
        show fSt l G X 0 0 31 [(0, .ref m0), (1, vI b), (2, vI y), (3, vI e)] [vI (bI (oS f b 2 = 0 ∧ e ≤ oS f b 1))] [cO m0 7 (.ref m1 :: xs), cA m1 G.2.1.1 718 f]
        refine s_if_eq 48 C dX7_read_31 (by decide) bI_rng (fun h_31 => ?_) (fun h_31 => ?_)
        · have h_31 := bI_f h_31
          refine s_ldc (z := -1000002) C (by decide +kernel) dX7_read_48 ?_
          exact s_iret C E dX7_read_50 ⟨congrArg (fun z => some (vI z)) (by rw [sp_read, if_pos (by omega), if_neg h_31]), rfl⟩
        · have h_31 := bI_t h_31
          refine s_aload_n 0 C dX7_read_34 rfl 0 rfl ?_
          refine s_aload_n 0 C dX7_read_35 rfl 0 rfl ?_
          refine s_iload_n 1 C dX7_read_36 rfl 1 rfl ?_
          refine s_iconst C dX7_read_37 ?_
          refine s_callV (As := [vI b, vI 1]) (rest := [.ref m0]) C dX7_read_38 (c_X7_ofStandby l G m0 m1 xs f b 1 (by first | assumption | omega)) gX7_read_X7_ofStandby rfl 2 (by decide +kernel) (by decide) 0 7 rfl rfl rfl [0, 1] rfl (by decide) rfl (Nat.le_of_ble_eq_true rfl) ⟨Nat.zero_le _, Nat.zero_le _⟩ ?_
          intro v0 w0 hq
          obtain ⟨rfl, rfl⟩ := hq
          refine ⟨rfl, ?_⟩
          show fSt l G X 0 0 41 [(0, .ref m0), (1, vI b), (2, vI y), (3, vI e)] [vI (oS f b 1), .ref m0] [cO m0 7 (.ref m1 :: xs), cA m1 G.2.1.1 718 f]
          refine s_iload_n 2 C dX7_read_41 rfl 2 rfl ?_
          refine s_callV (As := [vI (oS f b 1), vI y]) (rest := []) C dX7_read_42 (c_X7_valueAt l G m0 m1 xs f (oS f b 1) y (by first | assumption | omega) (by first | assumption | omega) (by first | assumption | omega) (by first | assumption | omega)) gX7_read_X7_valueAt rfl 2 (by decide +kernel) (by decide) 0 7 rfl rfl rfl [0, 1] rfl (by decide) rfl (Nat.le_of_ble_eq_true rfl) ⟨Nat.zero_le _, Nat.zero_le _⟩ ?_
          intro v0 w0 hq
          obtain ⟨rfl, rfl⟩ := hq
          refine ⟨rfl, ?_⟩
          show fSt l G X 0 0 45 [(0, .ref m0), (1, vI b), (2, vI y), (3, vI e)] [vI (mV f (oS f b 1) y)] [cO m0 7 (.ref m1 :: xs), cA m1 G.2.1.1 718 f]
          refine s_goto 50 C dX7_read_45 (by decide) ?_
          exact s_iret C E dX7_read_50 ⟨congrArg (fun z => some (vI z)) (by rw [sp_read, if_pos (by omega), if_pos h_31]), rfl⟩
      · have h_19 := bI_f h_19
        refine s_ldc (z := -1000001) C (by decide +kernel) dX7_read_22 ?_
        exact s_iret C E dX7_read_24 ⟨congrArg (fun z => some (vI z)) (by rw [sp_read, if_neg (by omega)]), rfl⟩

set_option maxHeartbeats 4000000 in
set_option maxRecDepth 100000 in
theorem c_X7_primary (l : Launch) (G : fG) (B : Int) (m0 m1 : Nat) (xs : List Value) (f : Int → Int) (k y : Int) (hI : Inv B f) (hB : B ≤ 1073000000) (hk : -2147483648 ≤ k ∧ k < 2147483648) (hy : -2147483648 ≤ y ∧ y < 2147483648) : fCt l G yX7_primary wsX7_primary 4 92 0 0 [.ref m0, vI k, vI y] [cO m0 7 (.ref m1 :: xs), cA m1 G.2.1.1 718 f] (fun (v0 : Option Value) (w0 : va_W) => v0 = some (vI (sp_prim f k y)) ∧ w0 = [cO m0 7 (.ref m1 :: xs), cA m1 G.2.1.1 718 f]) := by
  refine fs_met (cc := cX7_primary) (nL := 4) (ret := (some .int)) (by decide) rfl (Nat.le_of_ble_eq_true rfl) ?_
  intro X C E
  show fSt l G X 0 0 0 [(0, .ref m0), (1, vI k), (2, vI y)] [] [cO m0 7 (.ref m1 :: xs), cA m1 G.2.1.1 718 f]
  have hinX7 : ∀ w ∈ u_ws RX7 TX7 14, w ∈ wsX7_primary := by decide +kernel
  have hf := hI.rf
  have hn := hI.n
  have htk := hI.tk
  have hlo := hI.lo
  have hln := hI.ln
  have hlc := hI.lc
  have hap := hI.ap
  have hrt := hI.rt
  have hdl := hI.dl
  refine s_iload_n 1 C dX7_primary_0 rfl 1 rfl ?_
  refine s_iconst C dX7_primary_1 ?_
  refine s_iconst C dX7_primary_2 ?_
  refine s_callS (As := [vI k, vI (-1), vI 2]) (rest := []) C dX7_primary_3 (c_X7_in l G k (-1) 2 (by first | assumption | omega) (by first | assumption | omega) (by first | assumption | omega)) gX7_primary_X7_in rfl 3 (by decide +kernel) (by decide) [] rfl (by decide) rfl (Nat.le_of_ble_eq_true rfl) ⟨Nat.zero_le _, Nat.zero_le _⟩ ?_
  intro v0 w0 hq
  obtain ⟨rfl, rfl⟩ := hq
  refine ⟨rfl, ?_⟩
  show fSt l G X 0 0 6 [(0, .ref m0), (1, vI k), (2, vI y)] [vI (bI ((- 1) ≤ k ∧ k ≤ 2))] [cO m0 7 (.ref m1 :: xs), cA m1 G.2.1.1 718 f]
  refine s_if_eq 16 C dX7_primary_6 (by decide) bI_rng (fun h_6 => ?_) (fun h_6 => ?_)
  · have h_6 := bI_f h_6
    refine s_ldc (z := -1000001) C (by decide +kernel) dX7_primary_16 ?_
    exact s_iret C E dX7_primary_18 ⟨congrArg (fun z => some (vI z)) (by rw [sp_prim, if_neg (by omega)]), rfl⟩
  · have h_6 := bI_t h_6
    refine s_iload_n 2 C dX7_primary_9 rfl 2 rfl ?_
    refine s_callS (As := [vI y]) (rest := []) C dX7_primary_10 (c_X7_isKey l G y (by first | assumption | omega)) gX7_primary_X7_isKey rfl 1 (by decide +kernel) (by decide) [] rfl (by decide) rfl (Nat.le_of_ble_eq_true rfl) ⟨Nat.zero_le _, Nat.zero_le _⟩ ?_
    intro v0 w0 hq
    obtain ⟨rfl, rfl⟩ := hq
    refine ⟨rfl, ?_⟩
    show fSt l G X 0 0 13 [(0, .ref m0), (1, vI k), (2, vI y)] [vI (bI (0 ≤ y ∧ y ≤ 23))] [cO m0 7 (.ref m1 :: xs), cA m1 G.2.1.1 718 f]
    refine s_if_ne 19 C dX7_primary_13 (by decide) bI_rng (fun h_13 => ?_) (fun h_13 => ?_)
    · have h_13 := bI_t h_13
      refine s_iload_n 1 C dX7_primary_19 rfl 1 rfl ?_
      refine s_if_lt 38 C dX7_primary_20 (by decide) (by omega) (fun h_20 => ?_) (fun h_20 => ?_)
      · refine s_iload_n 1 C dX7_primary_38 rfl 1 rfl ?_
        refine s_if_ge 46 C dX7_primary_39 (by decide) (by omega) (fun h_39 => ?_) (fun h_39 => ?_)
        · refine s_aload_n 0 C dX7_primary_46 rfl 0 rfl ?_
          refine s_aload_n 0 C dX7_primary_47 rfl 0 rfl ?_
          refine s_get C dX7_primary_48 7 rfl hinX7 0 rfl 0 (by decide) (by decide +kernel) rfl ?_
          refine s_bipush (z := 9) C dX7_primary_51 rfl ?_
          refine s_iload_n 1 C dX7_primary_53 rfl 1 rfl ?_
          refine s_iadd C dX7_primary_54 ?_
          refine s_iald C dX7_primary_55 1 rfl (k + 9) (by omega) (by omega) (by omega) (by omega) ?_
          refine s_iload_n 2 C dX7_primary_56 rfl 2 rfl ?_
          refine s_callV (As := [vI (f (k + 9)), vI y]) (rest := []) C dX7_primary_57 (c_X7_lastPut l G m0 m1 xs f (f (k + 9)) y (by first | assumption | omega) (by first | assumption | omega) (hf _) (by first | assumption | omega)) gX7_primary_X7_lastPut rfl 2 (by decide +kernel) (by decide) 0 7 rfl rfl rfl [0, 1] rfl (by decide) rfl (Nat.le_of_ble_eq_true rfl) ⟨Nat.zero_le _, Nat.zero_le _⟩ ?_
          intro v0 w0 hq
          obtain ⟨rfl, rfl⟩ := hq
          refine ⟨rfl, ?_⟩
          show fSt l G X 0 0 60 [(0, .ref m0), (1, vI k), (2, vI y)] [vI (mL f (f (k + 9)) y)] [cO m0 7 (.ref m1 :: xs), cA m1 G.2.1.1 718 f]
          have hml := mL_in (f := f) (t := f (k + 9)) (y := y) hn
          refine s_istore_n 3 [(3, vI (mL f (f (k + 9)) y)), (0, .ref m0), (1, vI k), (2, vI y)] C dX7_primary_60 rfl (by decide) rfl ?_
          refine s_iload_n 3 C dX7_primary_61 rfl 0 rfl ?_
          refine s_if_le 74 C dX7_primary_62 (by decide) (by omega) (fun h_62 => ?_) (fun h_62 => ?_)
          · refine s_aload_n 0 C dX7_primary_74 rfl 1 rfl ?_
            refine s_aload_n 0 C dX7_primary_75 rfl 1 rfl ?_
            refine s_get C dX7_primary_76 7 rfl hinX7 0 rfl 0 (by decide) (by decide +kernel) rfl ?_
            refine s_iconst C dX7_primary_79 ?_
            refine s_iald C dX7_primary_80 1 rfl 0 rfl (by omega) (by omega) (by omega) ?_
            refine s_iload_n 2 C dX7_primary_81 rfl 3 rfl ?_
            refine s_callV (As := [vI (f 0), vI y]) (rest := []) C dX7_primary_82 (c_X7_valueAt l G m0 m1 xs f (f 0) y (by first | assumption | omega) (by first | assumption | omega) (by first | assumption | omega) (by first | assumption | omega)) gX7_primary_X7_valueAt rfl 2 (by decide +kernel) (by decide) 0 7 rfl rfl rfl [0, 1] rfl (by decide) rfl (Nat.le_of_ble_eq_true rfl) ⟨Nat.zero_le _, Nat.zero_le _⟩ ?_
            intro v0 w0 hq
            obtain ⟨rfl, rfl⟩ := hq
            refine ⟨rfl, ?_⟩
            show fSt l G X 0 0 85 [(3, vI (mL f (f (k + 9)) y)), (0, .ref m0), (1, vI k), (2, vI y)] [vI (mV f (f 0) y)] [cO m0 7 (.ref m1 :: xs), cA m1 G.2.1.1 718 f]
            exact s_iret C E dX7_primary_85 ⟨congrArg (fun z => some (vI z)) (by rw [sp_prim, if_pos (by omega), if_neg (by omega), if_neg (by omega)]), rfl⟩
          · refine s_aload_n 0 C dX7_primary_65 rfl 1 rfl ?_
            refine s_iload_n 3 C dX7_primary_66 rfl 0 rfl ?_
            refine s_iconst C dX7_primary_67 ?_
            refine s_callV (As := [vI (mL f (f (k + 9)) y), vI 3]) (rest := []) C dX7_primary_68 (c_X7_ofRecord l G m0 m1 xs f (mL f (f (k + 9)) y) 3 (by first | assumption | omega)) gX7_primary_X7_ofRecord rfl 2 (by decide +kernel) (by decide) 0 7 rfl rfl rfl [0, 1] rfl (by decide) rfl (Nat.le_of_ble_eq_true rfl) ⟨Nat.zero_le _, Nat.zero_le _⟩ ?_
            intro v0 w0 hq
            obtain ⟨rfl, rfl⟩ := hq
            refine ⟨rfl, ?_⟩
            show fSt l G X 0 0 71 [(3, vI (mL f (f (k + 9)) y)), (0, .ref m0), (1, vI k), (2, vI y)] [vI (oR f (mL f (f (k + 9)) y) 3)] [cO m0 7 (.ref m1 :: xs), cA m1 G.2.1.1 718 f]
            refine s_goto 85 C dX7_primary_71 (by decide) ?_
            exact s_iret C E dX7_primary_85 ⟨congrArg (fun z => some (vI z)) (by rw [sp_prim, if_pos (by omega), if_neg (by omega), if_pos (by omega)]), rfl⟩
        · refine s_iconst C dX7_primary_42 ?_
          refine s_goto 60 C dX7_primary_43 (by decide) ?_
          refine s_istore_n 3 [(3, vI 0), (0, .ref m0), (1, vI k), (2, vI y)] C dX7_primary_60 rfl (by decide) rfl ?_
          refine s_iload_n 3 C dX7_primary_61 rfl 0 rfl ?_
          refine s_if_le 74 C dX7_primary_62 (by decide) (by decide) (fun h => ?_) (fun h => absurd h (by decide))
          refine s_aload_n 0 C dX7_primary_74 rfl 1 rfl ?_
          refine s_aload_n 0 C dX7_primary_75 rfl 1 rfl ?_
          refine s_get C dX7_primary_76 7 rfl hinX7 0 rfl 0 (by decide) (by decide +kernel) rfl ?_
          refine s_iconst C dX7_primary_79 ?_
          refine s_iald C dX7_primary_80 1 rfl 0 rfl (by omega) (by omega) (by omega) ?_
          refine s_iload_n 2 C dX7_primary_81 rfl 3 rfl ?_
          refine s_callV (As := [vI (f 0), vI y]) (rest := []) C dX7_primary_82 (c_X7_valueAt l G m0 m1 xs f (f 0) y (by first | assumption | omega) (by first | assumption | omega) (by first | assumption | omega) (by first | assumption | omega)) gX7_primary_X7_valueAt rfl 2 (by decide +kernel) (by decide) 0 7 rfl rfl rfl [0, 1] rfl (by decide) rfl (Nat.le_of_ble_eq_true rfl) ⟨Nat.zero_le _, Nat.zero_le _⟩ ?_
          intro v0 w0 hq
          obtain ⟨rfl, rfl⟩ := hq
          refine ⟨rfl, ?_⟩
          show fSt l G X 0 0 85 [(3, vI 0), (0, .ref m0), (1, vI k), (2, vI y)] [vI (mV f (f 0) y)] [cO m0 7 (.ref m1 :: xs), cA m1 G.2.1.1 718 f]
          exact s_iret C E dX7_primary_85 ⟨congrArg (fun z => some (vI z)) (by rw [sp_prim, if_pos (by omega), if_neg (by omega), if_neg (by omega)]), rfl⟩
      · refine s_aload_n 0 C dX7_primary_23 rfl 0 rfl ?_
        refine s_get C dX7_primary_24 7 rfl hinX7 0 rfl 0 (by decide) (by decide +kernel) rfl ?_
        refine s_bipush (z := 9) C dX7_primary_27 rfl ?_
        refine s_iload_n 1 C dX7_primary_29 rfl 1 rfl ?_
        refine s_iadd C dX7_primary_30 ?_
        refine s_iald C dX7_primary_31 1 rfl (k + 9) (by omega) (by omega) (by omega) (by omega) ?_
        refine s_if_ne 38 C dX7_primary_32 (by decide) (hf _) (fun h_32 => ?_) (fun h_32 => ?_)
        · refine s_iload_n 1 C dX7_primary_38 rfl 1 rfl ?_
          refine s_if_ge 46 C dX7_primary_39 (by decide) (by omega) (fun h_39 => ?_) (fun h_39 => ?_)
          · refine s_aload_n 0 C dX7_primary_46 rfl 0 rfl ?_
            refine s_aload_n 0 C dX7_primary_47 rfl 0 rfl ?_
            refine s_get C dX7_primary_48 7 rfl hinX7 0 rfl 0 (by decide) (by decide +kernel) rfl ?_
            refine s_bipush (z := 9) C dX7_primary_51 rfl ?_
            refine s_iload_n 1 C dX7_primary_53 rfl 1 rfl ?_
            refine s_iadd C dX7_primary_54 ?_
            refine s_iald C dX7_primary_55 1 rfl (k + 9) (by omega) (by omega) (by omega) (by omega) ?_
            refine s_iload_n 2 C dX7_primary_56 rfl 2 rfl ?_
            refine s_callV (As := [vI (f (k + 9)), vI y]) (rest := []) C dX7_primary_57 (c_X7_lastPut l G m0 m1 xs f (f (k + 9)) y (by first | assumption | omega) (by first | assumption | omega) (hf _) (by first | assumption | omega)) gX7_primary_X7_lastPut rfl 2 (by decide +kernel) (by decide) 0 7 rfl rfl rfl [0, 1] rfl (by decide) rfl (Nat.le_of_ble_eq_true rfl) ⟨Nat.zero_le _, Nat.zero_le _⟩ ?_
            intro v0 w0 hq
            obtain ⟨rfl, rfl⟩ := hq
            refine ⟨rfl, ?_⟩
            show fSt l G X 0 0 60 [(0, .ref m0), (1, vI k), (2, vI y)] [vI (mL f (f (k + 9)) y)] [cO m0 7 (.ref m1 :: xs), cA m1 G.2.1.1 718 f]
            have hml := mL_in (f := f) (t := f (k + 9)) (y := y) hn
            refine s_istore_n 3 [(3, vI (mL f (f (k + 9)) y)), (0, .ref m0), (1, vI k), (2, vI y)] C dX7_primary_60 rfl (by decide) rfl ?_
            refine s_iload_n 3 C dX7_primary_61 rfl 0 rfl ?_
            refine s_if_le 74 C dX7_primary_62 (by decide) (by omega) (fun h_62 => ?_) (fun h_62 => ?_)
            · refine s_aload_n 0 C dX7_primary_74 rfl 1 rfl ?_
              refine s_aload_n 0 C dX7_primary_75 rfl 1 rfl ?_
              refine s_get C dX7_primary_76 7 rfl hinX7 0 rfl 0 (by decide) (by decide +kernel) rfl ?_
              refine s_iconst C dX7_primary_79 ?_
              refine s_iald C dX7_primary_80 1 rfl 0 rfl (by omega) (by omega) (by omega) ?_
              refine s_iload_n 2 C dX7_primary_81 rfl 3 rfl ?_
              refine s_callV (As := [vI (f 0), vI y]) (rest := []) C dX7_primary_82 (c_X7_valueAt l G m0 m1 xs f (f 0) y (by first | assumption | omega) (by first | assumption | omega) (by first | assumption | omega) (by first | assumption | omega)) gX7_primary_X7_valueAt rfl 2 (by decide +kernel) (by decide) 0 7 rfl rfl rfl [0, 1] rfl (by decide) rfl (Nat.le_of_ble_eq_true rfl) ⟨Nat.zero_le _, Nat.zero_le _⟩ ?_
              intro v0 w0 hq
              obtain ⟨rfl, rfl⟩ := hq
              refine ⟨rfl, ?_⟩
              show fSt l G X 0 0 85 [(3, vI (mL f (f (k + 9)) y)), (0, .ref m0), (1, vI k), (2, vI y)] [vI (mV f (f 0) y)] [cO m0 7 (.ref m1 :: xs), cA m1 G.2.1.1 718 f]
              exact s_iret C E dX7_primary_85 ⟨congrArg (fun z => some (vI z)) (by rw [sp_prim, if_pos (by omega), if_neg (by omega), if_neg (by omega)]), rfl⟩
            · refine s_aload_n 0 C dX7_primary_65 rfl 1 rfl ?_
              refine s_iload_n 3 C dX7_primary_66 rfl 0 rfl ?_
              refine s_iconst C dX7_primary_67 ?_
              refine s_callV (As := [vI (mL f (f (k + 9)) y), vI 3]) (rest := []) C dX7_primary_68 (c_X7_ofRecord l G m0 m1 xs f (mL f (f (k + 9)) y) 3 (by first | assumption | omega)) gX7_primary_X7_ofRecord rfl 2 (by decide +kernel) (by decide) 0 7 rfl rfl rfl [0, 1] rfl (by decide) rfl (Nat.le_of_ble_eq_true rfl) ⟨Nat.zero_le _, Nat.zero_le _⟩ ?_
              intro v0 w0 hq
              obtain ⟨rfl, rfl⟩ := hq
              refine ⟨rfl, ?_⟩
              show fSt l G X 0 0 71 [(3, vI (mL f (f (k + 9)) y)), (0, .ref m0), (1, vI k), (2, vI y)] [vI (oR f (mL f (f (k + 9)) y) 3)] [cO m0 7 (.ref m1 :: xs), cA m1 G.2.1.1 718 f]
              refine s_goto 85 C dX7_primary_71 (by decide) ?_
              exact s_iret C E dX7_primary_85 ⟨congrArg (fun z => some (vI z)) (by rw [sp_prim, if_pos (by omega), if_neg (by omega), if_pos (by omega)]), rfl⟩
          · refine s_iconst C dX7_primary_42 ?_
            refine s_goto 60 C dX7_primary_43 (by decide) ?_
            refine s_istore_n 3 [(3, vI 0), (0, .ref m0), (1, vI k), (2, vI y)] C dX7_primary_60 rfl (by decide) rfl ?_
            refine s_iload_n 3 C dX7_primary_61 rfl 0 rfl ?_
            refine s_if_le 74 C dX7_primary_62 (by decide) (by decide) (fun h => ?_) (fun h => absurd h (by decide))
            refine s_aload_n 0 C dX7_primary_74 rfl 1 rfl ?_
            refine s_aload_n 0 C dX7_primary_75 rfl 1 rfl ?_
            refine s_get C dX7_primary_76 7 rfl hinX7 0 rfl 0 (by decide) (by decide +kernel) rfl ?_
            refine s_iconst C dX7_primary_79 ?_
            refine s_iald C dX7_primary_80 1 rfl 0 rfl (by omega) (by omega) (by omega) ?_
            refine s_iload_n 2 C dX7_primary_81 rfl 3 rfl ?_
            refine s_callV (As := [vI (f 0), vI y]) (rest := []) C dX7_primary_82 (c_X7_valueAt l G m0 m1 xs f (f 0) y (by first | assumption | omega) (by first | assumption | omega) (by first | assumption | omega) (by first | assumption | omega)) gX7_primary_X7_valueAt rfl 2 (by decide +kernel) (by decide) 0 7 rfl rfl rfl [0, 1] rfl (by decide) rfl (Nat.le_of_ble_eq_true rfl) ⟨Nat.zero_le _, Nat.zero_le _⟩ ?_
            intro v0 w0 hq
            obtain ⟨rfl, rfl⟩ := hq
            refine ⟨rfl, ?_⟩
            show fSt l G X 0 0 85 [(3, vI 0), (0, .ref m0), (1, vI k), (2, vI y)] [vI (mV f (f 0) y)] [cO m0 7 (.ref m1 :: xs), cA m1 G.2.1.1 718 f]
            exact s_iret C E dX7_primary_85 ⟨congrArg (fun z => some (vI z)) (by rw [sp_prim, if_pos (by omega), if_neg (by omega), if_neg (by omega)]), rfl⟩
        · refine s_ldc (z := -1000002) C (by decide +kernel) dX7_primary_35 ?_
          exact s_iret C E dX7_primary_37 ⟨congrArg (fun z => some (vI z)) (by rw [sp_prim, if_pos (by omega), if_pos (by omega)]), rfl⟩
    · have h_13 := bI_f h_13
      refine s_ldc (z := -1000001) C (by decide +kernel) dX7_primary_16 ?_
      exact s_iret C E dX7_primary_18 ⟨congrArg (fun z => some (vI z)) (by rw [sp_prim, if_neg (by omega)]), rfl⟩

set_option maxHeartbeats 4000000 in
set_option maxRecDepth 100000 in
theorem c_X7_serves (l : Launch) (G : fG) (B : Int) (m0 m1 : Nat) (xs : List Value) (f : Int → Int) (e : Int) (hI : Inv B f) (hB : B ≤ 1073000000) (he : -2147483648 ≤ e ∧ e < 2147483648) : fCt l G yX7_serves wsX7_serves 2 44 0 0 [.ref m0, vI e] [cO m0 7 (.ref m1 :: xs), cA m1 G.2.1.1 718 f] (fun (v0 : Option Value) (w0 : va_W) => v0 = some (vI (sp_srv f e)) ∧ w0 = [cO m0 7 (.ref m1 :: xs), cA m1 G.2.1.1 718 f]) := by
  refine fs_met (cc := cX7_serves) (nL := 4) (ret := (some .int)) (by decide) rfl (Nat.le_of_ble_eq_true rfl) ?_
  intro X C E
  show fSt l G X 0 0 0 [(0, .ref m0), (1, vI e)] [] [cO m0 7 (.ref m1 :: xs), cA m1 G.2.1.1 718 f]
  have hf := hI.rf
  have hn := hI.n
  have htk := hI.tk
  have hlo := hI.lo
  have hln := hI.ln
  have hlc := hI.lc
  have hap := hI.ap
  have hrt := hI.rt
  have hdl := hI.dl
  have hS0 := hI.S 0 (by omega) (by omega)
  have hS1 := hI.S 1 (by omega) (by omega)
  refine s_aload_n 0 C dX7_serves_0 rfl 0 rfl ?_
  refine s_iload_n 1 C dX7_serves_1 rfl 1 rfl ?_
  refine s_callV (As := [vI e]) (rest := []) C dX7_serves_2 (c_X7_isFence l G m0 m1 xs f e (by first | assumption | omega) (by first | assumption | omega) (by first | assumption | omega)) gX7_serves_X7_isFence rfl 1 (by decide +kernel) (by decide) 0 7 rfl rfl rfl [0, 1] rfl (by decide) rfl (Nat.le_of_ble_eq_true rfl) ⟨Nat.zero_le _, Nat.zero_le _⟩ ?_
  intro v0 w0 hq
  obtain ⟨rfl, rfl⟩ := hq
  refine ⟨rfl, ?_⟩
  show fSt l G X 0 0 5 [(0, .ref m0), (1, vI e)] [vI (bI (0 ≤ e ∧ e ≤ f 0))] [cO m0 7 (.ref m1 :: xs), cA m1 G.2.1.1 718 f]
  refine s_if_ne 11 C dX7_serves_5 (by decide) bI_rng (fun h_5 => ?_) (fun h_5 => ?_)
  · have h_5 := bI_t h_5
    refine s_aload_n 0 C dX7_serves_11 rfl 0 rfl ?_
    refine s_iconst C dX7_serves_12 ?_
    refine s_iload_n 1 C dX7_serves_13 rfl 1 rfl ?_
    refine s_callV (As := [vI 0, vI e]) (rest := []) C dX7_serves_14 (c_X7_canServe l G m0 m1 xs f 0 e (by first | assumption | omega) (by first | assumption | omega) (by first | assumption | omega)) gX7_serves_X7_canServe rfl 2 (by decide +kernel) (by decide) 0 7 rfl rfl rfl [0, 1] rfl (by decide) rfl (Nat.le_of_ble_eq_true rfl) ⟨Nat.zero_le _, Nat.zero_le _⟩ ?_
    intro v0 w0 hq
    obtain ⟨rfl, rfl⟩ := hq
    refine ⟨rfl, ?_⟩
    show fSt l G X 0 0 17 [(0, .ref m0), (1, vI e)] [vI (bI (oS f 0 2 = 0 ∧ e ≤ oS f 0 1))] [cO m0 7 (.ref m1 :: xs), cA m1 G.2.1.1 718 f]
    refine s_istore_n 2 [(2, vI (bI (oS f 0 2 = 0 ∧ e ≤ oS f 0 1))), (0, .ref m0), (1, vI e)] C dX7_serves_17 rfl (by decide) rfl ?_
    refine s_aload_n 0 C dX7_serves_18 rfl 1 rfl ?_
    refine s_iconst C dX7_serves_19 ?_
    refine s_iload_n 1 C dX7_serves_20 rfl 2 rfl ?_
    refine s_callV (As := [vI 1, vI e]) (rest := []) C dX7_serves_21 (c_X7_canServe l G m0 m1 xs f 1 e (by first | assumption | omega) (by first | assumption | omega) (by first | assumption | omega)) gX7_serves_X7_canServe rfl 2 (by decide +kernel) (by decide) 0 7 rfl rfl rfl [0, 1] rfl (by decide) rfl (Nat.le_of_ble_eq_true rfl) ⟨Nat.zero_le _, Nat.zero_le _⟩ ?_
    intro v0 w0 hq
    obtain ⟨rfl, rfl⟩ := hq
    refine ⟨rfl, ?_⟩
    show fSt l G X 0 0 24 [(2, vI (bI (oS f 0 2 = 0 ∧ e ≤ oS f 0 1))), (0, .ref m0), (1, vI e)] [vI (bI (oS f 1 2 = 0 ∧ e ≤ oS f 1 1))] [cO m0 7 (.ref m1 :: xs), cA m1 G.2.1.1 718 f]
    refine s_istore_n 3 [(3, vI (bI (oS f 1 2 = 0 ∧ e ≤ oS f 1 1))), (2, vI (bI (oS f 0 2 = 0 ∧ e ≤ oS f 0 1))), (0, .ref m0), (1, vI e)] C dX7_serves_24 rfl (by decide) rfl ?_
    refine s_iload_n 2 C dX7_serves_25 rfl 1 rfl ?_
    refine s_if_eq 56 C dX7_serves_26 (by decide) bI_rng (fun h_26 => ?_) (fun h_26 => ?_)
    · have h_26 := bI_f h_26
      refine s_iload_n 2 C dX7_serves_56 rfl 1 rfl ?_
      refine s_if_eq 64 C dX7_serves_57 (by decide) bI_rng (fun h_57 => ?_) (fun h_57 => ?_)
      · have h_57 := bI_f h_57
        refine s_iload_n 3 C dX7_serves_64 rfl 0 rfl ?_
        refine s_if_eq 72 C dX7_serves_65 (by decide) bI_rng (fun h_65 => ?_) (fun h_65 => ?_)
        · have h_65 := bI_f h_65
          refine s_ldc (z := -1000004) C (by decide +kernel) dX7_serves_72 ?_
          exact s_iret C E dX7_serves_74 ⟨congrArg (fun z => some (vI z)) (by first | (rw [sp_srv, if_pos (by omega), if_pos (by omega), if_pos (by omega)]; done) | (rw [sp_srv, if_pos (by omega), if_pos (by omega), if_neg (by omega)]; done) | (rw [sp_srv, if_pos (by omega), if_neg (by omega), if_pos (by omega)]; done) | (rw [sp_srv, if_pos (by omega), if_neg (by omega), if_neg (by omega)]; done)), rfl⟩
        · have h_65 := bI_t h_65
          refine s_iconst C dX7_serves_68 ?_
          refine s_goto 74 C dX7_serves_69 (by decide) ?_
          exact s_iret C E dX7_serves_74 ⟨congrArg (fun z => some (vI z)) (by first | (rw [sp_srv, if_pos (by omega), if_pos (by omega), if_pos (by omega)]; done) | (rw [sp_srv, if_pos (by omega), if_pos (by omega), if_neg (by omega)]; done) | (rw [sp_srv, if_pos (by omega), if_neg (by omega), if_pos (by omega)]; done) | (rw [sp_srv, if_pos (by omega), if_neg (by omega), if_neg (by omega)]; done)), rfl⟩
      · have h_57 := bI_t h_57
        refine s_iconst C dX7_serves_60 ?_
        refine s_goto 74 C dX7_serves_61 (by decide) ?_
        exact s_iret C E dX7_serves_74 ⟨congrArg (fun z => some (vI z)) (by first | (rw [sp_srv, if_pos (by omega), if_pos (by omega), if_pos (by omega)]; done) | (rw [sp_srv, if_pos (by omega), if_pos (by omega), if_neg (by omega)]; done) | (rw [sp_srv, if_pos (by omega), if_neg (by omega), if_pos (by omega)]; done) | (rw [sp_srv, if_pos (by omega), if_neg (by omega), if_neg (by omega)]; done)), rfl⟩
    · have h_26 := bI_t h_26
      refine s_iload_n 3 C dX7_serves_29 rfl 0 rfl ?_
      refine s_if_eq 56 C dX7_serves_30 (by decide) bI_rng (fun h_30 => ?_) (fun h_30 => ?_)
      · have h_30 := bI_f h_30
        refine s_iload_n 2 C dX7_serves_56 rfl 1 rfl ?_
        refine s_if_eq 64 C dX7_serves_57 (by decide) bI_rng (fun h_57 => ?_) (fun h_57 => ?_)
        · have h_57 := bI_f h_57
          refine s_iload_n 3 C dX7_serves_64 rfl 0 rfl ?_
          refine s_if_eq 72 C dX7_serves_65 (by decide) bI_rng (fun h_65 => ?_) (fun h_65 => ?_)
          · have h_65 := bI_f h_65
            refine s_ldc (z := -1000004) C (by decide +kernel) dX7_serves_72 ?_
            exact s_iret C E dX7_serves_74 ⟨congrArg (fun z => some (vI z)) (by first | (rw [sp_srv, if_pos (by omega), if_pos (by omega), if_pos (by omega)]; done) | (rw [sp_srv, if_pos (by omega), if_pos (by omega), if_neg (by omega)]; done) | (rw [sp_srv, if_pos (by omega), if_neg (by omega), if_pos (by omega)]; done) | (rw [sp_srv, if_pos (by omega), if_neg (by omega), if_neg (by omega)]; done)), rfl⟩
          · have h_65 := bI_t h_65
            refine s_iconst C dX7_serves_68 ?_
            refine s_goto 74 C dX7_serves_69 (by decide) ?_
            exact s_iret C E dX7_serves_74 ⟨congrArg (fun z => some (vI z)) (by first | (rw [sp_srv, if_pos (by omega), if_pos (by omega), if_pos (by omega)]; done) | (rw [sp_srv, if_pos (by omega), if_pos (by omega), if_neg (by omega)]; done) | (rw [sp_srv, if_pos (by omega), if_neg (by omega), if_pos (by omega)]; done) | (rw [sp_srv, if_pos (by omega), if_neg (by omega), if_neg (by omega)]; done)), rfl⟩
        · have h_57 := bI_t h_57
          refine s_iconst C dX7_serves_60 ?_
          refine s_goto 74 C dX7_serves_61 (by decide) ?_
          exact s_iret C E dX7_serves_74 ⟨congrArg (fun z => some (vI z)) (by first | (rw [sp_srv, if_pos (by omega), if_pos (by omega), if_pos (by omega)]; done) | (rw [sp_srv, if_pos (by omega), if_pos (by omega), if_neg (by omega)]; done) | (rw [sp_srv, if_pos (by omega), if_neg (by omega), if_pos (by omega)]; done) | (rw [sp_srv, if_pos (by omega), if_neg (by omega), if_neg (by omega)]; done)), rfl⟩
      · have h_30 := bI_t h_30
        refine s_aload_n 0 C dX7_serves_33 rfl 2 rfl ?_
        refine s_iconst C dX7_serves_34 ?_
        refine s_iconst C dX7_serves_35 ?_
        refine s_callV (As := [vI 1, vI 1]) (rest := []) C dX7_serves_36 (c_X7_ofStandby l G m0 m1 xs f 1 1 (by first | assumption | omega)) gX7_serves_X7_ofStandby rfl 2 (by decide +kernel) (by decide) 0 7 rfl rfl rfl [0, 1] rfl (by decide) rfl (Nat.le_of_ble_eq_true rfl) ⟨Nat.zero_le _, Nat.zero_le _⟩ ?_
        intro v0 w0 hq
        obtain ⟨rfl, rfl⟩ := hq
        refine ⟨rfl, ?_⟩
        show fSt l G X 0 0 39 [(3, vI (bI (oS f 1 2 = 0 ∧ e ≤ oS f 1 1))), (2, vI (bI (oS f 0 2 = 0 ∧ e ≤ oS f 0 1))), (0, .ref m0), (1, vI e)] [vI (oS f 1 1)] [cO m0 7 (.ref m1 :: xs), cA m1 G.2.1.1 718 f]
        refine s_aload_n 0 C dX7_serves_39 rfl 2 rfl ?_
        refine s_iconst C dX7_serves_40 ?_
        refine s_iconst C dX7_serves_41 ?_
        refine s_callV (As := [vI 0, vI 1]) (rest := [vI (oS f 1 1)]) C dX7_serves_42 (c_X7_ofStandby l G m0 m1 xs f 0 1 (by first | assumption | omega)) gX7_serves_X7_ofStandby rfl 2 (by decide +kernel) (by decide) 0 7 rfl rfl rfl [0, 1] rfl (by decide) rfl (Nat.le_of_ble_eq_true rfl) ⟨Nat.zero_le _, Nat.zero_le _⟩ ?_
        intro v0 w0 hq
        obtain ⟨rfl, rfl⟩ := hq
        refine ⟨rfl, ?_⟩
        show fSt l G X 0 0 45 [(3, vI (bI (oS f 1 2 = 0 ∧ e ≤ oS f 1 1))), (2, vI (bI (oS f 0 2 = 0 ∧ e ≤ oS f 0 1))), (0, .ref m0), (1, vI e)] [vI (oS f 0 1), vI (oS f 1 1)] [cO m0 7 (.ref m1 :: xs), cA m1 G.2.1.1 718 f]
        refine s_icmp_le 52 C dX7_serves_45 (by decide) (hf _) (hf _) (fun h_45 => ?_) (fun h_45 => ?_)
        · refine s_iconst C dX7_serves_52 ?_
          refine s_goto 74 C dX7_serves_53 (by decide) ?_
          exact s_iret C E dX7_serves_74 ⟨congrArg (fun z => some (vI z)) (by first | (rw [sp_srv, if_pos (by omega), if_pos (by omega), if_pos (by omega)]; done) | (rw [sp_srv, if_pos (by omega), if_pos (by omega), if_neg (by omega)]; done) | (rw [sp_srv, if_pos (by omega), if_neg (by omega), if_pos (by omega)]; done) | (rw [sp_srv, if_pos (by omega), if_neg (by omega), if_neg (by omega)]; done)), rfl⟩
        · refine s_iconst C dX7_serves_48 ?_
          refine s_goto 74 C dX7_serves_49 (by decide) ?_
          exact s_iret C E dX7_serves_74 ⟨congrArg (fun z => some (vI z)) (by first | (rw [sp_srv, if_pos (by omega), if_pos (by omega), if_pos (by omega)]; done) | (rw [sp_srv, if_pos (by omega), if_pos (by omega), if_neg (by omega)]; done) | (rw [sp_srv, if_pos (by omega), if_neg (by omega), if_pos (by omega)]; done) | (rw [sp_srv, if_pos (by omega), if_neg (by omega), if_neg (by omega)]; done)), rfl⟩
  · have h_5 := bI_f h_5
    refine s_ldc (z := -1000001) C (by decide +kernel) dX7_serves_8 ?_
    exact s_iret C E dX7_serves_10 ⟨congrArg (fun z => some (vI z)) (by rw [sp_srv, if_neg (by omega)]), rfl⟩

set_option maxHeartbeats 4000000 in
set_option maxRecDepth 100000 in
theorem c_X7_fence (l : Launch) (G : fG) (B : Int) (m0 m1 : Nat) (xs : List Value) (f : Int → Int) (y : Int) (hI : Inv B f) (hB : B ≤ 1073000000) (hy : -2147483648 ≤ y ∧ y < 2147483648) : fCt l G yX7_fence wsX7_fence 3 69 0 0 [.ref m0, vI y] [cO m0 7 (.ref m1 :: xs), cA m1 G.2.1.1 718 f] (fun (v0 : Option Value) (w0 : va_W) => v0 = some (vI (sp_fence f y)) ∧ w0 = [cO m0 7 (.ref m1 :: xs), cA m1 G.2.1.1 718 f]) := by
  refine fs_met (cc := cX7_fence) (nL := 3) (ret := (some .int)) (by decide) rfl (Nat.le_of_ble_eq_true rfl) ?_
  intro X C E
  show fSt l G X 0 0 0 [(0, .ref m0), (1, vI y)] [] [cO m0 7 (.ref m1 :: xs), cA m1 G.2.1.1 718 f]
  have hinX7 : ∀ w ∈ u_ws RX7 TX7 14, w ∈ wsX7_fence := by decide +kernel
  have hf := hI.rf
  have hn := hI.n
  have htk := hI.tk
  have hlo := hI.lo
  have hln := hI.ln
  have hlc := hI.lc
  have hap := hI.ap
  have hrt := hI.rt
  have hdl := hI.dl
  refine s_iload_n 1 C dX7_fence_0 rfl 1 rfl ?_
  refine s_callS (As := [vI y]) (rest := []) C dX7_fence_1 (c_X7_isKey l G y (by first | assumption | omega)) gX7_fence_X7_isKey rfl 1 (by decide +kernel) (by decide) [] rfl (by decide) rfl (Nat.le_of_ble_eq_true rfl) ⟨Nat.zero_le _, Nat.zero_le _⟩ ?_
  intro v0 w0 hq
  obtain ⟨rfl, rfl⟩ := hq
  refine ⟨rfl, ?_⟩
  show fSt l G X 0 0 4 [(0, .ref m0), (1, vI y)] [vI (bI (0 ≤ y ∧ y ≤ 23))] [cO m0 7 (.ref m1 :: xs), cA m1 G.2.1.1 718 f]
  refine s_if_ne 10 C dX7_fence_4 (by decide) bI_rng (fun h_4 => ?_) (fun h_4 => ?_)
  · have h_4 := bI_t h_4
    refine s_aload_n 0 C dX7_fence_10 rfl 0 rfl ?_
    refine s_aload_n 0 C dX7_fence_11 rfl 0 rfl ?_
    refine s_get C dX7_fence_12 7 rfl hinX7 0 rfl 0 (by decide) (by decide +kernel) rfl ?_
    refine s_iconst C dX7_fence_15 ?_
    refine s_iald C dX7_fence_16 1 rfl 0 rfl (by omega) (by omega) (by omega) ?_
    refine s_iload_n 1 C dX7_fence_17 rfl 1 rfl ?_
    refine s_callV (As := [vI (f 0), vI y]) (rest := []) C dX7_fence_18 (c_X7_lastCommit l G m0 m1 xs f (f 0) y (by first | assumption | omega) (by first | assumption | omega) (by first | assumption | omega) (by first | assumption | omega)) gX7_fence_X7_lastCommit rfl 2 (by decide +kernel) (by decide) 0 7 rfl rfl rfl [0, 1] rfl (by decide) rfl (Nat.le_of_ble_eq_true rfl) ⟨Nat.zero_le _, Nat.zero_le _⟩ ?_
    intro v0 w0 hq
    obtain ⟨rfl, rfl⟩ := hq
    refine ⟨rfl, ?_⟩
    show fSt l G X 0 0 21 [(0, .ref m0), (1, vI y)] [vI (mLC f (f 0) y)] [cO m0 7 (.ref m1 :: xs), cA m1 G.2.1.1 718 f]
    refine s_istore_n 2 [(2, vI (mLC f (f 0) y)), (0, .ref m0), (1, vI y)] C dX7_fence_21 rfl (by decide) rfl ?_
    refine s_iload_n 2 C dX7_fence_22 rfl 0 rfl ?_
    refine s_if_ne 31 C dX7_fence_23 (by decide) (mLC_rg (by omega)) (fun h_23 => ?_) (fun h_23 => ?_)
    · refine s_iload_n 2 C dX7_fence_31 rfl 0 rfl ?_
      exact s_iret C E dX7_fence_32 ⟨congrArg (fun z => some (vI z)) (by rw [sp_fence, if_pos h_4, if_neg h_23]), rfl⟩
    · refine s_ldc (z := -1000004) C (by decide +kernel) dX7_fence_26 ?_
      refine s_goto 32 C dX7_fence_28 (by decide) ?_
      exact s_iret C E dX7_fence_32 ⟨congrArg (fun z => some (vI z)) (by rw [sp_fence, if_pos h_4, if_pos h_23]), rfl⟩
  · have h_4 := bI_f h_4
    refine s_ldc (z := -1000001) C (by decide +kernel) dX7_fence_7 ?_
    exact s_iret C E dX7_fence_9 ⟨congrArg (fun z => some (vI z)) (by rw [sp_fence, if_neg h_4]), rfl⟩

set_option maxHeartbeats 4000000 in
set_option maxRecDepth 100000 in
theorem c_X7_recordOf (l : Launch) (G : fG) (B : Int) (m0 m1 : Nat) (xs : List Value) (f : Int → Int) (r wh : Int) (hI : Inv B f) (hB : B ≤ 1073000000) (hr : -2147483648 ≤ r ∧ r < 2147483648) (hwh : -2147483648 ≤ wh ∧ wh < 2147483648) : fCt l G yX7_recordOf wsX7_recordOf 1 22 0 0 [.ref m0, vI r, vI wh] [cO m0 7 (.ref m1 :: xs), cA m1 G.2.1.1 718 f] (fun (v0 : Option Value) (w0 : va_W) => v0 = some (vI (sp_rec f r wh)) ∧ w0 = [cO m0 7 (.ref m1 :: xs), cA m1 G.2.1.1 718 f]) := by
  refine fs_met (cc := cX7_recordOf) (nL := 3) (ret := (some .int)) (by decide) rfl (Nat.le_of_ble_eq_true rfl) ?_
  intro X C E
  show fSt l G X 0 0 0 [(0, .ref m0), (1, vI r), (2, vI wh)] [] [cO m0 7 (.ref m1 :: xs), cA m1 G.2.1.1 718 f]
  have hinX7 : ∀ w ∈ u_ws RX7 TX7 14, w ∈ wsX7_recordOf := by decide +kernel
  have hf := hI.rf
  have hn := hI.n
  have htk := hI.tk
  have hlo := hI.lo
  have hln := hI.ln
  have hlc := hI.lc
  have hap := hI.ap
  have hrt := hI.rt
  have hdl := hI.dl
  refine s_iload_n 1 C dX7_recordOf_0 rfl 1 rfl ?_
  refine s_iconst C dX7_recordOf_1 ?_
  refine s_icmp_lt 14 C dX7_recordOf_2 (by decide) (by omega) (by omega) (fun h_2 => ?_) (fun h_2 => ?_)
  · refine s_ldc (z := -1000001) C (by decide +kernel) dX7_recordOf_14 ?_
    exact s_iret C E dX7_recordOf_16 ⟨congrArg (fun z => some (vI z)) (by rw [sp_rec, if_neg (by omega)]), rfl⟩
  · refine s_iload_n 2 C dX7_recordOf_5 rfl 2 rfl ?_
    refine s_iconst C dX7_recordOf_6 ?_
    refine s_iconst C dX7_recordOf_7 ?_
    refine s_callS (As := [vI wh, vI 0, vI 4]) (rest := []) C dX7_recordOf_8 (c_X7_in l G wh 0 4 (by first | assumption | omega) (by first | assumption | omega) (by first | assumption | omega)) gX7_recordOf_X7_in rfl 3 (by decide +kernel) (by decide) [] rfl (by decide) rfl (Nat.le_of_ble_eq_true rfl) ⟨Nat.zero_le _, Nat.zero_le _⟩ ?_
    intro v0 w0 hq
    obtain ⟨rfl, rfl⟩ := hq
    refine ⟨rfl, ?_⟩
    show fSt l G X 0 0 11 [(0, .ref m0), (1, vI r), (2, vI wh)] [vI (bI (0 ≤ wh ∧ wh ≤ 4))] [cO m0 7 (.ref m1 :: xs), cA m1 G.2.1.1 718 f]
    refine s_if_ne 17 C dX7_recordOf_11 (by decide) bI_rng (fun h_11 => ?_) (fun h_11 => ?_)
    · have h_11 := bI_t h_11
      refine s_iload_n 1 C dX7_recordOf_17 rfl 1 rfl ?_
      refine s_aload_n 0 C dX7_recordOf_18 rfl 0 rfl ?_
      refine s_get C dX7_recordOf_19 7 rfl hinX7 0 rfl 0 (by decide) (by decide +kernel) rfl ?_
      refine s_iconst C dX7_recordOf_22 ?_
      refine s_iald C dX7_recordOf_23 1 rfl 0 rfl (by omega) (by omega) (by omega) ?_
      refine s_icmp_le 32 C dX7_recordOf_24 (by decide) (by omega) (hf _) (fun h_24 => ?_) (fun h_24 => ?_)
      · refine s_aload_n 0 C dX7_recordOf_32 rfl 0 rfl ?_
        refine s_iload_n 1 C dX7_recordOf_33 rfl 1 rfl ?_
        refine s_iload_n 2 C dX7_recordOf_34 rfl 2 rfl ?_
        refine s_callV (As := [vI r, vI wh]) (rest := []) C dX7_recordOf_35 (c_X7_ofRecord l G m0 m1 xs f r wh (by first | assumption | omega)) gX7_recordOf_X7_ofRecord rfl 2 (by decide +kernel) (by decide) 0 7 rfl rfl rfl [0, 1] rfl (by decide) rfl (Nat.le_of_ble_eq_true rfl) ⟨Nat.zero_le _, Nat.zero_le _⟩ ?_
        intro v0 w0 hq
        obtain ⟨rfl, rfl⟩ := hq
        refine ⟨rfl, ?_⟩
        show fSt l G X 0 0 38 [(0, .ref m0), (1, vI r), (2, vI wh)] [vI (oR f r wh)] [cO m0 7 (.ref m1 :: xs), cA m1 G.2.1.1 718 f]
        exact s_iret C E dX7_recordOf_38 ⟨congrArg (fun z => some (vI z)) (by rw [sp_rec, if_pos (by omega), if_neg (by omega)]), rfl⟩
      · refine s_ldc (z := -1000004) C (by decide +kernel) dX7_recordOf_27 ?_
        refine s_goto 38 C dX7_recordOf_29 (by decide) ?_
        exact s_iret C E dX7_recordOf_38 ⟨congrArg (fun z => some (vI z)) (by rw [sp_rec, if_pos (by omega), if_pos (by omega)]), rfl⟩
    · have h_11 := bI_f h_11
      refine s_ldc (z := -1000001) C (by decide +kernel) dX7_recordOf_14 ?_
      exact s_iret C E dX7_recordOf_16 ⟨congrArg (fun z => some (vI z)) (by rw [sp_rec, if_neg (by omega)]), rfl⟩

set_option maxHeartbeats 4000000 in
set_option maxRecDepth 100000 in
theorem c_X7_unlike (l : Launch) (G : fG) (B : Int) (m0 m1 : Nat) (xs : List Value) (f : Int → Int) (b : Int) (hI : Inv B f) (hB : B ≤ 1073000000) (hb : 0 ≤ b ∧ b ≤ 1) : fCt l G yX7_unlike wsX7_unlike 4 92 0 0 [.ref m0, vI b] [cO m0 7 (.ref m1 :: xs), cA m1 G.2.1.1 718 f] (fun (v0 : Option Value) (w0 : va_W) => v0 = some (vI (mU f b)) ∧ w0 = [cO m0 7 (.ref m1 :: xs), cA m1 G.2.1.1 718 f]) := by
  refine fs_met (cc := cX7_unlike) (nL := 4) (ret := (some .int)) (by decide) rfl (Nat.le_of_ble_eq_true rfl) ?_
  intro X C E
  show fSt l G X 0 0 0 [(0, .ref m0), (1, vI b)] [] [cO m0 7 (.ref m1 :: xs), cA m1 G.2.1.1 718 f]
  have hinX7 : ∀ w ∈ u_ws RX7 TX7 14, w ∈ wsX7_unlike := by decide +kernel
  have hf := hI.rf
  have hn := hI.n
  have htk := hI.tk
  have hlo := hI.lo
  have hln := hI.ln
  have hlc := hI.lc
  have hap := hI.ap
  have hrt := hI.rt
  have hdl := hI.dl
  have hS := hI.S b hb.1 hb.2
  refine s_iconst C dX7_unlike_0 ?_
  refine s_istore_n 2 [(2, vI 0), (0, .ref m0), (1, vI b)] C dX7_unlike_1 rfl (by decide) rfl ?_
  refine s_iconst C dX7_unlike_2 ?_
  refine s_istore_n 3 [(3, vI 0), (2, vI 0), (0, .ref m0), (1, vI b)] C dX7_unlike_3 rfl (by decide) rfl ?_
  have loop_4 : ∀ (fuel : Nat) (y c : Int), (0 ≤ y ∧ y ≤ 24) → (c = cnt (fun y => decide (mV f (oS f b 1) y ≠ mV f (f 0) y)) 0 (y - 0).toNat) → (0 ≤ c ∧ c ≤ y) → (24 - y < (fuel : Int)) → fSt l G X 0 0 4 [(0, .ref m0), (1, vI b), (2, vI c), (3, vI y)] [] [cO m0 7 (.ref m1 :: xs), cA m1 G.2.1.1 718 f] := by
    intro fuel
    induction fuel with
    | zero =>
      intro y c hy hc hcr hm
      exfalso
      omega
    | succ fuel ih_4 =>
      intro y c hy hc hcr hm
      refine s_iload_n 3 C dX7_unlike_4 rfl 3 rfl ?_
      refine s_bipush (z := 24) C dX7_unlike_5 rfl ?_
      refine s_icmp_ge 49 C dX7_unlike_7 (by decide) (by omega) (by omega) (fun h_7 => ?_) (fun h_7 => ?_)
      · refine s_iload_n 2 C dX7_unlike_49 rfl 2 rfl ?_
        exact s_iret C E dX7_unlike_50 ⟨congrArg (fun z => some (vI z)) (by rw [hc, mU, show (y - 0).toNat = 24 by omega]), rfl⟩
      · refine s_iload_n 2 C dX7_unlike_10 rfl 2 rfl ?_
        refine s_aload_n 0 C dX7_unlike_11 rfl 0 rfl ?_
        refine s_aload_n 0 C dX7_unlike_12 rfl 0 rfl ?_
        refine s_iload_n 1 C dX7_unlike_13 rfl 1 rfl ?_
        refine s_iconst C dX7_unlike_14 ?_
        refine s_callV (As := [vI b, vI 1]) (rest := [.ref m0, vI c]) C dX7_unlike_15 (c_X7_ofStandby l G m0 m1 xs f b 1 (by first | assumption | omega)) gX7_unlike_X7_ofStandby rfl 2 (by decide +kernel) (by decide) 0 7 rfl rfl rfl [0, 1] rfl (by decide) rfl (Nat.le_of_ble_eq_true rfl) ⟨Nat.zero_le _, Nat.zero_le _⟩ ?_
        intro v0 w0 hq
        obtain ⟨rfl, rfl⟩ := hq
        refine ⟨rfl, ?_⟩
        show fSt l G X 0 0 18 [(0, .ref m0), (1, vI b), (2, vI c), (3, vI y)] [vI (oS f b 1), .ref m0, vI c] [cO m0 7 (.ref m1 :: xs), cA m1 G.2.1.1 718 f]
        refine s_iload_n 3 C dX7_unlike_18 rfl 3 rfl ?_
        refine s_callV (As := [vI (oS f b 1), vI y]) (rest := [vI c]) C dX7_unlike_19 (c_X7_valueAt l G m0 m1 xs f (oS f b 1) y (by first | assumption | omega) (by first | assumption | omega) (by first | assumption | omega) (by first | assumption | omega)) gX7_unlike_X7_valueAt rfl 2 (by decide +kernel) (by decide) 0 7 rfl rfl rfl [0, 1] rfl (by decide) rfl (Nat.le_of_ble_eq_true rfl) ⟨Nat.zero_le _, Nat.zero_le _⟩ ?_
        intro v0 w0 hq
        obtain ⟨rfl, rfl⟩ := hq
        refine ⟨rfl, ?_⟩
        show fSt l G X 0 0 22 [(0, .ref m0), (1, vI b), (2, vI c), (3, vI y)] [vI (mV f (oS f b 1) y), vI c] [cO m0 7 (.ref m1 :: xs), cA m1 G.2.1.1 718 f]
        refine s_aload_n 0 C dX7_unlike_22 rfl 0 rfl ?_
        refine s_aload_n 0 C dX7_unlike_23 rfl 0 rfl ?_
        refine s_get C dX7_unlike_24 7 rfl hinX7 0 rfl 0 (by decide) (by decide +kernel) rfl ?_
        refine s_iconst C dX7_unlike_27 ?_
        refine s_iald C dX7_unlike_28 1 rfl 0 rfl (by omega) (by omega) (by omega) ?_
        refine s_iload_n 3 C dX7_unlike_29 rfl 3 rfl ?_
        refine s_callV (As := [vI (f 0), vI y]) (rest := [vI (mV f (oS f b 1) y), vI c]) C dX7_unlike_30 (c_X7_valueAt l G m0 m1 xs f (f 0) y (by first | assumption | omega) (by first | assumption | omega) (by first | assumption | omega) (by first | assumption | omega)) gX7_unlike_X7_valueAt rfl 2 (by decide +kernel) (by decide) 0 7 rfl rfl rfl [0, 1] rfl (by decide) rfl (Nat.le_of_ble_eq_true rfl) ⟨Nat.zero_le _, Nat.zero_le _⟩ ?_
        intro v0 w0 hq
        obtain ⟨rfl, rfl⟩ := hq
        refine ⟨rfl, ?_⟩
        show fSt l G X 0 0 33 [(0, .ref m0), (1, vI b), (2, vI c), (3, vI y)] [vI (mV f (f 0) y), vI (mV f (oS f b 1) y), vI c] [cO m0 7 (.ref m1 :: xs), cA m1 G.2.1.1 718 f]
        refine s_icmp_eq 40 C dX7_unlike_33 (by decide) (mV_r hf) (mV_r hf) (fun h_33 => ?_) (fun h_33 => ?_)
        · refine s_iconst C dX7_unlike_40 ?_
          refine s_iadd C dX7_unlike_41 ?_
          refine s_istore_n 2 [(2, vI (c + 0)), (0, .ref m0), (1, vI b), (3, vI y)] C dX7_unlike_42 rfl (by decide) rfl ?_
          refine s_iinc [(3, vI (y + 1)), (2, vI (c + 0)), (0, .ref m0), (1, vI b)] C dX7_unlike_43 3 rfl (by decide) rfl ?_
          refine s_goto 4 C dX7_unlike_46 (by decide) ?_
          refine s_lv [(0, .ref m0), (1, vI b), (2, vI (c + 0)), (3, vI (y + 1))] [2, 3, 1, 0] rfl ?_
          exact ih_4 (y + 1) (c + 0) (by omega) (cnt_nx (by omega) hc (Or.inr ⟨(by simp only [decide_eq_true_eq]; omega), by omega⟩)) (by omega) (by omega)
        · refine s_iconst C dX7_unlike_36 ?_
          refine s_goto 41 C dX7_unlike_37 (by decide) ?_
          refine s_iadd C dX7_unlike_41 ?_
          refine s_istore_n 2 [(2, vI (c + 1)), (0, .ref m0), (1, vI b), (3, vI y)] C dX7_unlike_42 rfl (by decide) rfl ?_
          refine s_iinc [(3, vI (y + 1)), (2, vI (c + 1)), (0, .ref m0), (1, vI b)] C dX7_unlike_43 3 rfl (by decide) rfl ?_
          refine s_goto 4 C dX7_unlike_46 (by decide) ?_
          refine s_lv [(0, .ref m0), (1, vI b), (2, vI (c + 1)), (3, vI (y + 1))] [2, 3, 1, 0] rfl ?_
          exact ih_4 (y + 1) (c + 1) (by omega) (cnt_nx (by omega) hc (Or.inl ⟨(by simp only [decide_eq_true_eq]; omega), rfl⟩)) (by omega) (by omega)
  refine s_lv [(0, .ref m0), (1, vI b), (2, vI 0), (3, vI 0)] [2, 3, 1, 0] rfl ?_
  exact loop_4 (24 - 0 + 1 : Int).toNat 0 0 (by omega) rfl (by omega) (by omega)

set_option maxHeartbeats 4000000 in
set_option maxRecDepth 100000 in
theorem c_X7_standbyOf (l : Launch) (G : fG) (B : Int) (m0 m1 : Nat) (xs : List Value) (f : Int → Int) (b wh : Int) (hI : Inv B f) (hB : B ≤ 1073000000) (hb : -2147483648 ≤ b ∧ b < 2147483648) (hwh : -2147483648 ≤ wh ∧ wh < 2147483648) : fCt l G yX7_standbyOf wsX7_standbyOf 5 115 0 0 [.ref m0, vI b, vI wh] [cO m0 7 (.ref m1 :: xs), cA m1 G.2.1.1 718 f] (fun (v0 : Option Value) (w0 : va_W) => v0 = some (vI (sp_stb f b wh)) ∧ w0 = [cO m0 7 (.ref m1 :: xs), cA m1 G.2.1.1 718 f]) := by
  refine fs_met (cc := cX7_standbyOf) (nL := 4) (ret := (some .int)) (by decide) rfl (Nat.le_of_ble_eq_true rfl) ?_
  intro X C E
  show fSt l G X 0 0 0 [(0, .ref m0), (1, vI b), (2, vI wh)] [] [cO m0 7 (.ref m1 :: xs), cA m1 G.2.1.1 718 f]
  have hinX7 : ∀ w ∈ u_ws RX7 TX7 14, w ∈ wsX7_standbyOf := by decide +kernel
  have hf := hI.rf
  have hn := hI.n
  have htk := hI.tk
  have hlo := hI.lo
  have hln := hI.ln
  have hlc := hI.lc
  have hap := hI.ap
  have hrt := hI.rt
  have hdl := hI.dl
  refine s_iload_n 1 C dX7_standbyOf_0 rfl 1 rfl ?_
  refine s_callS (As := [vI b]) (rest := []) C dX7_standbyOf_1 (c_X7_isStandby l G b (by first | assumption | omega)) gX7_standbyOf_X7_isStandby rfl 1 (by decide +kernel) (by decide) [] rfl (by decide) rfl (Nat.le_of_ble_eq_true rfl) ⟨Nat.zero_le _, Nat.zero_le _⟩ ?_
  intro v0 w0 hq
  obtain ⟨rfl, rfl⟩ := hq
  refine ⟨rfl, ?_⟩
  show fSt l G X 0 0 4 [(0, .ref m0), (1, vI b), (2, vI wh)] [vI (bI (0 ≤ b ∧ b ≤ 1))] [cO m0 7 (.ref m1 :: xs), cA m1 G.2.1.1 718 f]
  refine s_if_eq 17 C dX7_standbyOf_4 (by decide) bI_rng (fun h_4 => ?_) (fun h_4 => ?_)
  · have h_4 := bI_f h_4
    refine s_ldc (z := -1000001) C (by decide +kernel) dX7_standbyOf_17 ?_
    exact s_iret C E dX7_standbyOf_19 ⟨congrArg (fun z => some (vI z)) (by rw [sp_stb, if_neg (by omega)]), rfl⟩
  · have h_4 := bI_t h_4
    refine s_iload_n 2 C dX7_standbyOf_7 rfl 2 rfl ?_
    refine s_iconst C dX7_standbyOf_8 ?_
    refine s_bipush (z := 8) C dX7_standbyOf_9 rfl ?_
    refine s_callS (As := [vI wh, vI 0, vI 8]) (rest := []) C dX7_standbyOf_11 (c_X7_in l G wh 0 8 (by first | assumption | omega) (by first | assumption | omega) (by first | assumption | omega)) gX7_standbyOf_X7_in rfl 3 (by decide +kernel) (by decide) [] rfl (by decide) rfl (Nat.le_of_ble_eq_true rfl) ⟨Nat.zero_le _, Nat.zero_le _⟩ ?_
    intro v0 w0 hq
    obtain ⟨rfl, rfl⟩ := hq
    refine ⟨rfl, ?_⟩
    show fSt l G X 0 0 14 [(0, .ref m0), (1, vI b), (2, vI wh)] [vI (bI (0 ≤ wh ∧ wh ≤ 8))] [cO m0 7 (.ref m1 :: xs), cA m1 G.2.1.1 718 f]
    refine s_if_ne 20 C dX7_standbyOf_14 (by decide) bI_rng (fun h_14 => ?_) (fun h_14 => ?_)
    · have h_14 := bI_t h_14
      have hS := hI.S b h_4.1 h_4.2
      have hbb : 0 ≤ b ∧ b ≤ 1 := h_4
      refine s_aload_n 0 C dX7_standbyOf_20 rfl 0 rfl ?_
      refine s_iload_n 1 C dX7_standbyOf_21 rfl 1 rfl ?_
      refine s_iconst C dX7_standbyOf_22 ?_
      refine s_callV (As := [vI b, vI 1]) (rest := []) C dX7_standbyOf_23 (c_X7_ofStandby l G m0 m1 xs f b 1 (by first | assumption | omega)) gX7_standbyOf_X7_ofStandby rfl 2 (by decide +kernel) (by decide) 0 7 rfl rfl rfl [0, 1] rfl (by decide) rfl (Nat.le_of_ble_eq_true rfl) ⟨Nat.zero_le _, Nat.zero_le _⟩ ?_
      intro v0 w0 hq
      obtain ⟨rfl, rfl⟩ := hq
      refine ⟨rfl, ?_⟩
      show fSt l G X 0 0 26 [(0, .ref m0), (1, vI b), (2, vI wh)] [vI (oS f b 1)] [cO m0 7 (.ref m1 :: xs), cA m1 G.2.1.1 718 f]
      refine s_istore_n 3 [(3, vI (oS f b 1)), (0, .ref m0), (1, vI b), (2, vI wh)] C dX7_standbyOf_26 rfl (by decide) rfl ?_
      refine s_iload_n 2 C dX7_standbyOf_27 rfl 3 rfl ?_
      rcases (by omega : wh = 0 ∨ wh = 1 ∨ wh = 2 ∨ wh = 3 ∨ wh = 4 ∨ wh = 5 ∨ wh = 6 ∨ wh = 7 ∨ (wh < 0 ∨ 7 < wh)) with h_28 | h_28 | h_28 | h_28 | h_28 | h_28 | h_28 | h_28 | h_28
      · refine s_tabIn 76 (off := 48) C dX7_standbyOf_28 (by omega) (by omega) (by omega) (by rw [h_28]; rfl) (by decide) ?_
        refine s_aload_n 0 C dX7_standbyOf_76 rfl 1 rfl ?_
        refine s_iload_n 1 C dX7_standbyOf_77 rfl 2 rfl ?_
        refine s_iload_n 2 C dX7_standbyOf_78 rfl 3 rfl ?_
        refine s_callV (As := [vI b, vI wh]) (rest := []) C dX7_standbyOf_79 (c_X7_ofStandby l G m0 m1 xs f b wh (by first | assumption | omega)) gX7_standbyOf_X7_ofStandby rfl 2 (by decide +kernel) (by decide) 0 7 rfl rfl rfl [0, 1] rfl (by decide) rfl (Nat.le_of_ble_eq_true rfl) ⟨Nat.zero_le _, Nat.zero_le _⟩ ?_
        intro v0 w0 hq
        obtain ⟨rfl, rfl⟩ := hq
        refine ⟨rfl, ?_⟩
        show fSt l G X 0 0 82 [(3, vI (oS f b 1)), (0, .ref m0), (1, vI b), (2, vI wh)] [vI (oS f b wh)] [cO m0 7 (.ref m1 :: xs), cA m1 G.2.1.1 718 f]
        exact s_iret C E dX7_standbyOf_82 ⟨congrArg (fun z => some (vI z)) (by rcases (by omega : wh = 0 ∨ wh = 1) with e | e <;> rw [sp_stb, if_pos (by omega), e] <;> rfl), rfl⟩
      · refine s_tabIn 76 (off := 48) C dX7_standbyOf_28 (by omega) (by omega) (by omega) (by rw [h_28]; rfl) (by decide) ?_
        refine s_aload_n 0 C dX7_standbyOf_76 rfl 1 rfl ?_
        refine s_iload_n 1 C dX7_standbyOf_77 rfl 2 rfl ?_
        refine s_iload_n 2 C dX7_standbyOf_78 rfl 3 rfl ?_
        refine s_callV (As := [vI b, vI wh]) (rest := []) C dX7_standbyOf_79 (c_X7_ofStandby l G m0 m1 xs f b wh (by first | assumption | omega)) gX7_standbyOf_X7_ofStandby rfl 2 (by decide +kernel) (by decide) 0 7 rfl rfl rfl [0, 1] rfl (by decide) rfl (Nat.le_of_ble_eq_true rfl) ⟨Nat.zero_le _, Nat.zero_le _⟩ ?_
        intro v0 w0 hq
        obtain ⟨rfl, rfl⟩ := hq
        refine ⟨rfl, ?_⟩
        show fSt l G X 0 0 82 [(3, vI (oS f b 1)), (0, .ref m0), (1, vI b), (2, vI wh)] [vI (oS f b wh)] [cO m0 7 (.ref m1 :: xs), cA m1 G.2.1.1 718 f]
        exact s_iret C E dX7_standbyOf_82 ⟨congrArg (fun z => some (vI z)) (by rcases (by omega : wh = 0 ∨ wh = 1) with e | e <;> rw [sp_stb, if_pos (by omega), e] <;> rfl), rfl⟩
      · refine s_tabIn 83 (off := 55) C dX7_standbyOf_28 (by omega) (by omega) (by omega) (by rw [h_28]; rfl) (by decide) ?_
        refine s_aload_n 0 C dX7_standbyOf_83 rfl 1 rfl ?_
        refine s_iload_n 1 C dX7_standbyOf_84 rfl 2 rfl ?_
        refine s_callV (As := [vI b]) (rest := []) C dX7_standbyOf_85 (c_X7_gaps l G m0 m1 xs f b (by first | assumption | omega) (by first | assumption | omega)) gX7_standbyOf_X7_gaps rfl 1 (by decide +kernel) (by decide) 0 7 rfl rfl rfl [0, 1] rfl (by decide) rfl (Nat.le_of_ble_eq_true rfl) ⟨Nat.zero_le _, Nat.zero_le _⟩ ?_
        intro v0 w0 hq
        obtain ⟨rfl, rfl⟩ := hq
        refine ⟨rfl, ?_⟩
        show fSt l G X 0 0 88 [(3, vI (oS f b 1)), (0, .ref m0), (1, vI b), (2, vI wh)] [vI (mG f b)] [cO m0 7 (.ref m1 :: xs), cA m1 G.2.1.1 718 f]
        exact s_iret C E dX7_standbyOf_88 ⟨congrArg (fun z => some (vI z)) (by rw [sp_stb, if_pos (by omega), if_neg (by omega), if_neg (by omega), if_pos h_28]), rfl⟩
      · refine s_tabIn 89 (off := 61) C dX7_standbyOf_28 (by omega) (by omega) (by omega) (by rw [h_28]; rfl) (by decide) ?_
        refine s_aload_n 0 C dX7_standbyOf_89 rfl 1 rfl ?_
        refine s_iload_n 1 C dX7_standbyOf_90 rfl 2 rfl ?_
        refine s_callV (As := [vI b]) (rest := []) C dX7_standbyOf_91 (c_X7_lowestGap l G m0 m1 xs f b (by first | assumption | omega) (by first | assumption | omega)) gX7_standbyOf_X7_lowestGap rfl 1 (by decide +kernel) (by decide) 0 7 rfl rfl rfl [0, 1] rfl (by decide) rfl (Nat.le_of_ble_eq_true rfl) ⟨Nat.zero_le _, Nat.zero_le _⟩ ?_
        intro v0 w0 hq
        obtain ⟨rfl, rfl⟩ := hq
        refine ⟨rfl, ?_⟩
        show fSt l G X 0 0 94 [(3, vI (oS f b 1)), (0, .ref m0), (1, vI b), (2, vI wh)] [vI (mW f b)] [cO m0 7 (.ref m1 :: xs), cA m1 G.2.1.1 718 f]
        exact s_iret C E dX7_standbyOf_94 ⟨congrArg (fun z => some (vI z)) (by rw [sp_stb, if_pos (by omega), if_neg (by omega), if_neg (by omega), if_neg (by omega), if_pos h_28]), rfl⟩
      · refine s_tabIn 95 (off := 67) C dX7_standbyOf_28 (by omega) (by omega) (by omega) (by rw [h_28]; rfl) (by decide) ?_
        refine s_aload_n 0 C dX7_standbyOf_95 rfl 1 rfl ?_
        refine s_iload_n 1 C dX7_standbyOf_96 rfl 2 rfl ?_
        refine s_iconst C dX7_standbyOf_97 ?_
        refine s_callV (As := [vI b, vI 2]) (rest := []) C dX7_standbyOf_98 (c_X7_ofStandby l G m0 m1 xs f b 2 (by first | assumption | omega)) gX7_standbyOf_X7_ofStandby rfl 2 (by decide +kernel) (by decide) 0 7 rfl rfl rfl [0, 1] rfl (by decide) rfl (Nat.le_of_ble_eq_true rfl) ⟨Nat.zero_le _, Nat.zero_le _⟩ ?_
        intro v0 w0 hq
        obtain ⟨rfl, rfl⟩ := hq
        refine ⟨rfl, ?_⟩
        show fSt l G X 0 0 101 [(3, vI (oS f b 1)), (0, .ref m0), (1, vI b), (2, vI wh)] [vI (oS f b 2)] [cO m0 7 (.ref m1 :: xs), cA m1 G.2.1.1 718 f]
        exact s_iret C E dX7_standbyOf_101 ⟨congrArg (fun z => some (vI z)) (by rw [sp_stb, if_pos (by omega), if_neg (by omega), if_neg (by omega), if_neg (by omega), if_neg (by omega), if_pos h_28]), rfl⟩
      · refine s_tabIn 102 (off := 74) C dX7_standbyOf_28 (by omega) (by omega) (by omega) (by rw [h_28]; rfl) (by decide) ?_
        refine s_aload_n 0 C dX7_standbyOf_102 rfl 1 rfl ?_
        refine s_get C dX7_standbyOf_103 7 rfl hinX7 0 rfl 0 (by decide) (by decide +kernel) rfl ?_
        refine s_iconst C dX7_standbyOf_106 ?_
        refine s_iald C dX7_standbyOf_107 1 rfl 0 rfl (by omega) (by omega) (by omega) ?_
        refine s_iload_n 3 C dX7_standbyOf_108 rfl 0 rfl ?_
        refine s_isub C dX7_standbyOf_109 ?_
        exact s_iret C E dX7_standbyOf_110 ⟨congrArg (fun z => some (vI z)) (by rw [sp_stb, if_pos (by omega), if_neg (by omega), if_neg (by omega), if_neg (by omega), if_neg (by omega), if_neg (by omega), if_pos h_28]), rfl⟩
      · refine s_tabIn 111 (off := 83) C dX7_standbyOf_28 (by omega) (by omega) (by omega) (by rw [h_28]; rfl) (by decide) ?_
        refine s_aload_n 0 C dX7_standbyOf_111 rfl 1 rfl ?_
        refine s_iload_n 1 C dX7_standbyOf_112 rfl 2 rfl ?_
        refine s_callV (As := [vI b]) (rest := []) C dX7_standbyOf_113 (c_X7_wouldBeLost l G m0 m1 xs f b (by first | assumption | omega) (by first | assumption | omega) (by first | assumption | omega)) gX7_standbyOf_X7_wouldBeLost rfl 1 (by decide +kernel) (by decide) 0 7 rfl rfl rfl [0, 1] rfl (by decide) rfl (Nat.le_of_ble_eq_true rfl) ⟨Nat.zero_le _, Nat.zero_le _⟩ ?_
        intro v0 w0 hq
        obtain ⟨rfl, rfl⟩ := hq
        refine ⟨rfl, ?_⟩
        show fSt l G X 0 0 116 [(3, vI (oS f b 1)), (0, .ref m0), (1, vI b), (2, vI wh)] [vI (mB f (oS f b 1 + 1) (f 0))] [cO m0 7 (.ref m1 :: xs), cA m1 G.2.1.1 718 f]
        exact s_iret C E dX7_standbyOf_116 ⟨congrArg (fun z => some (vI z)) (by rw [sp_stb, if_pos (by omega), if_neg (by omega), if_neg (by omega), if_neg (by omega), if_neg (by omega), if_neg (by omega), if_neg (by omega), if_pos h_28]), rfl⟩
      · refine s_tabIn 117 (off := 89) C dX7_standbyOf_28 (by omega) (by omega) (by omega) (by rw [h_28]; rfl) (by decide) ?_
        refine s_iload_n 3 C dX7_standbyOf_117 rfl 0 rfl ?_
        refine s_aload_n 0 C dX7_standbyOf_118 rfl 1 rfl ?_
        refine s_get C dX7_standbyOf_119 7 rfl hinX7 0 rfl 0 (by decide) (by decide +kernel) rfl ?_
        refine s_iconst C dX7_standbyOf_122 ?_
        refine s_iald C dX7_standbyOf_123 1 rfl 0 rfl (by omega) (by omega) (by omega) ?_
        refine s_icmp_ne 132 C dX7_standbyOf_124 (by decide) (hf _) (hf _) (fun h_124 => ?_) (fun h_124 => ?_)
        · refine s_aload_n 0 C dX7_standbyOf_132 rfl 1 rfl ?_
          refine s_get C dX7_standbyOf_133 7 rfl hinX7 0 rfl 0 (by decide) (by decide +kernel) rfl ?_
          refine s_iconst C dX7_standbyOf_136 ?_
          refine s_iald C dX7_standbyOf_137 1 rfl 1 rfl (by omega) (by omega) (by omega) ?_
          refine s_aload_n 0 C dX7_standbyOf_138 rfl 1 rfl ?_
          refine s_iload_n 3 C dX7_standbyOf_139 rfl 0 rfl ?_
          refine s_iconst C dX7_standbyOf_140 ?_
          refine s_iadd C dX7_standbyOf_141 ?_
          refine s_iconst C dX7_standbyOf_142 ?_
          refine s_callV (As := [vI ((oS f b 1) + 1), vI 4]) (rest := [vI (f 1)]) C dX7_standbyOf_143 (c_X7_ofRecord l G m0 m1 xs f ((oS f b 1) + 1) 4 (by first | assumption | omega)) gX7_standbyOf_X7_ofRecord rfl 2 (by decide +kernel) (by decide) 0 7 rfl rfl rfl [0, 1] rfl (by decide) rfl (Nat.le_of_ble_eq_true rfl) ⟨Nat.zero_le _, Nat.zero_le _⟩ ?_
          intro v0 w0 hq
          obtain ⟨rfl, rfl⟩ := hq
          refine ⟨rfl, ?_⟩
          show fSt l G X 0 0 146 [(3, vI (oS f b 1)), (0, .ref m0), (1, vI b), (2, vI wh)] [vI (oR f ((oS f b 1) + 1) 4), vI (f 1)] [cO m0 7 (.ref m1 :: xs), cA m1 G.2.1.1 718 f]
          refine s_isub C dX7_standbyOf_146 ?_
          exact s_iret C E dX7_standbyOf_147 ⟨congrArg (fun z => some (vI z)) (by rw [sp_stb, if_pos (by omega), if_neg (by omega), if_neg (by omega), if_neg (by omega), if_neg (by omega), if_neg (by omega), if_neg (by omega), if_neg (by omega), if_pos h_28, if_neg h_124]), rfl⟩
        · refine s_ldc (z := -1000004) C (by decide +kernel) dX7_standbyOf_127 ?_
          refine s_goto 147 C dX7_standbyOf_129 (by decide) ?_
          exact s_iret C E dX7_standbyOf_147 ⟨congrArg (fun z => some (vI z)) (by rw [sp_stb, if_pos (by omega), if_neg (by omega), if_neg (by omega), if_neg (by omega), if_neg (by omega), if_neg (by omega), if_neg (by omega), if_neg (by omega), if_pos h_28, if_pos h_124]), rfl⟩
      · refine s_tabOut 148 C dX7_standbyOf_28 (by omega) h_28 (by decide) ?_
        refine s_aload_n 0 C dX7_standbyOf_148 rfl 1 rfl ?_
        refine s_iload_n 1 C dX7_standbyOf_149 rfl 2 rfl ?_
        refine s_callV (As := [vI b]) (rest := []) C dX7_standbyOf_150 (c_X7_unlike l G B m0 m1 xs f b (by first | assumption | omega) (by first | assumption | omega) (by first | assumption | omega)) gX7_standbyOf_X7_unlike rfl 1 (by decide +kernel) (by decide) 0 7 rfl rfl rfl [0, 1] rfl (by decide) rfl (Nat.le_of_ble_eq_true rfl) ⟨Nat.zero_le _, Nat.zero_le _⟩ ?_
        intro v0 w0 hq
        obtain ⟨rfl, rfl⟩ := hq
        refine ⟨rfl, ?_⟩
        show fSt l G X 0 0 153 [(3, vI (oS f b 1)), (0, .ref m0), (1, vI b), (2, vI wh)] [vI (mU f b)] [cO m0 7 (.ref m1 :: xs), cA m1 G.2.1.1 718 f]
        exact s_iret C E dX7_standbyOf_153 ⟨congrArg (fun z => some (vI z)) (by rw [sp_stb, if_pos (by omega), if_neg (by omega), if_neg (by omega), if_neg (by omega), if_neg (by omega), if_neg (by omega), if_neg (by omega), if_neg (by omega), if_neg (by omega)]), rfl⟩
    · have h_14 := bI_f h_14
      refine s_ldc (z := -1000001) C (by decide +kernel) dX7_standbyOf_17 ?_
      exact s_iret C E dX7_standbyOf_19 ⟨congrArg (fun z => some (vI z)) (by rw [sp_stb, if_neg (by omega)]), rfl⟩

set_option maxHeartbeats 4000000 in
set_option maxRecDepth 100000 in
theorem c_X7_slotOf (l : Launch) (G : fG) (B : Int) (m0 m1 : Nat) (xs : List Value) (f : Int → Int) (k wh : Int) (hI : Inv B f) (hB : B ≤ 1073000000) (hk : -2147483648 ≤ k ∧ k < 2147483648) (hwh : -2147483648 ≤ wh ∧ wh < 2147483648) : fCt l G yX7_slotOf wsX7_slotOf 2 42 0 0 [.ref m0, vI k, vI wh] [cO m0 7 (.ref m1 :: xs), cA m1 G.2.1.1 718 f] (fun (v0 : Option Value) (w0 : va_W) => v0 = some (vI (sp_slot f k wh)) ∧ w0 = [cO m0 7 (.ref m1 :: xs), cA m1 G.2.1.1 718 f]) := by
  refine fs_met (cc := cX7_slotOf) (nL := 6) (ret := (some .int)) (by decide) rfl (Nat.le_of_ble_eq_true rfl) ?_
  intro X C E
  show fSt l G X 0 0 0 [(0, .ref m0), (1, vI k), (2, vI wh)] [] [cO m0 7 (.ref m1 :: xs), cA m1 G.2.1.1 718 f]
  have hinX7 : ∀ w ∈ u_ws RX7 TX7 14, w ∈ wsX7_slotOf := by decide +kernel
  have hf := hI.rf
  have hn := hI.n
  have htk := hI.tk
  have hlo := hI.lo
  have hln := hI.ln
  have hlc := hI.lc
  have hap := hI.ap
  have hrt := hI.rt
  have hdl := hI.dl
  refine s_iload_n 1 C dX7_slotOf_0 rfl 1 rfl ?_
  refine s_callS (As := [vI k]) (rest := []) C dX7_slotOf_1 (c_X7_isSlot l G k (by first | assumption | omega)) gX7_slotOf_X7_isSlot rfl 1 (by decide +kernel) (by decide) [] rfl (by decide) rfl (Nat.le_of_ble_eq_true rfl) ⟨Nat.zero_le _, Nat.zero_le _⟩ ?_
  intro v0 w0 hq
  obtain ⟨rfl, rfl⟩ := hq
  refine ⟨rfl, ?_⟩
  show fSt l G X 0 0 4 [(0, .ref m0), (1, vI k), (2, vI wh)] [vI (bI (0 ≤ k ∧ k ≤ 2))] [cO m0 7 (.ref m1 :: xs), cA m1 G.2.1.1 718 f]
  refine s_if_eq 16 C dX7_slotOf_4 (by decide) bI_rng (fun h_4 => ?_) (fun h_4 => ?_)
  · have h_4 := bI_f h_4
    refine s_ldc (z := -1000001) C (by decide +kernel) dX7_slotOf_16 ?_
    exact s_iret C E dX7_slotOf_18 ⟨congrArg (fun z => some (vI z)) (by rw [sp_slot, if_neg (by omega)]), rfl⟩
  · have h_4 := bI_t h_4
    refine s_iload_n 2 C dX7_slotOf_7 rfl 2 rfl ?_
    refine s_iconst C dX7_slotOf_8 ?_
    refine s_iconst C dX7_slotOf_9 ?_
    refine s_callS (As := [vI wh, vI 0, vI 1]) (rest := []) C dX7_slotOf_10 (c_X7_in l G wh 0 1 (by first | assumption | omega) (by first | assumption | omega) (by first | assumption | omega)) gX7_slotOf_X7_in rfl 3 (by decide +kernel) (by decide) [] rfl (by decide) rfl (Nat.le_of_ble_eq_true rfl) ⟨Nat.zero_le _, Nat.zero_le _⟩ ?_
    intro v0 w0 hq
    obtain ⟨rfl, rfl⟩ := hq
    refine ⟨rfl, ?_⟩
    show fSt l G X 0 0 13 [(0, .ref m0), (1, vI k), (2, vI wh)] [vI (bI (0 ≤ wh ∧ wh ≤ 1))] [cO m0 7 (.ref m1 :: xs), cA m1 G.2.1.1 718 f]
    refine s_if_ne 19 C dX7_slotOf_13 (by decide) bI_rng (fun h_13 => ?_) (fun h_13 => ?_)
    · have h_13 := bI_t h_13
      refine s_aload_n 0 C dX7_slotOf_19 rfl 0 rfl ?_
      refine s_get C dX7_slotOf_20 7 rfl hinX7 0 rfl 0 (by decide) (by decide +kernel) rfl ?_
      refine s_bipush (z := 9) C dX7_slotOf_23 rfl ?_
      refine s_iload_n 1 C dX7_slotOf_25 rfl 1 rfl ?_
      refine s_iadd C dX7_slotOf_26 ?_
      refine s_iald C dX7_slotOf_27 1 rfl (k + 9) (by omega) (by omega) (by omega) (by omega) ?_
      refine s_istore_n 3 [(3, vI (f (k + 9))), (0, .ref m0), (1, vI k), (2, vI wh)] C dX7_slotOf_28 rfl (by decide) rfl ?_
      refine s_iconst C dX7_slotOf_29 ?_
      refine s_istore [(4, vI 0), (3, vI (f (k + 9))), (0, .ref m0), (1, vI k), (2, vI wh)] C dX7_slotOf_30 (by decide) rfl ?_
      refine s_iconst C dX7_slotOf_32 ?_
      refine s_istore [(5, vI 1), (4, vI 0), (3, vI (f (k + 9))), (0, .ref m0), (1, vI k), (2, vI wh)] C dX7_slotOf_33 (by decide) rfl ?_
      have loop_35 : ∀ (fuel : Nat) (r c : Int), (1 ≤ r ∧ r ≤ f 0 + 1) → (c = cnt (fun r => decide (oR f r 0 = 0) && decide (oR f r 1 = f (k + 9))) 1 (r - 1).toNat) → (0 ≤ c ∧ c < r) → (f 0 + 1 - r < (fuel : Int)) → fSt l G X 0 0 35 [(0, .ref m0), (1, vI k), (2, vI wh), (3, vI (f (k + 9))), (4, vI c), (5, vI r)] [] [cO m0 7 (.ref m1 :: xs), cA m1 G.2.1.1 718 f] := by
        intro fuel
        induction fuel with
        | zero =>
          intro r c hr hc hcr hm
          exfalso
          omega
        | succ fuel ih_35 =>
          intro r c hr hc hcr hm
          refine s_iload C dX7_slotOf_35 5 rfl ?_
          refine s_aload_n 0 C dX7_slotOf_37 rfl 0 rfl ?_
          refine s_get C dX7_slotOf_38 7 rfl hinX7 0 rfl 0 (by decide) (by decide +kernel) rfl ?_
          refine s_iconst C dX7_slotOf_41 ?_
          refine s_iald C dX7_slotOf_42 1 rfl 0 rfl (by omega) (by omega) (by omega) ?_
          refine s_icmp_gt 83 C dX7_slotOf_43 (by decide) (by omega) (hf _) (fun h_43 => ?_) (fun h_43 => ?_)
          · refine s_iload_n 3 C dX7_slotOf_83 rfl 3 rfl ?_
            refine s_if_ne 92 C dX7_slotOf_84 (by decide) (hf _) (fun h_84 => ?_) (fun h_84 => ?_)
            · refine s_iload_n 2 C dX7_slotOf_92 rfl 2 rfl ?_
              refine s_if_ne 100 C dX7_slotOf_93 (by decide) (by omega) (fun h_93 => ?_) (fun h_93 => ?_)
              · refine s_iload C dX7_slotOf_100 4 rfl ?_
                exact s_iret C E dX7_slotOf_102 ⟨congrArg (fun z => some (vI z)) (by rw [sp_slot, if_pos (by omega), if_neg h_84, if_neg h_93, hc, mO]; congr 1; omega), rfl⟩
              · refine s_iload_n 3 C dX7_slotOf_96 rfl 3 rfl ?_
                refine s_goto 102 C dX7_slotOf_97 (by decide) ?_
                exact s_iret C E dX7_slotOf_102 ⟨congrArg (fun z => some (vI z)) (by rw [sp_slot, if_pos (by omega), if_neg h_84, if_pos h_93]), rfl⟩
            · refine s_ldc (z := -1000004) C (by decide +kernel) dX7_slotOf_87 ?_
              refine s_goto 102 C dX7_slotOf_89 (by decide) ?_
              exact s_iret C E dX7_slotOf_102 ⟨congrArg (fun z => some (vI z)) (by rw [sp_slot, if_pos (by omega), if_pos h_84]), rfl⟩
          · refine s_iload C dX7_slotOf_46 4 rfl ?_
            refine s_aload_n 0 C dX7_slotOf_48 rfl 0 rfl ?_
            refine s_iload C dX7_slotOf_49 5 rfl ?_
            refine s_iconst C dX7_slotOf_51 ?_
            refine s_callV (As := [vI r, vI 0]) (rest := [vI c]) C dX7_slotOf_52 (c_X7_ofRecord l G m0 m1 xs f r 0 (by first | assumption | omega)) gX7_slotOf_X7_ofRecord rfl 2 (by decide +kernel) (by decide) 0 7 rfl rfl rfl [0, 1] rfl (by decide) rfl (Nat.le_of_ble_eq_true rfl) ⟨Nat.zero_le _, Nat.zero_le _⟩ ?_
            intro v0 w0 hq
            obtain ⟨rfl, rfl⟩ := hq
            refine ⟨rfl, ?_⟩
            show fSt l G X 0 0 55 [(0, .ref m0), (1, vI k), (2, vI wh), (3, vI (f (k + 9))), (4, vI c), (5, vI r)] [vI (oR f r 0), vI c] [cO m0 7 (.ref m1 :: xs), cA m1 G.2.1.1 718 f]
            refine s_if_ne 73 C dX7_slotOf_55 (by decide) (hf _) (fun h_55 => ?_) (fun h_55 => ?_)
            · refine s_iconst C dX7_slotOf_73 ?_
              refine s_iadd C dX7_slotOf_74 ?_
              refine s_istore [(4, vI (c + 0)), (0, .ref m0), (1, vI k), (2, vI wh), (3, vI (f (k + 9))), (5, vI r)] C dX7_slotOf_75 (by decide) rfl ?_
              refine s_iinc [(5, vI (r + 1)), (4, vI (c + 0)), (0, .ref m0), (1, vI k), (2, vI wh), (3, vI (f (k + 9)))] C dX7_slotOf_77 5 rfl (by decide) rfl ?_
              refine s_goto 35 C dX7_slotOf_80 (by decide) ?_
              refine s_lv [(0, .ref m0), (1, vI k), (2, vI wh), (3, vI (f (k + 9))), (4, vI (c + 0)), (5, vI (r + 1))] [2, 3, 4, 5, 1, 0] rfl ?_
              exact ih_35 (r + 1) (c + 0) (by omega) (cnt_nx (by omega) hc (Or.inr ⟨(by simp only [Bool.and_eq_true, decide_eq_true_eq]; omega), by omega⟩)) (by omega) (by omega)
            · refine s_aload_n 0 C dX7_slotOf_58 rfl 0 rfl ?_
              refine s_iload C dX7_slotOf_59 5 rfl ?_
              refine s_iconst C dX7_slotOf_61 ?_
              refine s_callV (As := [vI r, vI 1]) (rest := [vI c]) C dX7_slotOf_62 (c_X7_ofRecord l G m0 m1 xs f r 1 (by first | assumption | omega)) gX7_slotOf_X7_ofRecord rfl 2 (by decide +kernel) (by decide) 0 7 rfl rfl rfl [0, 1] rfl (by decide) rfl (Nat.le_of_ble_eq_true rfl) ⟨Nat.zero_le _, Nat.zero_le _⟩ ?_
              intro v0 w0 hq
              obtain ⟨rfl, rfl⟩ := hq
              refine ⟨rfl, ?_⟩
              show fSt l G X 0 0 65 [(0, .ref m0), (1, vI k), (2, vI wh), (3, vI (f (k + 9))), (4, vI c), (5, vI r)] [vI (oR f r 1), vI c] [cO m0 7 (.ref m1 :: xs), cA m1 G.2.1.1 718 f]
              refine s_iload_n 3 C dX7_slotOf_65 rfl 3 rfl ?_
              refine s_icmp_ne 73 C dX7_slotOf_66 (by decide) (hf _) (hf _) (fun h_66 => ?_) (fun h_66 => ?_)
              · refine s_iconst C dX7_slotOf_73 ?_
                refine s_iadd C dX7_slotOf_74 ?_
                refine s_istore [(4, vI (c + 0)), (0, .ref m0), (1, vI k), (2, vI wh), (3, vI (f (k + 9))), (5, vI r)] C dX7_slotOf_75 (by decide) rfl ?_
                refine s_iinc [(5, vI (r + 1)), (4, vI (c + 0)), (0, .ref m0), (1, vI k), (2, vI wh), (3, vI (f (k + 9)))] C dX7_slotOf_77 5 rfl (by decide) rfl ?_
                refine s_goto 35 C dX7_slotOf_80 (by decide) ?_
                refine s_lv [(0, .ref m0), (1, vI k), (2, vI wh), (3, vI (f (k + 9))), (4, vI (c + 0)), (5, vI (r + 1))] [2, 3, 4, 5, 1, 0] rfl ?_
                exact ih_35 (r + 1) (c + 0) (by omega) (cnt_nx (by omega) hc (Or.inr ⟨(by simp only [Bool.and_eq_true, decide_eq_true_eq]; omega), by omega⟩)) (by omega) (by omega)
              · refine s_iconst C dX7_slotOf_69 ?_
                refine s_goto 74 C dX7_slotOf_70 (by decide) ?_
                refine s_iadd C dX7_slotOf_74 ?_
                refine s_istore [(4, vI (c + 1)), (0, .ref m0), (1, vI k), (2, vI wh), (3, vI (f (k + 9))), (5, vI r)] C dX7_slotOf_75 (by decide) rfl ?_
                refine s_iinc [(5, vI (r + 1)), (4, vI (c + 1)), (0, .ref m0), (1, vI k), (2, vI wh), (3, vI (f (k + 9)))] C dX7_slotOf_77 5 rfl (by decide) rfl ?_
                refine s_goto 35 C dX7_slotOf_80 (by decide) ?_
                refine s_lv [(0, .ref m0), (1, vI k), (2, vI wh), (3, vI (f (k + 9))), (4, vI (c + 1)), (5, vI (r + 1))] [2, 3, 4, 5, 1, 0] rfl ?_
                exact ih_35 (r + 1) (c + 1) (by omega) (cnt_nx (by omega) hc (Or.inl ⟨(by simp only [Bool.and_eq_true, decide_eq_true_eq]; omega), rfl⟩)) (by omega) (by omega)
      refine s_lv [(0, .ref m0), (1, vI k), (2, vI wh), (3, vI (f (k + 9))), (4, vI 0), (5, vI 1)] [3, 4, 5, 2, 1, 0] rfl ?_
      exact loop_35 (f 0 + 1 - 1 + 1 : Int).toNat 1 0 (by omega) rfl (by omega) (by omega)
    · have h_13 := bI_f h_13
      refine s_ldc (z := -1000001) C (by decide +kernel) dX7_slotOf_16 ?_
      exact s_iret C E dX7_slotOf_18 ⟨congrArg (fun z => some (vI z)) (by rw [sp_slot, if_neg (by omega)]), rfl⟩

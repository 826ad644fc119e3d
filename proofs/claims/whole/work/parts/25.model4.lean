set_option maxHeartbeats 4000000 in
set_option maxRecDepth 100000 in
theorem c_X7_until (l : Launch) (G : fG) (T0 : Int) (m0 m1 : Nat) (xs : List Value) (f : Int → Int) (b p rt m : Int) (hT : TI f T0) (hT0 : T0 ≤ 1073740000) (hb : 0 ≤ b ∧ b ≤ 1) (hp : 0 ≤ p ∧ p ≤ 100) (hrt : 0 ≤ rt ∧ rt ≤ 20) (hm : 0 ≤ m ∧ m ≤ 200) : fCt l G yX7_until wsX7_until 2 49 0 0 [.ref m0, vI b, vI p, vI rt, vI m] [cO m0 7 (.ref m1 :: xs), cA m1 G.2.1.1 718 f] (fun (v0 : Option Value) (w0 : va_W) => v0 = some (vI (uT f b p rt m)) ∧ w0 = [cO m0 7 (.ref m1 :: xs), cA m1 G.2.1.1 718 f]) := by
  refine fs_met (cc := cX7_until) (nL := 7) (ret := (some .int)) (by decide) rfl (Nat.le_of_ble_eq_true rfl) ?_
  intro X C E
  show fSt l G X 0 0 0 [(0, .ref m0), (1, vI b), (2, vI p), (3, vI rt), (4, vI m)] [] [cO m0 7 (.ref m1 :: xs), cA m1 G.2.1.1 718 f]
  have hinX7 : ∀ w ∈ u_ws RX7 TX7 14, w ∈ wsX7_until := by decide +kernel
  have hf := hT.1
  have hS := hT.S hb
  have h1 := hT.2.1
  refine s_aload_n 0 C dX7_until_0 rfl 0 rfl ?_
  refine s_iload_n 1 C dX7_until_1 rfl 1 rfl ?_
  refine s_iconst C dX7_until_2 ?_
  refine s_callV (As := [vI b, vI 1]) (rest := []) C dX7_until_3 (c_X7_ofStandby l G m0 m1 xs f b 1 (by first | assumption | omega)) gX7_until_X7_ofStandby rfl 2 (by decide +kernel) (by decide) 0 7 rfl rfl rfl [0, 1] rfl (by decide) rfl (Nat.le_of_ble_eq_true rfl) ⟨Nat.zero_le _, Nat.zero_le _⟩ ?_
  intro v0 w0 hq
  obtain ⟨rfl, rfl⟩ := hq
  refine ⟨rfl, ?_⟩
  show fSt l G X 0 0 6 [(0, .ref m0), (1, vI b), (2, vI p), (3, vI rt), (4, vI m)] [vI (oS f b 1)] [cO m0 7 (.ref m1 :: xs), cA m1 G.2.1.1 718 f]
  refine s_istore [(5, vI (oS f b 1)), (0, .ref m0), (1, vI b), (2, vI p), (3, vI rt), (4, vI m)] C dX7_until_6 (by decide) rfl ?_
  refine s_iconst C dX7_until_8 ?_
  refine s_istore [(6, vI 0), (5, vI (oS f b 1)), (0, .ref m0), (1, vI b), (2, vI p), (3, vI rt), (4, vI m)] C dX7_until_9 (by decide) rfl ?_
  have loop_11 : ∀ (fuel : Nat) (n u : Int), (0 ≤ n ∧ n ≤ m + 1) → (u = un f b rt n.toNat) → (∀ i, 0 ≤ i → i < n → decide (p ≤ un f b rt i.toNat) = false) → (m + 1 - n < (fuel : Int)) → fSt l G X 0 0 11 [(0, .ref m0), (1, vI b), (2, vI p), (3, vI rt), (4, vI m), (5, vI u), (6, vI n)] [] [cO m0 7 (.ref m1 :: xs), cA m1 G.2.1.1 718 f] := by
    intro fuel
    induction fuel with
    | zero =>
      intro n u hn hu hbel hm
      exfalso
      omega
    | succ fuel ih_11 =>
      intro n u hn hu hbel hm
      refine s_iload C dX7_until_11 6 rfl ?_
      refine s_iload C dX7_until_13 4 rfl ?_
      refine s_icmp_gt 57 C dX7_until_15 (by decide) (by omega) (by omega) (fun h_15 => ?_) (fun h_15 => ?_)
      · refine s_ldc (z := -1000004) C (by decide +kernel) dX7_until_57 ?_
        exact s_iret C E dX7_until_59 ⟨congrArg (fun z => some (vI z)) (by rw [uT, uF, fstI_none (fun i h1 h2 => hbel i h1 (by omega)), if_neg (by omega)]), rfl⟩
      · have hui := un_in hT hb hrt n.toNat
        refine s_iload C dX7_until_18 5 rfl ?_
        refine s_iload_n 2 C dX7_until_20 rfl 2 rfl ?_
        refine s_icmp_lt 27 C dX7_until_21 (by decide) (by omega) (by omega) (fun h_21 => ?_) (fun h_21 => ?_)
        · refine s_iload C dX7_until_27 5 rfl ?_
          refine s_aload_n 0 C dX7_until_29 rfl 0 rfl ?_
          refine s_iload_n 1 C dX7_until_30 rfl 1 rfl ?_
          refine s_iload C dX7_until_31 5 rfl ?_
          refine s_aload_n 0 C dX7_until_33 rfl 0 rfl ?_
          refine s_get C dX7_until_34 7 rfl hinX7 0 rfl 0 (by decide) (by decide +kernel) rfl ?_
          refine s_iconst C dX7_until_37 ?_
          refine s_iald C dX7_until_38 1 rfl 1 rfl (by omega) (by omega) (by omega) ?_
          refine s_iload C dX7_until_39 6 rfl ?_
          refine s_iadd C dX7_until_41 ?_
          refine s_iconst C dX7_until_42 ?_
          refine s_iadd C dX7_until_43 ?_
          refine s_iload_n 3 C dX7_until_44 rfl 3 rfl ?_
          refine s_callV (As := [vI b, vI u, vI ((f 1) + n + 1), vI rt]) (rest := [vI u]) C dX7_until_45 (c_X7_goes l G T0 m0 m1 xs f b u ((f 1) + n + 1) rt (by first | assumption | omega) (by first | assumption | omega) (by first | assumption | omega) (by first | assumption | omega) (by first | assumption | omega)) gX7_until_X7_goes rfl 4 (by decide +kernel) (by decide) 0 7 rfl rfl rfl [0, 1] rfl (by decide) rfl (Nat.le_of_ble_eq_true rfl) ⟨Nat.zero_le _, Nat.zero_le _⟩ ?_
          intro v0 w0 hq
          obtain ⟨rfl, rfl⟩ := hq
          refine ⟨rfl, ?_⟩
          show fSt l G X 0 0 48 [(0, .ref m0), (1, vI b), (2, vI p), (3, vI rt), (4, vI m), (5, vI u), (6, vI n)] [vI (go f b u ((f 1) + n + 1) rt), vI u] [cO m0 7 (.ref m1 :: xs), cA m1 G.2.1.1 718 f]
          refine s_iadd C dX7_until_48 ?_
          refine s_istore [(5, vI (u + (go f b u ((f 1) + n + 1) rt))), (0, .ref m0), (1, vI b), (2, vI p), (3, vI rt), (4, vI m), (6, vI n)] C dX7_until_49 (by decide) rfl ?_
          refine s_iinc [(6, vI (n + 1)), (5, vI (u + (go f b u ((f 1) + n + 1) rt))), (0, .ref m0), (1, vI b), (2, vI p), (3, vI rt), (4, vI m)] C dX7_until_51 6 rfl (by decide) rfl ?_
          refine s_goto 11 C dX7_until_54 (by decide) ?_
          refine s_lv [(0, .ref m0), (1, vI b), (2, vI p), (3, vI rt), (4, vI m), (5, vI (u + (go f b u ((f 1) + n + 1) rt))), (6, vI (n + 1))] [2, 3, 4, 5, 6, 1, 0] rfl ?_
          exact ih_11 (n + 1) (u + (go f b u ((f 1) + n + 1) rt)) (by omega) (by rw [show (n + 1).toNat = n.toNat + 1 by omega, un, ← hu, show ((n.toNat : Nat) : Int) = n by omega]) (fun i h1 h2 => by by_cases h3 : i = n; (· rw [h3, ← hu]; exact decide_eq_false (by omega)); (· exact hbel i h1 (by omega))) (by omega)
        · refine s_iload C dX7_until_24 6 rfl ?_
          exact s_iret C E dX7_until_26 ⟨congrArg (fun z => some (vI z)) (by rw [uT, uF, fstI_hit hbel (decide_eq_true (by rw [← hu]; omega)) (by omega) (by omega), if_pos (by omega)]), rfl⟩
  refine s_lv [(0, .ref m0), (1, vI b), (2, vI p), (3, vI rt), (4, vI m), (5, vI (oS f b 1)), (6, vI 0)] [2, 3, 4, 5, 6, 1, 0] rfl ?_
  exact loop_11 (m + 1 - 0 + 1 : Int).toNat 0 (oS f b 1) (by omega) rfl (fun i h1 h2 => absurd h1 (by omega)) (by omega)

set_option maxHeartbeats 4000000 in
set_option maxRecDepth 100000 in
theorem c_X7_waits (l : Launch) (G : fG) (B : Int) (m0 m1 : Nat) (xs : List Value) (f : Int → Int) (b e : Int) (hI : Inv B f) (hB : B ≤ 1073000000) (hb : -2147483648 ≤ b ∧ b < 2147483648) (he : -2147483648 ≤ e ∧ e < 2147483648) : fCt l G yX7_waits wsX7_waits 3 75 0 0 [.ref m0, vI b, vI e] [cO m0 7 (.ref m1 :: xs), cA m1 G.2.1.1 718 f] (fun (v0 : Option Value) (w0 : va_W) => v0 = some (vI (sp_wait f b e)) ∧ w0 = [cO m0 7 (.ref m1 :: xs), cA m1 G.2.1.1 718 f]) := by
  refine fs_met (cc := cX7_waits) (nL := 3) (ret := (some .int)) (by decide) rfl (Nat.le_of_ble_eq_true rfl) ?_
  intro X C E
  show fSt l G X 0 0 0 [(0, .ref m0), (1, vI b), (2, vI e)] [] [cO m0 7 (.ref m1 :: xs), cA m1 G.2.1.1 718 f]
  have hinX7 : ∀ w ∈ u_ws RX7 TX7 14, w ∈ wsX7_waits := by decide +kernel
  have hf := hI.rf
  have hn := hI.n
  have htk := hI.tk
  have hlo := hI.lo
  have hln := hI.ln
  have hlc := hI.lc
  have hap := hI.ap
  have hrt := hI.rt
  have hdl := hI.dl
  have hT := hI.TI (by omega)
  refine s_iload_n 1 C dX7_waits_0 rfl 1 rfl ?_
  refine s_callS (As := [vI b]) (rest := []) C dX7_waits_1 (c_X7_isStandby l G b (by first | assumption | omega)) gX7_waits_X7_isStandby rfl 1 (by decide +kernel) (by decide) [] rfl (by decide) rfl (Nat.le_of_ble_eq_true rfl) ⟨Nat.zero_le _, Nat.zero_le _⟩ ?_
  intro v0 w0 hq
  obtain ⟨rfl, rfl⟩ := hq
  refine ⟨rfl, ?_⟩
  show fSt l G X 0 0 4 [(0, .ref m0), (1, vI b), (2, vI e)] [vI (bI (0 ≤ b ∧ b ≤ 1))] [cO m0 7 (.ref m1 :: xs), cA m1 G.2.1.1 718 f]
  refine s_if_eq 15 C dX7_waits_4 (by decide) bI_rng (fun h_4 => ?_) (fun h_4 => ?_)
  · have h_4 := bI_f h_4
    refine s_ldc (z := -1000001) C (by decide +kernel) dX7_waits_15 ?_
    exact s_iret C E dX7_waits_17 ⟨congrArg (fun z => some (vI z)) (by rw [sp_wait, if_neg (by omega)]), rfl⟩
  · have h_4 := bI_t h_4
    refine s_aload_n 0 C dX7_waits_7 rfl 0 rfl ?_
    refine s_iload_n 2 C dX7_waits_8 rfl 2 rfl ?_
    refine s_callV (As := [vI e]) (rest := []) C dX7_waits_9 (c_X7_isFence l G m0 m1 xs f e (by first | assumption | omega) (by first | assumption | omega) (by first | assumption | omega)) gX7_waits_X7_isFence rfl 1 (by decide +kernel) (by decide) 0 7 rfl rfl rfl [0, 1] rfl (by decide) rfl (Nat.le_of_ble_eq_true rfl) ⟨Nat.zero_le _, Nat.zero_le _⟩ ?_
    intro v0 w0 hq
    obtain ⟨rfl, rfl⟩ := hq
    refine ⟨rfl, ?_⟩
    show fSt l G X 0 0 12 [(0, .ref m0), (1, vI b), (2, vI e)] [vI (bI (0 ≤ e ∧ e ≤ f 0))] [cO m0 7 (.ref m1 :: xs), cA m1 G.2.1.1 718 f]
    refine s_if_ne 18 C dX7_waits_12 (by decide) bI_rng (fun h_12 => ?_) (fun h_12 => ?_)
    · have h_12 := bI_t h_12
      refine s_aload_n 0 C dX7_waits_18 rfl 0 rfl ?_
      refine s_iload_n 1 C dX7_waits_19 rfl 1 rfl ?_
      refine s_iconst C dX7_waits_20 ?_
      refine s_callV (As := [vI b, vI 2]) (rest := []) C dX7_waits_21 (c_X7_ofStandby l G m0 m1 xs f b 2 (by first | assumption | omega)) gX7_waits_X7_ofStandby rfl 2 (by decide +kernel) (by decide) 0 7 rfl rfl rfl [0, 1] rfl (by decide) rfl (Nat.le_of_ble_eq_true rfl) ⟨Nat.zero_le _, Nat.zero_le _⟩ ?_
      intro v0 w0 hq
      obtain ⟨rfl, rfl⟩ := hq
      refine ⟨rfl, ?_⟩
      show fSt l G X 0 0 24 [(0, .ref m0), (1, vI b), (2, vI e)] [vI (oS f b 2)] [cO m0 7 (.ref m1 :: xs), cA m1 G.2.1.1 718 f]
      refine s_iconst C dX7_waits_24 ?_
      refine s_icmp_ne 33 C dX7_waits_25 (by decide) (hf _) (by omega) (fun h_25 => ?_) (fun h_25 => ?_)
      · refine s_aload_n 0 C dX7_waits_33 rfl 0 rfl ?_
        refine s_iload_n 1 C dX7_waits_34 rfl 1 rfl ?_
        refine s_iload_n 2 C dX7_waits_35 rfl 2 rfl ?_
        refine s_aload_n 0 C dX7_waits_36 rfl 0 rfl ?_
        refine s_get C dX7_waits_37 7 rfl hinX7 0 rfl 0 (by decide) (by decide +kernel) rfl ?_
        refine s_bipush (z := 7) C dX7_waits_40 rfl ?_
        refine s_iald C dX7_waits_42 1 rfl 7 rfl (by omega) (by omega) (by omega) ?_
        refine s_sipush (z := 200) C dX7_waits_43 rfl ?_
        refine s_callV (As := [vI b, vI e, vI (f 7), vI 200]) (rest := []) C dX7_waits_46 (c_X7_until l G B m0 m1 xs f b e (f 7) 200 (by first | assumption | omega) (by first | assumption | omega) (by first | assumption | omega) (by first | assumption | omega) (by first | assumption | omega) (by first | assumption | omega)) gX7_waits_X7_until rfl 4 (by decide +kernel) (by decide) 0 7 rfl rfl rfl [0, 1] rfl (by decide) rfl (Nat.le_of_ble_eq_true rfl) ⟨Nat.zero_le _, Nat.zero_le _⟩ ?_
        intro v0 w0 hq
        obtain ⟨rfl, rfl⟩ := hq
        refine ⟨rfl, ?_⟩
        show fSt l G X 0 0 49 [(0, .ref m0), (1, vI b), (2, vI e)] [vI (uT f b e (f 7) 200)] [cO m0 7 (.ref m1 :: xs), cA m1 G.2.1.1 718 f]
        exact s_iret C E dX7_waits_49 ⟨congrArg (fun z => some (vI z)) (by rw [sp_wait, if_pos (by omega), if_neg h_25]), rfl⟩
      · refine s_ldc (z := -1000002) C (by decide +kernel) dX7_waits_28 ?_
        refine s_goto 49 C dX7_waits_30 (by decide) ?_
        exact s_iret C E dX7_waits_49 ⟨congrArg (fun z => some (vI z)) (by rw [sp_wait, if_pos (by omega), if_pos h_25]), rfl⟩
    · have h_12 := bI_f h_12
      refine s_ldc (z := -1000001) C (by decide +kernel) dX7_waits_15 ?_
      exact s_iret C E dX7_waits_17 ⟨congrArg (fun z => some (vI z)) (by rw [sp_wait, if_neg (by omega)]), rfl⟩

set_option maxHeartbeats 4000000 in
set_option maxRecDepth 100000 in
theorem c_X7_wouldLose (l : Launch) (G : fG) (B : Int) (m0 m1 : Nat) (xs : List Value) (f : Int → Int) (b : Int) (hI : Inv B f) (hB : B ≤ 1073000000) (hb : -2147483648 ≤ b ∧ b < 2147483648) : fCt l G yX7_wouldLose wsX7_wouldLose 3 67 0 0 [.ref m0, vI b] [cO m0 7 (.ref m1 :: xs), cA m1 G.2.1.1 718 f] (fun (v0 : Option Value) (w0 : va_W) => v0 = some (vI (sp_wl f b)) ∧ w0 = [cO m0 7 (.ref m1 :: xs), cA m1 G.2.1.1 718 f]) := by
  refine fs_met (cc := cX7_wouldLose) (nL := 2) (ret := (some .int)) (by decide) rfl (Nat.le_of_ble_eq_true rfl) ?_
  intro X C E
  show fSt l G X 0 0 0 [(0, .ref m0), (1, vI b)] [] [cO m0 7 (.ref m1 :: xs), cA m1 G.2.1.1 718 f]
  have hf := hI.rf
  have hn := hI.n
  have htk := hI.tk
  have hlo := hI.lo
  have hln := hI.ln
  have hlc := hI.lc
  have hap := hI.ap
  have hrt := hI.rt
  have hdl := hI.dl
  refine s_iload_n 1 C dX7_wouldLose_0 rfl 1 rfl ?_
  refine s_callS (As := [vI b]) (rest := []) C dX7_wouldLose_1 (c_X7_isStandby l G b (by first | assumption | omega)) gX7_wouldLose_X7_isStandby rfl 1 (by decide +kernel) (by decide) [] rfl (by decide) rfl (Nat.le_of_ble_eq_true rfl) ⟨Nat.zero_le _, Nat.zero_le _⟩ ?_
  intro v0 w0 hq
  obtain ⟨rfl, rfl⟩ := hq
  refine ⟨rfl, ?_⟩
  show fSt l G X 0 0 4 [(0, .ref m0), (1, vI b)] [vI (bI (0 ≤ b ∧ b ≤ 1))] [cO m0 7 (.ref m1 :: xs), cA m1 G.2.1.1 718 f]
  refine s_if_ne 10 C dX7_wouldLose_4 (by decide) bI_rng (fun h_4 => ?_) (fun h_4 => ?_)
  · have h_4 := bI_t h_4
    refine s_aload_n 0 C dX7_wouldLose_10 rfl 0 rfl ?_
    refine s_iload_n 1 C dX7_wouldLose_11 rfl 1 rfl ?_
    refine s_iconst C dX7_wouldLose_12 ?_
    refine s_callV (As := [vI b, vI 2]) (rest := []) C dX7_wouldLose_13 (c_X7_ofStandby l G m0 m1 xs f b 2 (by first | assumption | omega)) gX7_wouldLose_X7_ofStandby rfl 2 (by decide +kernel) (by decide) 0 7 rfl rfl rfl [0, 1] rfl (by decide) rfl (Nat.le_of_ble_eq_true rfl) ⟨Nat.zero_le _, Nat.zero_le _⟩ ?_
    intro v0 w0 hq
    obtain ⟨rfl, rfl⟩ := hq
    refine ⟨rfl, ?_⟩
    show fSt l G X 0 0 16 [(0, .ref m0), (1, vI b)] [vI (oS f b 2)] [cO m0 7 (.ref m1 :: xs), cA m1 G.2.1.1 718 f]
    refine s_iconst C dX7_wouldLose_16 ?_
    refine s_icmp_ne 25 C dX7_wouldLose_17 (by decide) (hf _) (by omega) (fun h_17 => ?_) (fun h_17 => ?_)
    · have hS := hI.S b h_4.1 h_4.2
      refine s_aload_n 0 C dX7_wouldLose_25 rfl 0 rfl ?_
      refine s_iload_n 1 C dX7_wouldLose_26 rfl 1 rfl ?_
      refine s_callV (As := [vI b]) (rest := []) C dX7_wouldLose_27 (c_X7_wouldBeLost l G m0 m1 xs f b (by first | assumption | omega) (by first | assumption | omega) (by first | assumption | omega)) gX7_wouldLose_X7_wouldBeLost rfl 1 (by decide +kernel) (by decide) 0 7 rfl rfl rfl [0, 1] rfl (by decide) rfl (Nat.le_of_ble_eq_true rfl) ⟨Nat.zero_le _, Nat.zero_le _⟩ ?_
      intro v0 w0 hq
      obtain ⟨rfl, rfl⟩ := hq
      refine ⟨rfl, ?_⟩
      show fSt l G X 0 0 30 [(0, .ref m0), (1, vI b)] [vI (mB f (oS f b 1 + 1) (f 0))] [cO m0 7 (.ref m1 :: xs), cA m1 G.2.1.1 718 f]
      exact s_iret C E dX7_wouldLose_30 ⟨congrArg (fun z => some (vI z)) (by rw [sp_wl, if_pos h_4, if_neg h_17]), rfl⟩
    · refine s_ldc (z := -1000002) C (by decide +kernel) dX7_wouldLose_20 ?_
      refine s_goto 30 C dX7_wouldLose_22 (by decide) ?_
      exact s_iret C E dX7_wouldLose_30 ⟨congrArg (fun z => some (vI z)) (by rw [sp_wl, if_pos h_4, if_pos h_17]), rfl⟩
  · have h_4 := bI_f h_4
    refine s_ldc (z := -1000001) C (by decide +kernel) dX7_wouldLose_7 ?_
    exact s_iret C E dX7_wouldLose_9 ⟨congrArg (fun z => some (vI z)) (by rw [sp_wl, if_neg h_4]), rfl⟩

set_option maxHeartbeats 4000000 in
set_option maxRecDepth 100000 in
theorem c_X7_rateFor (l : Launch) (G : fG) (B : Int) (m0 m1 : Nat) (xs : List Value) (f : Int → Int) (b t : Int) (hI : Inv B f) (hB : B ≤ 1073000000) (hb : -2147483648 ≤ b ∧ b < 2147483648) (ht : -2147483648 ≤ t ∧ t < 2147483648) : fCt l G yX7_rateFor wsX7_rateFor 3 75 0 0 [.ref m0, vI b, vI t] [cO m0 7 (.ref m1 :: xs), cA m1 G.2.1.1 718 f] (fun (v0 : Option Value) (w0 : va_W) => v0 = some (vI (sp_rate f b t)) ∧ w0 = [cO m0 7 (.ref m1 :: xs), cA m1 G.2.1.1 718 f]) := by
  refine fs_met (cc := cX7_rateFor) (nL := 6) (ret := (some .int)) (by decide) rfl (Nat.le_of_ble_eq_true rfl) ?_
  intro X C E
  show fSt l G X 0 0 0 [(0, .ref m0), (1, vI b), (2, vI t)] [] [cO m0 7 (.ref m1 :: xs), cA m1 G.2.1.1 718 f]
  have hf := hI.rf
  have hn := hI.n
  have htk := hI.tk
  have hlo := hI.lo
  have hln := hI.ln
  have hlc := hI.lc
  have hap := hI.ap
  have hrt := hI.rt
  have hdl := hI.dl
  have hT := hI.TI (by omega)
  refine s_iload_n 1 C dX7_rateFor_0 rfl 1 rfl ?_
  refine s_callS (As := [vI b]) (rest := []) C dX7_rateFor_1 (c_X7_isStandby l G b (by first | assumption | omega)) gX7_rateFor_X7_isStandby rfl 1 (by decide +kernel) (by decide) [] rfl (by decide) rfl (Nat.le_of_ble_eq_true rfl) ⟨Nat.zero_le _, Nat.zero_le _⟩ ?_
  intro v0 w0 hq
  obtain ⟨rfl, rfl⟩ := hq
  refine ⟨rfl, ?_⟩
  show fSt l G X 0 0 4 [(0, .ref m0), (1, vI b), (2, vI t)] [vI (bI (0 ≤ b ∧ b ≤ 1))] [cO m0 7 (.ref m1 :: xs), cA m1 G.2.1.1 718 f]
  refine s_if_eq 17 C dX7_rateFor_4 (by decide) bI_rng (fun h_4 => ?_) (fun h_4 => ?_)
  · have h_4 := bI_f h_4
    refine s_ldc (z := -1000001) C (by decide +kernel) dX7_rateFor_17 ?_
    exact s_iret C E dX7_rateFor_19 ⟨congrArg (fun z => some (vI z)) (by rw [sp_rate, if_neg (by omega)]), rfl⟩
  · have h_4 := bI_t h_4
    refine s_iload_n 2 C dX7_rateFor_7 rfl 2 rfl ?_
    refine s_iconst C dX7_rateFor_8 ?_
    refine s_bipush (z := 99) C dX7_rateFor_9 rfl ?_
    refine s_callS (As := [vI t, vI 1, vI 99]) (rest := []) C dX7_rateFor_11 (c_X7_in l G t 1 99 (by first | assumption | omega) (by first | assumption | omega) (by first | assumption | omega)) gX7_rateFor_X7_in rfl 3 (by decide +kernel) (by decide) [] rfl (by decide) rfl (Nat.le_of_ble_eq_true rfl) ⟨Nat.zero_le _, Nat.zero_le _⟩ ?_
    intro v0 w0 hq
    obtain ⟨rfl, rfl⟩ := hq
    refine ⟨rfl, ?_⟩
    show fSt l G X 0 0 14 [(0, .ref m0), (1, vI b), (2, vI t)] [vI (bI (1 ≤ t ∧ t ≤ 99))] [cO m0 7 (.ref m1 :: xs), cA m1 G.2.1.1 718 f]
    refine s_if_ne 20 C dX7_rateFor_14 (by decide) bI_rng (fun h_14 => ?_) (fun h_14 => ?_)
    · have h_14 := bI_t h_14
      have hS := hI.S b h_4.1 h_4.2
      refine s_aload_n 0 C dX7_rateFor_20 rfl 0 rfl ?_
      refine s_iload_n 1 C dX7_rateFor_21 rfl 1 rfl ?_
      refine s_iconst C dX7_rateFor_22 ?_
      refine s_callV (As := [vI b, vI 2]) (rest := []) C dX7_rateFor_23 (c_X7_ofStandby l G m0 m1 xs f b 2 (by first | assumption | omega)) gX7_rateFor_X7_ofStandby rfl 2 (by decide +kernel) (by decide) 0 7 rfl rfl rfl [0, 1] rfl (by decide) rfl (Nat.le_of_ble_eq_true rfl) ⟨Nat.zero_le _, Nat.zero_le _⟩ ?_
      intro v0 w0 hq
      obtain ⟨rfl, rfl⟩ := hq
      refine ⟨rfl, ?_⟩
      show fSt l G X 0 0 26 [(0, .ref m0), (1, vI b), (2, vI t)] [vI (oS f b 2)] [cO m0 7 (.ref m1 :: xs), cA m1 G.2.1.1 718 f]
      refine s_iconst C dX7_rateFor_26 ?_
      refine s_icmp_ne 33 C dX7_rateFor_27 (by decide) (hf _) (by omega) (fun h_27 => ?_) (fun h_27 => ?_)
      · have hw := mW_rg (f := f) (b := b)
        refine s_aload_n 0 C dX7_rateFor_33 rfl 0 rfl ?_
        refine s_iload_n 1 C dX7_rateFor_34 rfl 1 rfl ?_
        refine s_callV (As := [vI b]) (rest := []) C dX7_rateFor_35 (c_X7_lowestGap l G m0 m1 xs f b (by first | assumption | omega) (by first | assumption | omega)) gX7_rateFor_X7_lowestGap rfl 1 (by decide +kernel) (by decide) 0 7 rfl rfl rfl [0, 1] rfl (by decide) rfl (Nat.le_of_ble_eq_true rfl) ⟨Nat.zero_le _, Nat.zero_le _⟩ ?_
        intro v0 w0 hq
        obtain ⟨rfl, rfl⟩ := hq
        refine ⟨rfl, ?_⟩
        show fSt l G X 0 0 38 [(0, .ref m0), (1, vI b), (2, vI t)] [vI (mW f b)] [cO m0 7 (.ref m1 :: xs), cA m1 G.2.1.1 718 f]
        refine s_istore_n 3 [(3, vI (mW f b)), (0, .ref m0), (1, vI b), (2, vI t)] C dX7_rateFor_38 rfl (by decide) rfl ?_
        refine s_iload_n 3 C dX7_rateFor_39 rfl 0 rfl ?_
        refine s_if_ge 52 C dX7_rateFor_40 (by decide) (by omega) (fun h_40 => ?_) (fun h_40 => ?_)
        · refine s_iload_n 3 C dX7_rateFor_52 rfl 0 rfl ?_
          refine s_iconst C dX7_rateFor_53 ?_
          refine s_isub C dX7_rateFor_54 ?_
          have hg : (mW f b) - 1 = goalOf f b := by rw [goalOf, if_neg (by omega)]
          refine s_top (goalOf f b) hg ?_
          have hgr : 0 ≤ goalOf f b ∧ goalOf f b ≤ 100 := by omega
          refine s_istore [(4, vI (goalOf f b)), (3, vI (mW f b)), (0, .ref m0), (1, vI b), (2, vI t)] C dX7_rateFor_55 (by decide) rfl ?_
          refine s_iconst C dX7_rateFor_57 ?_
          refine s_istore [(5, vI 1), (4, vI (goalOf f b)), (3, vI (mW f b)), (0, .ref m0), (1, vI b), (2, vI t)] C dX7_rateFor_58 (by decide) rfl ?_
          have loop_60 : ∀ (fuel : Nat) (r : Int), (1 ≤ r ∧ r ≤ 21) → (∀ i, 1 ≤ i → i < r → decide (0 ≤ uT f b (goalOf f b) i t) = false) → (21 - r < (fuel : Int)) → fSt l G X 0 0 60 [(0, .ref m0), (1, vI b), (2, vI t), (3, vI (mW f b)), (4, vI (goalOf f b)), (5, vI r)] [] [cO m0 7 (.ref m1 :: xs), cA m1 G.2.1.1 718 f] := by
            intro fuel
            induction fuel with
            | zero =>
              intro r hr hbel hm
              exfalso
              omega
            | succ fuel ih_60 =>
              intro r hr hbel hm
              refine s_iload C dX7_rateFor_60 5 rfl ?_
              refine s_bipush (z := 20) C dX7_rateFor_62 rfl ?_
              refine s_icmp_gt 89 C dX7_rateFor_64 (by decide) (by omega) (by omega) (fun h_64 => ?_) (fun h_64 => ?_)
              · refine s_ldc (z := -1000004) C (by decide +kernel) dX7_rateFor_89 ?_
                exact s_iret C E dX7_rateFor_91 ⟨congrArg (fun z => some (vI z)) (by rw [sp_rate, if_pos (by omega), if_neg h_27, rtF, fstI_none (fun i h1 h2 => hbel i h1 (by omega)), if_neg (by omega)]), rfl⟩
              · refine s_aload_n 0 C dX7_rateFor_67 rfl 0 rfl ?_
                refine s_iload_n 1 C dX7_rateFor_68 rfl 1 rfl ?_
                refine s_iload C dX7_rateFor_69 4 rfl ?_
                refine s_iload C dX7_rateFor_71 5 rfl ?_
                refine s_iload_n 2 C dX7_rateFor_73 rfl 2 rfl ?_
                refine s_callV (As := [vI b, vI (goalOf f b), vI r, vI t]) (rest := []) C dX7_rateFor_74 (c_X7_until l G B m0 m1 xs f b (goalOf f b) r t (by first | assumption | omega) (by first | assumption | omega) (by first | assumption | omega) (by first | assumption | omega) (by first | assumption | omega) (by first | assumption | omega)) gX7_rateFor_X7_until rfl 4 (by decide +kernel) (by decide) 0 7 rfl rfl rfl [0, 1] rfl (by decide) rfl (Nat.le_of_ble_eq_true rfl) ⟨Nat.zero_le _, Nat.zero_le _⟩ ?_
                intro v0 w0 hq
                obtain ⟨rfl, rfl⟩ := hq
                refine ⟨rfl, ?_⟩
                show fSt l G X 0 0 77 [(0, .ref m0), (1, vI b), (2, vI t), (3, vI (mW f b)), (4, vI (goalOf f b)), (5, vI r)] [vI (uT f b (goalOf f b) r t)] [cO m0 7 (.ref m1 :: xs), cA m1 G.2.1.1 718 f]
                have hur := uT_rg (f := f) (b := b) (p := goalOf f b) (rt := r) (m := t)
                refine s_if_lt 83 C dX7_rateFor_77 (by decide) (by omega) (fun h_77 => ?_) (fun h_77 => ?_)
                · refine s_iinc [(5, vI (r + 1)), (0, .ref m0), (1, vI b), (2, vI t), (3, vI (mW f b)), (4, vI (goalOf f b))] C dX7_rateFor_83 5 rfl (by decide) rfl ?_
                  refine s_goto 60 C dX7_rateFor_86 (by decide) ?_
                  refine s_lv [(0, .ref m0), (1, vI b), (2, vI t), (3, vI (mW f b)), (4, vI (goalOf f b)), (5, vI (r + 1))] [1, 2, 3, 4, 5, 0] rfl ?_
                  exact ih_60 (r + 1) (by omega) (fun i h1 h2 => by by_cases h3 : i = r; (· rw [h3]; exact decide_eq_false (by omega)); (· exact hbel i h1 (by omega))) (by omega)
                · refine s_iload C dX7_rateFor_80 5 rfl ?_
                  exact s_iret C E dX7_rateFor_82 ⟨congrArg (fun z => some (vI z)) (by rw [sp_rate, if_pos (by omega), if_neg h_27, rtF, fstI_hit hbel (decide_eq_true (by omega)) (by omega) (by omega), if_pos (by omega)]), rfl⟩
          refine s_lv [(0, .ref m0), (1, vI b), (2, vI t), (3, vI (mW f b)), (4, vI (goalOf f b)), (5, vI 1)] [3, 4, 5, 2, 1, 0] rfl ?_
          exact loop_60 (21 - 1 + 1 : Int).toNat 1 (by omega) (fun i h1 h2 => absurd h1 (by omega)) (by omega)
        · refine s_aload_n 0 C dX7_rateFor_43 rfl 1 rfl ?_
          refine s_iload_n 1 C dX7_rateFor_44 rfl 2 rfl ?_
          refine s_iconst C dX7_rateFor_45 ?_
          refine s_callV (As := [vI b, vI 0]) (rest := []) C dX7_rateFor_46 (c_X7_ofStandby l G m0 m1 xs f b 0 (by first | assumption | omega)) gX7_rateFor_X7_ofStandby rfl 2 (by decide +kernel) (by decide) 0 7 rfl rfl rfl [0, 1] rfl (by decide) rfl (Nat.le_of_ble_eq_true rfl) ⟨Nat.zero_le _, Nat.zero_le _⟩ ?_
          intro v0 w0 hq
          obtain ⟨rfl, rfl⟩ := hq
          refine ⟨rfl, ?_⟩
          show fSt l G X 0 0 49 [(3, vI (mW f b)), (0, .ref m0), (1, vI b), (2, vI t)] [vI (oS f b 0)] [cO m0 7 (.ref m1 :: xs), cA m1 G.2.1.1 718 f]
          refine s_goto 55 C dX7_rateFor_49 (by decide) ?_
          have hg : oS f b 0 = goalOf f b := by rw [goalOf, if_pos (by omega)]
          refine s_top (goalOf f b) hg ?_
          have hgr : 0 ≤ goalOf f b ∧ goalOf f b ≤ 100 := by omega
          refine s_istore [(4, vI (goalOf f b)), (3, vI (mW f b)), (0, .ref m0), (1, vI b), (2, vI t)] C dX7_rateFor_55 (by decide) rfl ?_
          refine s_iconst C dX7_rateFor_57 ?_
          refine s_istore [(5, vI 1), (4, vI (goalOf f b)), (3, vI (mW f b)), (0, .ref m0), (1, vI b), (2, vI t)] C dX7_rateFor_58 (by decide) rfl ?_
          have loop_60 : ∀ (fuel : Nat) (r : Int), (1 ≤ r ∧ r ≤ 21) → (∀ i, 1 ≤ i → i < r → decide (0 ≤ uT f b (goalOf f b) i t) = false) → (21 - r < (fuel : Int)) → fSt l G X 0 0 60 [(0, .ref m0), (1, vI b), (2, vI t), (3, vI (mW f b)), (4, vI (goalOf f b)), (5, vI r)] [] [cO m0 7 (.ref m1 :: xs), cA m1 G.2.1.1 718 f] := by
            intro fuel
            induction fuel with
            | zero =>
              intro r hr hbel hm
              exfalso
              omega
            | succ fuel ih_60 =>
              intro r hr hbel hm
              refine s_iload C dX7_rateFor_60 5 rfl ?_
              refine s_bipush (z := 20) C dX7_rateFor_62 rfl ?_
              refine s_icmp_gt 89 C dX7_rateFor_64 (by decide) (by omega) (by omega) (fun h_64 => ?_) (fun h_64 => ?_)
              · refine s_ldc (z := -1000004) C (by decide +kernel) dX7_rateFor_89 ?_
                exact s_iret C E dX7_rateFor_91 ⟨congrArg (fun z => some (vI z)) (by rw [sp_rate, if_pos (by omega), if_neg h_27, rtF, fstI_none (fun i h1 h2 => hbel i h1 (by omega)), if_neg (by omega)]), rfl⟩
              · refine s_aload_n 0 C dX7_rateFor_67 rfl 0 rfl ?_
                refine s_iload_n 1 C dX7_rateFor_68 rfl 1 rfl ?_
                refine s_iload C dX7_rateFor_69 4 rfl ?_
                refine s_iload C dX7_rateFor_71 5 rfl ?_
                refine s_iload_n 2 C dX7_rateFor_73 rfl 2 rfl ?_
                refine s_callV (As := [vI b, vI (goalOf f b), vI r, vI t]) (rest := []) C dX7_rateFor_74 (c_X7_until l G B m0 m1 xs f b (goalOf f b) r t (by first | assumption | omega) (by first | assumption | omega) (by first | assumption | omega) (by first | assumption | omega) (by first | assumption | omega) (by first | assumption | omega)) gX7_rateFor_X7_until rfl 4 (by decide +kernel) (by decide) 0 7 rfl rfl rfl [0, 1] rfl (by decide) rfl (Nat.le_of_ble_eq_true rfl) ⟨Nat.zero_le _, Nat.zero_le _⟩ ?_
                intro v0 w0 hq
                obtain ⟨rfl, rfl⟩ := hq
                refine ⟨rfl, ?_⟩
                show fSt l G X 0 0 77 [(0, .ref m0), (1, vI b), (2, vI t), (3, vI (mW f b)), (4, vI (goalOf f b)), (5, vI r)] [vI (uT f b (goalOf f b) r t)] [cO m0 7 (.ref m1 :: xs), cA m1 G.2.1.1 718 f]
                have hur := uT_rg (f := f) (b := b) (p := goalOf f b) (rt := r) (m := t)
                refine s_if_lt 83 C dX7_rateFor_77 (by decide) (by omega) (fun h_77 => ?_) (fun h_77 => ?_)
                · refine s_iinc [(5, vI (r + 1)), (0, .ref m0), (1, vI b), (2, vI t), (3, vI (mW f b)), (4, vI (goalOf f b))] C dX7_rateFor_83 5 rfl (by decide) rfl ?_
                  refine s_goto 60 C dX7_rateFor_86 (by decide) ?_
                  refine s_lv [(0, .ref m0), (1, vI b), (2, vI t), (3, vI (mW f b)), (4, vI (goalOf f b)), (5, vI (r + 1))] [1, 2, 3, 4, 5, 0] rfl ?_
                  exact ih_60 (r + 1) (by omega) (fun i h1 h2 => by by_cases h3 : i = r; (· rw [h3]; exact decide_eq_false (by omega)); (· exact hbel i h1 (by omega))) (by omega)
                · refine s_iload C dX7_rateFor_80 5 rfl ?_
                  exact s_iret C E dX7_rateFor_82 ⟨congrArg (fun z => some (vI z)) (by rw [sp_rate, if_pos (by omega), if_neg h_27, rtF, fstI_hit hbel (decide_eq_true (by omega)) (by omega) (by omega), if_pos (by omega)]), rfl⟩
          refine s_lv [(0, .ref m0), (1, vI b), (2, vI t), (3, vI (mW f b)), (4, vI (goalOf f b)), (5, vI 1)] [3, 4, 5, 2, 1, 0] rfl ?_
          exact loop_60 (21 - 1 + 1 : Int).toNat 1 (by omega) (fun i h1 h2 => absurd h1 (by omega)) (by omega)
      · refine s_ldc (z := -1000002) C (by decide +kernel) dX7_rateFor_30 ?_
        exact s_iret C E dX7_rateFor_32 ⟨congrArg (fun z => some (vI z)) (by rw [sp_rate, if_pos (by omega), if_pos h_27]), rfl⟩
    · have h_14 := bI_f h_14
      refine s_ldc (z := -1000001) C (by decide +kernel) dX7_rateFor_17 ?_
      exact s_iret C E dX7_rateFor_19 ⟨congrArg (fun z => some (vI z)) (by rw [sp_rate, if_neg (by omega)]), rfl⟩

set_option maxHeartbeats 4000000 in
set_option maxRecDepth 100000 in
theorem c_X7_count (l : Launch) (G : fG) (B : Int) (m0 m1 m4 : Nat) (x2 x3 x5 : Value) (xs : List Value) (f : Int → Int) (ps ty wh : Int) (hI : Inv B f) (hB : B ≤ 1073000000) (hwh : -2147483648 ≤ wh ∧ wh < 2147483648) : fCt l G yX7_count wsX7_count 2 46 0 0 [.ref m0, vI wh] [cO m0 7 (.ref m1 :: x2 :: x3 :: vI ps :: x5 :: .ref m4 :: vI ty :: xs), cA m1 G.2.1.1 718 f] (fun (v0 : Option Value) (w0 : va_W) => v0 = some (vI (sp_count f ps ty wh)) ∧ w0 = [cO m0 7 (.ref m1 :: x2 :: x3 :: vI ps :: x5 :: .ref m4 :: vI ty :: xs), cA m1 G.2.1.1 718 f]) := by
  refine fs_met (cc := cX7_count) (nL := 2) (ret := (some .int)) (by decide) rfl (Nat.le_of_ble_eq_true rfl) ?_
  intro X C E
  show fSt l G X 0 0 0 [(0, .ref m0), (1, vI wh)] [] [cO m0 7 (.ref m1 :: x2 :: x3 :: vI ps :: x5 :: .ref m4 :: vI ty :: xs), cA m1 G.2.1.1 718 f]
  have hinX7 : ∀ w ∈ u_ws RX7 TX7 14, w ∈ wsX7_count := by decide +kernel
  have hf := hI.rf
  have hn := hI.n
  have htk := hI.tk
  have hlo := hI.lo
  have hln := hI.ln
  have hlc := hI.lc
  have hap := hI.ap
  have hrt := hI.rt
  have hdl := hI.dl
  refine s_iload_n 1 C dX7_count_0 rfl 1 rfl ?_
  rcases (by omega : wh = 0 ∨ wh = 1 ∨ wh = 2 ∨ wh = 3 ∨ wh = 4 ∨ wh = 5 ∨ wh = 6 ∨ wh = 7 ∨ wh = 8 ∨ wh = 9 ∨ wh = 10 ∨ wh = 11 ∨ wh = 12 ∨ wh = 13 ∨ wh = 14 ∨ wh = 15 ∨ wh = 16 ∨ wh = 17 ∨ wh = 18 ∨ wh = 19 ∨ wh = 20 ∨ wh = 21 ∨ (wh < 0 ∨ 21 < wh)) with h_1 | h_1 | h_1 | h_1 | h_1 | h_1 | h_1 | h_1 | h_1 | h_1 | h_1 | h_1 | h_1 | h_1 | h_1 | h_1 | h_1 | h_1 | h_1 | h_1 | h_1 | h_1 | h_1
  · refine s_tabIn 104 (off := 103) C dX7_count_1 (by omega) (by omega) (by omega) (by rw [h_1]; rfl) (by decide) ?_
    refine s_aload_n 0 C dX7_count_104 rfl 0 rfl ?_
    refine s_get C dX7_count_105 7 rfl hinX7 0 rfl 0 (by decide) (by decide +kernel) rfl ?_
    refine s_iload_n 1 C dX7_count_108 rfl 1 rfl ?_
    refine s_iald C dX7_count_109 1 rfl wh rfl (by omega) (by omega) (by omega) ?_
    exact s_iret C E dX7_count_110 ⟨congrArg (fun z => some (vI z)) (by rw [sp_count, if_pos (by omega)]), rfl⟩
  · refine s_tabIn 104 (off := 103) C dX7_count_1 (by omega) (by omega) (by omega) (by rw [h_1]; rfl) (by decide) ?_
    refine s_aload_n 0 C dX7_count_104 rfl 0 rfl ?_
    refine s_get C dX7_count_105 7 rfl hinX7 0 rfl 0 (by decide) (by decide +kernel) rfl ?_
    refine s_iload_n 1 C dX7_count_108 rfl 1 rfl ?_
    refine s_iald C dX7_count_109 1 rfl wh rfl (by omega) (by omega) (by omega) ?_
    exact s_iret C E dX7_count_110 ⟨congrArg (fun z => some (vI z)) (by rw [sp_count, if_pos (by omega)]), rfl⟩
  · refine s_tabIn 104 (off := 103) C dX7_count_1 (by omega) (by omega) (by omega) (by rw [h_1]; rfl) (by decide) ?_
    refine s_aload_n 0 C dX7_count_104 rfl 0 rfl ?_
    refine s_get C dX7_count_105 7 rfl hinX7 0 rfl 0 (by decide) (by decide +kernel) rfl ?_
    refine s_iload_n 1 C dX7_count_108 rfl 1 rfl ?_
    refine s_iald C dX7_count_109 1 rfl wh rfl (by omega) (by omega) (by omega) ?_
    exact s_iret C E dX7_count_110 ⟨congrArg (fun z => some (vI z)) (by rw [sp_count, if_pos (by omega)]), rfl⟩
  · refine s_tabIn 104 (off := 103) C dX7_count_1 (by omega) (by omega) (by omega) (by rw [h_1]; rfl) (by decide) ?_
    refine s_aload_n 0 C dX7_count_104 rfl 0 rfl ?_
    refine s_get C dX7_count_105 7 rfl hinX7 0 rfl 0 (by decide) (by decide +kernel) rfl ?_
    refine s_iload_n 1 C dX7_count_108 rfl 1 rfl ?_
    refine s_iald C dX7_count_109 1 rfl wh rfl (by omega) (by omega) (by omega) ?_
    exact s_iret C E dX7_count_110 ⟨congrArg (fun z => some (vI z)) (by rw [sp_count, if_pos (by omega)]), rfl⟩
  · refine s_tabIn 111 (off := 110) C dX7_count_1 (by omega) (by omega) (by omega) (by rw [h_1]; rfl) (by decide) ?_
    refine s_aload_n 0 C dX7_count_111 rfl 0 rfl ?_
    refine s_iconst C dX7_count_112 ?_
    refine s_aload_n 0 C dX7_count_113 rfl 0 rfl ?_
    refine s_get C dX7_count_114 7 rfl hinX7 0 rfl 0 (by decide) (by decide +kernel) rfl ?_
    refine s_iconst C dX7_count_117 ?_
    refine s_iald C dX7_count_118 1 rfl 0 rfl (by omega) (by omega) (by omega) ?_
    refine s_callV (As := [vI 1, vI (f 0)]) (rest := []) C dX7_count_119 (c_X7_commits l G m0 m1 (x2 :: x3 :: vI ps :: x5 :: .ref m4 :: vI ty :: xs) f 1 (f 0) (by first | assumption | omega) (by first | assumption | omega)) gX7_count_X7_commits rfl 2 (by decide +kernel) (by decide) 0 7 rfl rfl rfl [0, 1] rfl (by decide) rfl (Nat.le_of_ble_eq_true rfl) ⟨Nat.zero_le _, Nat.zero_le _⟩ ?_
    intro v0 w0 hq
    obtain ⟨rfl, rfl⟩ := hq
    refine ⟨rfl, ?_⟩
    show fSt l G X 0 0 122 [(0, .ref m0), (1, vI wh)] [vI (mB f 1 (f 0))] [cO m0 7 (.ref m1 :: x2 :: x3 :: vI ps :: x5 :: .ref m4 :: vI ty :: xs), cA m1 G.2.1.1 718 f]
    exact s_iret C E dX7_count_122 ⟨congrArg (fun z => some (vI z)) (by rw [sp_count, if_neg (by omega), if_pos (by omega)]), rfl⟩
  · refine s_tabIn 123 (off := 122) C dX7_count_1 (by omega) (by omega) (by omega) (by rw [h_1]; rfl) (by decide) ?_
    refine s_aload_n 0 C dX7_count_123 rfl 0 rfl ?_
    refine s_get C dX7_count_124 7 rfl hinX7 0 rfl 0 (by decide) (by decide +kernel) rfl ?_
    refine s_iconst C dX7_count_127 ?_
    refine s_iload_n 1 C dX7_count_128 rfl 1 rfl ?_
    refine s_iadd C dX7_count_129 ?_
    refine s_iconst C dX7_count_130 ?_
    refine s_isub C dX7_count_131 ?_
    refine s_iald C dX7_count_132 1 rfl (wh - 1) (by omega) (by omega) (by omega) (by omega) ?_
    exact s_iret C E dX7_count_133 ⟨congrArg (fun z => some (vI z)) (by rw [sp_count, if_neg (by omega), if_neg (by omega), if_pos (by omega)]), rfl⟩
  · refine s_tabIn 123 (off := 122) C dX7_count_1 (by omega) (by omega) (by omega) (by rw [h_1]; rfl) (by decide) ?_
    refine s_aload_n 0 C dX7_count_123 rfl 0 rfl ?_
    refine s_get C dX7_count_124 7 rfl hinX7 0 rfl 0 (by decide) (by decide +kernel) rfl ?_
    refine s_iconst C dX7_count_127 ?_
    refine s_iload_n 1 C dX7_count_128 rfl 1 rfl ?_
    refine s_iadd C dX7_count_129 ?_
    refine s_iconst C dX7_count_130 ?_
    refine s_isub C dX7_count_131 ?_
    refine s_iald C dX7_count_132 1 rfl (wh - 1) (by omega) (by omega) (by omega) (by omega) ?_
    exact s_iret C E dX7_count_133 ⟨congrArg (fun z => some (vI z)) (by rw [sp_count, if_neg (by omega), if_neg (by omega), if_pos (by omega)]), rfl⟩
  · refine s_tabIn 123 (off := 122) C dX7_count_1 (by omega) (by omega) (by omega) (by rw [h_1]; rfl) (by decide) ?_
    refine s_aload_n 0 C dX7_count_123 rfl 0 rfl ?_
    refine s_get C dX7_count_124 7 rfl hinX7 0 rfl 0 (by decide) (by decide +kernel) rfl ?_
    refine s_iconst C dX7_count_127 ?_
    refine s_iload_n 1 C dX7_count_128 rfl 1 rfl ?_
    refine s_iadd C dX7_count_129 ?_
    refine s_iconst C dX7_count_130 ?_
    refine s_isub C dX7_count_131 ?_
    refine s_iald C dX7_count_132 1 rfl (wh - 1) (by omega) (by omega) (by omega) (by omega) ?_
    exact s_iret C E dX7_count_133 ⟨congrArg (fun z => some (vI z)) (by rw [sp_count, if_neg (by omega), if_neg (by omega), if_pos (by omega)]), rfl⟩
  · refine s_tabIn 134 (off := 133) C dX7_count_1 (by omega) (by omega) (by omega) (by rw [h_1]; rfl) (by decide) ?_
    refine s_aload_n 0 C dX7_count_134 rfl 0 rfl ?_
    refine s_get C dX7_count_135 7 rfl hinX7 0 rfl 3 (by decide) (by decide +kernel) rfl ?_
    exact s_iret C E dX7_count_138 ⟨congrArg (fun z => some (vI z)) (by rw [sp_count, if_neg (by omega), if_neg (by omega), if_neg (by omega), if_pos (by omega)]), rfl⟩
  · refine s_tabIn 139 (off := 138) C dX7_count_1 (by omega) (by omega) (by omega) (by rw [h_1]; rfl) (by decide) ?_
    refine s_aload_n 0 C dX7_count_139 rfl 0 rfl ?_
    refine s_get C dX7_count_140 7 rfl hinX7 0 rfl 6 (by decide) (by decide +kernel) rfl ?_
    exact s_iret C E dX7_count_143 ⟨congrArg (fun z => some (vI z)) (by rw [sp_count, if_neg (by omega), if_neg (by omega), if_neg (by omega), if_neg (by omega), if_pos (by omega)]), rfl⟩
  · refine s_tabIn 157 (off := 156) C dX7_count_1 (by omega) (by omega) (by omega) (by rw [h_1]; rfl) (by decide) ?_
    refine s_ldc (z := -1000001) C (by decide +kernel) dX7_count_157 ?_
    exact s_iret C E dX7_count_159 ⟨congrArg (fun z => some (vI z)) (by rw [sp_count, if_neg (by omega), if_neg (by omega), if_neg (by omega), if_neg (by omega), if_neg (by omega), if_neg (by omega)]), rfl⟩
  · refine s_tabIn 157 (off := 156) C dX7_count_1 (by omega) (by omega) (by omega) (by rw [h_1]; rfl) (by decide) ?_
    refine s_ldc (z := -1000001) C (by decide +kernel) dX7_count_157 ?_
    exact s_iret C E dX7_count_159 ⟨congrArg (fun z => some (vI z)) (by rw [sp_count, if_neg (by omega), if_neg (by omega), if_neg (by omega), if_neg (by omega), if_neg (by omega), if_neg (by omega)]), rfl⟩
  · refine s_tabIn 157 (off := 156) C dX7_count_1 (by omega) (by omega) (by omega) (by rw [h_1]; rfl) (by decide) ?_
    refine s_ldc (z := -1000001) C (by decide +kernel) dX7_count_157 ?_
    exact s_iret C E dX7_count_159 ⟨congrArg (fun z => some (vI z)) (by rw [sp_count, if_neg (by omega), if_neg (by omega), if_neg (by omega), if_neg (by omega), if_neg (by omega), if_neg (by omega)]), rfl⟩
  · refine s_tabIn 157 (off := 156) C dX7_count_1 (by omega) (by omega) (by omega) (by rw [h_1]; rfl) (by decide) ?_
    refine s_ldc (z := -1000001) C (by decide +kernel) dX7_count_157 ?_
    exact s_iret C E dX7_count_159 ⟨congrArg (fun z => some (vI z)) (by rw [sp_count, if_neg (by omega), if_neg (by omega), if_neg (by omega), if_neg (by omega), if_neg (by omega), if_neg (by omega)]), rfl⟩
  · refine s_tabIn 157 (off := 156) C dX7_count_1 (by omega) (by omega) (by omega) (by rw [h_1]; rfl) (by decide) ?_
    refine s_ldc (z := -1000001) C (by decide +kernel) dX7_count_157 ?_
    exact s_iret C E dX7_count_159 ⟨congrArg (fun z => some (vI z)) (by rw [sp_count, if_neg (by omega), if_neg (by omega), if_neg (by omega), if_neg (by omega), if_neg (by omega), if_neg (by omega)]), rfl⟩
  · refine s_tabIn 157 (off := 156) C dX7_count_1 (by omega) (by omega) (by omega) (by rw [h_1]; rfl) (by decide) ?_
    refine s_ldc (z := -1000001) C (by decide +kernel) dX7_count_157 ?_
    exact s_iret C E dX7_count_159 ⟨congrArg (fun z => some (vI z)) (by rw [sp_count, if_neg (by omega), if_neg (by omega), if_neg (by omega), if_neg (by omega), if_neg (by omega), if_neg (by omega)]), rfl⟩
  · refine s_tabIn 157 (off := 156) C dX7_count_1 (by omega) (by omega) (by omega) (by rw [h_1]; rfl) (by decide) ?_
    refine s_ldc (z := -1000001) C (by decide +kernel) dX7_count_157 ?_
    exact s_iret C E dX7_count_159 ⟨congrArg (fun z => some (vI z)) (by rw [sp_count, if_neg (by omega), if_neg (by omega), if_neg (by omega), if_neg (by omega), if_neg (by omega), if_neg (by omega)]), rfl⟩
  · refine s_tabIn 157 (off := 156) C dX7_count_1 (by omega) (by omega) (by omega) (by rw [h_1]; rfl) (by decide) ?_
    refine s_ldc (z := -1000001) C (by decide +kernel) dX7_count_157 ?_
    exact s_iret C E dX7_count_159 ⟨congrArg (fun z => some (vI z)) (by rw [sp_count, if_neg (by omega), if_neg (by omega), if_neg (by omega), if_neg (by omega), if_neg (by omega), if_neg (by omega)]), rfl⟩
  · refine s_tabIn 157 (off := 156) C dX7_count_1 (by omega) (by omega) (by omega) (by rw [h_1]; rfl) (by decide) ?_
    refine s_ldc (z := -1000001) C (by decide +kernel) dX7_count_157 ?_
    exact s_iret C E dX7_count_159 ⟨congrArg (fun z => some (vI z)) (by rw [sp_count, if_neg (by omega), if_neg (by omega), if_neg (by omega), if_neg (by omega), if_neg (by omega), if_neg (by omega)]), rfl⟩
  · refine s_tabIn 157 (off := 156) C dX7_count_1 (by omega) (by omega) (by omega) (by rw [h_1]; rfl) (by decide) ?_
    refine s_ldc (z := -1000001) C (by decide +kernel) dX7_count_157 ?_
    exact s_iret C E dX7_count_159 ⟨congrArg (fun z => some (vI z)) (by rw [sp_count, if_neg (by omega), if_neg (by omega), if_neg (by omega), if_neg (by omega), if_neg (by omega), if_neg (by omega)]), rfl⟩
  · refine s_tabIn 144 (off := 143) C dX7_count_1 (by omega) (by omega) (by omega) (by rw [h_1]; rfl) (by decide) ?_
    refine s_aload_n 0 C dX7_count_144 rfl 0 rfl ?_
    refine s_get C dX7_count_145 7 rfl hinX7 0 rfl 0 (by decide) (by decide +kernel) rfl ?_
    refine s_bipush (z := 7) C dX7_count_148 rfl ?_
    refine s_iload_n 1 C dX7_count_150 rfl 1 rfl ?_
    refine s_iadd C dX7_count_151 ?_
    refine s_bipush (z := 20) C dX7_count_152 rfl ?_
    refine s_isub C dX7_count_154 ?_
    refine s_iald C dX7_count_155 1 rfl (wh - 13) (by omega) (by omega) (by omega) (by omega) ?_
    exact s_iret C E dX7_count_156 ⟨congrArg (fun z => some (vI z)) (by rw [sp_count, if_neg (by omega), if_neg (by omega), if_neg (by omega), if_neg (by omega), if_neg (by omega), if_pos (by omega)]), rfl⟩
  · refine s_tabIn 144 (off := 143) C dX7_count_1 (by omega) (by omega) (by omega) (by rw [h_1]; rfl) (by decide) ?_
    refine s_aload_n 0 C dX7_count_144 rfl 0 rfl ?_
    refine s_get C dX7_count_145 7 rfl hinX7 0 rfl 0 (by decide) (by decide +kernel) rfl ?_
    refine s_bipush (z := 7) C dX7_count_148 rfl ?_
    refine s_iload_n 1 C dX7_count_150 rfl 1 rfl ?_
    refine s_iadd C dX7_count_151 ?_
    refine s_bipush (z := 20) C dX7_count_152 rfl ?_
    refine s_isub C dX7_count_154 ?_
    refine s_iald C dX7_count_155 1 rfl (wh - 13) (by omega) (by omega) (by omega) (by omega) ?_
    exact s_iret C E dX7_count_156 ⟨congrArg (fun z => some (vI z)) (by rw [sp_count, if_neg (by omega), if_neg (by omega), if_neg (by omega), if_neg (by omega), if_neg (by omega), if_pos (by omega)]), rfl⟩
  · refine s_tabOut 157 C dX7_count_1 (by omega) h_1 (by decide) ?_
    refine s_ldc (z := -1000001) C (by decide +kernel) dX7_count_157 ?_
    exact s_iret C E dX7_count_159 ⟨congrArg (fun z => some (vI z)) (by rw [sp_count, if_neg (by omega), if_neg (by omega), if_neg (by omega), if_neg (by omega), if_neg (by omega), if_neg (by omega)]), rfl⟩

set_option maxHeartbeats 4000000 in
set_option maxRecDepth 100000 in
theorem c_X7_undo (l : Launch) (G : fG) (m0 m1 m2 : Nat) (x3 : Value) (xs : List Value) (f P : Int → Int) (ps rn : Int) (hps : 0 ≤ ps ∧ ps ≤ 4) (hrn : rn = 0 ∨ rn = 1) : fCt l G yX7_undo wsX7_undo 0 0 0 0 [.ref m0] [cO m0 7 (.ref m1 :: .ref m2 :: x3 :: vI ps :: vI rn :: xs), cA m1 G.2.1.1 718 f, cA m2 G.2.1.1 2872 P] (fun (v0 : Option Value) (w0 : va_W) => ∃ (z : Int) (f2 : Int → Int) (ps2 : Int), v0 = some (vI z) ∧ w0 = [cO m0 7 (.ref m1 :: .ref m2 :: x3 :: vI ps2 :: vI rn :: xs), cA m1 G.2.1.1 718 f2, cA m2 G.2.1.1 2872 P] ∧ ((ps = 0 ∧ z = -1000002 ∧ f2 = f ∧ ps2 = ps) ∨ (0 < ps ∧ z = ps - 1 ∧ ps2 = ps - 1 ∧ f2 = undF P (ps - 1)))) := by
  refine fs_met (cc := cX7_undo) (nL := 2) (ret := (some .int)) (by decide) rfl (Nat.le_of_ble_eq_true rfl) ?_
  intro X C E
  show fSt l G X 0 0 0 [(0, .ref m0)] [] [cO m0 7 (.ref m1 :: .ref m2 :: x3 :: vI ps :: vI rn :: xs), cA m1 G.2.1.1 718 f, cA m2 G.2.1.1 2872 P]
  have hinX7 : ∀ w ∈ u_ws RX7 TX7 14, w ∈ wsX7_undo := by decide +kernel
  refine s_aload_n 0 C dX7_undo_0 rfl 0 rfl ?_
  refine s_get C dX7_undo_1 7 rfl hinX7 0 rfl 3 (by decide) (by decide +kernel) rfl ?_
  refine s_if_ne 10 C dX7_undo_4 (by decide) (by omega) (fun h_4 => ?_) (fun h_4 => ?_)
  · refine s_aload_n 0 C dX7_undo_10 rfl 0 rfl ?_
    refine s_dup C dX7_undo_11 rfl ?_
    refine s_get C dX7_undo_12 7 rfl hinX7 0 rfl 3 (by decide) (by decide +kernel) rfl ?_
    refine s_iconst C dX7_undo_15 ?_
    refine s_isub C dX7_undo_16 ?_
    refine s_put [cO m0 7 (.ref m1 :: .ref m2 :: x3 :: vI (ps - 1) :: vI rn :: xs), cA m1 G.2.1.1 718 f, cA m2 G.2.1.1 2872 P] C dX7_undo_17 7 rfl hinX7 tyX7 tyX7_ok nmX7 0 rfl 3 (by decide) (by decide +kernel) rfl rfl rfl (Nat.le_of_ble_eq_true rfl) rfl ?_
    refine s_iconst C dX7_undo_20 ?_
    refine s_istore_n 1 [(1, vI 0), (0, .ref m0)] C dX7_undo_21 rfl (by decide) rfl ?_
    have loop_22 : ∀ (fuel : Nat) (k : Int) (U : Int → Int), (0 ≤ k ∧ k ≤ 718) → (U = fun j => if 0 ≤ j ∧ j < k then P (718 * (ps - 1) + j) else f j) → (718 - k < (fuel : Int)) → fSt l G X 0 0 22 [(0, .ref m0), (1, vI k)] [] [cO m0 7 (.ref m1 :: .ref m2 :: x3 :: vI (ps - 1) :: vI rn :: xs), cA m1 G.2.1.1 718 U, cA m2 G.2.1.1 2872 P] := by
      intro fuel
      induction fuel with
      | zero =>
        intro k U hk hU hm
        exfalso
        omega
      | succ fuel ih_22 =>
        intro k U hk hU hm
        refine s_iload_n 1 C dX7_undo_22 rfl 1 rfl ?_
        refine s_sipush (z := 718) C dX7_undo_23 rfl ?_
        refine s_icmp_ge 56 C dX7_undo_26 (by decide) (by omega) (by omega) (fun h_26 => ?_) (fun h_26 => ?_)
        · refine s_agr [cO m0 7 (.ref m1 :: .ref m2 :: x3 :: vI (ps - 1) :: vI rn :: xs), cA m1 G.2.1.1 718 (undF P (ps - 1)), cA m2 G.2.1.1 2872 P] 1 rfl (undF P (ps - 1)) (fun j h0 h1 => by rw [hU, undF]; exact if_pos (by omega)) rfl ?_
          refine s_aload_n 0 C dX7_undo_56 rfl 0 rfl ?_
          refine s_get C dX7_undo_57 7 rfl hinX7 0 rfl 3 (by decide) (by decide +kernel) rfl ?_
          exact s_iret C E dX7_undo_60 ⟨(ps - 1), (undF P (ps - 1)), (ps - 1), rfl, rfl, Or.inr ⟨by omega, rfl, rfl, rfl⟩⟩
        · refine s_aload_n 0 C dX7_undo_29 rfl 0 rfl ?_
          refine s_get C dX7_undo_30 7 rfl hinX7 0 rfl 0 (by decide) (by decide +kernel) rfl ?_
          refine s_iload_n 1 C dX7_undo_33 rfl 1 rfl ?_
          refine s_aload_n 0 C dX7_undo_34 rfl 0 rfl ?_
          refine s_get C dX7_undo_35 7 rfl hinX7 0 rfl 1 (by decide) (by decide +kernel) rfl ?_
          refine s_sipush (z := 718) C dX7_undo_38 rfl ?_
          refine s_aload_n 0 C dX7_undo_41 rfl 0 rfl ?_
          refine s_get C dX7_undo_42 7 rfl hinX7 0 rfl 3 (by decide) (by decide +kernel) rfl ?_
          refine s_imul C dX7_undo_45 ?_
          refine s_iload_n 1 C dX7_undo_46 rfl 1 rfl ?_
          refine s_iadd C dX7_undo_47 ?_
          refine s_iald C dX7_undo_48 2 rfl (k + (718 * ps) - 718) (by omega) (by omega) (by omega) (by omega) ?_
          refine s_iast [cO m0 7 (.ref m1 :: .ref m2 :: x3 :: vI (ps - 1) :: vI rn :: xs), cA m1 G.2.1.1 718 (uZ U k (P (k + (718 * ps) - 718))), cA m2 G.2.1.1 2872 P] C dX7_undo_49 1 rfl k rfl (by omega) (by omega) (by omega) rfl ?_
          refine s_iinc [(1, vI (k + 1)), (0, .ref m0)] C dX7_undo_50 1 rfl (by decide) rfl ?_
          refine s_goto 22 C dX7_undo_53 (by decide) ?_
          refine s_lv [(0, .ref m0), (1, vI (k + 1))] [1, 0] rfl ?_
          exact ih_22 (k + 1) (uZ U k (P (k + (718 * ps) - 718))) (by omega) (by rw [hU]; funext j; simp only [uZ]; by_cases h1 : j = k; (· rw [if_pos h1, if_pos (by omega)]; congr 1; omega); (· rw [if_neg h1]; by_cases h2 : 0 ≤ j ∧ j < k; (· rw [if_pos h2, if_pos (by omega)]); (· rw [if_neg h2, if_neg (by omega)]))) (by omega)
    refine s_lv [(0, .ref m0), (1, vI 0)] [1, 0] rfl ?_
    exact loop_22 (718 - 0 + 1 : Int).toNat 0 f (by omega) (by funext j; rw [if_neg (by omega)]) (by omega)
  · refine s_ldc (z := -1000002) C (by decide +kernel) dX7_undo_7 ?_
    exact s_iret C E dX7_undo_9 ⟨(-1000002), f, ps, rfl, rfl, Or.inl ⟨by omega, rfl, rfl, rfl⟩⟩

set_option maxHeartbeats 4000000 in
set_option maxRecDepth 100000 in
theorem c_X7_type (l : Launch) (G : fG) (m0 m4 : Nat) (x1 x2 x3 x4 x5 : Value) (xs : List Value) (tx : Int → Int) (ty c : Int) (hty : 0 ≤ ty ∧ ty ≤ 60) (hc : -2147483648 ≤ c ∧ c < 2147483648) : fCt l G yX7_type wsX7_type 1 22 0 0 [.ref m0, vI c] [cO m0 7 (x1 :: x2 :: x3 :: x4 :: x5 :: .ref m4 :: vI ty :: xs), cA m4 G.2.1.1 60 tx] (fun (v0 : Option Value) (w0 : va_W) => ∃ (z : Int) (tx2 : Int → Int) (ty2 : Int), v0 = some (vI z) ∧ w0 = [cO m0 7 (x1 :: x2 :: x3 :: x4 :: x5 :: .ref m4 :: vI ty2 :: xs), cA m4 G.2.1.1 60 tx2] ∧ ((¬ (32 ≤ c ∧ c ≤ 126) ∧ z = -1000001 ∧ tx2 = tx ∧ ty2 = ty) ∨ ((32 ≤ c ∧ c ≤ 126) ∧ ty = 60 ∧ z = -1000003 ∧ tx2 = tx ∧ ty2 = ty) ∨ ((32 ≤ c ∧ c ≤ 126) ∧ ty < 60 ∧ z = ty + 1 ∧ tx2 = uZ tx ty c ∧ ty2 = ty + 1))) := by
  refine fs_met (cc := cX7_type) (nL := 2) (ret := (some .int)) (by decide) rfl (Nat.le_of_ble_eq_true rfl) ?_
  intro X C E
  show fSt l G X 0 0 0 [(0, .ref m0), (1, vI c)] [] [cO m0 7 (x1 :: x2 :: x3 :: x4 :: x5 :: .ref m4 :: vI ty :: xs), cA m4 G.2.1.1 60 tx]
  have hinX7 : ∀ w ∈ u_ws RX7 TX7 14, w ∈ wsX7_type := by decide +kernel
  refine s_iload_n 1 C dX7_type_0 rfl 1 rfl ?_
  refine s_bipush (z := 32) C dX7_type_1 rfl ?_
  refine s_bipush (z := 126) C dX7_type_3 rfl ?_
  refine s_callS (As := [vI c, vI 32, vI 126]) (rest := []) C dX7_type_5 (c_X7_in l G c 32 126 (by first | assumption | omega) (by first | assumption | omega) (by first | assumption | omega)) gX7_type_X7_in rfl 3 (by decide +kernel) (by decide) [] rfl (by decide) rfl (Nat.le_of_ble_eq_true rfl) ⟨Nat.zero_le _, Nat.zero_le _⟩ ?_
  intro v0 w0 hq
  obtain ⟨rfl, rfl⟩ := hq
  refine ⟨rfl, ?_⟩
  show fSt l G X 0 0 8 [(0, .ref m0), (1, vI c)] [vI (bI (32 ≤ c ∧ c ≤ 126))] [cO m0 7 (x1 :: x2 :: x3 :: x4 :: x5 :: .ref m4 :: vI ty :: xs), cA m4 G.2.1.1 60 tx]
  refine s_if_ne 14 C dX7_type_8 (by decide) bI_rng (fun h_8 => ?_) (fun h_8 => ?_)
  · have h_8 := bI_t h_8
    refine s_aload_n 0 C dX7_type_14 rfl 0 rfl ?_
    refine s_get C dX7_type_15 7 rfl hinX7 0 rfl 6 (by decide) (by decide +kernel) rfl ?_
    refine s_bipush (z := 60) C dX7_type_18 rfl ?_
    refine s_icmp_ne 26 C dX7_type_20 (by decide) (by omega) (by omega) (fun h_20 => ?_) (fun h_20 => ?_)
    · refine s_aload_n 0 C dX7_type_26 rfl 0 rfl ?_
      refine s_get C dX7_type_27 7 rfl hinX7 0 rfl 5 (by decide) (by decide +kernel) rfl ?_
      refine s_aload_n 0 C dX7_type_30 rfl 0 rfl ?_
      refine s_get C dX7_type_31 7 rfl hinX7 0 rfl 6 (by decide) (by decide +kernel) rfl ?_
      refine s_iload_n 1 C dX7_type_34 rfl 1 rfl ?_
      refine s_iast [cO m0 7 (x1 :: x2 :: x3 :: x4 :: x5 :: .ref m4 :: vI ty :: xs), cA m4 G.2.1.1 60 (uZ tx ty c)] C dX7_type_35 1 rfl ty rfl (by omega) (by omega) (by omega) rfl ?_
      refine s_aload_n 0 C dX7_type_36 rfl 0 rfl ?_
      refine s_dup C dX7_type_37 rfl ?_
      refine s_get C dX7_type_38 7 rfl hinX7 0 rfl 6 (by decide) (by decide +kernel) rfl ?_
      refine s_iconst C dX7_type_41 ?_
      refine s_iadd C dX7_type_42 ?_
      refine s_put [cO m0 7 (x1 :: x2 :: x3 :: x4 :: x5 :: .ref m4 :: vI (ty + 1) :: xs), cA m4 G.2.1.1 60 (uZ tx ty c)] C dX7_type_43 7 rfl hinX7 tyX7 tyX7_ok nmX7 0 rfl 6 (by decide) (by decide +kernel) rfl rfl rfl (Nat.le_of_ble_eq_true rfl) rfl ?_
      refine s_aload_n 0 C dX7_type_46 rfl 0 rfl ?_
      refine s_get C dX7_type_47 7 rfl hinX7 0 rfl 6 (by decide) (by decide +kernel) rfl ?_
      exact s_iret C E dX7_type_50 ⟨(ty + 1), (uZ tx ty c), (ty + 1), rfl, rfl, Or.inr (Or.inr ⟨by omega, by omega, rfl, rfl, rfl⟩)⟩
    · refine s_ldc (z := -1000003) C (by decide +kernel) dX7_type_23 ?_
      exact s_iret C E dX7_type_25 ⟨(-1000003), tx, ty, rfl, rfl, Or.inr (Or.inl ⟨by omega, by omega, rfl, rfl, rfl⟩)⟩
  · have h_8 := bI_f h_8
    refine s_ldc (z := -1000001) C (by decide +kernel) dX7_type_11 ?_
    exact s_iret C E dX7_type_13 ⟨(-1000001), tx, ty, rfl, rfl, Or.inl ⟨by omega, rfl, rfl, rfl⟩⟩

set_option maxHeartbeats 4000000 in
set_option maxRecDepth 100000 in
theorem c_X7_clearText (l : Launch) (G : fG) (m0 m4 : Nat) (x1 x2 x3 x4 x5 : Value) (xs : List Value) (tx : Int → Int) (ty : Int)  : fCt l G yX7_clearText wsX7_clearText 0 0 0 0 [.ref m0] [cO m0 7 (x1 :: x2 :: x3 :: x4 :: x5 :: .ref m4 :: vI ty :: xs), cA m4 G.2.1.1 60 tx] (fun (v0 : Option Value) (w0 : va_W) => v0 = some (vI ty) ∧ w0 = [cO m0 7 (x1 :: x2 :: x3 :: x4 :: x5 :: .ref m4 :: vI 0 :: xs), cA m4 G.2.1.1 60 tx]) := by
  refine fs_met (cc := cX7_clearText) (nL := 2) (ret := (some .int)) (by decide) rfl (Nat.le_of_ble_eq_true rfl) ?_
  intro X C E
  show fSt l G X 0 0 0 [(0, .ref m0)] [] [cO m0 7 (x1 :: x2 :: x3 :: x4 :: x5 :: .ref m4 :: vI ty :: xs), cA m4 G.2.1.1 60 tx]
  have hinX7 : ∀ w ∈ u_ws RX7 TX7 14, w ∈ wsX7_clearText := by decide +kernel
  refine s_aload_n 0 C dX7_clearText_0 rfl 0 rfl ?_
  refine s_get C dX7_clearText_1 7 rfl hinX7 0 rfl 6 (by decide) (by decide +kernel) rfl ?_
  refine s_istore_n 1 [(1, vI ty), (0, .ref m0)] C dX7_clearText_4 rfl (by decide) rfl ?_
  refine s_aload_n 0 C dX7_clearText_5 rfl 1 rfl ?_
  refine s_iconst C dX7_clearText_6 ?_
  refine s_put [cO m0 7 (x1 :: x2 :: x3 :: x4 :: x5 :: .ref m4 :: vI 0 :: xs), cA m4 G.2.1.1 60 tx] C dX7_clearText_7 7 rfl hinX7 tyX7 tyX7_ok nmX7 0 rfl 6 (by decide) (by decide +kernel) rfl rfl rfl (Nat.le_of_ble_eq_true rfl) rfl ?_
  refine s_iload_n 1 C dX7_clearText_10 rfl 0 rfl ?_
  exact s_iret C E dX7_clearText_11 ⟨rfl, rfl⟩

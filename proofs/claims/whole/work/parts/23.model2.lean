set_option maxHeartbeats 4000000 in
set_option maxRecDepth 100000 in
theorem c_X7_changes (l : Launch) (G : fG) (m0 m1 m2 : Nat) (x3 : Value) (xs : List Value) (f P : Int → Int) (ps rn : Int) (hps : 0 ≤ ps ∧ ps ≤ 4) (hrn : rn = 0 ∨ rn = 1) : fCt l G yX7_changes wsX7_changes 0 0 0 0 [.ref m0] [cO m0 7 (.ref m1 :: .ref m2 :: x3 :: vI ps :: vI rn :: xs), cA m1 G.2.1.1 718 f, cA m2 G.2.1.1 2872 P] (fun (v0 : Option Value) (w0 : va_W) => v0 = none ∧ w0 = [cO m0 7 (.ref m1 :: .ref m2 :: x3 :: vI (chN rn ps) :: vI rn :: xs), cA m1 G.2.1.1 718 f, cA m2 G.2.1.1 2872 (chP rn P ps f)]) := by
  refine fs_met (cc := cX7_changes) (nL := 2) (ret := none) (by decide) rfl (Nat.le_of_ble_eq_true rfl) ?_
  intro X C E
  show fSt l G X 0 0 0 [(0, .ref m0)] [] [cO m0 7 (.ref m1 :: .ref m2 :: x3 :: vI ps :: vI rn :: xs), cA m1 G.2.1.1 718 f, cA m2 G.2.1.1 2872 P]
  have hinX7 : ∀ w ∈ u_ws RX7 TX7 14, w ∈ wsX7_changes := by decide +kernel
  refine s_aload_n 0 C dX7_changes_0 rfl 0 rfl ?_
  refine s_get C dX7_changes_1 7 rfl hinX7 0 rfl 4 (by decide) (by decide +kernel) rfl ?_
  refine s_if_eq 8 C dX7_changes_4 (by decide) (by omega) (fun h_4 => ?_) (fun h_4 => ?_)
  · refine s_aload_n 0 C dX7_changes_8 rfl 0 rfl ?_
    refine s_get C dX7_changes_9 7 rfl hinX7 0 rfl 3 (by decide) (by decide +kernel) rfl ?_
    refine s_iconst C dX7_changes_12 ?_
    refine s_icmp_ne 57 C dX7_changes_13 (by decide) (by omega) (by omega) (fun h_13 => ?_) (fun h_13 => ?_)
    · refine s_iconst C dX7_changes_57 ?_
      refine s_istore_n 1 [(1, vI 0), (0, .ref m0)] C dX7_changes_58 rfl (by decide) rfl ?_
      have loop_59 : ∀ (fuel : Nat) (k : Int) (U9 : Int → Int), (0 ≤ k ∧ k ≤ 718) → (U9 = fun j => if 718 * (ps) ≤ j ∧ j < 718 * (ps) + k then f (j - 718 * (ps)) else P j) → (718 - k < (fuel : Int)) → fSt l G X 0 0 59 [(0, .ref m0), (1, vI k)] [] [cO m0 7 (.ref m1 :: .ref m2 :: x3 :: vI ps :: vI rn :: xs), cA m1 G.2.1.1 718 f, cA m2 G.2.1.1 2872 U9] := by
        intro fuel
        induction fuel with
        | zero =>
          intro k U9 hk hU hm
          exfalso
          omega
        | succ fuel ih_59 =>
          intro k U9 hk hU hm
          refine s_iload_n 1 C dX7_changes_59 rfl 1 rfl ?_
          refine s_sipush (z := 718) C dX7_changes_60 rfl ?_
          refine s_icmp_ge 93 C dX7_changes_63 (by decide) (by omega) (by omega) (fun h_63 => ?_) (fun h_63 => ?_)
          · refine s_aload_n 0 C dX7_changes_93 rfl 0 rfl ?_
            refine s_dup C dX7_changes_94 rfl ?_
            refine s_get C dX7_changes_95 7 rfl hinX7 0 rfl 3 (by decide) (by decide +kernel) rfl ?_
            refine s_iconst C dX7_changes_98 ?_
            refine s_iadd C dX7_changes_99 ?_
            refine s_put [cO m0 7 (.ref m1 :: .ref m2 :: x3 :: vI (ps + 1) :: vI rn :: xs), cA m1 G.2.1.1 718 f, cA m2 G.2.1.1 2872 U9] C dX7_changes_100 7 rfl hinX7 tyX7 tyX7_ok nmX7 0 rfl 3 (by decide) (by decide +kernel) rfl rfl rfl (Nat.le_of_ble_eq_true rfl) rfl ?_
            refine s_agr [cO m0 7 (.ref m1 :: .ref m2 :: x3 :: vI (ps + 1) :: vI rn :: xs), cA m1 G.2.1.1 718 f, cA m2 G.2.1.1 2872 (chP rn P ps f)] 2 rfl (chP rn P ps f) (fun j h0 h1 => by rw [chP, if_pos h_4, hU]; exact ch_a h_13 (by omega) j) rfl ?_
            have ech : ps + 1 = chN rn ps := by rw [chN, if_pos h_4, pQ]; split <;> omega
            rw [ech]
            exact s_vret C E dX7_changes_103 ⟨rfl, rfl⟩
          · refine s_aload_n 0 C dX7_changes_66 rfl 0 rfl ?_
            refine s_get C dX7_changes_67 7 rfl hinX7 0 rfl 1 (by decide) (by decide +kernel) rfl ?_
            refine s_sipush (z := 718) C dX7_changes_70 rfl ?_
            refine s_aload_n 0 C dX7_changes_73 rfl 0 rfl ?_
            refine s_get C dX7_changes_74 7 rfl hinX7 0 rfl 3 (by decide) (by decide +kernel) rfl ?_
            refine s_imul C dX7_changes_77 ?_
            refine s_iload_n 1 C dX7_changes_78 rfl 1 rfl ?_
            refine s_iadd C dX7_changes_79 ?_
            refine s_aload_n 0 C dX7_changes_80 rfl 0 rfl ?_
            refine s_get C dX7_changes_81 7 rfl hinX7 0 rfl 0 (by decide) (by decide +kernel) rfl ?_
            refine s_iload_n 1 C dX7_changes_84 rfl 1 rfl ?_
            refine s_iald C dX7_changes_85 1 rfl k rfl (by omega) (by omega) (by omega) ?_
            refine s_iast [cO m0 7 (.ref m1 :: .ref m2 :: x3 :: vI ps :: vI rn :: xs), cA m1 G.2.1.1 718 f, cA m2 G.2.1.1 2872 (uZ U9 (k + (718 * ps)) (f k))] C dX7_changes_86 2 rfl (k + (718 * ps)) (by omega) (by omega) (by omega) (by omega) rfl ?_
            refine s_iinc [(1, vI (k + 1)), (0, .ref m0)] C dX7_changes_87 1 rfl (by decide) rfl ?_
            refine s_goto 59 C dX7_changes_90 (by decide) ?_
            refine s_lv [(0, .ref m0), (1, vI (k + 1))] [1, 0] rfl ?_
            exact ih_59 (k + 1) (uZ U9 (k + (718 * ps)) (f k)) (by omega) (by rw [hU]; funext j; simp only [uZ]; by_cases h1 : j = k + (718 * ps); (· rw [if_pos h1, if_pos (by omega)]; congr 1; omega); (· rw [if_neg h1]; by_cases h2 : 718 * (ps) ≤ j ∧ j < 718 * (ps) + k; (· rw [if_pos h2, if_pos (by omega)]); (· rw [if_neg h2, if_neg (by omega)]))) (by omega)
      refine s_lv [(0, .ref m0), (1, vI 0)] [1, 0] rfl ?_
      exact loop_59 (718 - 0 + 1 : Int).toNat 0 P (by omega) (by funext j; rw [if_neg (by omega)]) (by omega)
    · refine s_iconst C dX7_changes_16 ?_
      refine s_istore_n 1 [(1, vI 0), (0, .ref m0)] C dX7_changes_17 rfl (by decide) rfl ?_
      have loop_18 : ∀ (fuel : Nat) (k : Int) (U : Int → Int), (0 ≤ k ∧ k ≤ 2154) → (U = fun j => if 0 ≤ j ∧ j < k then P (j + 718) else P j) → (2154 - k < (fuel : Int)) → fSt l G X 0 0 18 [(0, .ref m0), (1, vI k)] [] [cO m0 7 (.ref m1 :: .ref m2 :: x3 :: vI ps :: vI rn :: xs), cA m1 G.2.1.1 718 f, cA m2 G.2.1.1 2872 U] := by
        intro fuel
        induction fuel with
        | zero =>
          intro k U hk hU1 hm
          exfalso
          omega
        | succ fuel ih_18 =>
          intro k U hk hU1 hm
          refine s_iload_n 1 C dX7_changes_18 rfl 1 rfl ?_
          refine s_sipush (z := 2154) C dX7_changes_19 rfl ?_
          refine s_icmp_ge 47 C dX7_changes_22 (by decide) (by omega) (by omega) (fun h_22 => ?_) (fun h_22 => ?_)
          · refine s_aload_n 0 C dX7_changes_47 rfl 0 rfl ?_
            refine s_dup C dX7_changes_48 rfl ?_
            refine s_get C dX7_changes_49 7 rfl hinX7 0 rfl 3 (by decide) (by decide +kernel) rfl ?_
            refine s_iconst C dX7_changes_52 ?_
            refine s_isub C dX7_changes_53 ?_
            refine s_put [cO m0 7 (.ref m1 :: .ref m2 :: x3 :: vI (ps - 1) :: vI rn :: xs), cA m1 G.2.1.1 718 f, cA m2 G.2.1.1 2872 U] C dX7_changes_54 7 rfl hinX7 tyX7 tyX7_ok nmX7 0 rfl 3 (by decide) (by decide +kernel) rfl rfl rfl (Nat.le_of_ble_eq_true rfl) rfl ?_
            refine s_iconst C dX7_changes_57 ?_
            refine s_istore_n 1 [(1, vI 0), (0, .ref m0)] C dX7_changes_58 rfl (by decide) rfl ?_
            have loop_59 : ∀ (fuel : Nat) (k : Int) (U9 : Int → Int), (0 ≤ k ∧ k ≤ 718) → (U9 = fun j => if 718 * (ps - 1) ≤ j ∧ j < 718 * (ps - 1) + k then f (j - 718 * (ps - 1)) else U j) → (718 - k < (fuel : Int)) → fSt l G X 0 0 59 [(0, .ref m0), (1, vI k)] [] [cO m0 7 (.ref m1 :: .ref m2 :: x3 :: vI (ps - 1) :: vI rn :: xs), cA m1 G.2.1.1 718 f, cA m2 G.2.1.1 2872 U9] := by
              intro fuel
              induction fuel with
              | zero =>
                intro k U9 hk hU hm
                exfalso
                omega
              | succ fuel ih_59 =>
                intro k U9 hk hU hm
                refine s_iload_n 1 C dX7_changes_59 rfl 1 rfl ?_
                refine s_sipush (z := 718) C dX7_changes_60 rfl ?_
                refine s_icmp_ge 93 C dX7_changes_63 (by decide) (by omega) (by omega) (fun h_63 => ?_) (fun h_63 => ?_)
                · refine s_aload_n 0 C dX7_changes_93 rfl 0 rfl ?_
                  refine s_dup C dX7_changes_94 rfl ?_
                  refine s_get C dX7_changes_95 7 rfl hinX7 0 rfl 3 (by decide) (by decide +kernel) rfl ?_
                  refine s_iconst C dX7_changes_98 ?_
                  refine s_iadd C dX7_changes_99 ?_
                  refine s_put [cO m0 7 (.ref m1 :: .ref m2 :: x3 :: vI (ps - 1 + 1) :: vI rn :: xs), cA m1 G.2.1.1 718 f, cA m2 G.2.1.1 2872 U9] C dX7_changes_100 7 rfl hinX7 tyX7 tyX7_ok nmX7 0 rfl 3 (by decide) (by decide +kernel) rfl rfl rfl (Nat.le_of_ble_eq_true rfl) rfl ?_
                  refine s_agr [cO m0 7 (.ref m1 :: .ref m2 :: x3 :: vI (ps - 1 + 1) :: vI rn :: xs), cA m1 G.2.1.1 718 f, cA m2 G.2.1.1 2872 (chP rn P ps f)] 2 rfl (chP rn P ps f) (fun j h0 h1 => by rw [chP, if_pos h_4, hU]; refine ch_b h_13 (by omega) ?_; rw [hU1]; by_cases h3 : j < 2154; (· rw [if_pos h3]; exact if_pos (by omega)); (· rw [if_neg h3]; exact if_neg (by omega))) rfl ?_
                  have ech : ps - 1 + 1 = chN rn ps := by rw [chN, if_pos h_4, pQ]; split <;> omega
                  rw [ech]
                  exact s_vret C E dX7_changes_103 ⟨rfl, rfl⟩
                · refine s_aload_n 0 C dX7_changes_66 rfl 0 rfl ?_
                  refine s_get C dX7_changes_67 7 rfl hinX7 0 rfl 1 (by decide) (by decide +kernel) rfl ?_
                  refine s_sipush (z := 718) C dX7_changes_70 rfl ?_
                  refine s_aload_n 0 C dX7_changes_73 rfl 0 rfl ?_
                  refine s_get C dX7_changes_74 7 rfl hinX7 0 rfl 3 (by decide) (by decide +kernel) rfl ?_
                  refine s_imul C dX7_changes_77 ?_
                  refine s_iload_n 1 C dX7_changes_78 rfl 1 rfl ?_
                  refine s_iadd C dX7_changes_79 ?_
                  refine s_aload_n 0 C dX7_changes_80 rfl 0 rfl ?_
                  refine s_get C dX7_changes_81 7 rfl hinX7 0 rfl 0 (by decide) (by decide +kernel) rfl ?_
                  refine s_iload_n 1 C dX7_changes_84 rfl 1 rfl ?_
                  refine s_iald C dX7_changes_85 1 rfl k rfl (by omega) (by omega) (by omega) ?_
                  refine s_iast [cO m0 7 (.ref m1 :: .ref m2 :: x3 :: vI (ps - 1) :: vI rn :: xs), cA m1 G.2.1.1 718 f, cA m2 G.2.1.1 2872 (uZ U9 (k + (718 * ps) - 718) (f k))] C dX7_changes_86 2 rfl (k + (718 * ps) - 718) (by omega) (by omega) (by omega) (by omega) rfl ?_
                  refine s_iinc [(1, vI (k + 1)), (0, .ref m0)] C dX7_changes_87 1 rfl (by decide) rfl ?_
                  refine s_goto 59 C dX7_changes_90 (by decide) ?_
                  refine s_lv [(0, .ref m0), (1, vI (k + 1))] [1, 0] rfl ?_
                  exact ih_59 (k + 1) (uZ U9 (k + (718 * ps) - 718) (f k)) (by omega) (by rw [hU]; funext j; simp only [uZ]; by_cases h1 : j = k + (718 * ps) - 718; (· rw [if_pos h1, if_pos (by omega)]; congr 1; omega); (· rw [if_neg h1]; by_cases h2 : 718 * (ps - 1) ≤ j ∧ j < 718 * (ps - 1) + k; (· rw [if_pos h2, if_pos (by omega)]); (· rw [if_neg h2, if_neg (by omega)]))) (by omega)
            refine s_lv [(0, .ref m0), (1, vI 0)] [1, 0] rfl ?_
            exact loop_59 (718 - 0 + 1 : Int).toNat 0 U (by omega) (by funext j; rw [if_neg (by omega)]) (by omega)
          · refine s_aload_n 0 C dX7_changes_25 rfl 0 rfl ?_
            refine s_get C dX7_changes_26 7 rfl hinX7 0 rfl 1 (by decide) (by decide +kernel) rfl ?_
            refine s_iload_n 1 C dX7_changes_29 rfl 1 rfl ?_
            refine s_aload_n 0 C dX7_changes_30 rfl 0 rfl ?_
            refine s_get C dX7_changes_31 7 rfl hinX7 0 rfl 1 (by decide) (by decide +kernel) rfl ?_
            refine s_iload_n 1 C dX7_changes_34 rfl 1 rfl ?_
            refine s_sipush (z := 718) C dX7_changes_35 rfl ?_
            refine s_iadd C dX7_changes_38 ?_
            refine s_iald C dX7_changes_39 2 rfl (k + 718) rfl (by omega) (by omega) (by omega) ?_
            refine s_iast [cO m0 7 (.ref m1 :: .ref m2 :: x3 :: vI ps :: vI rn :: xs), cA m1 G.2.1.1 718 f, cA m2 G.2.1.1 2872 (uZ U k (U (k + 718)))] C dX7_changes_40 2 rfl k rfl (by omega) (by omega) (by omega) rfl ?_
            refine s_iinc [(1, vI (k + 1)), (0, .ref m0)] C dX7_changes_41 1 rfl (by decide) rfl ?_
            refine s_goto 18 C dX7_changes_44 (by decide) ?_
            refine s_lv [(0, .ref m0), (1, vI (k + 1))] [1, 0] rfl ?_
            exact ih_18 (k + 1) (uZ U k (U (k + 718))) (by omega) (by have e9 : U (k + 718) = P (k + 718) := (by rw [hU1]; exact if_neg (by omega)); rw [e9, hU1]; funext j; simp only [uZ]; by_cases h1 : j = k; (· rw [if_pos h1, if_pos (by omega), h1]); (· rw [if_neg h1]; by_cases h2 : 0 ≤ j ∧ j < k; (· rw [if_pos h2, if_pos (by omega)]); (· rw [if_neg h2, if_neg (by omega)]))) (by omega)
      refine s_lv [(0, .ref m0), (1, vI 0)] [1, 0] rfl ?_
      exact loop_18 (2154 - 0 + 1 : Int).toNat 0 P (by omega) (by funext j; rw [if_neg (by omega)]) (by omega)
  · exact s_vret C E dX7_changes_7 ⟨rfl, by rw [chP, chN, if_neg h_4, if_neg h_4]⟩

set_option maxHeartbeats 4000000 in
set_option maxRecDepth 100000 in
theorem c_X7_bar (l : Launch) (G : fG) (m0 m1 : Nat) (xs : List Value) (f : Int → Int) (k : Int) (hf : rF f) (hk : -2147483648 ≤ k ∧ k < 2147483648) : fCt l G yX7_bar wsX7_bar 2 42 0 0 [.ref m0, vI k] [cO m0 7 (.ref m1 :: xs), cA m1 G.2.1.1 718 f] (fun (v0 : Option Value) (w0 : va_W) => v0 = some (vI (sp_bar f k)) ∧ w0 = [cO m0 7 (.ref m1 :: xs), cA m1 G.2.1.1 718 f]) := by
  refine fs_met (cc := cX7_bar) (nL := 2) (ret := (some .int)) (by decide) rfl (Nat.le_of_ble_eq_true rfl) ?_
  intro X C E
  show fSt l G X 0 0 0 [(0, .ref m0), (1, vI k)] [] [cO m0 7 (.ref m1 :: xs), cA m1 G.2.1.1 718 f]
  have hinX7 : ∀ w ∈ u_ws RX7 TX7 14, w ∈ wsX7_bar := by decide +kernel
  refine s_iload_n 1 C dX7_bar_0 rfl 1 rfl ?_
  refine s_callS (As := [vI k]) (rest := []) C dX7_bar_1 (c_X7_isSlot l G k (by first | assumption | omega)) gX7_bar_X7_isSlot rfl 1 (by decide +kernel) (by decide) [] rfl (by decide) rfl (Nat.le_of_ble_eq_true rfl) ⟨Nat.zero_le _, Nat.zero_le _⟩ ?_
  intro v0 w0 hq
  obtain ⟨rfl, rfl⟩ := hq
  refine ⟨rfl, ?_⟩
  show fSt l G X 0 0 4 [(0, .ref m0), (1, vI k)] [vI (bI (0 ≤ k ∧ k ≤ 2))] [cO m0 7 (.ref m1 :: xs), cA m1 G.2.1.1 718 f]
  refine s_if_ne 12 C dX7_bar_4 (by decide) bI_rng (fun h_4 => ?_) (fun h_4 => ?_)
  · have h_4 := bI_t h_4
    refine s_aload_n 0 C dX7_bar_12 rfl 0 rfl ?_
    refine s_get C dX7_bar_13 7 rfl hinX7 0 rfl 0 (by decide) (by decide +kernel) rfl ?_
    refine s_bipush (z := 9) C dX7_bar_16 rfl ?_
    refine s_iload_n 1 C dX7_bar_18 rfl 1 rfl ?_
    refine s_iadd C dX7_bar_19 ?_
    refine s_iald C dX7_bar_20 1 rfl (k + 9) (by omega) (by omega) (by omega) (by omega) ?_
    refine s_if_ne 29 C dX7_bar_21 (by decide) (hf _) (fun h_21 => ?_) (fun h_21 => ?_)
    · refine s_aload_n 0 C dX7_bar_29 rfl 0 rfl ?_
      refine s_get C dX7_bar_30 7 rfl hinX7 0 rfl 0 (by decide) (by decide +kernel) rfl ?_
      refine s_iconst C dX7_bar_33 ?_
      refine s_iald C dX7_bar_34 1 rfl 0 rfl (by omega) (by omega) (by omega) ?_
      refine s_bipush (z := 100) C dX7_bar_35 rfl ?_
      refine s_icmp_ne 45 C dX7_bar_37 (by decide) (hf _) (by omega) (fun h_37 => ?_) (fun h_37 => ?_)
      · refine s_iconst C dX7_bar_45 ?_
        exact s_iret C E dX7_bar_46 ⟨congrArg (fun z => some (vI z)) (by rw [sp_bar, if_pos h_4, if_neg h_21, if_neg h_37]), rfl⟩
      · refine s_ldc (z := -1000003) C (by decide +kernel) dX7_bar_40 ?_
        refine s_goto 46 C dX7_bar_42 (by decide) ?_
        exact s_iret C E dX7_bar_46 ⟨congrArg (fun z => some (vI z)) (by rw [sp_bar, if_pos h_4, if_neg h_21, if_pos h_37]), rfl⟩
    · refine s_ldc (z := -1000002) C (by decide +kernel) dX7_bar_24 ?_
      refine s_goto 46 C dX7_bar_26 (by decide) ?_
      exact s_iret C E dX7_bar_46 ⟨congrArg (fun z => some (vI z)) (by rw [sp_bar, if_pos h_4, if_pos h_21]), rfl⟩
  · have h_4 := bI_f h_4
    refine s_ldc (z := -1000001) C (by decide +kernel) dX7_bar_7 ?_
    refine s_goto 46 C dX7_bar_9 (by decide) ?_
    exact s_iret C E dX7_bar_46 ⟨congrArg (fun z => some (vI z)) (by rw [sp_bar, if_neg h_4]), rfl⟩

set_option maxHeartbeats 4000000 in
set_option maxRecDepth 100000 in
theorem c_X7_open (l : Launch) (G : fG) (m0 m1 m2 : Nat) (x3 : Value) (xs : List Value) (f P : Int → Int) (ps rn k : Int) (hps : 0 ≤ ps ∧ ps ≤ 4) (hrn : rn = 0 ∨ rn = 1) (hf : rF f) (hk : -2147483648 ≤ k ∧ k < 2147483648) (h3 : 0 ≤ f 3) : fCt l G yX7_open wsX7_open 2 42 0 0 [.ref m0, vI k] [cO m0 7 (.ref m1 :: .ref m2 :: x3 :: vI ps :: vI rn :: xs), cA m1 G.2.1.1 718 f, cA m2 G.2.1.1 2872 P] (fun (v0 : Option Value) (w0 : va_W) => ∃ (z : Int) (f2 P2 : Int → Int) (ps2 : Int), v0 = some (vI z) ∧ w0 = [cO m0 7 (.ref m1 :: .ref m2 :: x3 :: vI ps2 :: vI rn :: xs), cA m1 G.2.1.1 718 f2, cA m2 G.2.1.1 2872 P2] ∧ ((z, f2) = sp_open f k) ∧ (P2 = if z < 0 then P else chP rn P ps f) ∧ (ps2 = if z < 0 then ps else chN rn ps)) := by
  refine fs_met (cc := cX7_open) (nL := 2) (ret := (some .int)) (by decide) rfl (Nat.le_of_ble_eq_true rfl) ?_
  intro X C E
  show fSt l G X 0 0 0 [(0, .ref m0), (1, vI k)] [] [cO m0 7 (.ref m1 :: .ref m2 :: x3 :: vI ps :: vI rn :: xs), cA m1 G.2.1.1 718 f, cA m2 G.2.1.1 2872 P]
  have hinX7 : ∀ w ∈ u_ws RX7 TX7 14, w ∈ wsX7_open := by decide +kernel
  refine s_iload_n 1 C dX7_open_0 rfl 1 rfl ?_
  refine s_callS (As := [vI k]) (rest := []) C dX7_open_1 (c_X7_isSlot l G k (by first | assumption | omega)) gX7_open_X7_isSlot rfl 1 (by decide +kernel) (by decide) [] rfl (by decide) rfl (Nat.le_of_ble_eq_true rfl) ⟨Nat.zero_le _, Nat.zero_le _⟩ ?_
  intro v0 w0 hq
  obtain ⟨rfl, rfl⟩ := hq
  refine ⟨rfl, ?_⟩
  show fSt l G X 0 0 4 [(0, .ref m0), (1, vI k)] [vI (bI (0 ≤ k ∧ k ≤ 2))] [cO m0 7 (.ref m1 :: .ref m2 :: x3 :: vI ps :: vI rn :: xs), cA m1 G.2.1.1 718 f, cA m2 G.2.1.1 2872 P]
  refine s_if_ne 10 C dX7_open_4 (by decide) bI_rng (fun h_4 => ?_) (fun h_4 => ?_)
  · have h_4 := bI_t h_4
    refine s_aload_n 0 C dX7_open_10 rfl 0 rfl ?_
    refine s_get C dX7_open_11 7 rfl hinX7 0 rfl 0 (by decide) (by decide +kernel) rfl ?_
    refine s_bipush (z := 9) C dX7_open_14 rfl ?_
    refine s_iload_n 1 C dX7_open_16 rfl 1 rfl ?_
    refine s_iadd C dX7_open_17 ?_
    refine s_iald C dX7_open_18 1 rfl (k + 9) (by omega) (by omega) (by omega) (by omega) ?_
    refine s_if_le 25 C dX7_open_19 (by decide) (hf _) (fun h_19 => ?_) (fun h_19 => ?_)
    · refine s_aload_n 0 C dX7_open_25 rfl 0 rfl ?_
      refine s_callV (As := []) (rest := []) C dX7_open_26 (c_X7_changes l G m0 m1 m2 (x3) xs f P ps rn (by first | assumption | omega) (by first | assumption | omega)) gX7_open_X7_changes rfl 0 (by decide +kernel) (by decide) 0 7 rfl rfl rfl [0, 1, 2] rfl (by decide) rfl (Nat.le_of_ble_eq_true rfl) ⟨Nat.zero_le _, Nat.zero_le _⟩ ?_
      intro v0 w0 hq
      obtain ⟨rfl, rfl⟩ := hq
      refine ⟨rfl, ?_⟩
      show fSt l G X 0 0 29 [(0, .ref m0), (1, vI k)] [] [cO m0 7 (.ref m1 :: .ref m2 :: x3 :: vI (chN rn ps) :: vI rn :: xs), cA m1 G.2.1.1 718 f, cA m2 G.2.1.1 2872 (chP rn P ps f)]
      refine s_aload_n 0 C dX7_open_29 rfl 0 rfl ?_
      refine s_get C dX7_open_30 7 rfl hinX7 0 rfl 0 (by decide) (by decide +kernel) rfl ?_
      refine s_iconst C dX7_open_33 ?_
      refine s_dup2 C dX7_open_34 rfl rfl ?_
      refine s_iald C dX7_open_35 1 rfl 3 rfl (by omega) (by omega) (by omega) ?_
      refine s_iconst C dX7_open_36 ?_
      refine s_iadd C dX7_open_37 ?_
      refine s_iast [cO m0 7 (.ref m1 :: .ref m2 :: x3 :: vI (chN rn ps) :: vI rn :: xs), cA m1 G.2.1.1 718 (uZ f 3 ((f 3) + 1)), cA m2 G.2.1.1 2872 (chP rn P ps f)] C dX7_open_38 1 rfl 3 rfl (by omega) (by omega) (by omega) rfl ?_
      refine s_aload_n 0 C dX7_open_39 rfl 0 rfl ?_
      refine s_get C dX7_open_40 7 rfl hinX7 0 rfl 0 (by decide) (by decide +kernel) rfl ?_
      refine s_bipush (z := 9) C dX7_open_43 rfl ?_
      refine s_iload_n 1 C dX7_open_45 rfl 1 rfl ?_
      refine s_iadd C dX7_open_46 ?_
      refine s_aload_n 0 C dX7_open_47 rfl 0 rfl ?_
      refine s_get C dX7_open_48 7 rfl hinX7 0 rfl 0 (by decide) (by decide +kernel) rfl ?_
      refine s_iconst C dX7_open_51 ?_
      refine s_iald C dX7_open_52 1 rfl 3 rfl (by omega) (by omega) (by omega) ?_
      refine s_top ((f 3) + 1) uZ_s ?_
      refine s_iast [cO m0 7 (.ref m1 :: .ref m2 :: x3 :: vI (chN rn ps) :: vI rn :: xs), cA m1 G.2.1.1 718 (uZ (uZ f 3 ((f 3) + 1)) (k + 9) ((f 3) + 1)), cA m2 G.2.1.1 2872 (chP rn P ps f)] C dX7_open_53 1 rfl (k + 9) (by omega) (by omega) (by omega) (by omega) rfl ?_
      refine s_aload_n 0 C dX7_open_54 rfl 0 rfl ?_
      refine s_get C dX7_open_55 7 rfl hinX7 0 rfl 0 (by decide) (by decide +kernel) rfl ?_
      refine s_iconst C dX7_open_58 ?_
      refine s_iald C dX7_open_59 1 rfl 3 rfl (by omega) (by omega) (by omega) ?_
      refine s_top ((uZ f 3 ((f 3) + 1)) 3) (uZ_n (by omega)) ?_
      refine s_top ((f 3) + 1) uZ_s ?_
      exact s_iret C E dX7_open_60 ⟨((f 3) + 1), (uZ (uZ f 3 ((f 3) + 1)) (k + 9) ((f 3) + 1)), (chP rn P ps f), (chN rn ps), rfl, rfl, (by rw [sp_open, if_pos (by omega), if_neg (by omega)]), (if_neg (by omega)).symm, (if_neg (by omega)).symm⟩
    · refine s_ldc (z := -1000002) C (by decide +kernel) dX7_open_22 ?_
      exact s_iret C E dX7_open_24 ⟨(-1000002), f, P, ps, rfl, rfl, (by rw [sp_open, if_pos (by omega), if_pos (by omega)]), (if_pos (by omega)).symm, (if_pos (by omega)).symm⟩
  · have h_4 := bI_f h_4
    refine s_ldc (z := -1000001) C (by decide +kernel) dX7_open_7 ?_
    exact s_iret C E dX7_open_9 ⟨(-1000001), f, P, ps, rfl, rfl, (by rw [sp_open, if_neg (by omega)]), (if_pos (by omega)).symm, (if_pos (by omega)).symm⟩

set_option maxHeartbeats 4000000 in
set_option maxRecDepth 100000 in
theorem c_X7_writes (l : Launch) (G : fG) (m0 m1 m2 : Nat) (x3 : Value) (xs : List Value) (f P : Int → Int) (ps rn kd k y x : Int) (hps : 0 ≤ ps ∧ ps ≤ 4) (hrn : rn = 0 ∨ rn = 1) (hk : 0 ≤ k ∧ k ≤ 2) (h0 : 0 ≤ f 0 ∧ f 0 ≤ 99) (hkd : 0 ≤ kd ∧ kd ≤ 2) : fCt l G yX7_writes wsX7_writes 1 21 0 0 [.ref m0, vI kd, vI k, vI y, vI x] [cO m0 7 (.ref m1 :: .ref m2 :: x3 :: vI ps :: vI rn :: xs), cA m1 G.2.1.1 718 f, cA m2 G.2.1.1 2872 P] (fun (v0 : Option Value) (w0 : va_W) => v0 = some (vI ((f 0) + 1)) ∧ w0 = [cO m0 7 (.ref m1 :: .ref m2 :: x3 :: vI (chN rn ps) :: vI rn :: xs), cA m1 G.2.1.1 718 (sp_write f kd k y x), cA m2 G.2.1.1 2872 (chP rn P ps f)]) := by
  refine fs_met (cc := cX7_writes) (nL := 6) (ret := (some .int)) (by decide) rfl (Nat.le_of_ble_eq_true rfl) ?_
  intro X C E
  show fSt l G X 0 0 0 [(0, .ref m0), (1, vI kd), (2, vI k), (3, vI y), (4, vI x)] [] [cO m0 7 (.ref m1 :: .ref m2 :: x3 :: vI ps :: vI rn :: xs), cA m1 G.2.1.1 718 f, cA m2 G.2.1.1 2872 P]
  have hinX7 : ∀ w ∈ u_ws RX7 TX7 14, w ∈ wsX7_writes := by decide +kernel
  refine s_aload_n 0 C dX7_writes_0 rfl 0 rfl ?_
  refine s_callV (As := []) (rest := []) C dX7_writes_1 (c_X7_changes l G m0 m1 m2 (x3) xs f P ps rn (by first | assumption | omega) (by first | assumption | omega)) gX7_writes_X7_changes rfl 0 (by decide +kernel) (by decide) 0 7 rfl rfl rfl [0, 1, 2] rfl (by decide) rfl (Nat.le_of_ble_eq_true rfl) ⟨Nat.zero_le _, Nat.zero_le _⟩ ?_
  intro v0 w0 hq
  obtain ⟨rfl, rfl⟩ := hq
  refine ⟨rfl, ?_⟩
  show fSt l G X 0 0 4 [(0, .ref m0), (1, vI kd), (2, vI k), (3, vI y), (4, vI x)] [] [cO m0 7 (.ref m1 :: .ref m2 :: x3 :: vI (chN rn ps) :: vI rn :: xs), cA m1 G.2.1.1 718 f, cA m2 G.2.1.1 2872 (chP rn P ps f)]
  refine s_aload_n 0 C dX7_writes_4 rfl 0 rfl ?_
  refine s_get C dX7_writes_5 7 rfl hinX7 0 rfl 0 (by decide) (by decide +kernel) rfl ?_
  refine s_iconst C dX7_writes_8 ?_
  refine s_dup2 C dX7_writes_9 rfl rfl ?_
  refine s_iald C dX7_writes_10 1 rfl 0 rfl (by omega) (by omega) (by omega) ?_
  refine s_iconst C dX7_writes_11 ?_
  refine s_iadd C dX7_writes_12 ?_
  refine s_iast [cO m0 7 (.ref m1 :: .ref m2 :: x3 :: vI (chN rn ps) :: vI rn :: xs), cA m1 G.2.1.1 718 (uZ f 0 ((f 0) + 1)), cA m2 G.2.1.1 2872 (chP rn P ps f)] C dX7_writes_13 1 rfl 0 rfl (by omega) (by omega) (by omega) rfl ?_
  refine s_sipush (z := 218) C dX7_writes_14 rfl ?_
  refine s_iconst C dX7_writes_17 ?_
  refine s_aload_n 0 C dX7_writes_18 rfl 0 rfl ?_
  refine s_get C dX7_writes_19 7 rfl hinX7 0 rfl 0 (by decide) (by decide +kernel) rfl ?_
  refine s_iconst C dX7_writes_22 ?_
  refine s_iald C dX7_writes_23 1 rfl 0 rfl (by omega) (by omega) (by omega) ?_
  refine s_top ((f 0) + 1) uZ_s ?_
  refine s_imul C dX7_writes_24 ?_
  refine s_iadd C dX7_writes_25 ?_
  refine s_iconst C dX7_writes_26 ?_
  refine s_isub C dX7_writes_27 ?_
  refine s_istore [(5, vI (218 + (5 * ((f 0) + 1)) - 5)), (0, .ref m0), (1, vI kd), (2, vI k), (3, vI y), (4, vI x)] C dX7_writes_28 (by decide) rfl ?_
  refine s_aload_n 0 C dX7_writes_30 rfl 1 rfl ?_
  refine s_get C dX7_writes_31 7 rfl hinX7 0 rfl 0 (by decide) (by decide +kernel) rfl ?_
  refine s_iload C dX7_writes_34 0 rfl ?_
  refine s_iconst C dX7_writes_36 ?_
  refine s_iadd C dX7_writes_37 ?_
  refine s_iload_n 1 C dX7_writes_38 rfl 2 rfl ?_
  refine s_iast [cO m0 7 (.ref m1 :: .ref m2 :: x3 :: vI (chN rn ps) :: vI rn :: xs), cA m1 G.2.1.1 718 (uZ (uZ f 0 ((f 0) + 1)) (5 * (f 0) + 218) kd), cA m2 G.2.1.1 2872 (chP rn P ps f)] C dX7_writes_39 1 rfl (5 * (f 0) + 218) (by omega) (by omega) (by omega) (by omega) rfl ?_
  refine s_aload_n 0 C dX7_writes_40 rfl 1 rfl ?_
  refine s_get C dX7_writes_41 7 rfl hinX7 0 rfl 0 (by decide) (by decide +kernel) rfl ?_
  refine s_iload C dX7_writes_44 0 rfl ?_
  refine s_iconst C dX7_writes_46 ?_
  refine s_iadd C dX7_writes_47 ?_
  refine s_aload_n 0 C dX7_writes_48 rfl 1 rfl ?_
  refine s_get C dX7_writes_49 7 rfl hinX7 0 rfl 0 (by decide) (by decide +kernel) rfl ?_
  refine s_bipush (z := 9) C dX7_writes_52 rfl ?_
  refine s_iload_n 2 C dX7_writes_54 rfl 3 rfl ?_
  refine s_iadd C dX7_writes_55 ?_
  refine s_iald C dX7_writes_56 1 rfl (k + 9) (by omega) (by omega) (by omega) (by omega) ?_
  refine s_top ((uZ f 0 ((f 0) + 1)) (k + 9)) (uZ_n (by omega)) ?_
  refine s_top (f (k + 9)) (uZ_n (by omega)) ?_
  refine s_iast [cO m0 7 (.ref m1 :: .ref m2 :: x3 :: vI (chN rn ps) :: vI rn :: xs), cA m1 G.2.1.1 718 (uZ (uZ (uZ f 0 ((f 0) + 1)) (5 * (f 0) + 218) kd) (5 * (f 0) + 219) (f (k + 9))), cA m2 G.2.1.1 2872 (chP rn P ps f)] C dX7_writes_57 1 rfl (5 * (f 0) + 219) (by omega) (by omega) (by omega) (by omega) rfl ?_
  refine s_aload_n 0 C dX7_writes_58 rfl 1 rfl ?_
  refine s_get C dX7_writes_59 7 rfl hinX7 0 rfl 0 (by decide) (by decide +kernel) rfl ?_
  refine s_iload C dX7_writes_62 0 rfl ?_
  refine s_iconst C dX7_writes_64 ?_
  refine s_iadd C dX7_writes_65 ?_
  refine s_iload_n 3 C dX7_writes_66 rfl 4 rfl ?_
  refine s_iast [cO m0 7 (.ref m1 :: .ref m2 :: x3 :: vI (chN rn ps) :: vI rn :: xs), cA m1 G.2.1.1 718 (uZ (uZ (uZ (uZ f 0 ((f 0) + 1)) (5 * (f 0) + 218) kd) (5 * (f 0) + 219) (f (k + 9))) (5 * (f 0) + 220) y), cA m2 G.2.1.1 2872 (chP rn P ps f)] C dX7_writes_67 1 rfl (5 * (f 0) + 220) (by omega) (by omega) (by omega) (by omega) rfl ?_
  refine s_aload_n 0 C dX7_writes_68 rfl 1 rfl ?_
  refine s_get C dX7_writes_69 7 rfl hinX7 0 rfl 0 (by decide) (by decide +kernel) rfl ?_
  refine s_iload C dX7_writes_72 0 rfl ?_
  refine s_iconst C dX7_writes_74 ?_
  refine s_iadd C dX7_writes_75 ?_
  refine s_iload C dX7_writes_76 5 rfl ?_
  refine s_iast [cO m0 7 (.ref m1 :: .ref m2 :: x3 :: vI (chN rn ps) :: vI rn :: xs), cA m1 G.2.1.1 718 (uZ (uZ (uZ (uZ (uZ f 0 ((f 0) + 1)) (5 * (f 0) + 218) kd) (5 * (f 0) + 219) (f (k + 9))) (5 * (f 0) + 220) y) (5 * (f 0) + 221) x), cA m2 G.2.1.1 2872 (chP rn P ps f)] C dX7_writes_78 1 rfl (5 * (f 0) + 221) (by omega) (by omega) (by omega) (by omega) rfl ?_
  refine s_aload_n 0 C dX7_writes_79 rfl 1 rfl ?_
  refine s_get C dX7_writes_80 7 rfl hinX7 0 rfl 0 (by decide) (by decide +kernel) rfl ?_
  refine s_iload C dX7_writes_83 0 rfl ?_
  refine s_iconst C dX7_writes_85 ?_
  refine s_iadd C dX7_writes_86 ?_
  refine s_aload_n 0 C dX7_writes_87 rfl 1 rfl ?_
  refine s_get C dX7_writes_88 7 rfl hinX7 0 rfl 0 (by decide) (by decide +kernel) rfl ?_
  refine s_iconst C dX7_writes_91 ?_
  refine s_iald C dX7_writes_92 1 rfl 1 rfl (by omega) (by omega) (by omega) ?_
  refine s_top ((uZ (uZ (uZ (uZ f 0 ((f 0) + 1)) (5 * (f 0) + 218) kd) (5 * (f 0) + 219) (f (k + 9))) (5 * (f 0) + 220) y) 1) (uZ_n (by omega)) ?_
  refine s_top ((uZ (uZ (uZ f 0 ((f 0) + 1)) (5 * (f 0) + 218) kd) (5 * (f 0) + 219) (f (k + 9))) 1) (uZ_n (by omega)) ?_
  refine s_top ((uZ (uZ f 0 ((f 0) + 1)) (5 * (f 0) + 218) kd) 1) (uZ_n (by omega)) ?_
  refine s_top ((uZ f 0 ((f 0) + 1)) 1) (uZ_n (by omega)) ?_
  refine s_top (f 1) (uZ_n (by omega)) ?_
  refine s_iast [cO m0 7 (.ref m1 :: .ref m2 :: x3 :: vI (chN rn ps) :: vI rn :: xs), cA m1 G.2.1.1 718 (uZ (uZ (uZ (uZ (uZ (uZ f 0 ((f 0) + 1)) (5 * (f 0) + 218) kd) (5 * (f 0) + 219) (f (k + 9))) (5 * (f 0) + 220) y) (5 * (f 0) + 221) x) (5 * (f 0) + 222) (f 1)), cA m2 G.2.1.1 2872 (chP rn P ps f)] C dX7_writes_93 1 rfl (5 * (f 0) + 222) (by omega) (by omega) (by omega) (by omega) rfl ?_
  refine s_aload_n 0 C dX7_writes_94 rfl 1 rfl ?_
  refine s_get C dX7_writes_95 7 rfl hinX7 0 rfl 0 (by decide) (by decide +kernel) rfl ?_
  refine s_bipush (z := 9) C dX7_writes_98 rfl ?_
  refine s_iload_n 2 C dX7_writes_100 rfl 3 rfl ?_
  refine s_iadd C dX7_writes_101 ?_
  refine s_iload_n 1 C dX7_writes_102 rfl 2 rfl ?_
  refine s_if_ne 118 C dX7_writes_103 (by decide) (by omega) (fun h_103 => ?_) (fun h_103 => ?_)
  · refine s_iconst C dX7_writes_118 ?_
    refine s_iast [cO m0 7 (.ref m1 :: .ref m2 :: x3 :: vI (chN rn ps) :: vI rn :: xs), cA m1 G.2.1.1 718 (uZ (uZ (uZ (uZ (uZ (uZ (uZ f 0 ((f 0) + 1)) (5 * (f 0) + 218) kd) (5 * (f 0) + 219) (f (k + 9))) (5 * (f 0) + 220) y) (5 * (f 0) + 221) x) (5 * (f 0) + 222) (f 1)) (k + 9) 0), cA m2 G.2.1.1 2872 (chP rn P ps f)] C dX7_writes_119 1 rfl (k + 9) (by omega) (by omega) (by omega) (by omega) rfl ?_
    refine s_aload_n 0 C dX7_writes_120 rfl 1 rfl ?_
    refine s_get C dX7_writes_121 7 rfl hinX7 0 rfl 0 (by decide) (by decide +kernel) rfl ?_
    refine s_iconst C dX7_writes_124 ?_
    refine s_iald C dX7_writes_125 1 rfl 0 rfl (by omega) (by omega) (by omega) ?_
    refine s_top ((uZ (uZ (uZ (uZ (uZ (uZ f 0 ((f 0) + 1)) (5 * (f 0) + 218) kd) (5 * (f 0) + 219) (f (k + 9))) (5 * (f 0) + 220) y) (5 * (f 0) + 221) x) (5 * (f 0) + 222) (f 1)) 0) (uZ_n (by omega)) ?_
    refine s_top ((uZ (uZ (uZ (uZ (uZ f 0 ((f 0) + 1)) (5 * (f 0) + 218) kd) (5 * (f 0) + 219) (f (k + 9))) (5 * (f 0) + 220) y) (5 * (f 0) + 221) x) 0) (uZ_n (by omega)) ?_
    refine s_top ((uZ (uZ (uZ (uZ f 0 ((f 0) + 1)) (5 * (f 0) + 218) kd) (5 * (f 0) + 219) (f (k + 9))) (5 * (f 0) + 220) y) 0) (uZ_n (by omega)) ?_
    refine s_top ((uZ (uZ (uZ f 0 ((f 0) + 1)) (5 * (f 0) + 218) kd) (5 * (f 0) + 219) (f (k + 9))) 0) (uZ_n (by omega)) ?_
    refine s_top ((uZ (uZ f 0 ((f 0) + 1)) (5 * (f 0) + 218) kd) 0) (uZ_n (by omega)) ?_
    refine s_top ((uZ f 0 ((f 0) + 1)) 0) (uZ_n (by omega)) ?_
    refine s_top ((f 0) + 1) uZ_s ?_
    exact s_iret C E dX7_writes_126 ⟨rfl, by first | (rw [sp_write, if_pos (by omega)]; done) | (rw [sp_write, if_neg (by omega)]; done)⟩
  · refine s_aload_n 0 C dX7_writes_106 rfl 1 rfl ?_
    refine s_get C dX7_writes_107 7 rfl hinX7 0 rfl 0 (by decide) (by decide +kernel) rfl ?_
    refine s_bipush (z := 9) C dX7_writes_110 rfl ?_
    refine s_iload_n 2 C dX7_writes_112 rfl 3 rfl ?_
    refine s_iadd C dX7_writes_113 ?_
    refine s_iald C dX7_writes_114 1 rfl (k + 9) (by omega) (by omega) (by omega) (by omega) ?_
    refine s_top ((uZ (uZ (uZ (uZ (uZ f 0 ((f 0) + 1)) (5 * (f 0) + 218) kd) (5 * (f 0) + 219) (f (k + 9))) (5 * (f 0) + 220) y) (5 * (f 0) + 221) x) (k + 9)) (uZ_n (by omega)) ?_
    refine s_top ((uZ (uZ (uZ (uZ f 0 ((f 0) + 1)) (5 * (f 0) + 218) kd) (5 * (f 0) + 219) (f (k + 9))) (5 * (f 0) + 220) y) (k + 9)) (uZ_n (by omega)) ?_
    refine s_top ((uZ (uZ (uZ f 0 ((f 0) + 1)) (5 * (f 0) + 218) kd) (5 * (f 0) + 219) (f (k + 9))) (k + 9)) (uZ_n (by omega)) ?_
    refine s_top ((uZ (uZ f 0 ((f 0) + 1)) (5 * (f 0) + 218) kd) (k + 9)) (uZ_n (by omega)) ?_
    refine s_top ((uZ f 0 ((f 0) + 1)) (k + 9)) (uZ_n (by omega)) ?_
    refine s_top (f (k + 9)) (uZ_n (by omega)) ?_
    refine s_goto 119 C dX7_writes_115 (by decide) ?_
    refine s_iast [cO m0 7 (.ref m1 :: .ref m2 :: x3 :: vI (chN rn ps) :: vI rn :: xs), cA m1 G.2.1.1 718 (uZ (uZ (uZ (uZ (uZ (uZ (uZ f 0 ((f 0) + 1)) (5 * (f 0) + 218) kd) (5 * (f 0) + 219) (f (k + 9))) (5 * (f 0) + 220) y) (5 * (f 0) + 221) x) (5 * (f 0) + 222) (f 1)) (k + 9) (f (k + 9))), cA m2 G.2.1.1 2872 (chP rn P ps f)] C dX7_writes_119 1 rfl (k + 9) (by omega) (by omega) (by omega) (by omega) rfl ?_
    refine s_aload_n 0 C dX7_writes_120 rfl 1 rfl ?_
    refine s_get C dX7_writes_121 7 rfl hinX7 0 rfl 0 (by decide) (by decide +kernel) rfl ?_
    refine s_iconst C dX7_writes_124 ?_
    refine s_iald C dX7_writes_125 1 rfl 0 rfl (by omega) (by omega) (by omega) ?_
    refine s_top ((uZ (uZ (uZ (uZ (uZ (uZ f 0 ((f 0) + 1)) (5 * (f 0) + 218) kd) (5 * (f 0) + 219) (f (k + 9))) (5 * (f 0) + 220) y) (5 * (f 0) + 221) x) (5 * (f 0) + 222) (f 1)) 0) (uZ_n (by omega)) ?_
    refine s_top ((uZ (uZ (uZ (uZ (uZ f 0 ((f 0) + 1)) (5 * (f 0) + 218) kd) (5 * (f 0) + 219) (f (k + 9))) (5 * (f 0) + 220) y) (5 * (f 0) + 221) x) 0) (uZ_n (by omega)) ?_
    refine s_top ((uZ (uZ (uZ (uZ f 0 ((f 0) + 1)) (5 * (f 0) + 218) kd) (5 * (f 0) + 219) (f (k + 9))) (5 * (f 0) + 220) y) 0) (uZ_n (by omega)) ?_
    refine s_top ((uZ (uZ (uZ f 0 ((f 0) + 1)) (5 * (f 0) + 218) kd) (5 * (f 0) + 219) (f (k + 9))) 0) (uZ_n (by omega)) ?_
    refine s_top ((uZ (uZ f 0 ((f 0) + 1)) (5 * (f 0) + 218) kd) 0) (uZ_n (by omega)) ?_
    refine s_top ((uZ f 0 ((f 0) + 1)) 0) (uZ_n (by omega)) ?_
    refine s_top ((f 0) + 1) uZ_s ?_
    exact s_iret C E dX7_writes_126 ⟨rfl, by first | (rw [sp_write, if_pos (by omega)]; done) | (rw [sp_write, if_neg (by omega)]; done)⟩

set_option maxHeartbeats 4000000 in
set_option maxRecDepth 100000 in
theorem c_X7_put (l : Launch) (G : fG) (m0 m1 m2 : Nat) (x3 : Value) (xs : List Value) (f P : Int → Int) (ps rn k y x : Int) (hps : 0 ≤ ps ∧ ps ≤ 4) (hrn : rn = 0 ∨ rn = 1) (hf : rF f) (hk : -2147483648 ≤ k ∧ k < 2147483648) (hy : -2147483648 ≤ y ∧ y < 2147483648) (hx : -2147483648 ≤ x ∧ x < 2147483648) (h0 : 0 ≤ f 0 ∧ f 0 ≤ 100) : fCt l G yX7_put wsX7_put 3 63 0 0 [.ref m0, vI k, vI y, vI x] [cO m0 7 (.ref m1 :: .ref m2 :: x3 :: vI ps :: vI rn :: xs), cA m1 G.2.1.1 718 f, cA m2 G.2.1.1 2872 P] (fun (v0 : Option Value) (w0 : va_W) => ∃ (z : Int) (f2 P2 : Int → Int) (ps2 : Int), v0 = some (vI z) ∧ w0 = [cO m0 7 (.ref m1 :: .ref m2 :: x3 :: vI ps2 :: vI rn :: xs), cA m1 G.2.1.1 718 f2, cA m2 G.2.1.1 2872 P2] ∧ ((z, f2) = sp_put f k y x) ∧ (P2 = if z < 0 then P else chP rn P ps f) ∧ (ps2 = if z < 0 then ps else chN rn ps)) := by
  refine fs_met (cc := cX7_put) (nL := 5) (ret := (some .int)) (by decide) rfl (Nat.le_of_ble_eq_true rfl) ?_
  intro X C E
  show fSt l G X 0 0 0 [(0, .ref m0), (1, vI k), (2, vI y), (3, vI x)] [] [cO m0 7 (.ref m1 :: .ref m2 :: x3 :: vI ps :: vI rn :: xs), cA m1 G.2.1.1 718 f, cA m2 G.2.1.1 2872 P]
  refine s_iload_n 2 C dX7_put_0 rfl 2 rfl ?_
  refine s_callS (As := [vI y]) (rest := []) C dX7_put_1 (c_X7_isKey l G y (by first | assumption | omega)) gX7_put_X7_isKey rfl 1 (by decide +kernel) (by decide) [] rfl (by decide) rfl (Nat.le_of_ble_eq_true rfl) ⟨Nat.zero_le _, Nat.zero_le _⟩ ?_
  intro v0 w0 hq
  obtain ⟨rfl, rfl⟩ := hq
  refine ⟨rfl, ?_⟩
  show fSt l G X 0 0 4 [(0, .ref m0), (1, vI k), (2, vI y), (3, vI x)] [vI (bI (0 ≤ y ∧ y ≤ 23))] [cO m0 7 (.ref m1 :: .ref m2 :: x3 :: vI ps :: vI rn :: xs), cA m1 G.2.1.1 718 f, cA m2 G.2.1.1 2872 P]
  refine s_if_eq 18 C dX7_put_4 (by decide) bI_rng (fun h_4 => ?_) (fun h_4 => ?_)
  · have h_4 := bI_f h_4
    refine s_ldc (z := -1000001) C (by decide +kernel) dX7_put_18 ?_
    exact s_iret C E dX7_put_20 ⟨(-1000001), f, P, ps, rfl, rfl, (by rw [sp_put, if_neg (by omega)]), (if_pos (by omega)).symm, (if_pos (by omega)).symm⟩
  · have h_4 := bI_t h_4
    refine s_iload_n 3 C dX7_put_7 rfl 3 rfl ?_
    refine s_iconst C dX7_put_8 ?_
    refine s_sipush (z := 999) C dX7_put_9 rfl ?_
    refine s_callS (As := [vI x, vI 0, vI 999]) (rest := []) C dX7_put_12 (c_X7_in l G x 0 999 (by first | assumption | omega) (by first | assumption | omega) (by first | assumption | omega)) gX7_put_X7_in rfl 3 (by decide +kernel) (by decide) [] rfl (by decide) rfl (Nat.le_of_ble_eq_true rfl) ⟨Nat.zero_le _, Nat.zero_le _⟩ ?_
    intro v0 w0 hq
    obtain ⟨rfl, rfl⟩ := hq
    refine ⟨rfl, ?_⟩
    show fSt l G X 0 0 15 [(0, .ref m0), (1, vI k), (2, vI y), (3, vI x)] [vI (bI (0 ≤ x ∧ x ≤ 999))] [cO m0 7 (.ref m1 :: .ref m2 :: x3 :: vI ps :: vI rn :: xs), cA m1 G.2.1.1 718 f, cA m2 G.2.1.1 2872 P]
    refine s_if_ne 21 C dX7_put_15 (by decide) bI_rng (fun h_15 => ?_) (fun h_15 => ?_)
    · have h_15 := bI_t h_15
      refine s_aload_n 0 C dX7_put_21 rfl 0 rfl ?_
      refine s_iload_n 1 C dX7_put_22 rfl 1 rfl ?_
      refine s_callV (As := [vI k]) (rest := []) C dX7_put_23 (c_X7_bar l G m0 m1 (.ref m2 :: x3 :: vI ps :: vI rn :: xs) f k (by first | assumption | omega) (by first | assumption | omega)) gX7_put_X7_bar rfl 1 (by decide +kernel) (by decide) 0 7 rfl rfl rfl [0, 1] rfl (by decide) rfl (Nat.le_of_ble_eq_true rfl) ⟨Nat.zero_le _, Nat.zero_le _⟩ ?_
      intro v0 w0 hq
      obtain ⟨rfl, rfl⟩ := hq
      refine ⟨rfl, ?_⟩
      show fSt l G X 0 0 26 [(0, .ref m0), (1, vI k), (2, vI y), (3, vI x)] [vI (sp_bar f k)] [cO m0 7 (.ref m1 :: .ref m2 :: x3 :: vI ps :: vI rn :: xs), cA m1 G.2.1.1 718 f, cA m2 G.2.1.1 2872 P]
      refine s_istore [(4, vI (sp_bar f k)), (0, .ref m0), (1, vI k), (2, vI y), (3, vI x)] C dX7_put_26 (by decide) rfl ?_
      refine s_iload C dX7_put_28 0 rfl ?_
      refine s_if_ge 38 C dX7_put_30 (by decide) sp_bar_rg (fun h_30 => ?_) (fun h_30 => ?_)
      · have hok := sp_bar_ok h_30
        refine s_aload_n 0 C dX7_put_38 rfl 1 rfl ?_
        refine s_iconst C dX7_put_39 ?_
        refine s_iload_n 1 C dX7_put_40 rfl 2 rfl ?_
        refine s_iload_n 2 C dX7_put_41 rfl 3 rfl ?_
        refine s_iload_n 3 C dX7_put_42 rfl 4 rfl ?_
        refine s_callV (As := [vI 0, vI k, vI y, vI x]) (rest := []) C dX7_put_43 (c_X7_writes l G m0 m1 m2 (x3) xs f P ps rn 0 k y x (by first | assumption | omega) (by first | assumption | omega) (by first | assumption | omega) (by first | assumption | omega) (by first | assumption | omega)) gX7_put_X7_writes rfl 4 (by decide +kernel) (by decide) 0 7 rfl rfl rfl [0, 1, 2] rfl (by decide) rfl (Nat.le_of_ble_eq_true rfl) ⟨Nat.zero_le _, Nat.zero_le _⟩ ?_
        intro v0 w0 hq
        obtain ⟨rfl, rfl⟩ := hq
        refine ⟨rfl, ?_⟩
        show fSt l G X 0 0 46 [(4, vI (sp_bar f k)), (0, .ref m0), (1, vI k), (2, vI y), (3, vI x)] [vI ((f 0) + 1)] [cO m0 7 (.ref m1 :: .ref m2 :: x3 :: vI (chN rn ps) :: vI rn :: xs), cA m1 G.2.1.1 718 (sp_write f 0 k y x), cA m2 G.2.1.1 2872 (chP rn P ps f)]
        exact s_iret C E dX7_put_46 ⟨((f 0) + 1), (sp_write f 0 k y x), (chP rn P ps f), (chN rn ps), rfl, rfl, (by rw [sp_put, if_pos (by omega), if_neg (by omega)]), (if_neg (by omega)).symm, (if_neg (by omega)).symm⟩
      · refine s_iload C dX7_put_33 0 rfl ?_
        refine s_goto 46 C dX7_put_35 (by decide) ?_
        exact s_iret C E dX7_put_46 ⟨(sp_bar f k), f, P, ps, rfl, rfl, (by rw [sp_put, if_pos (by omega), if_pos (by omega)]), (if_pos (by omega)).symm, (if_pos (by omega)).symm⟩
    · have h_15 := bI_f h_15
      refine s_ldc (z := -1000001) C (by decide +kernel) dX7_put_18 ?_
      exact s_iret C E dX7_put_20 ⟨(-1000001), f, P, ps, rfl, rfl, (by rw [sp_put, if_neg (by omega)]), (if_pos (by omega)).symm, (if_pos (by omega)).symm⟩

set_option maxHeartbeats 4000000 in
set_option maxRecDepth 100000 in
theorem c_X7_commit (l : Launch) (G : fG) (m0 m1 m2 : Nat) (x3 : Value) (xs : List Value) (f P : Int → Int) (ps rn k : Int) (hps : 0 ≤ ps ∧ ps ≤ 4) (hrn : rn = 0 ∨ rn = 1) (hf : rF f) (hk : -2147483648 ≤ k ∧ k < 2147483648) (h0 : 0 ≤ f 0 ∧ f 0 ≤ 100) : fCt l G yX7_commit wsX7_commit 3 63 0 0 [.ref m0, vI k] [cO m0 7 (.ref m1 :: .ref m2 :: x3 :: vI ps :: vI rn :: xs), cA m1 G.2.1.1 718 f, cA m2 G.2.1.1 2872 P] (fun (v0 : Option Value) (w0 : va_W) => ∃ (z : Int) (f2 P2 : Int → Int) (ps2 : Int), v0 = some (vI z) ∧ w0 = [cO m0 7 (.ref m1 :: .ref m2 :: x3 :: vI ps2 :: vI rn :: xs), cA m1 G.2.1.1 718 f2, cA m2 G.2.1.1 2872 P2] ∧ ((z, f2) = sp_end f 1 k) ∧ (P2 = if z < 0 then P else chP rn P ps f) ∧ (ps2 = if z < 0 then ps else chN rn ps)) := by
  refine fs_met (cc := cX7_commit) (nL := 3) (ret := (some .int)) (by decide) rfl (Nat.le_of_ble_eq_true rfl) ?_
  intro X C E
  show fSt l G X 0 0 0 [(0, .ref m0), (1, vI k)] [] [cO m0 7 (.ref m1 :: .ref m2 :: x3 :: vI ps :: vI rn :: xs), cA m1 G.2.1.1 718 f, cA m2 G.2.1.1 2872 P]
  refine s_aload_n 0 C dX7_commit_0 rfl 0 rfl ?_
  refine s_iload_n 1 C dX7_commit_1 rfl 1 rfl ?_
  refine s_callV (As := [vI k]) (rest := []) C dX7_commit_2 (c_X7_bar l G m0 m1 (.ref m2 :: x3 :: vI ps :: vI rn :: xs) f k (by first | assumption | omega) (by first | assumption | omega)) gX7_commit_X7_bar rfl 1 (by decide +kernel) (by decide) 0 7 rfl rfl rfl [0, 1] rfl (by decide) rfl (Nat.le_of_ble_eq_true rfl) ⟨Nat.zero_le _, Nat.zero_le _⟩ ?_
  intro v0 w0 hq
  obtain ⟨rfl, rfl⟩ := hq
  refine ⟨rfl, ?_⟩
  show fSt l G X 0 0 5 [(0, .ref m0), (1, vI k)] [vI (sp_bar f k)] [cO m0 7 (.ref m1 :: .ref m2 :: x3 :: vI ps :: vI rn :: xs), cA m1 G.2.1.1 718 f, cA m2 G.2.1.1 2872 P]
  refine s_istore_n 2 [(2, vI (sp_bar f k)), (0, .ref m0), (1, vI k)] C dX7_commit_5 rfl (by decide) rfl ?_
  refine s_iload_n 2 C dX7_commit_6 rfl 0 rfl ?_
  refine s_if_ge 14 C dX7_commit_7 (by decide) sp_bar_rg (fun h_7 => ?_) (fun h_7 => ?_)
  · have hok := sp_bar_ok h_7
    refine s_aload_n 0 C dX7_commit_14 rfl 1 rfl ?_
    refine s_iconst C dX7_commit_15 ?_
    refine s_iload_n 1 C dX7_commit_16 rfl 2 rfl ?_
    refine s_ldc (z := -1000004) C (by decide +kernel) dX7_commit_17 ?_
    refine s_ldc (z := -1000004) C (by decide +kernel) dX7_commit_19 ?_
    refine s_callV (As := [vI 1, vI k, vI (-1000004), vI (-1000004)]) (rest := []) C dX7_commit_21 (c_X7_writes l G m0 m1 m2 (x3) xs f P ps rn 1 k (-1000004) (-1000004) (by first | assumption | omega) (by first | assumption | omega) (by first | assumption | omega) (by first | assumption | omega) (by first | assumption | omega)) gX7_commit_X7_writes rfl 4 (by decide +kernel) (by decide) 0 7 rfl rfl rfl [0, 1, 2] rfl (by decide) rfl (Nat.le_of_ble_eq_true rfl) ⟨Nat.zero_le _, Nat.zero_le _⟩ ?_
    intro v0 w0 hq
    obtain ⟨rfl, rfl⟩ := hq
    refine ⟨rfl, ?_⟩
    show fSt l G X 0 0 24 [(2, vI (sp_bar f k)), (0, .ref m0), (1, vI k)] [vI ((f 0) + 1)] [cO m0 7 (.ref m1 :: .ref m2 :: x3 :: vI (chN rn ps) :: vI rn :: xs), cA m1 G.2.1.1 718 (sp_write f 1 k (-1000004) (-1000004)), cA m2 G.2.1.1 2872 (chP rn P ps f)]
    exact s_iret C E dX7_commit_24 ⟨((f 0) + 1), (sp_write f 1 k (-1000004) (-1000004)), (chP rn P ps f), (chN rn ps), rfl, rfl, (by rw [sp_end, if_neg (by omega)]), (if_neg (by omega)).symm, (if_neg (by omega)).symm⟩
  · refine s_iload_n 2 C dX7_commit_10 rfl 0 rfl ?_
    refine s_goto 24 C dX7_commit_11 (by decide) ?_
    exact s_iret C E dX7_commit_24 ⟨(sp_bar f k), f, P, ps, rfl, rfl, (by rw [sp_end, if_pos (by omega)]), (if_pos (by omega)).symm, (if_pos (by omega)).symm⟩

set_option maxHeartbeats 4000000 in
set_option maxRecDepth 100000 in
theorem c_X7_abort (l : Launch) (G : fG) (m0 m1 m2 : Nat) (x3 : Value) (xs : List Value) (f P : Int → Int) (ps rn k : Int) (hps : 0 ≤ ps ∧ ps ≤ 4) (hrn : rn = 0 ∨ rn = 1) (hf : rF f) (hk : -2147483648 ≤ k ∧ k < 2147483648) (h0 : 0 ≤ f 0 ∧ f 0 ≤ 100) : fCt l G yX7_abort wsX7_abort 3 63 0 0 [.ref m0, vI k] [cO m0 7 (.ref m1 :: .ref m2 :: x3 :: vI ps :: vI rn :: xs), cA m1 G.2.1.1 718 f, cA m2 G.2.1.1 2872 P] (fun (v0 : Option Value) (w0 : va_W) => ∃ (z : Int) (f2 P2 : Int → Int) (ps2 : Int), v0 = some (vI z) ∧ w0 = [cO m0 7 (.ref m1 :: .ref m2 :: x3 :: vI ps2 :: vI rn :: xs), cA m1 G.2.1.1 718 f2, cA m2 G.2.1.1 2872 P2] ∧ ((z, f2) = sp_end f 2 k) ∧ (P2 = if z < 0 then P else chP rn P ps f) ∧ (ps2 = if z < 0 then ps else chN rn ps)) := by
  refine fs_met (cc := cX7_abort) (nL := 3) (ret := (some .int)) (by decide) rfl (Nat.le_of_ble_eq_true rfl) ?_
  intro X C E
  show fSt l G X 0 0 0 [(0, .ref m0), (1, vI k)] [] [cO m0 7 (.ref m1 :: .ref m2 :: x3 :: vI ps :: vI rn :: xs), cA m1 G.2.1.1 718 f, cA m2 G.2.1.1 2872 P]
  refine s_aload_n 0 C dX7_abort_0 rfl 0 rfl ?_
  refine s_iload_n 1 C dX7_abort_1 rfl 1 rfl ?_
  refine s_callV (As := [vI k]) (rest := []) C dX7_abort_2 (c_X7_bar l G m0 m1 (.ref m2 :: x3 :: vI ps :: vI rn :: xs) f k (by first | assumption | omega) (by first | assumption | omega)) gX7_abort_X7_bar rfl 1 (by decide +kernel) (by decide) 0 7 rfl rfl rfl [0, 1] rfl (by decide) rfl (Nat.le_of_ble_eq_true rfl) ⟨Nat.zero_le _, Nat.zero_le _⟩ ?_
  intro v0 w0 hq
  obtain ⟨rfl, rfl⟩ := hq
  refine ⟨rfl, ?_⟩
  show fSt l G X 0 0 5 [(0, .ref m0), (1, vI k)] [vI (sp_bar f k)] [cO m0 7 (.ref m1 :: .ref m2 :: x3 :: vI ps :: vI rn :: xs), cA m1 G.2.1.1 718 f, cA m2 G.2.1.1 2872 P]
  refine s_istore_n 2 [(2, vI (sp_bar f k)), (0, .ref m0), (1, vI k)] C dX7_abort_5 rfl (by decide) rfl ?_
  refine s_iload_n 2 C dX7_abort_6 rfl 0 rfl ?_
  refine s_if_ge 14 C dX7_abort_7 (by decide) sp_bar_rg (fun h_7 => ?_) (fun h_7 => ?_)
  · have hok := sp_bar_ok h_7
    refine s_aload_n 0 C dX7_abort_14 rfl 1 rfl ?_
    refine s_iconst C dX7_abort_15 ?_
    refine s_iload_n 1 C dX7_abort_16 rfl 2 rfl ?_
    refine s_ldc (z := -1000004) C (by decide +kernel) dX7_abort_17 ?_
    refine s_ldc (z := -1000004) C (by decide +kernel) dX7_abort_19 ?_
    refine s_callV (As := [vI 2, vI k, vI (-1000004), vI (-1000004)]) (rest := []) C dX7_abort_21 (c_X7_writes l G m0 m1 m2 (x3) xs f P ps rn 2 k (-1000004) (-1000004) (by first | assumption | omega) (by first | assumption | omega) (by first | assumption | omega) (by first | assumption | omega) (by first | assumption | omega)) gX7_abort_X7_writes rfl 4 (by decide +kernel) (by decide) 0 7 rfl rfl rfl [0, 1, 2] rfl (by decide) rfl (Nat.le_of_ble_eq_true rfl) ⟨Nat.zero_le _, Nat.zero_le _⟩ ?_
    intro v0 w0 hq
    obtain ⟨rfl, rfl⟩ := hq
    refine ⟨rfl, ?_⟩
    show fSt l G X 0 0 24 [(2, vI (sp_bar f k)), (0, .ref m0), (1, vI k)] [vI ((f 0) + 1)] [cO m0 7 (.ref m1 :: .ref m2 :: x3 :: vI (chN rn ps) :: vI rn :: xs), cA m1 G.2.1.1 718 (sp_write f 2 k (-1000004) (-1000004)), cA m2 G.2.1.1 2872 (chP rn P ps f)]
    exact s_iret C E dX7_abort_24 ⟨((f 0) + 1), (sp_write f 2 k (-1000004) (-1000004)), (chP rn P ps f), (chN rn ps), rfl, rfl, (by rw [sp_end, if_neg (by omega)]), (if_neg (by omega)).symm, (if_neg (by omega)).symm⟩
  · refine s_iload_n 2 C dX7_abort_10 rfl 0 rfl ?_
    refine s_goto 24 C dX7_abort_11 (by decide) ?_
    exact s_iret C E dX7_abort_24 ⟨(sp_bar f k), f, P, ps, rfl, rfl, (by rw [sp_end, if_pos (by omega)]), (if_pos (by omega)).symm, (if_pos (by omega)).symm⟩

set_option maxHeartbeats 4000000 in
set_option maxRecDepth 100000 in
theorem c_X7_ship (l : Launch) (G : fG) (B : Int) (m0 m1 m2 : Nat) (x3 : Value) (xs : List Value) (f P : Int → Int) (ps rn b m : Int) (hps : 0 ≤ ps ∧ ps ≤ 4) (hrn : rn = 0 ∨ rn = 1) (hI : Inv B f) (hB : B ≤ 1073000000) (hb : -2147483648 ≤ b ∧ b < 2147483648) (hm : -2147483648 ≤ m ∧ m < 2147483648) : fCt l G yX7_ship wsX7_ship 2 42 0 0 [.ref m0, vI b, vI m] [cO m0 7 (.ref m1 :: .ref m2 :: x3 :: vI ps :: vI rn :: xs), cA m1 G.2.1.1 718 f, cA m2 G.2.1.1 2872 P] (fun (v0 : Option Value) (w0 : va_W) => ∃ (z : Int) (f2 P2 : Int → Int) (ps2 : Int), v0 = some (vI z) ∧ w0 = [cO m0 7 (.ref m1 :: .ref m2 :: x3 :: vI ps2 :: vI rn :: xs), cA m1 G.2.1.1 718 f2, cA m2 G.2.1.1 2872 P2] ∧ ((z, f2) = sp_ship f b m) ∧ (P2 = if z < 0 then P else chP rn P ps f) ∧ (ps2 = if z < 0 then ps else chN rn ps)) := by
  refine fs_met (cc := cX7_ship) (nL := 5) (ret := (some .int)) (by decide) rfl (Nat.le_of_ble_eq_true rfl) ?_
  intro X C E
  show fSt l G X 0 0 0 [(0, .ref m0), (1, vI b), (2, vI m)] [] [cO m0 7 (.ref m1 :: .ref m2 :: x3 :: vI ps :: vI rn :: xs), cA m1 G.2.1.1 718 f, cA m2 G.2.1.1 2872 P]
  have hinX7 : ∀ w ∈ u_ws RX7 TX7 14, w ∈ wsX7_ship := by decide +kernel
  have hf := hI.rf
  have hn := hI.n
  refine s_iload_n 1 C dX7_ship_0 rfl 1 rfl ?_
  refine s_callS (As := [vI b]) (rest := []) C dX7_ship_1 (c_X7_isStandby l G b (by first | assumption | omega)) gX7_ship_X7_isStandby rfl 1 (by decide +kernel) (by decide) [] rfl (by decide) rfl (Nat.le_of_ble_eq_true rfl) ⟨Nat.zero_le _, Nat.zero_le _⟩ ?_
  intro v0 w0 hq
  obtain ⟨rfl, rfl⟩ := hq
  refine ⟨rfl, ?_⟩
  show fSt l G X 0 0 4 [(0, .ref m0), (1, vI b), (2, vI m)] [vI (bI (0 ≤ b ∧ b ≤ 1))] [cO m0 7 (.ref m1 :: .ref m2 :: x3 :: vI ps :: vI rn :: xs), cA m1 G.2.1.1 718 f, cA m2 G.2.1.1 2872 P]
  refine s_if_eq 17 C dX7_ship_4 (by decide) bI_rng (fun h_4 => ?_) (fun h_4 => ?_)
  · have h_4 := bI_f h_4
    refine s_ldc (z := -1000001) C (by decide +kernel) dX7_ship_17 ?_
    exact s_iret C E dX7_ship_19 ⟨(-1000001), f, P, ps, rfl, rfl, (by rw [sp_ship, if_neg (by omega)]), (if_pos (by omega)).symm, (if_pos (by omega)).symm⟩
  · have h_4 := bI_t h_4
    refine s_iload_n 2 C dX7_ship_7 rfl 2 rfl ?_
    refine s_iconst C dX7_ship_8 ?_
    refine s_bipush (z := 20) C dX7_ship_9 rfl ?_
    refine s_callS (As := [vI m, vI 1, vI 20]) (rest := []) C dX7_ship_11 (c_X7_in l G m 1 20 (by first | assumption | omega) (by first | assumption | omega) (by first | assumption | omega)) gX7_ship_X7_in rfl 3 (by decide +kernel) (by decide) [] rfl (by decide) rfl (Nat.le_of_ble_eq_true rfl) ⟨Nat.zero_le _, Nat.zero_le _⟩ ?_
    intro v0 w0 hq
    obtain ⟨rfl, rfl⟩ := hq
    refine ⟨rfl, ?_⟩
    show fSt l G X 0 0 14 [(0, .ref m0), (1, vI b), (2, vI m)] [vI (bI (1 ≤ m ∧ m ≤ 20))] [cO m0 7 (.ref m1 :: .ref m2 :: x3 :: vI ps :: vI rn :: xs), cA m1 G.2.1.1 718 f, cA m2 G.2.1.1 2872 P]
    refine s_if_ne 20 C dX7_ship_14 (by decide) bI_rng (fun h_14 => ?_) (fun h_14 => ?_)
    · have h_14 := bI_t h_14
      refine s_aload_n 0 C dX7_ship_20 rfl 0 rfl ?_
      have hS := hI.S b h_4.1 h_4.2
      refine s_iload_n 1 C dX7_ship_21 rfl 1 rfl ?_
      refine s_iconst C dX7_ship_22 ?_
      refine s_callV (As := [vI b, vI 2]) (rest := []) C dX7_ship_23 (c_X7_ofStandby l G m0 m1 (.ref m2 :: x3 :: vI ps :: vI rn :: xs) f b 2 (by first | assumption | omega)) gX7_ship_X7_ofStandby rfl 2 (by decide +kernel) (by decide) 0 7 rfl rfl rfl [0, 1] rfl (by decide) rfl (Nat.le_of_ble_eq_true rfl) ⟨Nat.zero_le _, Nat.zero_le _⟩ ?_
      intro v0 w0 hq
      obtain ⟨rfl, rfl⟩ := hq
      refine ⟨rfl, ?_⟩
      show fSt l G X 0 0 26 [(0, .ref m0), (1, vI b), (2, vI m)] [vI (oS f b 2)] [cO m0 7 (.ref m1 :: .ref m2 :: x3 :: vI ps :: vI rn :: xs), cA m1 G.2.1.1 718 f, cA m2 G.2.1.1 2872 P]
      refine s_iconst C dX7_ship_26 ?_
      refine s_icmp_ne 33 C dX7_ship_27 (by decide) (hf _) (by omega) (fun h_27 => ?_) (fun h_27 => ?_)
      · refine s_aload_n 0 C dX7_ship_33 rfl 0 rfl ?_
        refine s_callV (As := []) (rest := []) C dX7_ship_34 (c_X7_changes l G m0 m1 m2 (x3) xs f P ps rn (by first | assumption | omega) (by first | assumption | omega)) gX7_ship_X7_changes rfl 0 (by decide +kernel) (by decide) 0 7 rfl rfl rfl [0, 1, 2] rfl (by decide) rfl (Nat.le_of_ble_eq_true rfl) ⟨Nat.zero_le _, Nat.zero_le _⟩ ?_
        intro v0 w0 hq
        obtain ⟨rfl, rfl⟩ := hq
        refine ⟨rfl, ?_⟩
        show fSt l G X 0 0 37 [(0, .ref m0), (1, vI b), (2, vI m)] [] [cO m0 7 (.ref m1 :: .ref m2 :: x3 :: vI (chN rn ps) :: vI rn :: xs), cA m1 G.2.1.1 718 f, cA m2 G.2.1.1 2872 (chP rn P ps f)]
        refine s_aload_n 0 C dX7_ship_37 rfl 0 rfl ?_
        refine s_get C dX7_ship_38 7 rfl hinX7 0 rfl 0 (by decide) (by decide +kernel) rfl ?_
        refine s_iconst C dX7_ship_41 ?_
        refine s_iald C dX7_ship_42 1 rfl 0 rfl (by omega) (by omega) (by omega) ?_
        refine s_aload_n 0 C dX7_ship_43 rfl 0 rfl ?_
        refine s_iload_n 1 C dX7_ship_44 rfl 1 rfl ?_
        refine s_iconst C dX7_ship_45 ?_
        refine s_callV (As := [vI b, vI 0]) (rest := [vI (f 0)]) C dX7_ship_46 (c_X7_ofStandby l G m0 m1 (.ref m2 :: x3 :: vI (chN rn ps) :: vI rn :: xs) f b 0 (by first | assumption | omega)) gX7_ship_X7_ofStandby rfl 2 (by decide +kernel) (by decide) 0 7 rfl rfl rfl [0, 1] rfl (by decide) rfl (Nat.le_of_ble_eq_true rfl) ⟨Nat.zero_le _, Nat.zero_le _⟩ ?_
        intro v0 w0 hq
        obtain ⟨rfl, rfl⟩ := hq
        refine ⟨rfl, ?_⟩
        show fSt l G X 0 0 49 [(0, .ref m0), (1, vI b), (2, vI m)] [vI (oS f b 0), vI (f 0)] [cO m0 7 (.ref m1 :: .ref m2 :: x3 :: vI (chN rn ps) :: vI rn :: xs), cA m1 G.2.1.1 718 f, cA m2 G.2.1.1 2872 (chP rn P ps f)]
        refine s_isub C dX7_ship_49 ?_
        refine s_istore_n 3 [(3, vI ((f 0) - (oS f b 0))), (0, .ref m0), (1, vI b), (2, vI m)] C dX7_ship_50 rfl (by decide) rfl ?_
        refine s_iload_n 3 C dX7_ship_51 rfl 0 rfl ?_
        refine s_iload_n 2 C dX7_ship_52 rfl 3 rfl ?_
        refine s_icmp_ge 60 C dX7_ship_53 (by decide) (by omega) (by omega) (fun h_53 => ?_) (fun h_53 => ?_)
        · refine s_iload_n 2 C dX7_ship_60 rfl 3 rfl ?_
          refine s_istore [(4, vI m), (3, vI ((f 0) - (oS f b 0))), (0, .ref m0), (1, vI b), (2, vI m)] C dX7_ship_61 (by decide) rfl ?_
          refine s_aload_n 0 C dX7_ship_63 rfl 2 rfl ?_
          refine s_get C dX7_ship_64 7 rfl hinX7 0 rfl 0 (by decide) (by decide +kernel) rfl ?_
          refine s_bipush (z := 12) C dX7_ship_67 rfl ?_
          refine s_iconst C dX7_ship_69 ?_
          refine s_iload_n 1 C dX7_ship_70 rfl 3 rfl ?_
          refine s_imul C dX7_ship_71 ?_
          refine s_iadd C dX7_ship_72 ?_
          refine s_iconst C dX7_ship_73 ?_
          refine s_iadd C dX7_ship_74 ?_
          refine s_dup2 C dX7_ship_75 rfl rfl ?_
          refine s_iald C dX7_ship_76 1 rfl (3 * b + 12) (by omega) (by omega) (by omega) (by omega) ?_
          refine s_iload C dX7_ship_77 0 rfl ?_
          refine s_iadd C dX7_ship_79 ?_
          refine s_iast [cO m0 7 (.ref m1 :: .ref m2 :: x3 :: vI (chN rn ps) :: vI rn :: xs), cA m1 G.2.1.1 718 (uZ f (3 * b + 12) ((f (3 * b + 12)) + m)), cA m2 G.2.1.1 2872 (chP rn P ps f)] C dX7_ship_80 1 rfl (3 * b + 12) (by omega) (by omega) (by omega) (by omega) rfl ?_
          refine s_iload C dX7_ship_81 0 rfl ?_
          exact s_iret C E dX7_ship_83 ⟨m, (uZ f (3 * b + 12) ((f (3 * b + 12)) + m)), (chP rn P ps f), (chN rn ps), rfl, rfl, (by rw [sp_ship, if_pos (by omega), if_neg (by omega), if_neg (by omega)]), (if_neg (by omega)).symm, (if_neg (by omega)).symm⟩
        · refine s_iload_n 3 C dX7_ship_56 rfl 0 rfl ?_
          refine s_goto 61 C dX7_ship_57 (by decide) ?_
          refine s_istore [(4, vI ((f 0) - (oS f b 0))), (3, vI ((f 0) - (oS f b 0))), (0, .ref m0), (1, vI b), (2, vI m)] C dX7_ship_61 (by decide) rfl ?_
          refine s_aload_n 0 C dX7_ship_63 rfl 2 rfl ?_
          refine s_get C dX7_ship_64 7 rfl hinX7 0 rfl 0 (by decide) (by decide +kernel) rfl ?_
          refine s_bipush (z := 12) C dX7_ship_67 rfl ?_
          refine s_iconst C dX7_ship_69 ?_
          refine s_iload_n 1 C dX7_ship_70 rfl 3 rfl ?_
          refine s_imul C dX7_ship_71 ?_
          refine s_iadd C dX7_ship_72 ?_
          refine s_iconst C dX7_ship_73 ?_
          refine s_iadd C dX7_ship_74 ?_
          refine s_dup2 C dX7_ship_75 rfl rfl ?_
          refine s_iald C dX7_ship_76 1 rfl (3 * b + 12) (by omega) (by omega) (by omega) (by omega) ?_
          refine s_iload C dX7_ship_77 0 rfl ?_
          refine s_iadd C dX7_ship_79 ?_
          refine s_iast [cO m0 7 (.ref m1 :: .ref m2 :: x3 :: vI (chN rn ps) :: vI rn :: xs), cA m1 G.2.1.1 718 (uZ f (3 * b + 12) ((f (3 * b + 12)) + ((f 0) - (oS f b 0)))), cA m2 G.2.1.1 2872 (chP rn P ps f)] C dX7_ship_80 1 rfl (3 * b + 12) (by omega) (by omega) (by omega) (by omega) rfl ?_
          refine s_iload C dX7_ship_81 0 rfl ?_
          exact s_iret C E dX7_ship_83 ⟨((f 0) - (oS f b 0)), (uZ f (3 * b + 12) ((f (3 * b + 12)) + ((f 0) - (oS f b 0)))), (chP rn P ps f), (chN rn ps), rfl, rfl, (by rw [sp_ship, if_pos (by omega), if_neg (by omega), if_pos (by omega)]), (if_neg (by omega)).symm, (if_neg (by omega)).symm⟩
      · refine s_ldc (z := -1000002) C (by decide +kernel) dX7_ship_30 ?_
        exact s_iret C E dX7_ship_32 ⟨(-1000002), f, P, ps, rfl, rfl, (by rw [sp_ship, if_pos (by omega), if_pos (by omega)]), (if_pos (by omega)).symm, (if_pos (by omega)).symm⟩
    · have h_14 := bI_f h_14
      refine s_ldc (z := -1000001) C (by decide +kernel) dX7_ship_17 ?_
      exact s_iret C E dX7_ship_19 ⟨(-1000001), f, P, ps, rfl, rfl, (by rw [sp_ship, if_neg (by omega)]), (if_pos (by omega)).symm, (if_pos (by omega)).symm⟩

set_option maxHeartbeats 4000000 in
set_option maxRecDepth 100000 in
theorem c_X7_lose (l : Launch) (G : fG) (B : Int) (m0 m1 m2 : Nat) (x3 : Value) (xs : List Value) (f P : Int → Int) (ps rn b r : Int) (hps : 0 ≤ ps ∧ ps ≤ 4) (hrn : rn = 0 ∨ rn = 1) (hI : Inv B f) (hB : B ≤ 1073000000) (hb : -2147483648 ≤ b ∧ b < 2147483648) (hr : -2147483648 ≤ r ∧ r < 2147483648) : fCt l G yX7_lose wsX7_lose 2 45 0 0 [.ref m0, vI b, vI r] [cO m0 7 (.ref m1 :: .ref m2 :: x3 :: vI ps :: vI rn :: xs), cA m1 G.2.1.1 718 f, cA m2 G.2.1.1 2872 P] (fun (v0 : Option Value) (w0 : va_W) => ∃ (z : Int) (f2 P2 : Int → Int) (ps2 : Int), v0 = some (vI z) ∧ w0 = [cO m0 7 (.ref m1 :: .ref m2 :: x3 :: vI ps2 :: vI rn :: xs), cA m1 G.2.1.1 718 f2, cA m2 G.2.1.1 2872 P2] ∧ ((z, f2) = sp_lose f b r) ∧ (P2 = if z < 0 then P else chP rn P ps f) ∧ (ps2 = if z < 0 then ps else chN rn ps)) := by
  refine fs_met (cc := cX7_lose) (nL := 3) (ret := (some .int)) (by decide) rfl (Nat.le_of_ble_eq_true rfl) ?_
  intro X C E
  show fSt l G X 0 0 0 [(0, .ref m0), (1, vI b), (2, vI r)] [] [cO m0 7 (.ref m1 :: .ref m2 :: x3 :: vI ps :: vI rn :: xs), cA m1 G.2.1.1 718 f, cA m2 G.2.1.1 2872 P]
  have hinX7 : ∀ w ∈ u_ws RX7 TX7 14, w ∈ wsX7_lose := by decide +kernel
  have hf := hI.rf
  have hn := hI.n
  have htk := hI.tk
  have hlo := hI.lo
  have hln := hI.ln
  have hlc := hI.lc
  have hap := hI.ap
  have hrt := hI.rt
  have hdl := hI.dl
  refine s_iload_n 1 C dX7_lose_0 rfl 1 rfl ?_
  refine s_callS (As := [vI b]) (rest := []) C dX7_lose_1 (c_X7_isStandby l G b (by first | assumption | omega)) gX7_lose_X7_isStandby rfl 1 (by decide +kernel) (by decide) [] rfl (by decide) rfl (Nat.le_of_ble_eq_true rfl) ⟨Nat.zero_le _, Nat.zero_le _⟩ ?_
  intro v0 w0 hq
  obtain ⟨rfl, rfl⟩ := hq
  refine ⟨rfl, ?_⟩
  show fSt l G X 0 0 4 [(0, .ref m0), (1, vI b), (2, vI r)] [vI (bI (0 ≤ b ∧ b ≤ 1))] [cO m0 7 (.ref m1 :: .ref m2 :: x3 :: vI ps :: vI rn :: xs), cA m1 G.2.1.1 718 f, cA m2 G.2.1.1 2872 P]
  refine s_if_eq 12 C dX7_lose_4 (by decide) bI_rng (fun h_4 => ?_) (fun h_4 => ?_)
  · have h_4 := bI_f h_4
    refine s_ldc (z := -1000001) C (by decide +kernel) dX7_lose_12 ?_
    exact s_iret C E dX7_lose_14 ⟨(-1000001), f, P, ps, rfl, rfl, (by rw [sp_lose, if_neg (by omega)]), (if_pos (by omega)).symm, (if_pos (by omega)).symm⟩
  · have h_4 := bI_t h_4
    refine s_iload_n 2 C dX7_lose_7 rfl 2 rfl ?_
    refine s_iconst C dX7_lose_8 ?_
    refine s_icmp_ge 15 C dX7_lose_9 (by decide) (by omega) (by omega) (fun h_9 => ?_) (fun h_9 => ?_)
    · have hS := hI.S b h_4.1 h_4.2
      refine s_aload_n 0 C dX7_lose_15 rfl 0 rfl ?_
      refine s_iload_n 1 C dX7_lose_16 rfl 1 rfl ?_
      refine s_iconst C dX7_lose_17 ?_
      refine s_callV (As := [vI b, vI 2]) (rest := []) C dX7_lose_18 (c_X7_ofStandby l G m0 m1 (.ref m2 :: x3 :: vI ps :: vI rn :: xs) f b 2 (by first | assumption | omega)) gX7_lose_X7_ofStandby rfl 2 (by decide +kernel) (by decide) 0 7 rfl rfl rfl [0, 1] rfl (by decide) rfl (Nat.le_of_ble_eq_true rfl) ⟨Nat.zero_le _, Nat.zero_le _⟩ ?_
      intro v0 w0 hq
      obtain ⟨rfl, rfl⟩ := hq
      refine ⟨rfl, ?_⟩
      show fSt l G X 0 0 21 [(0, .ref m0), (1, vI b), (2, vI r)] [vI (oS f b 2)] [cO m0 7 (.ref m1 :: .ref m2 :: x3 :: vI ps :: vI rn :: xs), cA m1 G.2.1.1 718 f, cA m2 G.2.1.1 2872 P]
      refine s_iconst C dX7_lose_21 ?_
      refine s_icmp_eq 54 C dX7_lose_22 (by decide) (hf _) (by omega) (fun h_22 => ?_) (fun h_22 => ?_)
      · refine s_ldc (z := -1000002) C (by decide +kernel) dX7_lose_54 ?_
        exact s_iret C E dX7_lose_56 ⟨(-1000002), f, P, ps, rfl, rfl, (by rw [sp_lose, if_pos (by omega), if_pos (by omega)]), (if_pos (by omega)).symm, (if_pos (by omega)).symm⟩
      · refine s_iload_n 2 C dX7_lose_25 rfl 2 rfl ?_
        refine s_aload_n 0 C dX7_lose_26 rfl 0 rfl ?_
        refine s_iload_n 1 C dX7_lose_27 rfl 1 rfl ?_
        refine s_iconst C dX7_lose_28 ?_
        refine s_callV (As := [vI b, vI 0]) (rest := [vI r]) C dX7_lose_29 (c_X7_ofStandby l G m0 m1 (.ref m2 :: x3 :: vI ps :: vI rn :: xs) f b 0 (by first | assumption | omega)) gX7_lose_X7_ofStandby rfl 2 (by decide +kernel) (by decide) 0 7 rfl rfl rfl [0, 1] rfl (by decide) rfl (Nat.le_of_ble_eq_true rfl) ⟨Nat.zero_le _, Nat.zero_le _⟩ ?_
        intro v0 w0 hq
        obtain ⟨rfl, rfl⟩ := hq
        refine ⟨rfl, ?_⟩
        show fSt l G X 0 0 32 [(0, .ref m0), (1, vI b), (2, vI r)] [vI (oS f b 0), vI r] [cO m0 7 (.ref m1 :: .ref m2 :: x3 :: vI ps :: vI rn :: xs), cA m1 G.2.1.1 718 f, cA m2 G.2.1.1 2872 P]
        refine s_icmp_gt 54 C dX7_lose_32 (by decide) (by omega) (hf _) (fun h_32 => ?_) (fun h_32 => ?_)
        · refine s_ldc (z := -1000002) C (by decide +kernel) dX7_lose_54 ?_
          exact s_iret C E dX7_lose_56 ⟨(-1000002), f, P, ps, rfl, rfl, (by rw [sp_lose, if_pos (by omega), if_pos (by omega)]), (if_pos (by omega)).symm, (if_pos (by omega)).symm⟩
        · refine s_iload_n 2 C dX7_lose_35 rfl 2 rfl ?_
          refine s_aload_n 0 C dX7_lose_36 rfl 0 rfl ?_
          refine s_iload_n 1 C dX7_lose_37 rfl 1 rfl ?_
          refine s_iconst C dX7_lose_38 ?_
          refine s_callV (As := [vI b, vI 1]) (rest := [vI r]) C dX7_lose_39 (c_X7_ofStandby l G m0 m1 (.ref m2 :: x3 :: vI ps :: vI rn :: xs) f b 1 (by first | assumption | omega)) gX7_lose_X7_ofStandby rfl 2 (by decide +kernel) (by decide) 0 7 rfl rfl rfl [0, 1] rfl (by decide) rfl (Nat.le_of_ble_eq_true rfl) ⟨Nat.zero_le _, Nat.zero_le _⟩ ?_
          intro v0 w0 hq
          obtain ⟨rfl, rfl⟩ := hq
          refine ⟨rfl, ?_⟩
          show fSt l G X 0 0 42 [(0, .ref m0), (1, vI b), (2, vI r)] [vI (oS f b 1), vI r] [cO m0 7 (.ref m1 :: .ref m2 :: x3 :: vI ps :: vI rn :: xs), cA m1 G.2.1.1 718 f, cA m2 G.2.1.1 2872 P]
          refine s_icmp_le 54 C dX7_lose_42 (by decide) (by omega) (hf _) (fun h_42 => ?_) (fun h_42 => ?_)
          · refine s_ldc (z := -1000002) C (by decide +kernel) dX7_lose_54 ?_
            exact s_iret C E dX7_lose_56 ⟨(-1000002), f, P, ps, rfl, rfl, (by rw [sp_lose, if_pos (by omega), if_pos (by omega)]), (if_pos (by omega)).symm, (if_pos (by omega)).symm⟩
          · refine s_aload_n 0 C dX7_lose_45 rfl 0 rfl ?_
            refine s_iload_n 1 C dX7_lose_46 rfl 1 rfl ?_
            refine s_iload_n 2 C dX7_lose_47 rfl 2 rfl ?_
            refine s_callV (As := [vI b, vI r]) (rest := []) C dX7_lose_48 (c_X7_isGap l G m0 m1 (.ref m2 :: x3 :: vI ps :: vI rn :: xs) f b r (by first | assumption | omega) (by first | assumption | omega)) gX7_lose_X7_isGap rfl 2 (by decide +kernel) (by decide) 0 7 rfl rfl rfl [0, 1] rfl (by decide) rfl (Nat.le_of_ble_eq_true rfl) ⟨Nat.zero_le _, Nat.zero_le _⟩ ?_
            intro v0 w0 hq
            obtain ⟨rfl, rfl⟩ := hq
            refine ⟨rfl, ?_⟩
            show fSt l G X 0 0 51 [(0, .ref m0), (1, vI b), (2, vI r)] [vI (bI (oG f b r = 1))] [cO m0 7 (.ref m1 :: .ref m2 :: x3 :: vI ps :: vI rn :: xs), cA m1 G.2.1.1 718 f, cA m2 G.2.1.1 2872 P]
            refine s_if_eq 57 C dX7_lose_51 (by decide) bI_rng (fun h_51 => ?_) (fun h_51 => ?_)
            · have h_51 := bI_f h_51
              refine s_aload_n 0 C dX7_lose_57 rfl 0 rfl ?_
              refine s_callV (As := []) (rest := []) C dX7_lose_58 (c_X7_changes l G m0 m1 m2 (x3) xs f P ps rn (by first | assumption | omega) (by first | assumption | omega)) gX7_lose_X7_changes rfl 0 (by decide +kernel) (by decide) 0 7 rfl rfl rfl [0, 1, 2] rfl (by decide) rfl (Nat.le_of_ble_eq_true rfl) ⟨Nat.zero_le _, Nat.zero_le _⟩ ?_
              intro v0 w0 hq
              obtain ⟨rfl, rfl⟩ := hq
              refine ⟨rfl, ?_⟩
              show fSt l G X 0 0 61 [(0, .ref m0), (1, vI b), (2, vI r)] [] [cO m0 7 (.ref m1 :: .ref m2 :: x3 :: vI (chN rn ps) :: vI rn :: xs), cA m1 G.2.1.1 718 f, cA m2 G.2.1.1 2872 (chP rn P ps f)]
              refine s_aload_n 0 C dX7_lose_61 rfl 0 rfl ?_
              refine s_get C dX7_lose_62 7 rfl hinX7 0 rfl 0 (by decide) (by decide +kernel) rfl ?_
              refine s_bipush (z := 18) C dX7_lose_65 rfl ?_
              refine s_bipush (z := 100) C dX7_lose_67 rfl ?_
              refine s_iload_n 1 C dX7_lose_69 rfl 1 rfl ?_
              refine s_imul C dX7_lose_70 ?_
              refine s_iadd C dX7_lose_71 ?_
              refine s_iload_n 2 C dX7_lose_72 rfl 2 rfl ?_
              refine s_iadd C dX7_lose_73 ?_
              refine s_iconst C dX7_lose_74 ?_
              refine s_isub C dX7_lose_75 ?_
              refine s_iconst C dX7_lose_76 ?_
              refine s_iast [cO m0 7 (.ref m1 :: .ref m2 :: x3 :: vI (chN rn ps) :: vI rn :: xs), cA m1 G.2.1.1 718 (uZ f (100 * b + r + 17) 1), cA m2 G.2.1.1 2872 (chP rn P ps f)] C dX7_lose_77 1 rfl (100 * b + r + 17) (by omega) (by omega) (by omega) (by omega) rfl ?_
              refine s_aload_n 0 C dX7_lose_78 rfl 0 rfl ?_
              refine s_get C dX7_lose_79 7 rfl hinX7 0 rfl 0 (by decide) (by decide +kernel) rfl ?_
              refine s_iconst C dX7_lose_82 ?_
              refine s_dup2 C dX7_lose_83 rfl rfl ?_
              refine s_iald C dX7_lose_84 1 rfl 5 rfl (by omega) (by omega) (by omega) ?_
              refine s_top (f 5) (uZ_n (by omega)) ?_
              refine s_iconst C dX7_lose_85 ?_
              refine s_iadd C dX7_lose_86 ?_
              refine s_iast [cO m0 7 (.ref m1 :: .ref m2 :: x3 :: vI (chN rn ps) :: vI rn :: xs), cA m1 G.2.1.1 718 (uZ (uZ f (100 * b + r + 17) 1) 5 ((f 5) + 1)), cA m2 G.2.1.1 2872 (chP rn P ps f)] C dX7_lose_87 1 rfl 5 rfl (by omega) (by omega) (by omega) rfl ?_
              refine s_aload_n 0 C dX7_lose_88 rfl 0 rfl ?_
              refine s_iload_n 1 C dX7_lose_89 rfl 1 rfl ?_
              refine s_callV (As := [vI b]) (rest := []) C dX7_lose_90 (c_X7_gaps l G m0 m1 (.ref m2 :: x3 :: vI (chN rn ps) :: vI rn :: xs) (uZ (uZ f (100 * b + r + 17) 1) 5 ((f 5) + 1)) b ((hf.up (by omega)).up (by omega)) (by first | assumption | omega)) gX7_lose_X7_gaps rfl 1 (by decide +kernel) (by decide) 0 7 rfl rfl rfl [0, 1] rfl (by decide) rfl (Nat.le_of_ble_eq_true rfl) ⟨Nat.zero_le _, Nat.zero_le _⟩ ?_
              intro v0 w0 hq
              obtain ⟨rfl, rfl⟩ := hq
              refine ⟨rfl, ?_⟩
              show fSt l G X 0 0 93 [(0, .ref m0), (1, vI b), (2, vI r)] [vI (mG (uZ (uZ f (100 * b + r + 17) 1) 5 ((f 5) + 1)) b)] [cO m0 7 (.ref m1 :: .ref m2 :: x3 :: vI (chN rn ps) :: vI rn :: xs), cA m1 G.2.1.1 718 (uZ (uZ f (100 * b + r + 17) 1) 5 ((f 5) + 1)), cA m2 G.2.1.1 2872 (chP rn P ps f)]
              have hmg := mG_in (f := uZ (uZ f (100 * b + r + 17) 1) 5 ((f 5) + 1)) (b := b)
              exact s_iret C E dX7_lose_93 ⟨(mG (uZ (uZ f (100 * b + r + 17) 1) 5 ((f 5) + 1)) b), (uZ (uZ f (100 * b + r + 17) 1) 5 ((f 5) + 1)), (chP rn P ps f), (chN rn ps), rfl, rfl, (by rw [sp_lose, if_pos (by omega), if_neg (by omega)]), (if_neg (by omega)).symm, (if_neg (by omega)).symm⟩
            · have h_51 := bI_t h_51
              refine s_ldc (z := -1000002) C (by decide +kernel) dX7_lose_54 ?_
              exact s_iret C E dX7_lose_56 ⟨(-1000002), f, P, ps, rfl, rfl, (by rw [sp_lose, if_pos (by omega), if_pos (by omega)]), (if_pos (by omega)).symm, (if_pos (by omega)).symm⟩
    · refine s_ldc (z := -1000001) C (by decide +kernel) dX7_lose_12 ?_
      exact s_iret C E dX7_lose_14 ⟨(-1000001), f, P, ps, rfl, rfl, (by rw [sp_lose, if_neg (by omega)]), (if_pos (by omega)).symm, (if_pos (by omega)).symm⟩

set_option maxHeartbeats 4000000 in
set_option maxRecDepth 100000 in
theorem c_X7_resend (l : Launch) (G : fG) (B : Int) (m0 m1 m2 : Nat) (x3 : Value) (xs : List Value) (f P : Int → Int) (ps rn b : Int) (hps : 0 ≤ ps ∧ ps ≤ 4) (hrn : rn = 0 ∨ rn = 1) (hI : Inv B f) (hB : B ≤ 1073000000) (hb : -2147483648 ≤ b ∧ b < 2147483648) : fCt l G yX7_resend wsX7_resend 2 45 0 0 [.ref m0, vI b] [cO m0 7 (.ref m1 :: .ref m2 :: x3 :: vI ps :: vI rn :: xs), cA m1 G.2.1.1 718 f, cA m2 G.2.1.1 2872 P] (fun (v0 : Option Value) (w0 : va_W) => ∃ (z : Int) (f2 P2 : Int → Int) (ps2 : Int), v0 = some (vI z) ∧ w0 = [cO m0 7 (.ref m1 :: .ref m2 :: x3 :: vI ps2 :: vI rn :: xs), cA m1 G.2.1.1 718 f2, cA m2 G.2.1.1 2872 P2] ∧ ((z, f2) = sp_resend f b) ∧ (P2 = if z < 0 then P else chP rn P ps f) ∧ (ps2 = if z < 0 then ps else chN rn ps)) := by
  refine fs_met (cc := cX7_resend) (nL := 3) (ret := (some .int)) (by decide) rfl (Nat.le_of_ble_eq_true rfl) ?_
  intro X C E
  show fSt l G X 0 0 0 [(0, .ref m0), (1, vI b)] [] [cO m0 7 (.ref m1 :: .ref m2 :: x3 :: vI ps :: vI rn :: xs), cA m1 G.2.1.1 718 f, cA m2 G.2.1.1 2872 P]
  have hf := hI.rf
  have hn := hI.n
  have htk := hI.tk
  have hlo := hI.lo
  have hln := hI.ln
  have hlc := hI.lc
  have hap := hI.ap
  have hrt := hI.rt
  have hdl := hI.dl
  have hmg := mG_in (f := f) (b := b)
  refine s_iload_n 1 C dX7_resend_0 rfl 1 rfl ?_
  refine s_callS (As := [vI b]) (rest := []) C dX7_resend_1 (c_X7_isStandby l G b (by first | assumption | omega)) gX7_resend_X7_isStandby rfl 1 (by decide +kernel) (by decide) [] rfl (by decide) rfl (Nat.le_of_ble_eq_true rfl) ⟨Nat.zero_le _, Nat.zero_le _⟩ ?_
  intro v0 w0 hq
  obtain ⟨rfl, rfl⟩ := hq
  refine ⟨rfl, ?_⟩
  show fSt l G X 0 0 4 [(0, .ref m0), (1, vI b)] [vI (bI (0 ≤ b ∧ b ≤ 1))] [cO m0 7 (.ref m1 :: .ref m2 :: x3 :: vI ps :: vI rn :: xs), cA m1 G.2.1.1 718 f, cA m2 G.2.1.1 2872 P]
  refine s_if_ne 10 C dX7_resend_4 (by decide) bI_rng (fun h_4 => ?_) (fun h_4 => ?_)
  · have h_4 := bI_t h_4
    refine s_aload_n 0 C dX7_resend_10 rfl 0 rfl ?_
    refine s_iload_n 1 C dX7_resend_11 rfl 1 rfl ?_
    refine s_iconst C dX7_resend_12 ?_
    refine s_callV (As := [vI b, vI 2]) (rest := []) C dX7_resend_13 (c_X7_ofStandby l G m0 m1 (.ref m2 :: x3 :: vI ps :: vI rn :: xs) f b 2 (by first | assumption | omega)) gX7_resend_X7_ofStandby rfl 2 (by decide +kernel) (by decide) 0 7 rfl rfl rfl [0, 1] rfl (by decide) rfl (Nat.le_of_ble_eq_true rfl) ⟨Nat.zero_le _, Nat.zero_le _⟩ ?_
    intro v0 w0 hq
    obtain ⟨rfl, rfl⟩ := hq
    refine ⟨rfl, ?_⟩
    show fSt l G X 0 0 16 [(0, .ref m0), (1, vI b)] [vI (oS f b 2)] [cO m0 7 (.ref m1 :: .ref m2 :: x3 :: vI ps :: vI rn :: xs), cA m1 G.2.1.1 718 f, cA m2 G.2.1.1 2872 P]
    refine s_iconst C dX7_resend_16 ?_
    refine s_icmp_ne 23 C dX7_resend_17 (by decide) (hf _) (by omega) (fun h_17 => ?_) (fun h_17 => ?_)
    · refine s_aload_n 0 C dX7_resend_23 rfl 0 rfl ?_
      refine s_callV (As := []) (rest := []) C dX7_resend_24 (c_X7_changes l G m0 m1 m2 (x3) xs f P ps rn (by first | assumption | omega) (by first | assumption | omega)) gX7_resend_X7_changes rfl 0 (by decide +kernel) (by decide) 0 7 rfl rfl rfl [0, 1, 2] rfl (by decide) rfl (Nat.le_of_ble_eq_true rfl) ⟨Nat.zero_le _, Nat.zero_le _⟩ ?_
      intro v0 w0 hq
      obtain ⟨rfl, rfl⟩ := hq
      refine ⟨rfl, ?_⟩
      show fSt l G X 0 0 27 [(0, .ref m0), (1, vI b)] [] [cO m0 7 (.ref m1 :: .ref m2 :: x3 :: vI (chN rn ps) :: vI rn :: xs), cA m1 G.2.1.1 718 f, cA m2 G.2.1.1 2872 (chP rn P ps f)]
      refine s_aload_n 0 C dX7_resend_27 rfl 0 rfl ?_
      refine s_iload_n 1 C dX7_resend_28 rfl 1 rfl ?_
      refine s_callV (As := [vI b]) (rest := []) C dX7_resend_29 (c_X7_gaps l G m0 m1 (.ref m2 :: x3 :: vI (chN rn ps) :: vI rn :: xs) f b (by first | assumption | omega) (by first | assumption | omega)) gX7_resend_X7_gaps rfl 1 (by decide +kernel) (by decide) 0 7 rfl rfl rfl [0, 1] rfl (by decide) rfl (Nat.le_of_ble_eq_true rfl) ⟨Nat.zero_le _, Nat.zero_le _⟩ ?_
      intro v0 w0 hq
      obtain ⟨rfl, rfl⟩ := hq
      refine ⟨rfl, ?_⟩
      show fSt l G X 0 0 32 [(0, .ref m0), (1, vI b)] [vI (mG f b)] [cO m0 7 (.ref m1 :: .ref m2 :: x3 :: vI (chN rn ps) :: vI rn :: xs), cA m1 G.2.1.1 718 f, cA m2 G.2.1.1 2872 (chP rn P ps f)]
      refine s_istore_n 2 [(2, vI (mG f b)), (0, .ref m0), (1, vI b)] C dX7_resend_32 rfl (by decide) rfl ?_
      refine s_aload_n 0 C dX7_resend_33 rfl 1 rfl ?_
      refine s_iload_n 1 C dX7_resend_34 rfl 2 rfl ?_
      refine s_iconst C dX7_resend_35 ?_
      refine s_callV (As := [vI b, vI 0]) (rest := []) C dX7_resend_36 (c_X7_fillsGaps l G m0 m1 (.ref m2 :: x3 :: vI (chN rn ps) :: vI rn :: xs) f b 0 (by first | assumption | omega) (by first | assumption | omega)) gX7_resend_X7_fillsGaps rfl 2 (by decide +kernel) (by decide) 0 7 rfl rfl rfl [0, 1] rfl (by decide) rfl (Nat.le_of_ble_eq_true rfl) ⟨Nat.zero_le _, Nat.zero_le _⟩ ?_
      intro v0 w0 hq
      obtain ⟨rfl, rfl⟩ := hq
      refine ⟨rfl, ?_⟩
      show fSt l G X 0 0 39 [(2, vI (mG f b)), (0, .ref m0), (1, vI b)] [] [cO m0 7 (.ref m1 :: .ref m2 :: x3 :: vI (chN rn ps) :: vI rn :: xs), cA m1 G.2.1.1 718 (fG0 f b 0 (100 * b + 118)), cA m2 G.2.1.1 2872 (chP rn P ps f)]
      refine s_iload_n 2 C dX7_resend_39 rfl 0 rfl ?_
      exact s_iret C E dX7_resend_40 ⟨(mG f b), (fG0 f b 0 (100 * b + 118)), (chP rn P ps f), (chN rn ps), rfl, rfl, (by rw [sp_resend, if_pos (by omega), if_neg (by omega)]), (if_neg (by omega)).symm, (if_neg (by omega)).symm⟩
    · refine s_ldc (z := -1000002) C (by decide +kernel) dX7_resend_20 ?_
      exact s_iret C E dX7_resend_22 ⟨(-1000002), f, P, ps, rfl, rfl, (by rw [sp_resend, if_pos (by omega), if_pos (by omega)]), (if_pos (by omega)).symm, (if_pos (by omega)).symm⟩
  · have h_4 := bI_f h_4
    refine s_ldc (z := -1000001) C (by decide +kernel) dX7_resend_7 ?_
    exact s_iret C E dX7_resend_9 ⟨(-1000001), f, P, ps, rfl, rfl, (by rw [sp_resend, if_neg (by omega)]), (if_pos (by omega)).symm, (if_pos (by omega)).symm⟩

set_option maxHeartbeats 4000000 in
set_option maxRecDepth 100000 in
theorem c_X7_goes (l : Launch) (G : fG) (T0 : Int) (m0 m1 : Nat) (xs : List Value) (f : Int → Int) (b p t rt : Int) (hT : TI f T0) (hb : 0 ≤ b ∧ b ≤ 1) (hp : 0 ≤ p ∧ p ≤ oS f b 0) (ht : 0 ≤ t ∧ t ≤ 1073741823) (hrt : 0 ≤ rt ∧ rt ≤ 20) : fCt l G yX7_goes wsX7_goes 1 22 0 0 [.ref m0, vI b, vI p, vI t, vI rt] [cO m0 7 (.ref m1 :: xs), cA m1 G.2.1.1 718 f] (fun (v0 : Option Value) (w0 : va_W) => v0 = some (vI (go f b p t rt)) ∧ w0 = [cO m0 7 (.ref m1 :: xs), cA m1 G.2.1.1 718 f]) := by
  refine fs_met (cc := cX7_goes) (nL := 8) (ret := (some .int)) (by decide) rfl (Nat.le_of_ble_eq_true rfl) ?_
  intro X C E
  show fSt l G X 0 0 0 [(0, .ref m0), (1, vI b), (2, vI p), (3, vI t), (4, vI rt)] [] [cO m0 7 (.ref m1 :: xs), cA m1 G.2.1.1 718 f]
  have hinX7 : ∀ w ∈ u_ws RX7 TX7 14, w ∈ wsX7_goes := by decide +kernel
  have hf := hT.1
  have hS := hT.S hb
  have h8 := hT.2.2.2.1
  refine s_iconst C dX7_goes_0 ?_
  refine s_istore [(5, vI 0), (0, .ref m0), (1, vI b), (2, vI p), (3, vI t), (4, vI rt)] C dX7_goes_1 (by decide) rfl ?_
  refine s_aload_n 0 C dX7_goes_3 rfl 1 rfl ?_
  refine s_iload_n 1 C dX7_goes_4 rfl 2 rfl ?_
  refine s_iconst C dX7_goes_5 ?_
  refine s_callV (As := [vI b, vI 2]) (rest := []) C dX7_goes_6 (c_X7_ofStandby l G m0 m1 xs f b 2 (by first | assumption | omega)) gX7_goes_X7_ofStandby rfl 2 (by decide +kernel) (by decide) 0 7 rfl rfl rfl [0, 1] rfl (by decide) rfl (Nat.le_of_ble_eq_true rfl) ⟨Nat.zero_le _, Nat.zero_le _⟩ ?_
  intro v0 w0 hq
  obtain ⟨rfl, rfl⟩ := hq
  refine ⟨rfl, ?_⟩
  show fSt l G X 0 0 9 [(5, vI 0), (0, .ref m0), (1, vI b), (2, vI p), (3, vI t), (4, vI rt)] [vI (oS f b 2)] [cO m0 7 (.ref m1 :: xs), cA m1 G.2.1.1 718 f]
  refine s_if_ne 16 C dX7_goes_9 (by decide) (hf _) (fun h_9 => ?_) (fun h_9 => ?_)
  · refine s_iconst C dX7_goes_16 ?_
    refine s_istore [(6, vI 0), (5, vI 0), (0, .ref m0), (1, vI b), (2, vI p), (3, vI t), (4, vI rt)] C dX7_goes_17 (by decide) rfl ?_
    have loop_19 : ∀ (fuel : Nat) (n c : Int), (0 ≤ n ∧ n ≤ rt) → (c = 0 ∨ c = 1) → (c = 0 → go f b p t rt = n) → (c = 1 → oS f b 2 = 0 ∧ adv (ok f b t) p n.toNat = p + n ∧ p + n ≤ oS f b 0) → (2 * (rt - n) + c < (fuel : Int)) → fSt l G X 0 0 19 [(0, .ref m0), (1, vI b), (2, vI p), (3, vI t), (4, vI rt), (5, vI n), (6, vI c)] [] [cO m0 7 (.ref m1 :: xs), cA m1 G.2.1.1 718 f] := by
      intro fuel
      induction fuel with
      | zero =>
        intro n c hn hc hc0 hc1 hm
        exfalso
        omega
      | succ fuel ih_19 =>
        intro n c hn hc hc0 hc1 hm
        refine s_iload C dX7_goes_19 6 rfl ?_
        refine s_if_eq 104 C dX7_goes_21 (by decide) (by omega) (fun h_21 => ?_) (fun h_21 => ?_)
        · refine s_iload C dX7_goes_104 5 rfl ?_
          exact s_iret C E dX7_goes_106 ⟨congrArg (fun z => some (vI z)) (by rcases hc with q | q; (· rw [hc0 q]); (· first | exact absurd q (by omega) | (have e9 := hc1 q; have e8 : n = rt := (by omega); rw [e8] at e9; rw [go_full e9.1 e9.2.1, e8]))), rfl⟩
        · have hq1 := hc1 (by omega)
          refine s_iload C dX7_goes_24 5 rfl ?_
          refine s_iload C dX7_goes_26 4 rfl ?_
          refine s_icmp_ge 104 C dX7_goes_28 (by decide) (by omega) (by omega) (fun h_28 => ?_) (fun h_28 => ?_)
          · refine s_iload C dX7_goes_104 5 rfl ?_
            exact s_iret C E dX7_goes_106 ⟨congrArg (fun z => some (vI z)) (by rcases hc with q | q; (· rw [hc0 q]); (· first | exact absurd q (by omega) | (have e9 := hc1 q; have e8 : n = rt := (by omega); rw [e8] at e9; rw [go_full e9.1 e9.2.1, e8]))), rfl⟩
          · refine s_iload_n 2 C dX7_goes_31 rfl 2 rfl ?_
            refine s_iload C dX7_goes_32 5 rfl ?_
            refine s_iadd C dX7_goes_34 ?_
            refine s_iconst C dX7_goes_35 ?_
            refine s_iadd C dX7_goes_36 ?_
            refine s_istore [(7, vI (p + n + 1)), (0, .ref m0), (1, vI b), (2, vI p), (3, vI t), (4, vI rt), (5, vI n), (6, vI c)] C dX7_goes_37 (by decide) rfl ?_
            refine s_iload C dX7_goes_39 0 rfl ?_
            refine s_aload_n 0 C dX7_goes_41 rfl 1 rfl ?_
            refine s_iload_n 1 C dX7_goes_42 rfl 2 rfl ?_
            refine s_iconst C dX7_goes_43 ?_
            refine s_callV (As := [vI b, vI 0]) (rest := [vI (p + n + 1)]) C dX7_goes_44 (c_X7_ofStandby l G m0 m1 xs f b 0 (by first | assumption | omega)) gX7_goes_X7_ofStandby rfl 2 (by decide +kernel) (by decide) 0 7 rfl rfl rfl [0, 1] rfl (by decide) rfl (Nat.le_of_ble_eq_true rfl) ⟨Nat.zero_le _, Nat.zero_le _⟩ ?_
            intro v0 w0 hq
            obtain ⟨rfl, rfl⟩ := hq
            refine ⟨rfl, ?_⟩
            show fSt l G X 0 0 47 [(7, vI (p + n + 1)), (0, .ref m0), (1, vI b), (2, vI p), (3, vI t), (4, vI rt), (5, vI n), (6, vI c)] [vI (oS f b 0), vI (p + n + 1)] [cO m0 7 (.ref m1 :: xs), cA m1 G.2.1.1 718 f]
            refine s_icmp_gt 83 C dX7_goes_47 (by decide) (by omega) (hf _) (fun h_47 => ?_) (fun h_47 => ?_)
            · refine s_iconst C dX7_goes_83 ?_
              refine s_istore [(6, vI 0), (7, vI (p + n + 1)), (0, .ref m0), (1, vI b), (2, vI p), (3, vI t), (4, vI rt), (5, vI n)] C dX7_goes_84 (by decide) rfl ?_
              refine s_iload C dX7_goes_86 7 rfl ?_
              refine s_iload C dX7_goes_88 0 rfl ?_
              refine s_if_eq 97 C dX7_goes_90 (by decide) (by decide) (fun h => ?_) (fun h => absurd h (by decide))
              refine s_iconst C dX7_goes_97 ?_
              refine s_iadd C dX7_goes_98 ?_
              refine s_istore [(5, vI (n + 0)), (6, vI 0), (7, vI (p + n + 1)), (0, .ref m0), (1, vI b), (2, vI p), (3, vI t), (4, vI rt)] C dX7_goes_99 (by decide) rfl ?_
              refine s_goto 19 C dX7_goes_101 (by decide) ?_
              refine s_lv [(0, .ref m0), (1, vI b), (2, vI p), (3, vI t), (4, vI rt), (5, vI (n + 0)), (6, vI 0)] [3, 4, 5, 6, 7, 0, 1] rfl ?_
              exact ih_19 (n + 0) 0 (by omega) (by omega) (fun _ => by rw [Int.add_zero]; exact go_end (hc1 (by omega)).1 (hc1 (by omega)).2.1 (by omega) (by simp only [ok, Bool.and_eq_false_iff, decide_eq_false_iff_not]; omega)) (fun q => absurd q (by omega)) (by omega)
            · refine s_aload_n 0 C dX7_goes_50 rfl 1 rfl ?_
              refine s_iload_n 1 C dX7_goes_51 rfl 2 rfl ?_
              refine s_iload C dX7_goes_52 0 rfl ?_
              refine s_callV (As := [vI b, vI (p + n + 1)]) (rest := []) C dX7_goes_54 (c_X7_isGap l G m0 m1 xs f b (p + n + 1) (by first | assumption | omega) (by first | assumption | omega)) gX7_goes_X7_isGap rfl 2 (by decide +kernel) (by decide) 0 7 rfl rfl rfl [0, 1] rfl (by decide) rfl (Nat.le_of_ble_eq_true rfl) ⟨Nat.zero_le _, Nat.zero_le _⟩ ?_
              intro v0 w0 hq
              obtain ⟨rfl, rfl⟩ := hq
              refine ⟨rfl, ?_⟩
              show fSt l G X 0 0 57 [(7, vI (p + n + 1)), (0, .ref m0), (1, vI b), (2, vI p), (3, vI t), (4, vI rt), (5, vI n), (6, vI c)] [vI (bI (oG f b (p + n + 1) = 1))] [cO m0 7 (.ref m1 :: xs), cA m1 G.2.1.1 718 f]
              refine s_if_ne 83 C dX7_goes_57 (by decide) bI_rng (fun h_57 => ?_) (fun h_57 => ?_)
              · have h_57 := bI_t h_57
                refine s_iconst C dX7_goes_83 ?_
                refine s_istore [(6, vI 0), (7, vI (p + n + 1)), (0, .ref m0), (1, vI b), (2, vI p), (3, vI t), (4, vI rt), (5, vI n)] C dX7_goes_84 (by decide) rfl ?_
                refine s_iload C dX7_goes_86 7 rfl ?_
                refine s_iload C dX7_goes_88 0 rfl ?_
                refine s_if_eq 97 C dX7_goes_90 (by decide) (by decide) (fun h => ?_) (fun h => absurd h (by decide))
                refine s_iconst C dX7_goes_97 ?_
                refine s_iadd C dX7_goes_98 ?_
                refine s_istore [(5, vI (n + 0)), (6, vI 0), (7, vI (p + n + 1)), (0, .ref m0), (1, vI b), (2, vI p), (3, vI t), (4, vI rt)] C dX7_goes_99 (by decide) rfl ?_
                refine s_goto 19 C dX7_goes_101 (by decide) ?_
                refine s_lv [(0, .ref m0), (1, vI b), (2, vI p), (3, vI t), (4, vI rt), (5, vI (n + 0)), (6, vI 0)] [3, 4, 5, 6, 7, 0, 1] rfl ?_
                exact ih_19 (n + 0) 0 (by omega) (by omega) (fun _ => by rw [Int.add_zero]; exact go_end (hc1 (by omega)).1 (hc1 (by omega)).2.1 (by omega) (by simp only [ok, Bool.and_eq_false_iff, decide_eq_false_iff_not]; omega)) (fun q => absurd q (by omega)) (by omega)
              · have h_57 := bI_f h_57
                have hAt := hT.A (r := p + n + 1) hb (by omega) (by omega)
                refine s_iload_n 3 C dX7_goes_60 rfl 4 rfl ?_
                refine s_aload_n 0 C dX7_goes_61 rfl 1 rfl ?_
                refine s_iload C dX7_goes_62 0 rfl ?_
                refine s_iconst C dX7_goes_64 ?_
                refine s_callV (As := [vI (p + n + 1), vI 4]) (rest := [vI t]) C dX7_goes_65 (c_X7_ofRecord l G m0 m1 xs f (p + n + 1) 4 (by first | assumption | omega)) gX7_goes_X7_ofRecord rfl 2 (by decide +kernel) (by decide) 0 7 rfl rfl rfl [0, 1] rfl (by decide) rfl (Nat.le_of_ble_eq_true rfl) ⟨Nat.zero_le _, Nat.zero_le _⟩ ?_
                intro v0 w0 hq
                obtain ⟨rfl, rfl⟩ := hq
                refine ⟨rfl, ?_⟩
                show fSt l G X 0 0 68 [(7, vI (p + n + 1)), (0, .ref m0), (1, vI b), (2, vI p), (3, vI t), (4, vI rt), (5, vI n), (6, vI c)] [vI (oR f (p + n + 1) 4), vI t] [cO m0 7 (.ref m1 :: xs), cA m1 G.2.1.1 718 f]
                refine s_isub C dX7_goes_68 ?_
                refine s_aload_n 0 C dX7_goes_69 rfl 1 rfl ?_
                refine s_get C dX7_goes_70 7 rfl hinX7 0 rfl 0 (by decide) (by decide +kernel) rfl ?_
                refine s_bipush (z := 8) C dX7_goes_73 rfl ?_
                refine s_iald C dX7_goes_75 1 rfl 8 rfl (by omega) (by omega) (by omega) ?_
                refine s_icmp_lt 83 C dX7_goes_76 (by decide) (by omega) (hf _) (fun h_76 => ?_) (fun h_76 => ?_)
                · refine s_iconst C dX7_goes_83 ?_
                  refine s_istore [(6, vI 0), (7, vI (p + n + 1)), (0, .ref m0), (1, vI b), (2, vI p), (3, vI t), (4, vI rt), (5, vI n)] C dX7_goes_84 (by decide) rfl ?_
                  refine s_iload C dX7_goes_86 7 rfl ?_
                  refine s_iload C dX7_goes_88 0 rfl ?_
                  refine s_if_eq 97 C dX7_goes_90 (by decide) (by decide) (fun h => ?_) (fun h => absurd h (by decide))
                  refine s_iconst C dX7_goes_97 ?_
                  refine s_iadd C dX7_goes_98 ?_
                  refine s_istore [(5, vI (n + 0)), (6, vI 0), (7, vI (p + n + 1)), (0, .ref m0), (1, vI b), (2, vI p), (3, vI t), (4, vI rt)] C dX7_goes_99 (by decide) rfl ?_
                  refine s_goto 19 C dX7_goes_101 (by decide) ?_
                  refine s_lv [(0, .ref m0), (1, vI b), (2, vI p), (3, vI t), (4, vI rt), (5, vI (n + 0)), (6, vI 0)] [3, 4, 5, 6, 7, 0, 1] rfl ?_
                  exact ih_19 (n + 0) 0 (by omega) (by omega) (fun _ => by rw [Int.add_zero]; exact go_end (hc1 (by omega)).1 (hc1 (by omega)).2.1 (by omega) (by simp only [ok, Bool.and_eq_false_iff, decide_eq_false_iff_not]; omega)) (fun q => absurd q (by omega)) (by omega)
                · refine s_iconst C dX7_goes_79 ?_
                  refine s_goto 84 C dX7_goes_80 (by decide) ?_
                  refine s_istore [(6, vI 1), (7, vI (p + n + 1)), (0, .ref m0), (1, vI b), (2, vI p), (3, vI t), (4, vI rt), (5, vI n)] C dX7_goes_84 (by decide) rfl ?_
                  refine s_iload C dX7_goes_86 7 rfl ?_
                  refine s_iload C dX7_goes_88 0 rfl ?_
                  refine s_if_eq 97 C dX7_goes_90 (by decide) (by decide) (fun h => absurd h (by decide)) (fun h => ?_)
                  refine s_iconst C dX7_goes_93 ?_
                  refine s_goto 98 C dX7_goes_94 (by decide) ?_
                  refine s_iadd C dX7_goes_98 ?_
                  refine s_istore [(5, vI (n + 1)), (6, vI 1), (7, vI (p + n + 1)), (0, .ref m0), (1, vI b), (2, vI p), (3, vI t), (4, vI rt)] C dX7_goes_99 (by decide) rfl ?_
                  refine s_goto 19 C dX7_goes_101 (by decide) ?_
                  refine s_lv [(0, .ref m0), (1, vI b), (2, vI p), (3, vI t), (4, vI rt), (5, vI (n + 1)), (6, vI 1)] [3, 4, 5, 6, 7, 0, 1] rfl ?_
                  exact ih_19 (n + 1) 1 (by omega) (by omega) (fun q => absurd q (by omega)) (fun _ => ⟨(hc1 (by omega)).1, go_more (hc1 (by omega)).2.1 (by omega) (by simp only [ok, Bool.and_eq_true, decide_eq_true_eq]; omega), by omega⟩) (by omega)
    refine s_lv [(0, .ref m0), (1, vI b), (2, vI p), (3, vI t), (4, vI rt), (5, vI 0), (6, vI 0)] [2, 3, 4, 5, 6, 1, 0] rfl ?_
    exact loop_19 (2 * (rt - 0) + 0 + 1 : Int).toNat 0 0 (by omega) (by omega) (fun _ => by rw [go, if_neg h_9]) (fun q => absurd q (by omega)) (by omega)
  · refine s_iconst C dX7_goes_12 ?_
    refine s_goto 17 C dX7_goes_13 (by decide) ?_
    refine s_istore [(6, vI 1), (5, vI 0), (0, .ref m0), (1, vI b), (2, vI p), (3, vI t), (4, vI rt)] C dX7_goes_17 (by decide) rfl ?_
    have loop_19 : ∀ (fuel : Nat) (n c : Int), (0 ≤ n ∧ n ≤ rt) → (c = 0 ∨ c = 1) → (c = 0 → go f b p t rt = n) → (c = 1 → oS f b 2 = 0 ∧ adv (ok f b t) p n.toNat = p + n ∧ p + n ≤ oS f b 0) → (2 * (rt - n) + c < (fuel : Int)) → fSt l G X 0 0 19 [(0, .ref m0), (1, vI b), (2, vI p), (3, vI t), (4, vI rt), (5, vI n), (6, vI c)] [] [cO m0 7 (.ref m1 :: xs), cA m1 G.2.1.1 718 f] := by
      intro fuel
      induction fuel with
      | zero =>
        intro n c hn hc hc0 hc1 hm
        exfalso
        omega
      | succ fuel ih_19 =>
        intro n c hn hc hc0 hc1 hm
        refine s_iload C dX7_goes_19 6 rfl ?_
        refine s_if_eq 104 C dX7_goes_21 (by decide) (by omega) (fun h_21 => ?_) (fun h_21 => ?_)
        · refine s_iload C dX7_goes_104 5 rfl ?_
          exact s_iret C E dX7_goes_106 ⟨congrArg (fun z => some (vI z)) (by rcases hc with q | q; (· rw [hc0 q]); (· first | exact absurd q (by omega) | (have e9 := hc1 q; have e8 : n = rt := (by omega); rw [e8] at e9; rw [go_full e9.1 e9.2.1, e8]))), rfl⟩
        · have hq1 := hc1 (by omega)
          refine s_iload C dX7_goes_24 5 rfl ?_
          refine s_iload C dX7_goes_26 4 rfl ?_
          refine s_icmp_ge 104 C dX7_goes_28 (by decide) (by omega) (by omega) (fun h_28 => ?_) (fun h_28 => ?_)
          · refine s_iload C dX7_goes_104 5 rfl ?_
            exact s_iret C E dX7_goes_106 ⟨congrArg (fun z => some (vI z)) (by rcases hc with q | q; (· rw [hc0 q]); (· first | exact absurd q (by omega) | (have e9 := hc1 q; have e8 : n = rt := (by omega); rw [e8] at e9; rw [go_full e9.1 e9.2.1, e8]))), rfl⟩
          · refine s_iload_n 2 C dX7_goes_31 rfl 2 rfl ?_
            refine s_iload C dX7_goes_32 5 rfl ?_
            refine s_iadd C dX7_goes_34 ?_
            refine s_iconst C dX7_goes_35 ?_
            refine s_iadd C dX7_goes_36 ?_
            refine s_istore [(7, vI (p + n + 1)), (0, .ref m0), (1, vI b), (2, vI p), (3, vI t), (4, vI rt), (5, vI n), (6, vI c)] C dX7_goes_37 (by decide) rfl ?_
            refine s_iload C dX7_goes_39 0 rfl ?_
            refine s_aload_n 0 C dX7_goes_41 rfl 1 rfl ?_
            refine s_iload_n 1 C dX7_goes_42 rfl 2 rfl ?_
            refine s_iconst C dX7_goes_43 ?_
            refine s_callV (As := [vI b, vI 0]) (rest := [vI (p + n + 1)]) C dX7_goes_44 (c_X7_ofStandby l G m0 m1 xs f b 0 (by first | assumption | omega)) gX7_goes_X7_ofStandby rfl 2 (by decide +kernel) (by decide) 0 7 rfl rfl rfl [0, 1] rfl (by decide) rfl (Nat.le_of_ble_eq_true rfl) ⟨Nat.zero_le _, Nat.zero_le _⟩ ?_
            intro v0 w0 hq
            obtain ⟨rfl, rfl⟩ := hq
            refine ⟨rfl, ?_⟩
            show fSt l G X 0 0 47 [(7, vI (p + n + 1)), (0, .ref m0), (1, vI b), (2, vI p), (3, vI t), (4, vI rt), (5, vI n), (6, vI c)] [vI (oS f b 0), vI (p + n + 1)] [cO m0 7 (.ref m1 :: xs), cA m1 G.2.1.1 718 f]
            refine s_icmp_gt 83 C dX7_goes_47 (by decide) (by omega) (hf _) (fun h_47 => ?_) (fun h_47 => ?_)
            · refine s_iconst C dX7_goes_83 ?_
              refine s_istore [(6, vI 0), (7, vI (p + n + 1)), (0, .ref m0), (1, vI b), (2, vI p), (3, vI t), (4, vI rt), (5, vI n)] C dX7_goes_84 (by decide) rfl ?_
              refine s_iload C dX7_goes_86 7 rfl ?_
              refine s_iload C dX7_goes_88 0 rfl ?_
              refine s_if_eq 97 C dX7_goes_90 (by decide) (by decide) (fun h => ?_) (fun h => absurd h (by decide))
              refine s_iconst C dX7_goes_97 ?_
              refine s_iadd C dX7_goes_98 ?_
              refine s_istore [(5, vI (n + 0)), (6, vI 0), (7, vI (p + n + 1)), (0, .ref m0), (1, vI b), (2, vI p), (3, vI t), (4, vI rt)] C dX7_goes_99 (by decide) rfl ?_
              refine s_goto 19 C dX7_goes_101 (by decide) ?_
              refine s_lv [(0, .ref m0), (1, vI b), (2, vI p), (3, vI t), (4, vI rt), (5, vI (n + 0)), (6, vI 0)] [3, 4, 5, 6, 7, 0, 1] rfl ?_
              exact ih_19 (n + 0) 0 (by omega) (by omega) (fun _ => by rw [Int.add_zero]; exact go_end (hc1 (by omega)).1 (hc1 (by omega)).2.1 (by omega) (by simp only [ok, Bool.and_eq_false_iff, decide_eq_false_iff_not]; omega)) (fun q => absurd q (by omega)) (by omega)
            · refine s_aload_n 0 C dX7_goes_50 rfl 1 rfl ?_
              refine s_iload_n 1 C dX7_goes_51 rfl 2 rfl ?_
              refine s_iload C dX7_goes_52 0 rfl ?_
              refine s_callV (As := [vI b, vI (p + n + 1)]) (rest := []) C dX7_goes_54 (c_X7_isGap l G m0 m1 xs f b (p + n + 1) (by first | assumption | omega) (by first | assumption | omega)) gX7_goes_X7_isGap rfl 2 (by decide +kernel) (by decide) 0 7 rfl rfl rfl [0, 1] rfl (by decide) rfl (Nat.le_of_ble_eq_true rfl) ⟨Nat.zero_le _, Nat.zero_le _⟩ ?_
              intro v0 w0 hq
              obtain ⟨rfl, rfl⟩ := hq
              refine ⟨rfl, ?_⟩
              show fSt l G X 0 0 57 [(7, vI (p + n + 1)), (0, .ref m0), (1, vI b), (2, vI p), (3, vI t), (4, vI rt), (5, vI n), (6, vI c)] [vI (bI (oG f b (p + n + 1) = 1))] [cO m0 7 (.ref m1 :: xs), cA m1 G.2.1.1 718 f]
              refine s_if_ne 83 C dX7_goes_57 (by decide) bI_rng (fun h_57 => ?_) (fun h_57 => ?_)
              · have h_57 := bI_t h_57
                refine s_iconst C dX7_goes_83 ?_
                refine s_istore [(6, vI 0), (7, vI (p + n + 1)), (0, .ref m0), (1, vI b), (2, vI p), (3, vI t), (4, vI rt), (5, vI n)] C dX7_goes_84 (by decide) rfl ?_
                refine s_iload C dX7_goes_86 7 rfl ?_
                refine s_iload C dX7_goes_88 0 rfl ?_
                refine s_if_eq 97 C dX7_goes_90 (by decide) (by decide) (fun h => ?_) (fun h => absurd h (by decide))
                refine s_iconst C dX7_goes_97 ?_
                refine s_iadd C dX7_goes_98 ?_
                refine s_istore [(5, vI (n + 0)), (6, vI 0), (7, vI (p + n + 1)), (0, .ref m0), (1, vI b), (2, vI p), (3, vI t), (4, vI rt)] C dX7_goes_99 (by decide) rfl ?_
                refine s_goto 19 C dX7_goes_101 (by decide) ?_
                refine s_lv [(0, .ref m0), (1, vI b), (2, vI p), (3, vI t), (4, vI rt), (5, vI (n + 0)), (6, vI 0)] [3, 4, 5, 6, 7, 0, 1] rfl ?_
                exact ih_19 (n + 0) 0 (by omega) (by omega) (fun _ => by rw [Int.add_zero]; exact go_end (hc1 (by omega)).1 (hc1 (by omega)).2.1 (by omega) (by simp only [ok, Bool.and_eq_false_iff, decide_eq_false_iff_not]; omega)) (fun q => absurd q (by omega)) (by omega)
              · have h_57 := bI_f h_57
                have hAt := hT.A (r := p + n + 1) hb (by omega) (by omega)
                refine s_iload_n 3 C dX7_goes_60 rfl 4 rfl ?_
                refine s_aload_n 0 C dX7_goes_61 rfl 1 rfl ?_
                refine s_iload C dX7_goes_62 0 rfl ?_
                refine s_iconst C dX7_goes_64 ?_
                refine s_callV (As := [vI (p + n + 1), vI 4]) (rest := [vI t]) C dX7_goes_65 (c_X7_ofRecord l G m0 m1 xs f (p + n + 1) 4 (by first | assumption | omega)) gX7_goes_X7_ofRecord rfl 2 (by decide +kernel) (by decide) 0 7 rfl rfl rfl [0, 1] rfl (by decide) rfl (Nat.le_of_ble_eq_true rfl) ⟨Nat.zero_le _, Nat.zero_le _⟩ ?_
                intro v0 w0 hq
                obtain ⟨rfl, rfl⟩ := hq
                refine ⟨rfl, ?_⟩
                show fSt l G X 0 0 68 [(7, vI (p + n + 1)), (0, .ref m0), (1, vI b), (2, vI p), (3, vI t), (4, vI rt), (5, vI n), (6, vI c)] [vI (oR f (p + n + 1) 4), vI t] [cO m0 7 (.ref m1 :: xs), cA m1 G.2.1.1 718 f]
                refine s_isub C dX7_goes_68 ?_
                refine s_aload_n 0 C dX7_goes_69 rfl 1 rfl ?_
                refine s_get C dX7_goes_70 7 rfl hinX7 0 rfl 0 (by decide) (by decide +kernel) rfl ?_
                refine s_bipush (z := 8) C dX7_goes_73 rfl ?_
                refine s_iald C dX7_goes_75 1 rfl 8 rfl (by omega) (by omega) (by omega) ?_
                refine s_icmp_lt 83 C dX7_goes_76 (by decide) (by omega) (hf _) (fun h_76 => ?_) (fun h_76 => ?_)
                · refine s_iconst C dX7_goes_83 ?_
                  refine s_istore [(6, vI 0), (7, vI (p + n + 1)), (0, .ref m0), (1, vI b), (2, vI p), (3, vI t), (4, vI rt), (5, vI n)] C dX7_goes_84 (by decide) rfl ?_
                  refine s_iload C dX7_goes_86 7 rfl ?_
                  refine s_iload C dX7_goes_88 0 rfl ?_
                  refine s_if_eq 97 C dX7_goes_90 (by decide) (by decide) (fun h => ?_) (fun h => absurd h (by decide))
                  refine s_iconst C dX7_goes_97 ?_
                  refine s_iadd C dX7_goes_98 ?_
                  refine s_istore [(5, vI (n + 0)), (6, vI 0), (7, vI (p + n + 1)), (0, .ref m0), (1, vI b), (2, vI p), (3, vI t), (4, vI rt)] C dX7_goes_99 (by decide) rfl ?_
                  refine s_goto 19 C dX7_goes_101 (by decide) ?_
                  refine s_lv [(0, .ref m0), (1, vI b), (2, vI p), (3, vI t), (4, vI rt), (5, vI (n + 0)), (6, vI 0)] [3, 4, 5, 6, 7, 0, 1] rfl ?_
                  exact ih_19 (n + 0) 0 (by omega) (by omega) (fun _ => by rw [Int.add_zero]; exact go_end (hc1 (by omega)).1 (hc1 (by omega)).2.1 (by omega) (by simp only [ok, Bool.and_eq_false_iff, decide_eq_false_iff_not]; omega)) (fun q => absurd q (by omega)) (by omega)
                · refine s_iconst C dX7_goes_79 ?_
                  refine s_goto 84 C dX7_goes_80 (by decide) ?_
                  refine s_istore [(6, vI 1), (7, vI (p + n + 1)), (0, .ref m0), (1, vI b), (2, vI p), (3, vI t), (4, vI rt), (5, vI n)] C dX7_goes_84 (by decide) rfl ?_
                  refine s_iload C dX7_goes_86 7 rfl ?_
                  refine s_iload C dX7_goes_88 0 rfl ?_
                  refine s_if_eq 97 C dX7_goes_90 (by decide) (by decide) (fun h => absurd h (by decide)) (fun h => ?_)
                  refine s_iconst C dX7_goes_93 ?_
                  refine s_goto 98 C dX7_goes_94 (by decide) ?_
                  refine s_iadd C dX7_goes_98 ?_
                  refine s_istore [(5, vI (n + 1)), (6, vI 1), (7, vI (p + n + 1)), (0, .ref m0), (1, vI b), (2, vI p), (3, vI t), (4, vI rt)] C dX7_goes_99 (by decide) rfl ?_
                  refine s_goto 19 C dX7_goes_101 (by decide) ?_
                  refine s_lv [(0, .ref m0), (1, vI b), (2, vI p), (3, vI t), (4, vI rt), (5, vI (n + 1)), (6, vI 1)] [3, 4, 5, 6, 7, 0, 1] rfl ?_
                  exact ih_19 (n + 1) 1 (by omega) (by omega) (fun q => absurd q (by omega)) (fun _ => ⟨(hc1 (by omega)).1, go_more (hc1 (by omega)).2.1 (by omega) (by simp only [ok, Bool.and_eq_true, decide_eq_true_eq]; omega), by omega⟩) (by omega)
    refine s_lv [(0, .ref m0), (1, vI b), (2, vI p), (3, vI t), (4, vI rt), (5, vI 0), (6, vI 1)] [2, 3, 4, 5, 6, 1, 0] rfl ?_
    exact loop_19 (2 * (rt - 0) + 1 + 1 : Int).toNat 0 1 (by omega) (by omega) (fun q => absurd q (by omega)) (fun _ => ⟨h_9, by rw [show (0 : Int).toNat = 0 by rfl, adv]; omega, by omega⟩) (by omega)

set_option maxHeartbeats 4000000 in
set_option maxRecDepth 100000 in
theorem c_X3_isGap (l : Launch) (G : fG) (b0 b1 : Nat) (rc ap st : Int) (g : Int → Int) (r : Int) (hg : gF g) (hr : -2147483648 ≤ r ∧ r < 2147483648) : fCt l G yX3_isGap wsX3_isGap 0 0 0 0 [.ref b0, vI r] [cO b0 3 [vI rc, vI ap, vI st, .ref b1], cA b1 G.2.1.2.1 101 g] (fun (v0 : Option Value) (w0 : va_W) => v0 = some (vI (bI (1 ≤ r ∧ r ≤ 100 ∧ g r ≠ 0))) ∧ w0 = [cO b0 3 [vI rc, vI ap, vI st, .ref b1], cA b1 G.2.1.2.1 101 g]) := by
  refine fs_met (cc := cX3_isGap) (nL := 2) (ret := (some .boolean)) (by decide) rfl (Nat.le_of_ble_eq_true rfl) ?_
  intro X C E
  show fSt l G X 0 0 0 [(0, .ref b0), (1, vI r)] [] [cO b0 3 [vI rc, vI ap, vI st, .ref b1], cA b1 G.2.1.2.1 101 g]
  have hinX3 : ∀ w ∈ u_ws RX3 TX3 4, w ∈ wsX3_isGap := by decide +kernel
  refine s_iload_n 1 C dX3_isGap_0 rfl 1 rfl ?_
  refine s_iconst C dX3_isGap_1 ?_
  refine s_icmp_lt 24 C dX3_isGap_2 (by decide) (by omega) (by omega) (fun h_2 => ?_) (fun h_2 => ?_)
  · refine s_iconst C dX3_isGap_24 ?_
    exact s_zret C E dX3_isGap_25 rfl ⟨congrArg (fun z => some (vI z)) (bI_0 (by omega)), rfl⟩
  · refine s_iload_n 1 C dX3_isGap_5 rfl 1 rfl ?_
    refine s_bipush (z := 100) C dX3_isGap_6 rfl ?_
    refine s_icmp_gt 24 C dX3_isGap_8 (by decide) (by omega) (by omega) (fun h_8 => ?_) (fun h_8 => ?_)
    · refine s_iconst C dX3_isGap_24 ?_
      exact s_zret C E dX3_isGap_25 rfl ⟨congrArg (fun z => some (vI z)) (bI_0 (by omega)), rfl⟩
    · refine s_aload_n 0 C dX3_isGap_11 rfl 0 rfl ?_
      refine s_get C dX3_isGap_12 3 rfl hinX3 0 rfl 3 (by decide) (by decide +kernel) rfl ?_
      refine s_iload_n 1 C dX3_isGap_15 rfl 1 rfl ?_
      refine s_zald C dX3_isGap_16 1 rfl r rfl (by omega) (by omega) (by omega) ?_
      refine s_if_eq 24 C dX3_isGap_17 (by decide) (hg.rf _) (fun h_17 => ?_) (fun h_17 => ?_)
      · refine s_iconst C dX3_isGap_24 ?_
        exact s_zret C E dX3_isGap_25 rfl ⟨congrArg (fun z => some (vI z)) (bI_0 (by omega)), rfl⟩
      · refine s_iconst C dX3_isGap_20 ?_
        refine s_goto 25 C dX3_isGap_21 (by decide) ?_
        exact s_zret C E dX3_isGap_25 rfl ⟨congrArg (fun z => some (vI z)) (bI_1 (by omega)), rfl⟩

set_option maxHeartbeats 4000000 in
set_option maxRecDepth 100000 in
theorem c_X3_setGap (l : Launch) (G : fG) (b0 b1 : Nat) (rc ap st : Int) (g : Int → Int) (r : Int) (hr : 1 ≤ r ∧ r ≤ 100) : fCt l G yX3_setGap wsX3_setGap 0 0 0 0 [.ref b0, vI r] [cO b0 3 [vI rc, vI ap, vI st, .ref b1], cA b1 G.2.1.2.1 101 g] (fun (v0 : Option Value) (w0 : va_W) => v0 = none ∧ w0 = [cO b0 3 [vI rc, vI ap, vI st, .ref b1], cA b1 G.2.1.2.1 101 (uZ g r 1)]) := by
  refine fs_met (cc := cX3_setGap) (nL := 2) (ret := none) (by decide) rfl (Nat.le_of_ble_eq_true rfl) ?_
  intro X C E
  show fSt l G X 0 0 0 [(0, .ref b0), (1, vI r)] [] [cO b0 3 [vI rc, vI ap, vI st, .ref b1], cA b1 G.2.1.2.1 101 g]
  have hinX3 : ∀ w ∈ u_ws RX3 TX3 4, w ∈ wsX3_setGap := by decide +kernel
  refine s_iload_n 1 C dX3_setGap_0 rfl 1 rfl ?_
  refine s_iconst C dX3_setGap_1 ?_
  refine s_icmp_lt 18 C dX3_setGap_2 (by decide) (by omega) (by omega) (fun h_2 => ?_) (fun h_2 => ?_)
  · exfalso
    omega
  · refine s_iload_n 1 C dX3_setGap_5 rfl 1 rfl ?_
    refine s_bipush (z := 100) C dX3_setGap_6 rfl ?_
    refine s_icmp_gt 18 C dX3_setGap_8 (by decide) (by omega) (by omega) (fun h_8 => ?_) (fun h_8 => ?_)
    · exfalso
      omega
    · refine s_aload_n 0 C dX3_setGap_11 rfl 0 rfl ?_
      refine s_get C dX3_setGap_12 3 rfl hinX3 0 rfl 3 (by decide) (by decide +kernel) rfl ?_
      refine s_iload_n 1 C dX3_setGap_15 rfl 1 rfl ?_
      refine s_iconst C dX3_setGap_16 ?_
      refine s_zast [cO b0 3 [vI rc, vI ap, vI st, .ref b1], cA b1 G.2.1.2.1 101 (uZ g r 1)] C dX3_setGap_17 1 rfl r rfl (by omega) (by omega) (by omega) (by omega) rfl ?_
      exact s_vret C E dX3_setGap_18 ⟨rfl, rfl⟩

set_option maxHeartbeats 4000000 in
set_option maxRecDepth 100000 in
theorem c_X3_gapCount (l : Launch) (G : fG) (b0 b1 : Nat) (rc ap st : Int) (g : Int → Int) (hg : gF g) : fCt l G yX3_gapCount wsX3_gapCount 0 0 0 0 [.ref b0] [cO b0 3 [vI rc, vI ap, vI st, .ref b1], cA b1 G.2.1.2.1 101 g] (fun (v0 : Option Value) (w0 : va_W) => v0 = some (vI (sC g)) ∧ w0 = [cO b0 3 [vI rc, vI ap, vI st, .ref b1], cA b1 G.2.1.2.1 101 g]) := by
  refine fs_met (cc := cX3_gapCount) (nL := 3) (ret := (some .int)) (by decide) rfl (Nat.le_of_ble_eq_true rfl) ?_
  intro X C E
  show fSt l G X 0 0 0 [(0, .ref b0)] [] [cO b0 3 [vI rc, vI ap, vI st, .ref b1], cA b1 G.2.1.2.1 101 g]
  have hinX3 : ∀ w ∈ u_ws RX3 TX3 4, w ∈ wsX3_gapCount := by decide +kernel
  refine s_iconst C dX3_gapCount_0 ?_
  refine s_istore_n 1 [(1, vI 0), (0, .ref b0)] C dX3_gapCount_1 rfl (by decide) rfl ?_
  refine s_iconst C dX3_gapCount_2 ?_
  refine s_istore_n 2 [(2, vI 1), (1, vI 0), (0, .ref b0)] C dX3_gapCount_3 rfl (by decide) rfl ?_
  have loop_4 : ∀ (fuel : Nat) (r c : Int), (1 ≤ r ∧ r ≤ 101) → (c = cnt (fun r => decide (g r ≠ 0)) 1 (r - 1).toNat) → (0 ≤ c ∧ c < r) → (101 - r < (fuel : Int)) → fSt l G X 0 0 4 [(0, .ref b0), (1, vI c), (2, vI r)] [] [cO b0 3 [vI rc, vI ap, vI st, .ref b1], cA b1 G.2.1.2.1 101 g] := by
    intro fuel
    induction fuel with
    | zero =>
      intro r c hr hc hcr hm
      exfalso
      omega
    | succ fuel ih_4 =>
      intro r c hr hc hcr hm
      refine s_iload_n 2 C dX3_gapCount_4 rfl 2 rfl ?_
      refine s_bipush (z := 100) C dX3_gapCount_5 rfl ?_
      refine s_icmp_gt 28 C dX3_gapCount_7 (by decide) (by omega) (by omega) (fun h_7 => ?_) (fun h_7 => ?_)
      · refine s_iload_n 1 C dX3_gapCount_28 rfl 1 rfl ?_
        exact s_iret C E dX3_gapCount_29 ⟨congrArg (fun z => some (vI z)) (by rw [hc, sC, show (r - 1).toNat = 100 by omega]), rfl⟩
      · refine s_aload_n 0 C dX3_gapCount_10 rfl 0 rfl ?_
        refine s_get C dX3_gapCount_11 3 rfl hinX3 0 rfl 3 (by decide) (by decide +kernel) rfl ?_
        refine s_iload_n 2 C dX3_gapCount_14 rfl 2 rfl ?_
        refine s_zald C dX3_gapCount_15 1 rfl r rfl (by omega) (by omega) (by omega) ?_
        refine s_if_eq 22 C dX3_gapCount_16 (by decide) (hg.rf _) (fun h_16 => ?_) (fun h_16 => ?_)
        · refine s_iinc [(2, vI (r + 1)), (0, .ref b0), (1, vI c)] C dX3_gapCount_22 2 rfl (by decide) rfl ?_
          refine s_goto 4 C dX3_gapCount_25 (by decide) ?_
          refine s_lv [(0, .ref b0), (1, vI c), (2, vI (r + 1))] [1, 2, 0] rfl ?_
          exact ih_4 (r + 1) c (by omega) (cnt_nx (by omega) hc (Or.inr ⟨(by simp only [decide_eq_true_eq]; omega), rfl⟩)) (by omega) (by omega)
        · refine s_iinc [(1, vI (c + 1)), (0, .ref b0), (2, vI r)] C dX3_gapCount_19 1 rfl (by decide) rfl ?_
          refine s_iinc [(2, vI (r + 1)), (1, vI (c + 1)), (0, .ref b0)] C dX3_gapCount_22 2 rfl (by decide) rfl ?_
          refine s_goto 4 C dX3_gapCount_25 (by decide) ?_
          refine s_lv [(0, .ref b0), (1, vI (c + 1)), (2, vI (r + 1))] [2, 1, 0] rfl ?_
          exact ih_4 (r + 1) (c + 1) (by omega) (cnt_nx (by omega) hc (Or.inl ⟨(by simp only [decide_eq_true_eq]; omega), rfl⟩)) (by omega) (by omega)
  refine s_lv [(0, .ref b0), (1, vI 0), (2, vI 1)] [2, 1, 0] rfl ?_
  exact loop_4 (101 - 1 + 1 : Int).toNat 1 0 (by omega) rfl (by omega) (by omega)

set_option maxHeartbeats 4000000 in
set_option maxRecDepth 100000 in
theorem c_X3_lowestGap (l : Launch) (G : fG) (b0 b1 : Nat) (rc ap st : Int) (g : Int → Int) (hg : gF g) : fCt l G yX3_lowestGap wsX3_lowestGap 0 0 0 0 [.ref b0] [cO b0 3 [vI rc, vI ap, vI st, .ref b1], cA b1 G.2.1.2.1 101 g] (fun (v0 : Option Value) (w0 : va_W) => v0 = some (vI (sW g)) ∧ w0 = [cO b0 3 [vI rc, vI ap, vI st, .ref b1], cA b1 G.2.1.2.1 101 g]) := by
  refine fs_met (cc := cX3_lowestGap) (nL := 2) (ret := (some .int)) (by decide) rfl (Nat.le_of_ble_eq_true rfl) ?_
  intro X C E
  show fSt l G X 0 0 0 [(0, .ref b0)] [] [cO b0 3 [vI rc, vI ap, vI st, .ref b1], cA b1 G.2.1.2.1 101 g]
  have hinX3 : ∀ w ∈ u_ws RX3 TX3 4, w ∈ wsX3_lowestGap := by decide +kernel
  refine s_iconst C dX3_lowestGap_0 ?_
  refine s_istore_n 1 [(1, vI 1), (0, .ref b0)] C dX3_lowestGap_1 rfl (by decide) rfl ?_
  have loop_2 : ∀ (fuel : Nat) (r : Int), (1 ≤ r ∧ r ≤ 101) → (∀ i, 1 ≤ i → i < r → decide (g i ≠ 0) = false) → (101 - r < (fuel : Int)) → fSt l G X 0 0 2 [(0, .ref b0), (1, vI r)] [] [cO b0 3 [vI rc, vI ap, vI st, .ref b1], cA b1 G.2.1.2.1 101 g] := by
    intro fuel
    induction fuel with
    | zero =>
      intro r hr hi hm
      exfalso
      omega
    | succ fuel ih_2 =>
      intro r hr hi hm
      refine s_iload_n 1 C dX3_lowestGap_2 rfl 1 rfl ?_
      refine s_bipush (z := 100) C dX3_lowestGap_3 rfl ?_
      refine s_icmp_gt 25 C dX3_lowestGap_5 (by decide) (by omega) (by omega) (fun h_5 => ?_) (fun h_5 => ?_)
      · refine s_iconst C dX3_lowestGap_25 ?_
        exact s_iret C E dX3_lowestGap_26 ⟨congrArg (fun z => some (vI z)) (by rw [sW, fstI_none (fun i h1 h2 => hi i h1 (by omega)), if_neg (by omega)]), rfl⟩
      · refine s_aload_n 0 C dX3_lowestGap_8 rfl 0 rfl ?_
        refine s_get C dX3_lowestGap_9 3 rfl hinX3 0 rfl 3 (by decide) (by decide +kernel) rfl ?_
        refine s_iload_n 1 C dX3_lowestGap_12 rfl 1 rfl ?_
        refine s_zald C dX3_lowestGap_13 1 rfl r rfl (by omega) (by omega) (by omega) ?_
        refine s_if_eq 19 C dX3_lowestGap_14 (by decide) (hg.rf _) (fun h_14 => ?_) (fun h_14 => ?_)
        · refine s_iinc [(1, vI (r + 1)), (0, .ref b0)] C dX3_lowestGap_19 1 rfl (by decide) rfl ?_
          refine s_goto 2 C dX3_lowestGap_22 (by decide) ?_
          refine s_lv [(0, .ref b0), (1, vI (r + 1))] [1, 0] rfl ?_
          exact ih_2 (r + 1) (by omega) (fun i h1 h2 => by by_cases h3 : i = r; (· rw [h3]; exact decide_eq_false (by omega)); (· exact hi i h1 (by omega))) (by omega)
        · refine s_iload_n 1 C dX3_lowestGap_17 rfl 1 rfl ?_
          exact s_iret C E dX3_lowestGap_18 ⟨congrArg (fun z => some (vI z)) (by rw [sW, fstI_hit hi (decide_eq_true (by omega)) (by omega) (by omega), if_pos (by omega)]), rfl⟩
  refine s_lv [(0, .ref b0), (1, vI 1)] [1, 0] rfl ?_
  exact loop_2 (101 - 1 + 1 : Int).toNat 1 (by omega) (fun i h1 h2 => absurd h1 (by omega)) (by omega)

set_option maxHeartbeats 4000000 in
set_option maxRecDepth 100000 in
theorem c_X3_dropGapsBehind (l : Launch) (G : fG) (b0 b1 : Nat) (rc ap st : Int) (g : Int → Int) (p : Int) (hp : 0 ≤ p ∧ p ≤ 100) : fCt l G yX3_dropGapsBehind wsX3_dropGapsBehind 1 13 0 0 [.ref b0, vI p] [cO b0 3 [vI rc, vI ap, vI st, .ref b1], cA b1 G.2.1.2.1 101 g] (fun (v0 : Option Value) (w0 : va_W) => v0 = none ∧ w0 = [cO b0 3 [vI rc, vI ap, vI st, .ref b1], cA b1 G.2.1.2.1 101 (dG g p)]) := by
  refine fs_met (cc := cX3_dropGapsBehind) (nL := 3) (ret := none) (by decide) rfl (Nat.le_of_ble_eq_true rfl) ?_
  intro X C E
  show fSt l G X 0 0 0 [(0, .ref b0), (1, vI p)] [] [cO b0 3 [vI rc, vI ap, vI st, .ref b1], cA b1 G.2.1.2.1 101 g]
  have hinX3 : ∀ w ∈ u_ws RX3 TX3 4, w ∈ wsX3_dropGapsBehind := by decide +kernel
  refine s_iconst C dX3_dropGapsBehind_0 ?_
  refine s_iload_n 1 C dX3_dropGapsBehind_1 rfl 1 rfl ?_
  refine s_mmax C dX3_dropGapsBehind_2 (by decide +kernel) (by decide +kernel) (by decide +kernel) (by decide +kernel) (by decide) (Nat.le_of_ble_eq_true rfl) ⟨Nat.zero_le _, Nat.zero_le _⟩ (by omega) (by omega) ?_
  refine s_top p (by omega) ?_
  refine s_iconst C dX3_dropGapsBehind_5 ?_
  refine s_iadd C dX3_dropGapsBehind_6 ?_
  refine s_istore_n 2 [(2, vI (p + 1)), (0, .ref b0), (1, vI p)] C dX3_dropGapsBehind_7 rfl (by decide) rfl ?_
  have loop_8 : ∀ (fuel : Nat) (r : Int) (U : Int → Int), (p + 1 ≤ r ∧ r ≤ 101) → (U = fun j => if p + 1 ≤ j ∧ j < r then 0 else g j) → (101 - r < (fuel : Int)) → fSt l G X 0 0 8 [(0, .ref b0), (1, vI p), (2, vI r)] [] [cO b0 3 [vI rc, vI ap, vI st, .ref b1], cA b1 G.2.1.2.1 101 U] := by
    intro fuel
    induction fuel with
    | zero =>
      intro r U hr hU hm
      exfalso
      omega
    | succ fuel ih_8 =>
      intro r U hr hU hm
      refine s_iload_n 2 C dX3_dropGapsBehind_8 rfl 2 rfl ?_
      refine s_bipush (z := 100) C dX3_dropGapsBehind_9 rfl ?_
      refine s_icmp_gt 27 C dX3_dropGapsBehind_11 (by decide) (by omega) (by omega) (fun h_11 => ?_) (fun h_11 => ?_)
      · have hU2 : U = dG g p := by rw [hU]; funext j; rw [dG]; by_cases h2 : p + 1 ≤ j ∧ j < r; (· rw [if_pos h2, if_pos (by omega)]); (· rw [if_neg h2, if_neg (by omega)])
        subst hU2
        exact s_vret C E dX3_dropGapsBehind_27 ⟨rfl, rfl⟩
      · refine s_aload_n 0 C dX3_dropGapsBehind_14 rfl 0 rfl ?_
        refine s_get C dX3_dropGapsBehind_15 3 rfl hinX3 0 rfl 3 (by decide) (by decide +kernel) rfl ?_
        refine s_iload_n 2 C dX3_dropGapsBehind_18 rfl 2 rfl ?_
        refine s_iconst C dX3_dropGapsBehind_19 ?_
        refine s_zast [cO b0 3 [vI rc, vI ap, vI st, .ref b1], cA b1 G.2.1.2.1 101 (uZ U r 0)] C dX3_dropGapsBehind_20 1 rfl r rfl (by omega) (by omega) (by omega) (by omega) rfl ?_
        refine s_iinc [(2, vI (r + 1)), (0, .ref b0), (1, vI p)] C dX3_dropGapsBehind_21 2 rfl (by decide) rfl ?_
        refine s_goto 8 C dX3_dropGapsBehind_24 (by decide) ?_
        refine s_lv [(0, .ref b0), (1, vI p), (2, vI (r + 1))] [1, 2, 0] rfl ?_
        exact ih_8 (r + 1) (uZ U r 0) (by omega) (by rw [hU]; funext j; simp only [uZ]; by_cases h1 : j = r; (· rw [if_pos h1, if_pos (by omega)]); (· rw [if_neg h1]; by_cases h2 : p + 1 ≤ j ∧ j < r; (· rw [if_pos h2, if_pos (by omega)]); (· rw [if_neg h2, if_neg (by omega)]))) (by omega)
  refine s_lv [(0, .ref b0), (1, vI p), (2, vI (p + 1))] [1, 2, 0] rfl ?_
  exact loop_8 (101 - (p + 1) + 1 : Int).toNat (p + 1) g (by omega) (by funext j; rw [if_neg (by omega)]) (by omega)

set_option maxHeartbeats 4000000 in
set_option maxRecDepth 100000 in
theorem c_X3_standAt (l : Launch) (G : fG) (b0 b1 : Nat) (rc ap st : Int) (g : Int → Int) (p a : Int) (hp : 0 ≤ p ∧ p ≤ 100) (ha : a = 0 ∨ a = 1) : fCt l G yX3_standAt wsX3_standAt 2 35 0 0 [.ref b0, vI p, vI a] [cO b0 3 [vI rc, vI ap, vI st, .ref b1], cA b1 G.2.1.2.1 101 g] (fun (v0 : Option Value) (w0 : va_W) => v0 = none ∧ w0 = [cO b0 3 [vI p, vI p, vI a, .ref b1], cA b1 G.2.1.2.1 101 (dG g 0)]) := by
  refine fs_met (cc := cX3_standAt) (nL := 3) (ret := none) (by decide) rfl (Nat.le_of_ble_eq_true rfl) ?_
  intro X C E
  show fSt l G X 0 0 0 [(0, .ref b0), (1, vI p), (2, vI a)] [] [cO b0 3 [vI rc, vI ap, vI st, .ref b1], cA b1 G.2.1.2.1 101 g]
  have hinX3 : ∀ w ∈ u_ws RX3 TX3 4, w ∈ wsX3_standAt := by decide +kernel
  refine s_aload_n 0 C dX3_standAt_0 rfl 0 rfl ?_
  refine s_iload_n 1 C dX3_standAt_1 rfl 1 rfl ?_
  refine s_put [cO b0 3 [vI p, vI ap, vI st, .ref b1], cA b1 G.2.1.2.1 101 g] C dX3_standAt_2 3 rfl hinX3 tyX3 tyX3_ok nmX3 0 rfl 0 (by decide) (by decide +kernel) rfl rfl rfl (Nat.le_of_ble_eq_true rfl) rfl ?_
  refine s_aload_n 0 C dX3_standAt_5 rfl 0 rfl ?_
  refine s_iload_n 1 C dX3_standAt_6 rfl 1 rfl ?_
  refine s_put [cO b0 3 [vI p, vI p, vI st, .ref b1], cA b1 G.2.1.2.1 101 g] C dX3_standAt_7 3 rfl hinX3 tyX3 tyX3_ok nmX3 0 rfl 1 (by decide) (by decide +kernel) rfl rfl rfl (Nat.le_of_ble_eq_true rfl) rfl ?_
  refine s_aload_n 0 C dX3_standAt_10 rfl 0 rfl ?_
  refine s_iload_n 2 C dX3_standAt_11 rfl 2 rfl ?_
  refine s_put [cO b0 3 [vI p, vI p, vI a, .ref b1], cA b1 G.2.1.2.1 101 g] C dX3_standAt_12 3 rfl hinX3 tyX3 tyX3_ok nmX3 0 rfl 2 (by decide) (by decide +kernel) rfl (narB (by omega)) (fitB (by omega)) (Nat.le_of_ble_eq_true rfl) rfl ?_
  refine s_aload_n 0 C dX3_standAt_15 rfl 0 rfl ?_
  refine s_iconst C dX3_standAt_16 ?_
  refine s_callV (As := [vI 0]) (rest := []) C dX3_standAt_17 (c_X3_dropGapsBehind l G b0 b1 p p a g 0 (by first | assumption | omega)) gX3_standAt_X3_dropGapsBehind rfl 1 (by decide +kernel) (by decide) 0 3 rfl rfl rfl [0, 1] rfl (by decide) rfl (Nat.le_of_ble_eq_true rfl) ⟨Nat.zero_le _, Nat.zero_le _⟩ ?_
  intro v0 w0 hq
  obtain ⟨rfl, rfl⟩ := hq
  refine ⟨rfl, ?_⟩
  show fSt l G X 0 0 20 [(0, .ref b0), (1, vI p), (2, vI a)] [] [cO b0 3 [vI p, vI p, vI a, .ref b1], cA b1 G.2.1.2.1 101 (dG g 0)]
  exact s_vret C E dX3_standAt_20 ⟨rfl, rfl⟩

set_option maxHeartbeats 4000000 in
set_option maxRecDepth 100000 in
theorem c_X3_cutTo (l : Launch) (G : fG) (b0 b1 : Nat) (rc ap st : Int) (g : Int → Int) (p : Int) (hrc : 0 ≤ rc ∧ rc ≤ 100) (hap : 0 ≤ ap ∧ ap ≤ 100) (hst : st = 0 ∨ st = 1) (hp : 0 ≤ p ∧ p ≤ 100) : fCt l G yX3_cutTo wsX3_cutTo 2 35 0 0 [.ref b0, vI p] [cO b0 3 [vI rc, vI ap, vI st, .ref b1], cA b1 G.2.1.2.1 101 g] (fun (v0 : Option Value) (w0 : va_W) => v0 = none ∧ w0 = [cO b0 3 [vI (if p < rc then p else rc), vI (if p < ap then p else ap), vI (if p < ap then 1 else st), .ref b1], cA b1 G.2.1.2.1 101 (dG g p)]) := by
  refine fs_met (cc := cX3_cutTo) (nL := 2) (ret := none) (by decide) rfl (Nat.le_of_ble_eq_true rfl) ?_
  intro X C E
  show fSt l G X 0 0 0 [(0, .ref b0), (1, vI p)] [] [cO b0 3 [vI rc, vI ap, vI st, .ref b1], cA b1 G.2.1.2.1 101 g]
  have hinX3 : ∀ w ∈ u_ws RX3 TX3 4, w ∈ wsX3_cutTo := by decide +kernel
  refine s_aload_n 0 C dX3_cutTo_0 rfl 0 rfl ?_
  refine s_aload_n 0 C dX3_cutTo_1 rfl 0 rfl ?_
  refine s_get C dX3_cutTo_2 3 rfl hinX3 0 rfl 0 (by decide) (by decide +kernel) rfl ?_
  refine s_iload_n 1 C dX3_cutTo_5 rfl 1 rfl ?_
  refine s_mmin C dX3_cutTo_6 (by decide +kernel) (by decide +kernel) (by decide +kernel) (by decide +kernel) (by decide) (Nat.le_of_ble_eq_true rfl) ⟨Nat.zero_le _, Nat.zero_le _⟩ (by omega) (by omega) ?_
  refine s_put [cO b0 3 [vI (if p < rc then p else rc), vI ap, vI st, .ref b1], cA b1 G.2.1.2.1 101 g] C dX3_cutTo_9 3 rfl hinX3 tyX3 tyX3_ok nmX3 0 rfl 0 (by decide) (by decide +kernel) rfl rfl rfl (Nat.le_of_ble_eq_true rfl) rfl ?_
  refine s_aload_n 0 C dX3_cutTo_12 rfl 0 rfl ?_
  refine s_iload_n 1 C dX3_cutTo_13 rfl 1 rfl ?_
  refine s_callV (As := [vI p]) (rest := []) C dX3_cutTo_14 (c_X3_dropGapsBehind l G b0 b1 (if p < rc then p else rc) ap st g p (by first | assumption | omega)) gX3_cutTo_X3_dropGapsBehind rfl 1 (by decide +kernel) (by decide) 0 3 rfl rfl rfl [0, 1] rfl (by decide) rfl (Nat.le_of_ble_eq_true rfl) ⟨Nat.zero_le _, Nat.zero_le _⟩ ?_
  intro v0 w0 hq
  obtain ⟨rfl, rfl⟩ := hq
  refine ⟨rfl, ?_⟩
  show fSt l G X 0 0 17 [(0, .ref b0), (1, vI p)] [] [cO b0 3 [vI (if p < rc then p else rc), vI ap, vI st, .ref b1], cA b1 G.2.1.2.1 101 (dG g p)]
  refine s_aload_n 0 C dX3_cutTo_17 rfl 0 rfl ?_
  refine s_get C dX3_cutTo_18 3 rfl hinX3 0 rfl 1 (by decide) (by decide +kernel) rfl ?_
  refine s_iload_n 1 C dX3_cutTo_21 rfl 1 rfl ?_
  refine s_icmp_le 35 C dX3_cutTo_22 (by decide) (by omega) (by omega) (fun h_22 => ?_) (fun h_22 => ?_)
  · exact s_vret C E dX3_cutTo_35 ⟨rfl, by first | (rw [if_pos h_22, if_pos h_22]; done) | (rw [if_neg (by omega : ¬ p < ap), if_neg (by omega : ¬ p < ap)]; done)⟩
  · refine s_aload_n 0 C dX3_cutTo_25 rfl 0 rfl ?_
    refine s_iload_n 1 C dX3_cutTo_26 rfl 1 rfl ?_
    refine s_put [cO b0 3 [vI (if p < rc then p else rc), vI p, vI st, .ref b1], cA b1 G.2.1.2.1 101 (dG g p)] C dX3_cutTo_27 3 rfl hinX3 tyX3 tyX3_ok nmX3 0 rfl 1 (by decide) (by decide +kernel) rfl rfl rfl (Nat.le_of_ble_eq_true rfl) rfl ?_
    refine s_aload_n 0 C dX3_cutTo_30 rfl 0 rfl ?_
    refine s_iconst C dX3_cutTo_31 ?_
    refine s_put [cO b0 3 [vI (if p < rc then p else rc), vI p, vI 1, .ref b1], cA b1 G.2.1.2.1 101 (dG g p)] C dX3_cutTo_32 3 rfl hinX3 tyX3 tyX3_ok nmX3 0 rfl 2 (by decide) (by decide +kernel) rfl rfl rfl (Nat.le_of_ble_eq_true rfl) rfl ?_
    exact s_vret C E dX3_cutTo_35 ⟨rfl, by first | (rw [if_pos h_22, if_pos h_22]; done) | (rw [if_neg (by omega : ¬ p < ap), if_neg (by omega : ¬ p < ap)]; done)⟩

set_option maxHeartbeats 4000000 in
set_option maxRecDepth 100000 in
theorem c_X3_copyFrom (l : Launch) (G : fG) (b0 b1 : Nat) (rc ap st : Int) (g : Int → Int) (d0 d1 : Nat) (rc2 ap2 st2 : Int) (g2 : Int → Int) (hst2 : st2 = 0 ∨ st2 = 1) (hg2 : gF g2) : fCt l G yX3_copyFrom wsX3_copyFrom 0 0 0 0 [.ref b0, .ref d0] [cO b0 3 [vI rc, vI ap, vI st, .ref b1], cA b1 G.2.1.2.1 101 g, cO d0 3 [vI rc2, vI ap2, vI st2, .ref d1], cA d1 G.2.1.2.1 101 g2] (fun (v0 : Option Value) (w0 : va_W) => v0 = none ∧ w0 = [cO b0 3 [vI rc2, vI ap2, vI st2, .ref b1], cA b1 G.2.1.2.1 101 g2, cO d0 3 [vI rc2, vI ap2, vI st2, .ref d1], cA d1 G.2.1.2.1 101 g2]) := by
  refine fs_met (cc := cX3_copyFrom) (nL := 3) (ret := none) (by decide) rfl (Nat.le_of_ble_eq_true rfl) ?_
  intro X C E
  show fSt l G X 0 0 0 [(0, .ref b0), (1, .ref d0)] [] [cO b0 3 [vI rc, vI ap, vI st, .ref b1], cA b1 G.2.1.2.1 101 g, cO d0 3 [vI rc2, vI ap2, vI st2, .ref d1], cA d1 G.2.1.2.1 101 g2]
  have hinX3 : ∀ w ∈ u_ws RX3 TX3 4, w ∈ wsX3_copyFrom := by decide +kernel
  refine s_aload_n 0 C dX3_copyFrom_0 rfl 0 rfl ?_
  refine s_aload_n 1 C dX3_copyFrom_1 rfl 1 rfl ?_
  refine s_get C dX3_copyFrom_2 3 rfl hinX3 2 rfl 0 (by decide) (by decide +kernel) rfl ?_
  refine s_put [cO b0 3 [vI rc2, vI ap, vI st, .ref b1], cA b1 G.2.1.2.1 101 g, cO d0 3 [vI rc2, vI ap2, vI st2, .ref d1], cA d1 G.2.1.2.1 101 g2] C dX3_copyFrom_5 3 rfl hinX3 tyX3 tyX3_ok nmX3 0 rfl 0 (by decide) (by decide +kernel) rfl rfl rfl (Nat.le_of_ble_eq_true rfl) rfl ?_
  refine s_aload_n 0 C dX3_copyFrom_8 rfl 0 rfl ?_
  refine s_aload_n 1 C dX3_copyFrom_9 rfl 1 rfl ?_
  refine s_get C dX3_copyFrom_10 3 rfl hinX3 2 rfl 1 (by decide) (by decide +kernel) rfl ?_
  refine s_put [cO b0 3 [vI rc2, vI ap2, vI st, .ref b1], cA b1 G.2.1.2.1 101 g, cO d0 3 [vI rc2, vI ap2, vI st2, .ref d1], cA d1 G.2.1.2.1 101 g2] C dX3_copyFrom_13 3 rfl hinX3 tyX3 tyX3_ok nmX3 0 rfl 1 (by decide) (by decide +kernel) rfl rfl rfl (Nat.le_of_ble_eq_true rfl) rfl ?_
  refine s_aload_n 0 C dX3_copyFrom_16 rfl 0 rfl ?_
  refine s_aload_n 1 C dX3_copyFrom_17 rfl 1 rfl ?_
  refine s_get C dX3_copyFrom_18 3 rfl hinX3 2 rfl 2 (by decide) (by decide +kernel) rfl ?_
  refine s_put [cO b0 3 [vI rc2, vI ap2, vI st2, .ref b1], cA b1 G.2.1.2.1 101 g, cO d0 3 [vI rc2, vI ap2, vI st2, .ref d1], cA d1 G.2.1.2.1 101 g2] C dX3_copyFrom_21 3 rfl hinX3 tyX3 tyX3_ok nmX3 0 rfl 2 (by decide) (by decide +kernel) rfl (narB (by omega)) (fitB (by omega)) (Nat.le_of_ble_eq_true rfl) rfl ?_
  refine s_iconst C dX3_copyFrom_24 ?_
  refine s_istore_n 2 [(2, vI 0), (0, .ref b0), (1, .ref d0)] C dX3_copyFrom_25 rfl (by decide) rfl ?_
  have loop_26 : ∀ (fuel : Nat) (r : Int) (U : Int → Int), (0 ≤ r ∧ r ≤ 101) → (U = fun j => if 0 ≤ j ∧ j < r then g2 j else g j) → (101 - r < (fuel : Int)) → fSt l G X 0 0 26 [(0, .ref b0), (1, .ref d0), (2, vI r)] [] [cO b0 3 [vI rc2, vI ap2, vI st2, .ref b1], cA b1 G.2.1.2.1 101 U, cO d0 3 [vI rc2, vI ap2, vI st2, .ref d1], cA d1 G.2.1.2.1 101 g2] := by
    intro fuel
    induction fuel with
    | zero =>
      intro r U hr hU hm
      exfalso
      omega
    | succ fuel ih_26 =>
      intro r U hr hU hm
      refine s_iload_n 2 C dX3_copyFrom_26 rfl 2 rfl ?_
      refine s_bipush (z := 100) C dX3_copyFrom_27 rfl ?_
      refine s_icmp_gt 50 C dX3_copyFrom_29 (by decide) (by omega) (by omega) (fun h_29 => ?_) (fun h_29 => ?_)
      · refine s_agr [cO b0 3 [vI rc2, vI ap2, vI st2, .ref b1], cA b1 G.2.1.2.1 101 g2, cO d0 3 [vI rc2, vI ap2, vI st2, .ref d1], cA d1 G.2.1.2.1 101 g2] 1 rfl g2 (fun j h0 h1 => by rw [hU]; exact if_pos (by omega)) rfl ?_
        exact s_vret C E dX3_copyFrom_50 ⟨rfl, rfl⟩
      · refine s_aload_n 0 C dX3_copyFrom_32 rfl 0 rfl ?_
        refine s_get C dX3_copyFrom_33 3 rfl hinX3 0 rfl 3 (by decide) (by decide +kernel) rfl ?_
        refine s_iload_n 2 C dX3_copyFrom_36 rfl 2 rfl ?_
        refine s_aload_n 1 C dX3_copyFrom_37 rfl 1 rfl ?_
        refine s_get C dX3_copyFrom_38 3 rfl hinX3 2 rfl 3 (by decide) (by decide +kernel) rfl ?_
        refine s_iload_n 2 C dX3_copyFrom_41 rfl 2 rfl ?_
        refine s_zald C dX3_copyFrom_42 3 rfl r rfl (by omega) (by omega) (by omega) ?_
        refine s_zast [cO b0 3 [vI rc2, vI ap2, vI st2, .ref b1], cA b1 G.2.1.2.1 101 (uZ U r (g2 r)), cO d0 3 [vI rc2, vI ap2, vI st2, .ref d1], cA d1 G.2.1.2.1 101 g2] C dX3_copyFrom_43 1 rfl r rfl (by omega) (by omega) (by omega) (hg2 r) rfl ?_
        refine s_iinc [(2, vI (r + 1)), (0, .ref b0), (1, .ref d0)] C dX3_copyFrom_44 2 rfl (by decide) rfl ?_
        refine s_goto 26 C dX3_copyFrom_47 (by decide) ?_
        refine s_lv [(0, .ref b0), (1, .ref d0), (2, vI (r + 1))] [1, 2, 0] rfl ?_
        exact ih_26 (r + 1) (uZ U r (g2 r)) (by omega) (by rw [hU]; funext j; simp only [uZ]; by_cases h1 : j = r; (· rw [if_pos h1, if_pos (by omega), h1]); (· rw [if_neg h1]; by_cases h2 : 0 ≤ j ∧ j < r; (· rw [if_pos h2, if_pos (by omega)]); (· rw [if_neg h2, if_neg (by omega)]))) (by omega)
  refine s_lv [(0, .ref b0), (1, .ref d0), (2, vI 0)] [1, 2, 0] rfl ?_
  exact loop_26 (101 - 0 + 1 : Int).toNat 0 g (by omega) (by funext j; rw [if_neg (by omega)]) (by omega)

set_option maxHeartbeats 4000000 in
set_option maxRecDepth 100000 in
theorem c_X7_in (l : Launch) (G : fG) (v a z : Int) (hv : -2147483648 ≤ v ∧ v < 2147483648) (ha : -2147483648 ≤ a ∧ a < 2147483648) (hz : -2147483648 ≤ z ∧ z < 2147483648) : fCt l G yX7_in wsX7_in 0 0 0 0 [vI v, vI a, vI z] [] (fun (v0 : Option Value) (w0 : va_W) => v0 = some (vI (bI (a ≤ v ∧ v ≤ z))) ∧ w0 = []) := by
  refine fs_met (cc := cX7_in) (nL := 3) (ret := (some .boolean)) (by decide) rfl (Nat.le_of_ble_eq_true rfl) ?_
  intro X C E
  show fSt l G X 0 0 0 [(0, vI v), (1, vI a), (2, vI z)] [] []
  refine s_iload_n 0 C dX7_in_0 rfl 0 rfl ?_
  refine s_iload_n 1 C dX7_in_1 rfl 1 rfl ?_
  refine s_icmp_lt 14 C dX7_in_2 (by decide) (by omega) (by omega) (fun h_2 => ?_) (fun h_2 => ?_)
  · refine s_iconst C dX7_in_14 ?_
    exact s_zret C E dX7_in_15 rfl ⟨congrArg (fun z => some (vI z)) (bI_0 (by omega)), rfl⟩
  · refine s_iload_n 0 C dX7_in_5 rfl 0 rfl ?_
    refine s_iload_n 2 C dX7_in_6 rfl 2 rfl ?_
    refine s_icmp_gt 14 C dX7_in_7 (by decide) (by omega) (by omega) (fun h_7 => ?_) (fun h_7 => ?_)
    · refine s_iconst C dX7_in_14 ?_
      exact s_zret C E dX7_in_15 rfl ⟨congrArg (fun z => some (vI z)) (bI_0 (by omega)), rfl⟩
    · refine s_iconst C dX7_in_10 ?_
      refine s_goto 15 C dX7_in_11 (by decide) ?_
      exact s_zret C E dX7_in_15 rfl ⟨congrArg (fun z => some (vI z)) (bI_1 (by omega)), rfl⟩

set_option maxHeartbeats 4000000 in
set_option maxRecDepth 100000 in
theorem c_X7_isSlot (l : Launch) (G : fG) (k : Int) (hk : -2147483648 ≤ k ∧ k < 2147483648) : fCt l G yX7_isSlot wsX7_isSlot 1 22 0 0 [vI k] [] (fun (v0 : Option Value) (w0 : va_W) => v0 = some (vI (bI (0 ≤ k ∧ k ≤ 2))) ∧ w0 = []) := by
  refine fs_met (cc := cX7_isSlot) (nL := 1) (ret := (some .boolean)) (by decide) rfl (Nat.le_of_ble_eq_true rfl) ?_
  intro X C E
  show fSt l G X 0 0 0 [(0, vI k)] [] []
  refine s_iload_n 0 C dX7_isSlot_0 rfl 0 rfl ?_
  refine s_iconst C dX7_isSlot_1 ?_
  refine s_iconst C dX7_isSlot_2 ?_
  refine s_callS (As := [vI k, vI 0, vI 2]) (rest := []) C dX7_isSlot_3 (c_X7_in l G k 0 2 (by first | assumption | omega) (by first | assumption | omega) (by first | assumption | omega)) gX7_isSlot_X7_in rfl 3 (by decide +kernel) (by decide) [] rfl (by decide) rfl (Nat.le_of_ble_eq_true rfl) ⟨Nat.zero_le _, Nat.zero_le _⟩ ?_
  intro v0 w0 hq
  obtain ⟨rfl, rfl⟩ := hq
  refine ⟨rfl, ?_⟩
  show fSt l G X 0 0 6 [(0, vI k)] [vI (bI (0 ≤ k ∧ k ≤ 2))] []
  exact s_zret C E dX7_isSlot_6 (narB bI_01) ⟨rfl, rfl⟩

set_option maxHeartbeats 4000000 in
set_option maxRecDepth 100000 in
theorem c_X7_isKey (l : Launch) (G : fG) (k : Int) (hk : -2147483648 ≤ k ∧ k < 2147483648) : fCt l G yX7_isKey wsX7_isKey 1 22 0 0 [vI k] [] (fun (v0 : Option Value) (w0 : va_W) => v0 = some (vI (bI (0 ≤ k ∧ k ≤ 23))) ∧ w0 = []) := by
  refine fs_met (cc := cX7_isKey) (nL := 1) (ret := (some .boolean)) (by decide) rfl (Nat.le_of_ble_eq_true rfl) ?_
  intro X C E
  show fSt l G X 0 0 0 [(0, vI k)] [] []
  refine s_iload_n 0 C dX7_isKey_0 rfl 0 rfl ?_
  refine s_iconst C dX7_isKey_1 ?_
  refine s_bipush (z := 23) C dX7_isKey_2 rfl ?_
  refine s_callS (As := [vI k, vI 0, vI 23]) (rest := []) C dX7_isKey_4 (c_X7_in l G k 0 23 (by first | assumption | omega) (by first | assumption | omega) (by first | assumption | omega)) gX7_isKey_X7_in rfl 3 (by decide +kernel) (by decide) [] rfl (by decide) rfl (Nat.le_of_ble_eq_true rfl) ⟨Nat.zero_le _, Nat.zero_le _⟩ ?_
  intro v0 w0 hq
  obtain ⟨rfl, rfl⟩ := hq
  refine ⟨rfl, ?_⟩
  show fSt l G X 0 0 7 [(0, vI k)] [vI (bI (0 ≤ k ∧ k ≤ 23))] []
  exact s_zret C E dX7_isKey_7 (narB bI_01) ⟨rfl, rfl⟩

set_option maxHeartbeats 4000000 in
set_option maxRecDepth 100000 in
theorem c_X7_isStandby (l : Launch) (G : fG) (k : Int) (hk : -2147483648 ≤ k ∧ k < 2147483648) : fCt l G yX7_isStandby wsX7_isStandby 1 22 0 0 [vI k] [] (fun (v0 : Option Value) (w0 : va_W) => v0 = some (vI (bI (0 ≤ k ∧ k ≤ 1))) ∧ w0 = []) := by
  refine fs_met (cc := cX7_isStandby) (nL := 1) (ret := (some .boolean)) (by decide) rfl (Nat.le_of_ble_eq_true rfl) ?_
  intro X C E
  show fSt l G X 0 0 0 [(0, vI k)] [] []
  refine s_iload_n 0 C dX7_isStandby_0 rfl 0 rfl ?_
  refine s_iconst C dX7_isStandby_1 ?_
  refine s_iconst C dX7_isStandby_2 ?_
  refine s_callS (As := [vI k, vI 0, vI 1]) (rest := []) C dX7_isStandby_3 (c_X7_in l G k 0 1 (by first | assumption | omega) (by first | assumption | omega) (by first | assumption | omega)) gX7_isStandby_X7_in rfl 3 (by decide +kernel) (by decide) [] rfl (by decide) rfl (Nat.le_of_ble_eq_true rfl) ⟨Nat.zero_le _, Nat.zero_le _⟩ ?_
  intro v0 w0 hq
  obtain ⟨rfl, rfl⟩ := hq
  refine ⟨rfl, ?_⟩
  show fSt l G X 0 0 6 [(0, vI k)] [vI (bI (0 ≤ k ∧ k ≤ 1))] []
  exact s_zret C E dX7_isStandby_6 (narB bI_01) ⟨rfl, rfl⟩

set_option maxHeartbeats 4000000 in
set_option maxRecDepth 100000 in
theorem c_X7_ofRecord (l : Launch) (G : fG) (m0 m1 : Nat) (xs : List Value) (f : Int → Int) (r w : Int) (hi : 0 ≤ 5 * r + w + 213 ∧ 5 * r + w + 213 < 718) : fCt l G yX7_ofRecord wsX7_ofRecord 0 0 0 0 [.ref m0, vI r, vI w] [cO m0 7 (.ref m1 :: xs), cA m1 G.2.1.1 718 f] (fun (v0 : Option Value) (w0 : va_W) => v0 = some (vI (oR f r w)) ∧ w0 = [cO m0 7 (.ref m1 :: xs), cA m1 G.2.1.1 718 f]) := by
  refine fs_met (cc := cX7_ofRecord) (nL := 3) (ret := (some .int)) (by decide) rfl (Nat.le_of_ble_eq_true rfl) ?_
  intro X C E
  show fSt l G X 0 0 0 [(0, .ref m0), (1, vI r), (2, vI w)] [] [cO m0 7 (.ref m1 :: xs), cA m1 G.2.1.1 718 f]
  have hinX7 : ∀ w ∈ u_ws RX7 TX7 14, w ∈ wsX7_ofRecord := by decide +kernel
  refine s_aload_n 0 C dX7_ofRecord_0 rfl 0 rfl ?_
  refine s_get C dX7_ofRecord_1 7 rfl hinX7 0 rfl 0 (by decide) (by decide +kernel) rfl ?_
  refine s_sipush (z := 218) C dX7_ofRecord_4 rfl ?_
  refine s_iconst C dX7_ofRecord_7 ?_
  refine s_iload_n 1 C dX7_ofRecord_8 rfl 1 rfl ?_
  refine s_imul C dX7_ofRecord_9 ?_
  refine s_iadd C dX7_ofRecord_10 ?_
  refine s_iconst C dX7_ofRecord_11 ?_
  refine s_isub C dX7_ofRecord_12 ?_
  refine s_iload_n 2 C dX7_ofRecord_13 rfl 2 rfl ?_
  refine s_iadd C dX7_ofRecord_14 ?_
  refine s_iald C dX7_ofRecord_15 1 rfl (5 * r + w + 213) (by omega) (by omega) (by omega) (by omega) ?_
  exact s_iret C E dX7_ofRecord_16 ⟨congrArg (fun z => some (vI z)) (rfl), rfl⟩

set_option maxHeartbeats 4000000 in
set_option maxRecDepth 100000 in
theorem c_X7_ofStandby (l : Launch) (G : fG) (m0 m1 : Nat) (xs : List Value) (f : Int → Int) (b w : Int) (hi : 0 ≤ 3 * b + w + 12 ∧ 3 * b + w + 12 < 718) : fCt l G yX7_ofStandby wsX7_ofStandby 0 0 0 0 [.ref m0, vI b, vI w] [cO m0 7 (.ref m1 :: xs), cA m1 G.2.1.1 718 f] (fun (v0 : Option Value) (w0 : va_W) => v0 = some (vI (oS f b w)) ∧ w0 = [cO m0 7 (.ref m1 :: xs), cA m1 G.2.1.1 718 f]) := by
  refine fs_met (cc := cX7_ofStandby) (nL := 3) (ret := (some .int)) (by decide) rfl (Nat.le_of_ble_eq_true rfl) ?_
  intro X C E
  show fSt l G X 0 0 0 [(0, .ref m0), (1, vI b), (2, vI w)] [] [cO m0 7 (.ref m1 :: xs), cA m1 G.2.1.1 718 f]
  have hinX7 : ∀ w ∈ u_ws RX7 TX7 14, w ∈ wsX7_ofStandby := by decide +kernel
  refine s_aload_n 0 C dX7_ofStandby_0 rfl 0 rfl ?_
  refine s_get C dX7_ofStandby_1 7 rfl hinX7 0 rfl 0 (by decide) (by decide +kernel) rfl ?_
  refine s_bipush (z := 12) C dX7_ofStandby_4 rfl ?_
  refine s_iconst C dX7_ofStandby_6 ?_
  refine s_iload_n 1 C dX7_ofStandby_7 rfl 1 rfl ?_
  refine s_imul C dX7_ofStandby_8 ?_
  refine s_iadd C dX7_ofStandby_9 ?_
  refine s_iload_n 2 C dX7_ofStandby_10 rfl 2 rfl ?_
  refine s_iadd C dX7_ofStandby_11 ?_
  refine s_iald C dX7_ofStandby_12 1 rfl (3 * b + w + 12) (by omega) (by omega) (by omega) (by omega) ?_
  exact s_iret C E dX7_ofStandby_13 ⟨congrArg (fun z => some (vI z)) (rfl), rfl⟩

set_option maxHeartbeats 4000000 in
set_option maxRecDepth 100000 in
theorem c_X7_isGap (l : Launch) (G : fG) (m0 m1 : Nat) (xs : List Value) (f : Int → Int) (b r : Int) (hf : rF f) (hi : 0 ≤ 100 * b + r + 17 ∧ 100 * b + r + 17 < 718) : fCt l G yX7_isGap wsX7_isGap 0 0 0 0 [.ref m0, vI b, vI r] [cO m0 7 (.ref m1 :: xs), cA m1 G.2.1.1 718 f] (fun (v0 : Option Value) (w0 : va_W) => v0 = some (vI (bI (oG f b r = 1))) ∧ w0 = [cO m0 7 (.ref m1 :: xs), cA m1 G.2.1.1 718 f]) := by
  refine fs_met (cc := cX7_isGap) (nL := 3) (ret := (some .boolean)) (by decide) rfl (Nat.le_of_ble_eq_true rfl) ?_
  intro X C E
  show fSt l G X 0 0 0 [(0, .ref m0), (1, vI b), (2, vI r)] [] [cO m0 7 (.ref m1 :: xs), cA m1 G.2.1.1 718 f]
  have hinX7 : ∀ w ∈ u_ws RX7 TX7 14, w ∈ wsX7_isGap := by decide +kernel
  refine s_aload_n 0 C dX7_isGap_0 rfl 0 rfl ?_
  refine s_get C dX7_isGap_1 7 rfl hinX7 0 rfl 0 (by decide) (by decide +kernel) rfl ?_
  refine s_bipush (z := 18) C dX7_isGap_4 rfl ?_
  refine s_bipush (z := 100) C dX7_isGap_6 rfl ?_
  refine s_iload_n 1 C dX7_isGap_8 rfl 1 rfl ?_
  refine s_imul C dX7_isGap_9 ?_
  refine s_iadd C dX7_isGap_10 ?_
  refine s_iload_n 2 C dX7_isGap_11 rfl 2 rfl ?_
  refine s_iadd C dX7_isGap_12 ?_
  refine s_iconst C dX7_isGap_13 ?_
  refine s_isub C dX7_isGap_14 ?_
  refine s_iald C dX7_isGap_15 1 rfl (100 * b + r + 17) (by omega) (by omega) (by omega) (by omega) ?_
  refine s_iconst C dX7_isGap_16 ?_
  refine s_icmp_ne 24 C dX7_isGap_17 (by decide) (hf _) (by omega) (fun h_17 => ?_) (fun h_17 => ?_)
  · refine s_iconst C dX7_isGap_24 ?_
    exact s_zret C E dX7_isGap_25 rfl ⟨congrArg (fun z => some (vI z)) (bI_0 (by unfold oG; omega)), rfl⟩
  · refine s_iconst C dX7_isGap_20 ?_
    refine s_goto 25 C dX7_isGap_21 (by decide) ?_
    exact s_zret C E dX7_isGap_25 rfl ⟨congrArg (fun z => some (vI z)) (bI_1 (by unfold oG; omega)), rfl⟩

set_option maxHeartbeats 4000000 in
set_option maxRecDepth 100000 in
theorem c_X7_copies (l : Launch) (G : fG) (a0 a1 : Nat) (f g : Int → Int)  : fCt l G yX7_copies wsX7_copies 0 0 0 0 [.ref a0, .ref a1] [cA a0 G.2.1.1 718 f, cA a1 G.2.1.1 718 g] (fun (v0 : Option Value) (w0 : va_W) => v0 = none ∧ w0 = [cA a0 G.2.1.1 718 f, cA a1 G.2.1.1 718 f]) := by
  refine fs_met (cc := cX7_copies) (nL := 3) (ret := none) (by decide) rfl (Nat.le_of_ble_eq_true rfl) ?_
  intro X C E
  show fSt l G X 0 0 0 [(0, .ref a0), (1, .ref a1)] [] [cA a0 G.2.1.1 718 f, cA a1 G.2.1.1 718 g]
  refine s_iconst C dX7_copies_0 ?_
  refine s_istore_n 2 [(2, vI 0), (0, .ref a0), (1, .ref a1)] C dX7_copies_1 rfl (by decide) rfl ?_
  have loop_2 : ∀ (fuel : Nat) (k : Int) (U : Int → Int), (0 ≤ k ∧ k ≤ 718) → (U = fun j => if 0 ≤ j ∧ j < k then f j else g j) → (718 - k < (fuel : Int)) → fSt l G X 0 0 2 [(0, .ref a0), (1, .ref a1), (2, vI k)] [] [cA a0 G.2.1.1 718 f, cA a1 G.2.1.1 718 U] := by
    intro fuel
    induction fuel with
    | zero =>
      intro k U hk hU hm
      exfalso
      omega
    | succ fuel ih_2 =>
      intro k U hk hU hm
      refine s_iload_n 2 C dX7_copies_2 rfl 2 rfl ?_
      refine s_sipush (z := 718) C dX7_copies_3 rfl ?_
      refine s_icmp_ge 21 C dX7_copies_6 (by decide) (by omega) (by omega) (fun h_6 => ?_) (fun h_6 => ?_)
      · refine s_agr [cA a0 G.2.1.1 718 f, cA a1 G.2.1.1 718 f] 1 rfl f (fun j h0 h1 => by rw [hU]; exact if_pos (by omega)) rfl ?_
        exact s_vret C E dX7_copies_21 ⟨rfl, rfl⟩
      · refine s_aload_n 1 C dX7_copies_9 rfl 1 rfl ?_
        refine s_iload_n 2 C dX7_copies_10 rfl 2 rfl ?_
        refine s_aload_n 0 C dX7_copies_11 rfl 0 rfl ?_
        refine s_iload_n 2 C dX7_copies_12 rfl 2 rfl ?_
        refine s_iald C dX7_copies_13 0 rfl k rfl (by omega) (by omega) (by omega) ?_
        refine s_iast [cA a0 G.2.1.1 718 f, cA a1 G.2.1.1 718 (uZ U k (f k))] C dX7_copies_14 1 rfl k rfl (by omega) (by omega) (by omega) rfl ?_
        refine s_iinc [(2, vI (k + 1)), (0, .ref a0), (1, .ref a1)] C dX7_copies_15 2 rfl (by decide) rfl ?_
        refine s_goto 2 C dX7_copies_18 (by decide) ?_
        refine s_lv [(0, .ref a0), (1, .ref a1), (2, vI (k + 1))] [1, 2, 0] rfl ?_
        exact ih_2 (k + 1) (uZ U k (f k)) (by omega) (by rw [hU]; funext j; simp only [uZ]; by_cases h1 : j = k; (· rw [if_pos h1, if_pos (by omega), h1]); (· rw [if_neg h1]; by_cases h2 : 0 ≤ j ∧ j < k; (· rw [if_pos h2, if_pos (by omega)]); (· rw [if_neg h2, if_neg (by omega)]))) (by omega)
  refine s_lv [(0, .ref a0), (1, .ref a1), (2, vI 0)] [1, 2, 0] rfl ?_
  exact loop_2 (718 - 0 + 1 : Int).toNat 0 g (by omega) (by funext j; rw [if_neg (by omega)]) (by omega)

set_option maxHeartbeats 4000000 in
set_option maxRecDepth 100000 in
theorem c_X7_lastPut (l : Launch) (G : fG) (m0 m1 : Nat) (xs : List Value) (f : Int → Int) (t y : Int) (hf : rF f) (hn : 0 ≤ f 0 ∧ f 0 ≤ 100) (ht : -2147483648 ≤ t ∧ t < 2147483648) (hy : -2147483648 ≤ y ∧ y < 2147483648) : fCt l G yX7_lastPut wsX7_lastPut 1 22 0 0 [.ref m0, vI t, vI y] [cO m0 7 (.ref m1 :: xs), cA m1 G.2.1.1 718 f] (fun (v0 : Option Value) (w0 : va_W) => v0 = some (vI (mL f t y)) ∧ w0 = [cO m0 7 (.ref m1 :: xs), cA m1 G.2.1.1 718 f]) := by
  refine fs_met (cc := cX7_lastPut) (nL := 5) (ret := (some .int)) (by decide) rfl (Nat.le_of_ble_eq_true rfl) ?_
  intro X C E
  show fSt l G X 0 0 0 [(0, .ref m0), (1, vI t), (2, vI y)] [] [cO m0 7 (.ref m1 :: xs), cA m1 G.2.1.1 718 f]
  have hinX7 : ∀ w ∈ u_ws RX7 TX7 14, w ∈ wsX7_lastPut := by decide +kernel
  refine s_iconst C dX7_lastPut_0 ?_
  refine s_istore_n 3 [(3, vI 0), (0, .ref m0), (1, vI t), (2, vI y)] C dX7_lastPut_1 rfl (by decide) rfl ?_
  refine s_iconst C dX7_lastPut_2 ?_
  refine s_istore [(4, vI 1), (3, vI 0), (0, .ref m0), (1, vI t), (2, vI y)] C dX7_lastPut_3 (by decide) rfl ?_
  have loop_5 : ∀ (fuel : Nat) (r c : Int), (1 ≤ r ∧ r ≤ f 0 + 1) → (c = lst (mP f t y) (r - 1).toNat) → (f 0 + 1 - r < (fuel : Int)) → fSt l G X 0 0 5 [(0, .ref m0), (1, vI t), (2, vI y), (3, vI c), (4, vI r)] [] [cO m0 7 (.ref m1 :: xs), cA m1 G.2.1.1 718 f] := by
    intro fuel
    induction fuel with
    | zero =>
      intro r c hr hc hm
      exfalso
      omega
    | succ fuel ih_5 =>
      intro r c hr hc hm
      refine s_iload C dX7_lastPut_5 4 rfl ?_
      refine s_aload_n 0 C dX7_lastPut_7 rfl 0 rfl ?_
      refine s_get C dX7_lastPut_8 7 rfl hinX7 0 rfl 0 (by decide) (by decide +kernel) rfl ?_
      refine s_iconst C dX7_lastPut_11 ?_
      refine s_iald C dX7_lastPut_12 1 rfl 0 rfl (by omega) (by omega) (by omega) ?_
      refine s_icmp_gt 61 C dX7_lastPut_13 (by decide) (by omega) (hf _) (fun h_13 => ?_) (fun h_13 => ?_)
      · refine s_iload_n 3 C dX7_lastPut_61 rfl 3 rfl ?_
        exact s_iret C E dX7_lastPut_62 ⟨congrArg (fun z => some (vI z)) (by rw [hc, mL]; congr 1; omega), rfl⟩
      · refine s_aload_n 0 C dX7_lastPut_16 rfl 0 rfl ?_
        refine s_iload C dX7_lastPut_17 4 rfl ?_
        refine s_iconst C dX7_lastPut_19 ?_
        refine s_callV (As := [vI r, vI 0]) (rest := []) C dX7_lastPut_20 (c_X7_ofRecord l G m0 m1 xs f r 0 (by first | assumption | omega)) gX7_lastPut_X7_ofRecord rfl 2 (by decide +kernel) (by decide) 0 7 rfl rfl rfl [0, 1] rfl (by decide) rfl (Nat.le_of_ble_eq_true rfl) ⟨Nat.zero_le _, Nat.zero_le _⟩ ?_
        intro v0 w0 hq
        obtain ⟨rfl, rfl⟩ := hq
        refine ⟨rfl, ?_⟩
        show fSt l G X 0 0 23 [(0, .ref m0), (1, vI t), (2, vI y), (3, vI c), (4, vI r)] [vI (oR f r 0)] [cO m0 7 (.ref m1 :: xs), cA m1 G.2.1.1 718 f]
        refine s_if_ne 53 C dX7_lastPut_23 (by decide) (hf _) (fun h_23 => ?_) (fun h_23 => ?_)
        · refine s_iload_n 3 C dX7_lastPut_53 rfl 3 rfl ?_
          refine s_istore_n 3 [(3, vI c), (0, .ref m0), (1, vI t), (2, vI y), (4, vI r)] C dX7_lastPut_54 rfl (by decide) rfl ?_
          refine s_iinc [(4, vI (r + 1)), (3, vI c), (0, .ref m0), (1, vI t), (2, vI y)] C dX7_lastPut_55 4 rfl (by decide) rfl ?_
          refine s_goto 5 C dX7_lastPut_58 (by decide) ?_
          refine s_lv [(0, .ref m0), (1, vI t), (2, vI y), (3, vI c), (4, vI (r + 1))] [2, 3, 4, 1, 0] rfl ?_
          exact ih_5 (r + 1) c (by omega) (lst_up (by omega) hc (Or.inr ⟨(by simp only [mP, Bool.and_eq_true, decide_eq_true_eq]; omega), rfl⟩)) (by omega)
        · refine s_aload_n 0 C dX7_lastPut_26 rfl 0 rfl ?_
          refine s_iload C dX7_lastPut_27 4 rfl ?_
          refine s_iconst C dX7_lastPut_29 ?_
          refine s_callV (As := [vI r, vI 1]) (rest := []) C dX7_lastPut_30 (c_X7_ofRecord l G m0 m1 xs f r 1 (by first | assumption | omega)) gX7_lastPut_X7_ofRecord rfl 2 (by decide +kernel) (by decide) 0 7 rfl rfl rfl [0, 1] rfl (by decide) rfl (Nat.le_of_ble_eq_true rfl) ⟨Nat.zero_le _, Nat.zero_le _⟩ ?_
          intro v0 w0 hq
          obtain ⟨rfl, rfl⟩ := hq
          refine ⟨rfl, ?_⟩
          show fSt l G X 0 0 33 [(0, .ref m0), (1, vI t), (2, vI y), (3, vI c), (4, vI r)] [vI (oR f r 1)] [cO m0 7 (.ref m1 :: xs), cA m1 G.2.1.1 718 f]
          refine s_iload_n 1 C dX7_lastPut_33 rfl 1 rfl ?_
          refine s_icmp_ne 53 C dX7_lastPut_34 (by decide) (hf _) (by omega) (fun h_34 => ?_) (fun h_34 => ?_)
          · refine s_iload_n 3 C dX7_lastPut_53 rfl 3 rfl ?_
            refine s_istore_n 3 [(3, vI c), (0, .ref m0), (1, vI t), (2, vI y), (4, vI r)] C dX7_lastPut_54 rfl (by decide) rfl ?_
            refine s_iinc [(4, vI (r + 1)), (3, vI c), (0, .ref m0), (1, vI t), (2, vI y)] C dX7_lastPut_55 4 rfl (by decide) rfl ?_
            refine s_goto 5 C dX7_lastPut_58 (by decide) ?_
            refine s_lv [(0, .ref m0), (1, vI t), (2, vI y), (3, vI c), (4, vI (r + 1))] [2, 3, 4, 1, 0] rfl ?_
            exact ih_5 (r + 1) c (by omega) (lst_up (by omega) hc (Or.inr ⟨(by simp only [mP, Bool.and_eq_true, decide_eq_true_eq]; omega), rfl⟩)) (by omega)
          · refine s_aload_n 0 C dX7_lastPut_37 rfl 0 rfl ?_
            refine s_iload C dX7_lastPut_38 4 rfl ?_
            refine s_iconst C dX7_lastPut_40 ?_
            refine s_callV (As := [vI r, vI 2]) (rest := []) C dX7_lastPut_41 (c_X7_ofRecord l G m0 m1 xs f r 2 (by first | assumption | omega)) gX7_lastPut_X7_ofRecord rfl 2 (by decide +kernel) (by decide) 0 7 rfl rfl rfl [0, 1] rfl (by decide) rfl (Nat.le_of_ble_eq_true rfl) ⟨Nat.zero_le _, Nat.zero_le _⟩ ?_
            intro v0 w0 hq
            obtain ⟨rfl, rfl⟩ := hq
            refine ⟨rfl, ?_⟩
            show fSt l G X 0 0 44 [(0, .ref m0), (1, vI t), (2, vI y), (3, vI c), (4, vI r)] [vI (oR f r 2)] [cO m0 7 (.ref m1 :: xs), cA m1 G.2.1.1 718 f]
            refine s_iload_n 2 C dX7_lastPut_44 rfl 2 rfl ?_
            refine s_icmp_ne 53 C dX7_lastPut_45 (by decide) (hf _) (by omega) (fun h_45 => ?_) (fun h_45 => ?_)
            · refine s_iload_n 3 C dX7_lastPut_53 rfl 3 rfl ?_
              refine s_istore_n 3 [(3, vI c), (0, .ref m0), (1, vI t), (2, vI y), (4, vI r)] C dX7_lastPut_54 rfl (by decide) rfl ?_
              refine s_iinc [(4, vI (r + 1)), (3, vI c), (0, .ref m0), (1, vI t), (2, vI y)] C dX7_lastPut_55 4 rfl (by decide) rfl ?_
              refine s_goto 5 C dX7_lastPut_58 (by decide) ?_
              refine s_lv [(0, .ref m0), (1, vI t), (2, vI y), (3, vI c), (4, vI (r + 1))] [2, 3, 4, 1, 0] rfl ?_
              exact ih_5 (r + 1) c (by omega) (lst_up (by omega) hc (Or.inr ⟨(by simp only [mP, Bool.and_eq_true, decide_eq_true_eq]; omega), rfl⟩)) (by omega)
            · refine s_iload C dX7_lastPut_48 4 rfl ?_
              refine s_goto 54 C dX7_lastPut_50 (by decide) ?_
              refine s_istore_n 3 [(3, vI r), (0, .ref m0), (1, vI t), (2, vI y), (4, vI r)] C dX7_lastPut_54 rfl (by decide) rfl ?_
              refine s_iinc [(4, vI (r + 1)), (3, vI r), (0, .ref m0), (1, vI t), (2, vI y)] C dX7_lastPut_55 4 rfl (by decide) rfl ?_
              refine s_goto 5 C dX7_lastPut_58 (by decide) ?_
              refine s_lv [(0, .ref m0), (1, vI t), (2, vI y), (3, vI r), (4, vI (r + 1))] [2, 3, 4, 1, 0] rfl ?_
              exact ih_5 (r + 1) r (by omega) (lst_up (by omega) hc (Or.inl ⟨(by simp only [mP, Bool.and_eq_true, decide_eq_true_eq]; omega), rfl⟩)) (by omega)
  refine s_lv [(0, .ref m0), (1, vI t), (2, vI y), (3, vI 0), (4, vI 1)] [2, 3, 4, 1, 0] rfl ?_
  exact loop_5 (f 0 + 1 - 1 + 1 : Int).toNat 1 0 (by omega) rfl (by omega)

set_option maxHeartbeats 4000000 in
set_option maxRecDepth 100000 in
theorem c_X7_lastCommit (l : Launch) (G : fG) (m0 m1 : Nat) (xs : List Value) (f : Int → Int) (p y : Int) (hf : rF f) (hn : 0 ≤ f 0 ∧ f 0 ≤ 100) (hp : 0 ≤ p ∧ p ≤ 100) (hy : -2147483648 ≤ y ∧ y < 2147483648) : fCt l G yX7_lastCommit wsX7_lastCommit 2 46 0 0 [.ref m0, vI p, vI y] [cO m0 7 (.ref m1 :: xs), cA m1 G.2.1.1 718 f] (fun (v0 : Option Value) (w0 : va_W) => v0 = some (vI (mLC f p y)) ∧ w0 = [cO m0 7 (.ref m1 :: xs), cA m1 G.2.1.1 718 f]) := by
  refine fs_met (cc := cX7_lastCommit) (nL := 4) (ret := (some .int)) (by decide) rfl (Nat.le_of_ble_eq_true rfl) ?_
  intro X C E
  show fSt l G X 0 0 0 [(0, .ref m0), (1, vI p), (2, vI y)] [] [cO m0 7 (.ref m1 :: xs), cA m1 G.2.1.1 718 f]
  refine s_iload_n 1 C dX7_lastCommit_0 rfl 1 rfl ?_
  refine s_istore_n 3 [(3, vI p), (0, .ref m0), (1, vI p), (2, vI y)] C dX7_lastCommit_1 rfl (by decide) rfl ?_
  have loop_2 : ∀ (fuel : Nat) (r : Int), (0 ≤ r ∧ r ≤ p) → (mLC f p y = lst (mC f y) r.toNat) → (r < (fuel : Int)) → fSt l G X 0 0 2 [(0, .ref m0), (1, vI p), (2, vI y), (3, vI r)] [] [cO m0 7 (.ref m1 :: xs), cA m1 G.2.1.1 718 f] := by
    intro fuel
    induction fuel with
    | zero =>
      intro r hr hi hm
      exfalso
      omega
    | succ fuel ih_2 =>
      intro r hr hi hm
      refine s_iload_n 3 C dX7_lastCommit_2 rfl 3 rfl ?_
      refine s_if_le 38 C dX7_lastCommit_3 (by decide) (by omega) (fun h_3 => ?_) (fun h_3 => ?_)
      · refine s_iconst C dX7_lastCommit_38 ?_
        exact s_iret C E dX7_lastCommit_39 ⟨congrArg (fun z => some (vI z)) (by rw [hi, show r.toNat = 0 by omega]; rfl), rfl⟩
      · refine s_aload_n 0 C dX7_lastCommit_6 rfl 0 rfl ?_
        refine s_iload_n 3 C dX7_lastCommit_7 rfl 3 rfl ?_
        refine s_iconst C dX7_lastCommit_8 ?_
        refine s_callV (As := [vI r, vI 0]) (rest := []) C dX7_lastCommit_9 (c_X7_ofRecord l G m0 m1 xs f r 0 (by first | assumption | omega)) gX7_lastCommit_X7_ofRecord rfl 2 (by decide +kernel) (by decide) 0 7 rfl rfl rfl [0, 1] rfl (by decide) rfl (Nat.le_of_ble_eq_true rfl) ⟨Nat.zero_le _, Nat.zero_le _⟩ ?_
        intro v0 w0 hq
        obtain ⟨rfl, rfl⟩ := hq
        refine ⟨rfl, ?_⟩
        show fSt l G X 0 0 12 [(0, .ref m0), (1, vI p), (2, vI y), (3, vI r)] [vI (oR f r 0)] [cO m0 7 (.ref m1 :: xs), cA m1 G.2.1.1 718 f]
        refine s_iconst C dX7_lastCommit_12 ?_
        refine s_icmp_ne 32 C dX7_lastCommit_13 (by decide) (hf _) (by omega) (fun h_13 => ?_) (fun h_13 => ?_)
        · refine s_iinc [(3, vI (r + (-1))), (0, .ref m0), (1, vI p), (2, vI y)] C dX7_lastCommit_32 3 rfl (by decide) rfl ?_
          refine s_goto 2 C dX7_lastCommit_35 (by decide) ?_
          refine s_lv [(0, .ref m0), (1, vI p), (2, vI y), (3, vI (r + (-1)))] [1, 2, 3, 0] rfl ?_
          exact ih_2 (r + (-1)) (by omega) (by rw [hi]; exact lst_no (by omega) (by simp only [mC, Bool.and_eq_false_iff, decide_eq_false_iff_not]; omega)) (by omega)
        · refine s_aload_n 0 C dX7_lastCommit_16 rfl 0 rfl ?_
          refine s_aload_n 0 C dX7_lastCommit_17 rfl 0 rfl ?_
          refine s_iload_n 3 C dX7_lastCommit_18 rfl 3 rfl ?_
          refine s_iconst C dX7_lastCommit_19 ?_
          refine s_callV (As := [vI r, vI 1]) (rest := [.ref m0]) C dX7_lastCommit_20 (c_X7_ofRecord l G m0 m1 xs f r 1 (by first | assumption | omega)) gX7_lastCommit_X7_ofRecord rfl 2 (by decide +kernel) (by decide) 0 7 rfl rfl rfl [0, 1] rfl (by decide) rfl (Nat.le_of_ble_eq_true rfl) ⟨Nat.zero_le _, Nat.zero_le _⟩ ?_
          intro v0 w0 hq
          obtain ⟨rfl, rfl⟩ := hq
          refine ⟨rfl, ?_⟩
          show fSt l G X 0 0 23 [(0, .ref m0), (1, vI p), (2, vI y), (3, vI r)] [vI (oR f r 1), .ref m0] [cO m0 7 (.ref m1 :: xs), cA m1 G.2.1.1 718 f]
          refine s_iload_n 2 C dX7_lastCommit_23 rfl 2 rfl ?_
          refine s_callV (As := [vI (oR f r 1), vI y]) (rest := []) C dX7_lastCommit_24 (c_X7_lastPut l G m0 m1 xs f (oR f r 1) y (by first | assumption | omega) (by first | assumption | omega) (hf _) (by first | assumption | omega)) gX7_lastCommit_X7_lastPut rfl 2 (by decide +kernel) (by decide) 0 7 rfl rfl rfl [0, 1] rfl (by decide) rfl (Nat.le_of_ble_eq_true rfl) ⟨Nat.zero_le _, Nat.zero_le _⟩ ?_
          intro v0 w0 hq
          obtain ⟨rfl, rfl⟩ := hq
          refine ⟨rfl, ?_⟩
          show fSt l G X 0 0 27 [(0, .ref m0), (1, vI p), (2, vI y), (3, vI r)] [vI (mL f (oR f r 1) y)] [cO m0 7 (.ref m1 :: xs), cA m1 G.2.1.1 718 f]
          refine s_if_le 32 C dX7_lastCommit_27 (by decide) (mL_rg (by omega)) (fun h_27 => ?_) (fun h_27 => ?_)
          · refine s_iinc [(3, vI (r + (-1))), (0, .ref m0), (1, vI p), (2, vI y)] C dX7_lastCommit_32 3 rfl (by decide) rfl ?_
            refine s_goto 2 C dX7_lastCommit_35 (by decide) ?_
            refine s_lv [(0, .ref m0), (1, vI p), (2, vI y), (3, vI (r + (-1)))] [1, 2, 3, 0] rfl ?_
            exact ih_2 (r + (-1)) (by omega) (by rw [hi]; exact lst_no (by omega) (by simp only [mC, Bool.and_eq_false_iff, decide_eq_false_iff_not]; omega)) (by omega)
          · refine s_iload_n 3 C dX7_lastCommit_30 rfl 3 rfl ?_
            exact s_iret C E dX7_lastCommit_31 ⟨congrArg (fun z => some (vI z)) (by rw [hi]; exact (lst_yes (by omega) (by simp only [mC, Bool.and_eq_true, decide_eq_true_eq]; omega)).symm), rfl⟩
  refine s_lv [(0, .ref m0), (1, vI p), (2, vI y), (3, vI p)] [1, 2, 3, 0] rfl ?_
  exact loop_2 (p + 1 : Int).toNat p (by omega) rfl (by omega)

set_option maxHeartbeats 4000000 in
set_option maxRecDepth 100000 in
theorem c_X7_valueAt (l : Launch) (G : fG) (m0 m1 : Nat) (xs : List Value) (f : Int → Int) (p y : Int) (hf : rF f) (hn : 0 ≤ f 0 ∧ f 0 ≤ 100) (hp : 0 ≤ p ∧ p ≤ 100) (hy : -2147483648 ≤ y ∧ y < 2147483648) : fCt l G yX7_valueAt wsX7_valueAt 3 69 0 0 [.ref m0, vI p, vI y] [cO m0 7 (.ref m1 :: xs), cA m1 G.2.1.1 718 f] (fun (v0 : Option Value) (w0 : va_W) => v0 = some (vI (mV f p y)) ∧ w0 = [cO m0 7 (.ref m1 :: xs), cA m1 G.2.1.1 718 f]) := by
  refine fs_met (cc := cX7_valueAt) (nL := 4) (ret := (some .int)) (by decide) rfl (Nat.le_of_ble_eq_true rfl) ?_
  intro X C E
  show fSt l G X 0 0 0 [(0, .ref m0), (1, vI p), (2, vI y)] [] [cO m0 7 (.ref m1 :: xs), cA m1 G.2.1.1 718 f]
  refine s_aload_n 0 C dX7_valueAt_0 rfl 0 rfl ?_
  refine s_iload_n 1 C dX7_valueAt_1 rfl 1 rfl ?_
  refine s_iload_n 2 C dX7_valueAt_2 rfl 2 rfl ?_
  refine s_callV (As := [vI p, vI y]) (rest := []) C dX7_valueAt_3 (c_X7_lastCommit l G m0 m1 xs f p y (by first | assumption | omega) (by first | assumption | omega) (by first | assumption | omega) (by first | assumption | omega)) gX7_valueAt_X7_lastCommit rfl 2 (by decide +kernel) (by decide) 0 7 rfl rfl rfl [0, 1] rfl (by decide) rfl (Nat.le_of_ble_eq_true rfl) ⟨Nat.zero_le _, Nat.zero_le _⟩ ?_
  intro v0 w0 hq
  obtain ⟨rfl, rfl⟩ := hq
  refine ⟨rfl, ?_⟩
  show fSt l G X 0 0 6 [(0, .ref m0), (1, vI p), (2, vI y)] [vI (mLC f p y)] [cO m0 7 (.ref m1 :: xs), cA m1 G.2.1.1 718 f]
  have hc := mLC_in (f := f) (y := y) hp
  refine s_istore_n 3 [(3, vI (mLC f p y)), (0, .ref m0), (1, vI p), (2, vI y)] C dX7_valueAt_6 rfl (by decide) rfl ?_
  refine s_iload_n 3 C dX7_valueAt_7 rfl 0 rfl ?_
  refine s_if_ne 15 C dX7_valueAt_8 (by decide) (mLC_rg (by omega)) (fun h_8 => ?_) (fun h_8 => ?_)
  · refine s_aload_n 0 C dX7_valueAt_15 rfl 1 rfl ?_
    refine s_aload_n 0 C dX7_valueAt_16 rfl 1 rfl ?_
    refine s_aload_n 0 C dX7_valueAt_17 rfl 1 rfl ?_
    refine s_iload_n 3 C dX7_valueAt_18 rfl 0 rfl ?_
    refine s_iconst C dX7_valueAt_19 ?_
    refine s_callV (As := [vI (mLC f p y), vI 1]) (rest := [.ref m0, .ref m0]) C dX7_valueAt_20 (c_X7_ofRecord l G m0 m1 xs f (mLC f p y) 1 (by first | assumption | omega)) gX7_valueAt_X7_ofRecord rfl 2 (by decide +kernel) (by decide) 0 7 rfl rfl rfl [0, 1] rfl (by decide) rfl (Nat.le_of_ble_eq_true rfl) ⟨Nat.zero_le _, Nat.zero_le _⟩ ?_
    intro v0 w0 hq
    obtain ⟨rfl, rfl⟩ := hq
    refine ⟨rfl, ?_⟩
    show fSt l G X 0 0 23 [(3, vI (mLC f p y)), (0, .ref m0), (1, vI p), (2, vI y)] [vI (oR f (mLC f p y) 1), .ref m0, .ref m0] [cO m0 7 (.ref m1 :: xs), cA m1 G.2.1.1 718 f]
    refine s_iload_n 2 C dX7_valueAt_23 rfl 3 rfl ?_
    refine s_callV (As := [vI (oR f (mLC f p y) 1), vI y]) (rest := [.ref m0]) C dX7_valueAt_24 (c_X7_lastPut l G m0 m1 xs f (oR f (mLC f p y) 1) y (by first | assumption | omega) (by first | assumption | omega) (hf _) (by first | assumption | omega)) gX7_valueAt_X7_lastPut rfl 2 (by decide +kernel) (by decide) 0 7 rfl rfl rfl [0, 1] rfl (by decide) rfl (Nat.le_of_ble_eq_true rfl) ⟨Nat.zero_le _, Nat.zero_le _⟩ ?_
    intro v0 w0 hq
    obtain ⟨rfl, rfl⟩ := hq
    refine ⟨rfl, ?_⟩
    show fSt l G X 0 0 27 [(3, vI (mLC f p y)), (0, .ref m0), (1, vI p), (2, vI y)] [vI (mL f (oR f (mLC f p y) 1) y), .ref m0] [cO m0 7 (.ref m1 :: xs), cA m1 G.2.1.1 718 f]
    have hq := mL_in (f := f) (t := oR f (mLC f p y) 1) (y := y) hn
    refine s_iconst C dX7_valueAt_27 ?_
    refine s_callV (As := [vI (mL f (oR f (mLC f p y) 1) y), vI 3]) (rest := []) C dX7_valueAt_28 (c_X7_ofRecord l G m0 m1 xs f (mL f (oR f (mLC f p y) 1) y) 3 (by first | assumption | omega)) gX7_valueAt_X7_ofRecord rfl 2 (by decide +kernel) (by decide) 0 7 rfl rfl rfl [0, 1] rfl (by decide) rfl (Nat.le_of_ble_eq_true rfl) ⟨Nat.zero_le _, Nat.zero_le _⟩ ?_
    intro v0 w0 hq
    obtain ⟨rfl, rfl⟩ := hq
    refine ⟨rfl, ?_⟩
    show fSt l G X 0 0 31 [(3, vI (mLC f p y)), (0, .ref m0), (1, vI p), (2, vI y)] [vI (oR f (mL f (oR f (mLC f p y) 1) y) 3)] [cO m0 7 (.ref m1 :: xs), cA m1 G.2.1.1 718 f]
    exact s_iret C E dX7_valueAt_31 ⟨congrArg (fun z => some (vI z)) (by rw [mV, if_neg h_8]), rfl⟩
  · refine s_iconst C dX7_valueAt_11 ?_
    refine s_goto 31 C dX7_valueAt_12 (by decide) ?_
    exact s_iret C E dX7_valueAt_31 ⟨congrArg (fun z => some (vI z)) (by rw [mV, if_pos h_8]), rfl⟩

set_option maxHeartbeats 4000000 in
set_option maxRecDepth 100000 in
theorem c_X7_commits (l : Launch) (G : fG) (m0 m1 : Nat) (xs : List Value) (f : Int → Int) (a z : Int) (hf : rF f) (ha : 1 ≤ a ∧ a ≤ z + 1 ∧ z ≤ 100) : fCt l G yX7_commits wsX7_commits 1 22 0 0 [.ref m0, vI a, vI z] [cO m0 7 (.ref m1 :: xs), cA m1 G.2.1.1 718 f] (fun (v0 : Option Value) (w0 : va_W) => v0 = some (vI (mB f a z)) ∧ w0 = [cO m0 7 (.ref m1 :: xs), cA m1 G.2.1.1 718 f]) := by
  refine fs_met (cc := cX7_commits) (nL := 5) (ret := (some .int)) (by decide) rfl (Nat.le_of_ble_eq_true rfl) ?_
  intro X C E
  show fSt l G X 0 0 0 [(0, .ref m0), (1, vI a), (2, vI z)] [] [cO m0 7 (.ref m1 :: xs), cA m1 G.2.1.1 718 f]
  refine s_iconst C dX7_commits_0 ?_
  refine s_istore_n 3 [(3, vI 0), (0, .ref m0), (1, vI a), (2, vI z)] C dX7_commits_1 rfl (by decide) rfl ?_
  refine s_iload_n 1 C dX7_commits_2 rfl 2 rfl ?_
  refine s_istore [(4, vI a), (3, vI 0), (0, .ref m0), (1, vI a), (2, vI z)] C dX7_commits_3 (by decide) rfl ?_
  have loop_5 : ∀ (fuel : Nat) (r c : Int), (a ≤ r ∧ r ≤ z + 1) → (c = cnt (fun r => decide (oR f r 0 = 1)) a (r - a).toNat) → (0 ≤ c ∧ c ≤ r - a) → (z + 1 - r < (fuel : Int)) → fSt l G X 0 0 5 [(0, .ref m0), (1, vI a), (2, vI z), (3, vI c), (4, vI r)] [] [cO m0 7 (.ref m1 :: xs), cA m1 G.2.1.1 718 f] := by
    intro fuel
    induction fuel with
    | zero =>
      intro r c hr hc hcr hm
      exfalso
      omega
    | succ fuel ih_5 =>
      intro r c hr hc hcr hm
      refine s_iload C dX7_commits_5 4 rfl ?_
      refine s_iload_n 2 C dX7_commits_7 rfl 2 rfl ?_
      refine s_icmp_gt 36 C dX7_commits_8 (by decide) (by omega) (by omega) (fun h_8 => ?_) (fun h_8 => ?_)
      · refine s_iload_n 3 C dX7_commits_36 rfl 3 rfl ?_
        exact s_iret C E dX7_commits_37 ⟨congrArg (fun z => some (vI z)) (by rw [hc, mB]; congr 1; omega), rfl⟩
      · refine s_iload_n 3 C dX7_commits_11 rfl 3 rfl ?_
        refine s_aload_n 0 C dX7_commits_12 rfl 0 rfl ?_
        refine s_iload C dX7_commits_13 4 rfl ?_
        refine s_iconst C dX7_commits_15 ?_
        refine s_callV (As := [vI r, vI 0]) (rest := [vI c]) C dX7_commits_16 (c_X7_ofRecord l G m0 m1 xs f r 0 (by first | assumption | omega)) gX7_commits_X7_ofRecord rfl 2 (by decide +kernel) (by decide) 0 7 rfl rfl rfl [0, 1] rfl (by decide) rfl (Nat.le_of_ble_eq_true rfl) ⟨Nat.zero_le _, Nat.zero_le _⟩ ?_
        intro v0 w0 hq
        obtain ⟨rfl, rfl⟩ := hq
        refine ⟨rfl, ?_⟩
        show fSt l G X 0 0 19 [(0, .ref m0), (1, vI a), (2, vI z), (3, vI c), (4, vI r)] [vI (oR f r 0), vI c] [cO m0 7 (.ref m1 :: xs), cA m1 G.2.1.1 718 f]
        refine s_iconst C dX7_commits_19 ?_
        refine s_icmp_ne 27 C dX7_commits_20 (by decide) (hf _) (by omega) (fun h_20 => ?_) (fun h_20 => ?_)
        · refine s_iconst C dX7_commits_27 ?_
          refine s_iadd C dX7_commits_28 ?_
          refine s_istore_n 3 [(3, vI (c + 0)), (0, .ref m0), (1, vI a), (2, vI z), (4, vI r)] C dX7_commits_29 rfl (by decide) rfl ?_
          refine s_iinc [(4, vI (r + 1)), (3, vI (c + 0)), (0, .ref m0), (1, vI a), (2, vI z)] C dX7_commits_30 4 rfl (by decide) rfl ?_
          refine s_goto 5 C dX7_commits_33 (by decide) ?_
          refine s_lv [(0, .ref m0), (1, vI a), (2, vI z), (3, vI (c + 0)), (4, vI (r + 1))] [2, 3, 4, 1, 0] rfl ?_
          exact ih_5 (r + 1) (c + 0) (by omega) (cnt_nx (by omega) hc (Or.inr ⟨(by simp only [decide_eq_true_eq]; omega), by omega⟩)) (by omega) (by omega)
        · refine s_iconst C dX7_commits_23 ?_
          refine s_goto 28 C dX7_commits_24 (by decide) ?_
          refine s_iadd C dX7_commits_28 ?_
          refine s_istore_n 3 [(3, vI (c + 1)), (0, .ref m0), (1, vI a), (2, vI z), (4, vI r)] C dX7_commits_29 rfl (by decide) rfl ?_
          refine s_iinc [(4, vI (r + 1)), (3, vI (c + 1)), (0, .ref m0), (1, vI a), (2, vI z)] C dX7_commits_30 4 rfl (by decide) rfl ?_
          refine s_goto 5 C dX7_commits_33 (by decide) ?_
          refine s_lv [(0, .ref m0), (1, vI a), (2, vI z), (3, vI (c + 1)), (4, vI (r + 1))] [2, 3, 4, 1, 0] rfl ?_
          exact ih_5 (r + 1) (c + 1) (by omega) (cnt_nx (by omega) hc (Or.inl ⟨(by simp only [decide_eq_true_eq]; omega), rfl⟩)) (by omega) (by omega)
  refine s_lv [(0, .ref m0), (1, vI a), (2, vI z), (3, vI 0), (4, vI a)] [2, 3, 4, 1, 0] rfl ?_
  exact loop_5 (z + 1 - a + 1 : Int).toNat a 0 (by omega) (by rw [show (a - a).toNat = 0 by omega]; rfl) (by omega) (by omega)

set_option maxHeartbeats 4000000 in
set_option maxRecDepth 100000 in
theorem c_X7_gaps (l : Launch) (G : fG) (m0 m1 : Nat) (xs : List Value) (f : Int → Int) (b : Int) (hf : rF f) (hb : 0 ≤ b ∧ b ≤ 1) : fCt l G yX7_gaps wsX7_gaps 1 22 0 0 [.ref m0, vI b] [cO m0 7 (.ref m1 :: xs), cA m1 G.2.1.1 718 f] (fun (v0 : Option Value) (w0 : va_W) => v0 = some (vI (mG f b)) ∧ w0 = [cO m0 7 (.ref m1 :: xs), cA m1 G.2.1.1 718 f]) := by
  refine fs_met (cc := cX7_gaps) (nL := 4) (ret := (some .int)) (by decide) rfl (Nat.le_of_ble_eq_true rfl) ?_
  intro X C E
  show fSt l G X 0 0 0 [(0, .ref m0), (1, vI b)] [] [cO m0 7 (.ref m1 :: xs), cA m1 G.2.1.1 718 f]
  refine s_iconst C dX7_gaps_0 ?_
  refine s_istore_n 2 [(2, vI 0), (0, .ref m0), (1, vI b)] C dX7_gaps_1 rfl (by decide) rfl ?_
  refine s_iconst C dX7_gaps_2 ?_
  refine s_istore_n 3 [(3, vI 1), (2, vI 0), (0, .ref m0), (1, vI b)] C dX7_gaps_3 rfl (by decide) rfl ?_
  have loop_4 : ∀ (fuel : Nat) (r c : Int), (1 ≤ r ∧ r ≤ 101) → (c = cnt (fun r => decide (oG f b r = 1)) 1 (r - 1).toNat) → (0 ≤ c ∧ c ≤ r - 1) → (101 - r < (fuel : Int)) → fSt l G X 0 0 4 [(0, .ref m0), (1, vI b), (2, vI c), (3, vI r)] [] [cO m0 7 (.ref m1 :: xs), cA m1 G.2.1.1 718 f] := by
    intro fuel
    induction fuel with
    | zero =>
      intro r c hr hc hcr hm
      exfalso
      omega
    | succ fuel ih_4 =>
      intro r c hr hc hcr hm
      refine s_iload_n 3 C dX7_gaps_4 rfl 3 rfl ?_
      refine s_bipush (z := 100) C dX7_gaps_5 rfl ?_
      refine s_icmp_gt 33 C dX7_gaps_7 (by decide) (by omega) (by omega) (fun h_7 => ?_) (fun h_7 => ?_)
      · refine s_iload_n 2 C dX7_gaps_33 rfl 2 rfl ?_
        exact s_iret C E dX7_gaps_34 ⟨congrArg (fun z => some (vI z)) (by rw [hc, mG, show (r - 1).toNat = 100 by omega]), rfl⟩
      · refine s_iload_n 2 C dX7_gaps_10 rfl 2 rfl ?_
        refine s_aload_n 0 C dX7_gaps_11 rfl 0 rfl ?_
        refine s_iload_n 1 C dX7_gaps_12 rfl 1 rfl ?_
        refine s_iload_n 3 C dX7_gaps_13 rfl 3 rfl ?_
        refine s_callV (As := [vI b, vI r]) (rest := [vI c]) C dX7_gaps_14 (c_X7_isGap l G m0 m1 xs f b r (by first | assumption | omega) (by first | assumption | omega)) gX7_gaps_X7_isGap rfl 2 (by decide +kernel) (by decide) 0 7 rfl rfl rfl [0, 1] rfl (by decide) rfl (Nat.le_of_ble_eq_true rfl) ⟨Nat.zero_le _, Nat.zero_le _⟩ ?_
        intro v0 w0 hq
        obtain ⟨rfl, rfl⟩ := hq
        refine ⟨rfl, ?_⟩
        show fSt l G X 0 0 17 [(0, .ref m0), (1, vI b), (2, vI c), (3, vI r)] [vI (bI (oG f b r = 1)), vI c] [cO m0 7 (.ref m1 :: xs), cA m1 G.2.1.1 718 f]
        refine s_if_eq 24 C dX7_gaps_17 (by decide) bI_rng (fun h_17 => ?_) (fun h_17 => ?_)
        · have h_17 := bI_f h_17
          refine s_iconst C dX7_gaps_24 ?_
          refine s_iadd C dX7_gaps_25 ?_
          refine s_istore_n 2 [(2, vI (c + 0)), (0, .ref m0), (1, vI b), (3, vI r)] C dX7_gaps_26 rfl (by decide) rfl ?_
          refine s_iinc [(3, vI (r + 1)), (2, vI (c + 0)), (0, .ref m0), (1, vI b)] C dX7_gaps_27 3 rfl (by decide) rfl ?_
          refine s_goto 4 C dX7_gaps_30 (by decide) ?_
          refine s_lv [(0, .ref m0), (1, vI b), (2, vI (c + 0)), (3, vI (r + 1))] [2, 3, 1, 0] rfl ?_
          exact ih_4 (r + 1) (c + 0) (by omega) (cnt_nx (by omega) hc (Or.inr ⟨(by simp only [decide_eq_true_eq]; omega), by omega⟩)) (by omega) (by omega)
        · have h_17 := bI_t h_17
          refine s_iconst C dX7_gaps_20 ?_
          refine s_goto 25 C dX7_gaps_21 (by decide) ?_
          refine s_iadd C dX7_gaps_25 ?_
          refine s_istore_n 2 [(2, vI (c + 1)), (0, .ref m0), (1, vI b), (3, vI r)] C dX7_gaps_26 rfl (by decide) rfl ?_
          refine s_iinc [(3, vI (r + 1)), (2, vI (c + 1)), (0, .ref m0), (1, vI b)] C dX7_gaps_27 3 rfl (by decide) rfl ?_
          refine s_goto 4 C dX7_gaps_30 (by decide) ?_
          refine s_lv [(0, .ref m0), (1, vI b), (2, vI (c + 1)), (3, vI (r + 1))] [2, 3, 1, 0] rfl ?_
          exact ih_4 (r + 1) (c + 1) (by omega) (cnt_nx (by omega) hc (Or.inl ⟨(by simp only [decide_eq_true_eq]; omega), rfl⟩)) (by omega) (by omega)
  refine s_lv [(0, .ref m0), (1, vI b), (2, vI 0), (3, vI 1)] [2, 3, 1, 0] rfl ?_
  exact loop_4 (101 - 1 + 1 : Int).toNat 1 0 (by omega) rfl (by omega) (by omega)

set_option maxHeartbeats 4000000 in
set_option maxRecDepth 100000 in
theorem c_X7_lowestGap (l : Launch) (G : fG) (m0 m1 : Nat) (xs : List Value) (f : Int → Int) (b : Int) (hf : rF f) (hb : 0 ≤ b ∧ b ≤ 1) : fCt l G yX7_lowestGap wsX7_lowestGap 1 22 0 0 [.ref m0, vI b] [cO m0 7 (.ref m1 :: xs), cA m1 G.2.1.1 718 f] (fun (v0 : Option Value) (w0 : va_W) => v0 = some (vI (mW f b)) ∧ w0 = [cO m0 7 (.ref m1 :: xs), cA m1 G.2.1.1 718 f]) := by
  refine fs_met (cc := cX7_lowestGap) (nL := 3) (ret := (some .int)) (by decide) rfl (Nat.le_of_ble_eq_true rfl) ?_
  intro X C E
  show fSt l G X 0 0 0 [(0, .ref m0), (1, vI b)] [] [cO m0 7 (.ref m1 :: xs), cA m1 G.2.1.1 718 f]
  refine s_iconst C dX7_lowestGap_0 ?_
  refine s_istore_n 2 [(2, vI 1), (0, .ref m0), (1, vI b)] C dX7_lowestGap_1 rfl (by decide) rfl ?_
  have loop_2 : ∀ (fuel : Nat) (r : Int), (1 ≤ r ∧ r ≤ 101) → (∀ i, 1 ≤ i → i < r → decide (oG f b i = 1) = false) → (101 - r < (fuel : Int)) → fSt l G X 0 0 2 [(0, .ref m0), (1, vI b), (2, vI r)] [] [cO m0 7 (.ref m1 :: xs), cA m1 G.2.1.1 718 f] := by
    intro fuel
    induction fuel with
    | zero =>
      intro r hr hi hm
      exfalso
      omega
    | succ fuel ih_2 =>
      intro r hr hi hm
      refine s_iload_n 2 C dX7_lowestGap_2 rfl 2 rfl ?_
      refine s_bipush (z := 100) C dX7_lowestGap_3 rfl ?_
      refine s_icmp_gt 25 C dX7_lowestGap_5 (by decide) (by omega) (by omega) (fun h_5 => ?_) (fun h_5 => ?_)
      · refine s_ldc (z := -1000004) C (by decide +kernel) dX7_lowestGap_25 ?_
        exact s_iret C E dX7_lowestGap_27 ⟨congrArg (fun z => some (vI z)) (by rw [mW, fstI_none (fun i h1 h2 => hi i h1 (by omega)), if_neg (by omega)]), rfl⟩
      · refine s_aload_n 0 C dX7_lowestGap_8 rfl 0 rfl ?_
        refine s_iload_n 1 C dX7_lowestGap_9 rfl 1 rfl ?_
        refine s_iload_n 2 C dX7_lowestGap_10 rfl 2 rfl ?_
        refine s_callV (As := [vI b, vI r]) (rest := []) C dX7_lowestGap_11 (c_X7_isGap l G m0 m1 xs f b r (by first | assumption | omega) (by first | assumption | omega)) gX7_lowestGap_X7_isGap rfl 2 (by decide +kernel) (by decide) 0 7 rfl rfl rfl [0, 1] rfl (by decide) rfl (Nat.le_of_ble_eq_true rfl) ⟨Nat.zero_le _, Nat.zero_le _⟩ ?_
        intro v0 w0 hq
        obtain ⟨rfl, rfl⟩ := hq
        refine ⟨rfl, ?_⟩
        show fSt l G X 0 0 14 [(0, .ref m0), (1, vI b), (2, vI r)] [vI (bI (oG f b r = 1))] [cO m0 7 (.ref m1 :: xs), cA m1 G.2.1.1 718 f]
        refine s_if_eq 19 C dX7_lowestGap_14 (by decide) bI_rng (fun h_14 => ?_) (fun h_14 => ?_)
        · have h_14 := bI_f h_14
          refine s_iinc [(2, vI (r + 1)), (0, .ref m0), (1, vI b)] C dX7_lowestGap_19 2 rfl (by decide) rfl ?_
          refine s_goto 2 C dX7_lowestGap_22 (by decide) ?_
          refine s_lv [(0, .ref m0), (1, vI b), (2, vI (r + 1))] [1, 2, 0] rfl ?_
          exact ih_2 (r + 1) (by omega) (fun i h1 h2 => by by_cases h3 : i = r; (· rw [h3]; exact decide_eq_false h_14); (· exact hi i h1 (by omega))) (by omega)
        · have h_14 := bI_t h_14
          refine s_iload_n 2 C dX7_lowestGap_17 rfl 2 rfl ?_
          exact s_iret C E dX7_lowestGap_18 ⟨congrArg (fun z => some (vI z)) (by rw [mW, fstI_hit hi (decide_eq_true h_14) (by omega) (by omega), if_pos (by omega)]), rfl⟩
  refine s_lv [(0, .ref m0), (1, vI b), (2, vI 1)] [1, 2, 0] rfl ?_
  exact loop_2 (101 - 1 + 1 : Int).toNat 1 (by omega) (fun i h1 h2 => absurd h1 (by omega)) (by omega)

set_option maxHeartbeats 4000000 in
set_option maxRecDepth 100000 in
theorem c_X7_fillsGaps (l : Launch) (G : fG) (m0 m1 : Nat) (xs : List Value) (f : Int → Int) (b p : Int) (hb : 0 ≤ b ∧ b ≤ 1) (hp : 0 ≤ p ∧ p ≤ 100) : fCt l G yX7_fillsGaps wsX7_fillsGaps 0 0 0 0 [.ref m0, vI b, vI p] [cO m0 7 (.ref m1 :: xs), cA m1 G.2.1.1 718 f] (fun (v0 : Option Value) (w0 : va_W) => v0 = none ∧ w0 = [cO m0 7 (.ref m1 :: xs), cA m1 G.2.1.1 718 (fG0 f b p (100 * b + 118))]) := by
  refine fs_met (cc := cX7_fillsGaps) (nL := 4) (ret := none) (by decide) rfl (Nat.le_of_ble_eq_true rfl) ?_
  intro X C E
  show fSt l G X 0 0 0 [(0, .ref m0), (1, vI b), (2, vI p)] [] [cO m0 7 (.ref m1 :: xs), cA m1 G.2.1.1 718 f]
  have hinX7 : ∀ w ∈ u_ws RX7 TX7 14, w ∈ wsX7_fillsGaps := by decide +kernel
  refine s_iload_n 2 C dX7_fillsGaps_0 rfl 2 rfl ?_
  refine s_iconst C dX7_fillsGaps_1 ?_
  refine s_iadd C dX7_fillsGaps_2 ?_
  refine s_istore_n 3 [(3, vI (p + 1)), (0, .ref m0), (1, vI b), (2, vI p)] C dX7_fillsGaps_3 rfl (by decide) rfl ?_
  have loop_4 : ∀ (fuel : Nat) (r : Int) (U : Int → Int), (p + 1 ≤ r ∧ r ≤ 101) → (U = fG0 f b p (100 * b + r + 17)) → (101 - r < (fuel : Int)) → fSt l G X 0 0 4 [(0, .ref m0), (1, vI b), (2, vI p), (3, vI r)] [] [cO m0 7 (.ref m1 :: xs), cA m1 G.2.1.1 718 U] := by
    intro fuel
    induction fuel with
    | zero =>
      intro r U hr hU hm
      exfalso
      omega
    | succ fuel ih_4 =>
      intro r U hr hU hm
      refine s_iload_n 3 C dX7_fillsGaps_4 rfl 3 rfl ?_
      refine s_bipush (z := 100) C dX7_fillsGaps_5 rfl ?_
      refine s_icmp_gt 33 C dX7_fillsGaps_7 (by decide) (by omega) (by omega) (fun h_7 => ?_) (fun h_7 => ?_)
      · have hU2 : U = fG0 f b p (100 * b + 118) := by rw [hU]; congr 1; omega
        subst hU2
        exact s_vret C E dX7_fillsGaps_33 ⟨rfl, rfl⟩
      · refine s_aload_n 0 C dX7_fillsGaps_10 rfl 0 rfl ?_
        refine s_get C dX7_fillsGaps_11 7 rfl hinX7 0 rfl 0 (by decide) (by decide +kernel) rfl ?_
        refine s_bipush (z := 18) C dX7_fillsGaps_14 rfl ?_
        refine s_bipush (z := 100) C dX7_fillsGaps_16 rfl ?_
        refine s_iload_n 1 C dX7_fillsGaps_18 rfl 1 rfl ?_
        refine s_imul C dX7_fillsGaps_19 ?_
        refine s_iadd C dX7_fillsGaps_20 ?_
        refine s_iload_n 3 C dX7_fillsGaps_21 rfl 3 rfl ?_
        refine s_iadd C dX7_fillsGaps_22 ?_
        refine s_iconst C dX7_fillsGaps_23 ?_
        refine s_isub C dX7_fillsGaps_24 ?_
        refine s_iconst C dX7_fillsGaps_25 ?_
        refine s_iast [cO m0 7 (.ref m1 :: xs), cA m1 G.2.1.1 718 (uZ U (100 * b + r + 17) 0)] C dX7_fillsGaps_26 1 rfl (100 * b + r + 17) (by omega) (by omega) (by omega) (by omega) rfl ?_
        refine s_iinc [(3, vI (r + 1)), (0, .ref m0), (1, vI b), (2, vI p)] C dX7_fillsGaps_27 3 rfl (by decide) rfl ?_
        refine s_goto 4 C dX7_fillsGaps_30 (by decide) ?_
        refine s_lv [(0, .ref m0), (1, vI b), (2, vI p), (3, vI (r + 1))] [1, 2, 3, 0] rfl ?_
        exact ih_4 (r + 1) (uZ U (100 * b + r + 17) 0) (by omega) (by rw [hU]; funext j; simp only [fG0, uZ]; by_cases h1 : j = 100 * b + r + 17; (· rw [if_pos h1, if_pos (by omega)]); (· rw [if_neg h1]; by_cases h2 : 100 * b + p + 18 ≤ j ∧ j < 100 * b + r + 17; (· rw [if_pos h2, if_pos (by omega)]); (· rw [if_neg h2, if_neg (by omega)]))) (by omega)
  refine s_lv [(0, .ref m0), (1, vI b), (2, vI p), (3, vI (p + 1))] [1, 2, 3, 0] rfl ?_
  exact loop_4 (101 - (p + 1) + 1 : Int).toNat (p + 1) f (by omega) (by funext j; rw [fG0, if_neg (by omega)]) (by omega)

set_option maxHeartbeats 4000000 in
set_option maxRecDepth 100000 in
/-- has(record) -/
theorem c_X1_has (l : Launch) (G : fG) (a0 a1 a2 a3 a4 a5 : Nat) (n : Int) (K T Y V A : Int → Int) (r : Int) (hn : 0 ≤ n ∧ n ≤ 100) (hr : -2147483648 ≤ r ∧ r < 2147483648) : fCt l G yX1_has wsX1_has 0 0 0 0 [.ref a0, vI r] [cO a0 1 [vI n, .ref a1, .ref a2, .ref a3, .ref a4, .ref a5], cA a1 G.2.1.1 100 K, cA a2 G.2.1.1 100 T, cA a3 G.2.1.1 100 Y, cA a4 G.2.1.1 100 V, cA a5 G.2.1.1 100 A] (fun (v : Option Value) (w : va_W) => v = some (vI (bI (1 ≤ r ∧ r ≤ n))) ∧ w = [cO a0 1 [vI n, .ref a1, .ref a2, .ref a3, .ref a4, .ref a5], cA a1 G.2.1.1 100 K, cA a2 G.2.1.1 100 T, cA a3 G.2.1.1 100 Y, cA a4 G.2.1.1 100 V, cA a5 G.2.1.1 100 A]) := by
  refine fs_met (cc := cX1_has) (nL := 2) (ret := (some .boolean)) (by decide) rfl (Nat.le_of_ble_eq_true rfl) ?_
  intro X C E
  show fSt l G X 0 0 0 [(0, .ref a0), (1, vI r)] [] [cO a0 1 [vI n, .ref a1, .ref a2, .ref a3, .ref a4, .ref a5], cA a1 G.2.1.1 100 K, cA a2 G.2.1.1 100 T, cA a3 G.2.1.1 100 Y, cA a4 G.2.1.1 100 V, cA a5 G.2.1.1 100 A]
  have hinX1 : ∀ w ∈ u_ws RX1 TX1 6, w ∈ wsX1_has := by decide +kernel
  refine s_iload_n 1 C dX1_has_0 rfl 1 rfl ?_
  refine s_iconst C dX1_has_1 ?_
  refine s_icmp_lt 23 C dX1_has_2 (by decide) (by omega) (by omega) (fun h_2 => ?_) (fun h_2 => ?_)
  · refine s_iconst C dX1_has_23 ?_
    exact s_zret C E dX1_has_24 rfl ⟨congrArg (fun z => some (vI z)) (bI_0 (by omega)), rfl⟩
  · refine s_iload_n 1 C dX1_has_5 rfl 1 rfl ?_
    refine s_aload_n 0 C dX1_has_6 rfl 0 rfl ?_
    refine s_get C dX1_has_7 1 rfl hinX1 0 rfl 0 (by decide) (by decide +kernel) rfl ?_
    refine s_icmp_gt 23 C dX1_has_10 (by decide) (by omega) (by omega) (fun h_10 => ?_) (fun h_10 => ?_)
    · refine s_iconst C dX1_has_23 ?_
      exact s_zret C E dX1_has_24 rfl ⟨congrArg (fun z => some (vI z)) (bI_0 (by omega)), rfl⟩
    · refine s_iload_n 1 C dX1_has_13 rfl 1 rfl ?_
      refine s_bipush (z := 100) C dX1_has_14 rfl ?_
      refine s_icmp_gt 23 C dX1_has_16 (by decide) (by omega) (by omega) (fun h_16 => ?_) (fun h_16 => ?_)
      · refine s_iconst C dX1_has_23 ?_
        exact s_zret C E dX1_has_24 rfl ⟨congrArg (fun z => some (vI z)) (bI_0 (by omega)), rfl⟩
      · refine s_iconst C dX1_has_19 ?_
        refine s_goto 24 C dX1_has_20 (by decide) ?_
        exact s_zret C E dX1_has_24 rfl ⟨congrArg (fun z => some (vI z)) (bI_1 (by omega)), rfl⟩

set_option maxHeartbeats 4000000 in
set_option maxRecDepth 100000 in
/-- kindOf -/
theorem c_X1_kindOf (l : Launch) (G : fG) (a0 a1 a2 a3 a4 a5 : Nat) (n : Int) (K T Y V A : Int → Int) (r : Int) (hn : 0 ≤ n ∧ n ≤ 100) (hr : -2147483648 ≤ r ∧ r < 2147483648) : fCt l G yX1_kindOf wsX1_kindOf 1 21 0 0 [.ref a0, vI r] [cO a0 1 [vI n, .ref a1, .ref a2, .ref a3, .ref a4, .ref a5], cA a1 G.2.1.1 100 K, cA a2 G.2.1.1 100 T, cA a3 G.2.1.1 100 Y, cA a4 G.2.1.1 100 V, cA a5 G.2.1.1 100 A] (fun (v : Option Value) (w : va_W) => v = some (vI (gR n K r)) ∧ w = [cO a0 1 [vI n, .ref a1, .ref a2, .ref a3, .ref a4, .ref a5], cA a1 G.2.1.1 100 K, cA a2 G.2.1.1 100 T, cA a3 G.2.1.1 100 Y, cA a4 G.2.1.1 100 V, cA a5 G.2.1.1 100 A]) := by
  refine fs_met (cc := cX1_kindOf) (nL := 2) (ret := (some .int)) (by decide) rfl (Nat.le_of_ble_eq_true rfl) ?_
  intro X C E
  show fSt l G X 0 0 0 [(0, .ref a0), (1, vI r)] [] [cO a0 1 [vI n, .ref a1, .ref a2, .ref a3, .ref a4, .ref a5], cA a1 G.2.1.1 100 K, cA a2 G.2.1.1 100 T, cA a3 G.2.1.1 100 Y, cA a4 G.2.1.1 100 V, cA a5 G.2.1.1 100 A]
  have hinX1 : ∀ w ∈ u_ws RX1 TX1 6, w ∈ wsX1_kindOf := by decide +kernel
  refine s_aload_n 0 C dX1_kindOf_0 rfl 0 rfl ?_
  refine s_iload_n 1 C dX1_kindOf_1 rfl 1 rfl ?_
  refine s_callV (As := [vI r]) (rest := []) C dX1_kindOf_2 (c_X1_has l G a0 a1 a2 a3 a4 a5 n K T Y V A r (by first | assumption | omega) (by first | assumption | omega)) gX1_kindOf_X1_has rfl 1 (by decide +kernel) (by decide) 0 1 rfl rfl rfl [0, 1, 2, 3, 4, 5] rfl (by decide) rfl (Nat.le_of_ble_eq_true rfl) ⟨Nat.zero_le _, Nat.zero_le _⟩ ?_
  intro v w hq
  obtain ⟨rfl, rfl⟩ := hq
  refine ⟨rfl, ?_⟩
  show fSt l G X 0 0 5 [(0, .ref a0), (1, vI r)] [vI (bI (1 ≤ r ∧ r ≤ n))] [cO a0 1 [vI n, .ref a1, .ref a2, .ref a3, .ref a4, .ref a5], cA a1 G.2.1.1 100 K, cA a2 G.2.1.1 100 T, cA a3 G.2.1.1 100 Y, cA a4 G.2.1.1 100 V, cA a5 G.2.1.1 100 A]
  refine s_if_eq 19 C dX1_kindOf_5 (by decide) bI_rng (fun h_5 => ?_) (fun h_5 => ?_)
  · have h_5 := bI_f h_5
    refine s_ldc (z := -1000004) C (by decide +kernel) dX1_kindOf_19 ?_
    exact s_iret C E dX1_kindOf_21 ⟨congrArg (fun z => some (vI z)) (by first | (rw [gR_in (by omega)]; done) | (rw [gR_out (by omega)]; done)), rfl⟩
  · have h_5 := bI_t h_5
    refine s_aload_n 0 C dX1_kindOf_8 rfl 0 rfl ?_
    refine s_get C dX1_kindOf_9 1 rfl hinX1 0 rfl 1 (by decide) (by decide +kernel) rfl ?_
    refine s_iload_n 1 C dX1_kindOf_12 rfl 1 rfl ?_
    refine s_iconst C dX1_kindOf_13 ?_
    refine s_isub C dX1_kindOf_14 ?_
    refine s_iald C dX1_kindOf_15 1 rfl (r - 1) rfl (by omega) (by omega) (by omega) ?_
    refine s_goto 21 C dX1_kindOf_16 (by decide) ?_
    exact s_iret C E dX1_kindOf_21 ⟨congrArg (fun z => some (vI z)) (by first | (rw [gR_in (by omega)]; done) | (rw [gR_out (by omega)]; done)), rfl⟩

set_option maxHeartbeats 4000000 in
set_option maxRecDepth 100000 in
/-- transactionOf -/
theorem c_X1_transactionOf (l : Launch) (G : fG) (a0 a1 a2 a3 a4 a5 : Nat) (n : Int) (K T Y V A : Int → Int) (r : Int) (hn : 0 ≤ n ∧ n ≤ 100) (hr : -2147483648 ≤ r ∧ r < 2147483648) : fCt l G yX1_transactionOf wsX1_transactionOf 1 21 0 0 [.ref a0, vI r] [cO a0 1 [vI n, .ref a1, .ref a2, .ref a3, .ref a4, .ref a5], cA a1 G.2.1.1 100 K, cA a2 G.2.1.1 100 T, cA a3 G.2.1.1 100 Y, cA a4 G.2.1.1 100 V, cA a5 G.2.1.1 100 A] (fun (v : Option Value) (w : va_W) => v = some (vI (gR n T r)) ∧ w = [cO a0 1 [vI n, .ref a1, .ref a2, .ref a3, .ref a4, .ref a5], cA a1 G.2.1.1 100 K, cA a2 G.2.1.1 100 T, cA a3 G.2.1.1 100 Y, cA a4 G.2.1.1 100 V, cA a5 G.2.1.1 100 A]) := by
  refine fs_met (cc := cX1_transactionOf) (nL := 2) (ret := (some .int)) (by decide) rfl (Nat.le_of_ble_eq_true rfl) ?_
  intro X C E
  show fSt l G X 0 0 0 [(0, .ref a0), (1, vI r)] [] [cO a0 1 [vI n, .ref a1, .ref a2, .ref a3, .ref a4, .ref a5], cA a1 G.2.1.1 100 K, cA a2 G.2.1.1 100 T, cA a3 G.2.1.1 100 Y, cA a4 G.2.1.1 100 V, cA a5 G.2.1.1 100 A]
  have hinX1 : ∀ w ∈ u_ws RX1 TX1 6, w ∈ wsX1_transactionOf := by decide +kernel
  refine s_aload_n 0 C dX1_transactionOf_0 rfl 0 rfl ?_
  refine s_iload_n 1 C dX1_transactionOf_1 rfl 1 rfl ?_
  refine s_callV (As := [vI r]) (rest := []) C dX1_transactionOf_2 (c_X1_has l G a0 a1 a2 a3 a4 a5 n K T Y V A r (by first | assumption | omega) (by first | assumption | omega)) gX1_transactionOf_X1_has rfl 1 (by decide +kernel) (by decide) 0 1 rfl rfl rfl [0, 1, 2, 3, 4, 5] rfl (by decide) rfl (Nat.le_of_ble_eq_true rfl) ⟨Nat.zero_le _, Nat.zero_le _⟩ ?_
  intro v w hq
  obtain ⟨rfl, rfl⟩ := hq
  refine ⟨rfl, ?_⟩
  show fSt l G X 0 0 5 [(0, .ref a0), (1, vI r)] [vI (bI (1 ≤ r ∧ r ≤ n))] [cO a0 1 [vI n, .ref a1, .ref a2, .ref a3, .ref a4, .ref a5], cA a1 G.2.1.1 100 K, cA a2 G.2.1.1 100 T, cA a3 G.2.1.1 100 Y, cA a4 G.2.1.1 100 V, cA a5 G.2.1.1 100 A]
  refine s_if_eq 19 C dX1_transactionOf_5 (by decide) bI_rng (fun h_5 => ?_) (fun h_5 => ?_)
  · have h_5 := bI_f h_5
    refine s_ldc (z := -1000004) C (by decide +kernel) dX1_transactionOf_19 ?_
    exact s_iret C E dX1_transactionOf_21 ⟨congrArg (fun z => some (vI z)) (by first | (rw [gR_in (by omega)]; done) | (rw [gR_out (by omega)]; done)), rfl⟩
  · have h_5 := bI_t h_5
    refine s_aload_n 0 C dX1_transactionOf_8 rfl 0 rfl ?_
    refine s_get C dX1_transactionOf_9 1 rfl hinX1 0 rfl 2 (by decide) (by decide +kernel) rfl ?_
    refine s_iload_n 1 C dX1_transactionOf_12 rfl 1 rfl ?_
    refine s_iconst C dX1_transactionOf_13 ?_
    refine s_isub C dX1_transactionOf_14 ?_
    refine s_iald C dX1_transactionOf_15 2 rfl (r - 1) rfl (by omega) (by omega) (by omega) ?_
    refine s_goto 21 C dX1_transactionOf_16 (by decide) ?_
    exact s_iret C E dX1_transactionOf_21 ⟨congrArg (fun z => some (vI z)) (by first | (rw [gR_in (by omega)]; done) | (rw [gR_out (by omega)]; done)), rfl⟩

set_option maxHeartbeats 4000000 in
set_option maxRecDepth 100000 in
/-- keyOf -/
theorem c_X1_keyOf (l : Launch) (G : fG) (a0 a1 a2 a3 a4 a5 : Nat) (n : Int) (K T Y V A : Int → Int) (r : Int) (hn : 0 ≤ n ∧ n ≤ 100) (hr : -2147483648 ≤ r ∧ r < 2147483648) : fCt l G yX1_keyOf wsX1_keyOf 1 21 0 0 [.ref a0, vI r] [cO a0 1 [vI n, .ref a1, .ref a2, .ref a3, .ref a4, .ref a5], cA a1 G.2.1.1 100 K, cA a2 G.2.1.1 100 T, cA a3 G.2.1.1 100 Y, cA a4 G.2.1.1 100 V, cA a5 G.2.1.1 100 A] (fun (v : Option Value) (w : va_W) => v = some (vI (gR n Y r)) ∧ w = [cO a0 1 [vI n, .ref a1, .ref a2, .ref a3, .ref a4, .ref a5], cA a1 G.2.1.1 100 K, cA a2 G.2.1.1 100 T, cA a3 G.2.1.1 100 Y, cA a4 G.2.1.1 100 V, cA a5 G.2.1.1 100 A]) := by
  refine fs_met (cc := cX1_keyOf) (nL := 2) (ret := (some .int)) (by decide) rfl (Nat.le_of_ble_eq_true rfl) ?_
  intro X C E
  show fSt l G X 0 0 0 [(0, .ref a0), (1, vI r)] [] [cO a0 1 [vI n, .ref a1, .ref a2, .ref a3, .ref a4, .ref a5], cA a1 G.2.1.1 100 K, cA a2 G.2.1.1 100 T, cA a3 G.2.1.1 100 Y, cA a4 G.2.1.1 100 V, cA a5 G.2.1.1 100 A]
  have hinX1 : ∀ w ∈ u_ws RX1 TX1 6, w ∈ wsX1_keyOf := by decide +kernel
  refine s_aload_n 0 C dX1_keyOf_0 rfl 0 rfl ?_
  refine s_iload_n 1 C dX1_keyOf_1 rfl 1 rfl ?_
  refine s_callV (As := [vI r]) (rest := []) C dX1_keyOf_2 (c_X1_has l G a0 a1 a2 a3 a4 a5 n K T Y V A r (by first | assumption | omega) (by first | assumption | omega)) gX1_keyOf_X1_has rfl 1 (by decide +kernel) (by decide) 0 1 rfl rfl rfl [0, 1, 2, 3, 4, 5] rfl (by decide) rfl (Nat.le_of_ble_eq_true rfl) ⟨Nat.zero_le _, Nat.zero_le _⟩ ?_
  intro v w hq
  obtain ⟨rfl, rfl⟩ := hq
  refine ⟨rfl, ?_⟩
  show fSt l G X 0 0 5 [(0, .ref a0), (1, vI r)] [vI (bI (1 ≤ r ∧ r ≤ n))] [cO a0 1 [vI n, .ref a1, .ref a2, .ref a3, .ref a4, .ref a5], cA a1 G.2.1.1 100 K, cA a2 G.2.1.1 100 T, cA a3 G.2.1.1 100 Y, cA a4 G.2.1.1 100 V, cA a5 G.2.1.1 100 A]
  refine s_if_eq 19 C dX1_keyOf_5 (by decide) bI_rng (fun h_5 => ?_) (fun h_5 => ?_)
  · have h_5 := bI_f h_5
    refine s_ldc (z := -1000004) C (by decide +kernel) dX1_keyOf_19 ?_
    exact s_iret C E dX1_keyOf_21 ⟨congrArg (fun z => some (vI z)) (by first | (rw [gR_in (by omega)]; done) | (rw [gR_out (by omega)]; done)), rfl⟩
  · have h_5 := bI_t h_5
    refine s_aload_n 0 C dX1_keyOf_8 rfl 0 rfl ?_
    refine s_get C dX1_keyOf_9 1 rfl hinX1 0 rfl 3 (by decide) (by decide +kernel) rfl ?_
    refine s_iload_n 1 C dX1_keyOf_12 rfl 1 rfl ?_
    refine s_iconst C dX1_keyOf_13 ?_
    refine s_isub C dX1_keyOf_14 ?_
    refine s_iald C dX1_keyOf_15 3 rfl (r - 1) rfl (by omega) (by omega) (by omega) ?_
    refine s_goto 21 C dX1_keyOf_16 (by decide) ?_
    exact s_iret C E dX1_keyOf_21 ⟨congrArg (fun z => some (vI z)) (by first | (rw [gR_in (by omega)]; done) | (rw [gR_out (by omega)]; done)), rfl⟩

set_option maxHeartbeats 4000000 in
set_option maxRecDepth 100000 in
/-- valueIn -/
theorem c_X1_valueIn (l : Launch) (G : fG) (a0 a1 a2 a3 a4 a5 : Nat) (n : Int) (K T Y V A : Int → Int) (r : Int) (hn : 0 ≤ n ∧ n ≤ 100) (hr : -2147483648 ≤ r ∧ r < 2147483648) : fCt l G yX1_valueIn wsX1_valueIn 1 21 0 0 [.ref a0, vI r] [cO a0 1 [vI n, .ref a1, .ref a2, .ref a3, .ref a4, .ref a5], cA a1 G.2.1.1 100 K, cA a2 G.2.1.1 100 T, cA a3 G.2.1.1 100 Y, cA a4 G.2.1.1 100 V, cA a5 G.2.1.1 100 A] (fun (v : Option Value) (w : va_W) => v = some (vI (gR n V r)) ∧ w = [cO a0 1 [vI n, .ref a1, .ref a2, .ref a3, .ref a4, .ref a5], cA a1 G.2.1.1 100 K, cA a2 G.2.1.1 100 T, cA a3 G.2.1.1 100 Y, cA a4 G.2.1.1 100 V, cA a5 G.2.1.1 100 A]) := by
  refine fs_met (cc := cX1_valueIn) (nL := 2) (ret := (some .int)) (by decide) rfl (Nat.le_of_ble_eq_true rfl) ?_
  intro X C E
  show fSt l G X 0 0 0 [(0, .ref a0), (1, vI r)] [] [cO a0 1 [vI n, .ref a1, .ref a2, .ref a3, .ref a4, .ref a5], cA a1 G.2.1.1 100 K, cA a2 G.2.1.1 100 T, cA a3 G.2.1.1 100 Y, cA a4 G.2.1.1 100 V, cA a5 G.2.1.1 100 A]
  have hinX1 : ∀ w ∈ u_ws RX1 TX1 6, w ∈ wsX1_valueIn := by decide +kernel
  refine s_aload_n 0 C dX1_valueIn_0 rfl 0 rfl ?_
  refine s_iload_n 1 C dX1_valueIn_1 rfl 1 rfl ?_
  refine s_callV (As := [vI r]) (rest := []) C dX1_valueIn_2 (c_X1_has l G a0 a1 a2 a3 a4 a5 n K T Y V A r (by first | assumption | omega) (by first | assumption | omega)) gX1_valueIn_X1_has rfl 1 (by decide +kernel) (by decide) 0 1 rfl rfl rfl [0, 1, 2, 3, 4, 5] rfl (by decide) rfl (Nat.le_of_ble_eq_true rfl) ⟨Nat.zero_le _, Nat.zero_le _⟩ ?_
  intro v w hq
  obtain ⟨rfl, rfl⟩ := hq
  refine ⟨rfl, ?_⟩
  show fSt l G X 0 0 5 [(0, .ref a0), (1, vI r)] [vI (bI (1 ≤ r ∧ r ≤ n))] [cO a0 1 [vI n, .ref a1, .ref a2, .ref a3, .ref a4, .ref a5], cA a1 G.2.1.1 100 K, cA a2 G.2.1.1 100 T, cA a3 G.2.1.1 100 Y, cA a4 G.2.1.1 100 V, cA a5 G.2.1.1 100 A]
  refine s_if_eq 19 C dX1_valueIn_5 (by decide) bI_rng (fun h_5 => ?_) (fun h_5 => ?_)
  · have h_5 := bI_f h_5
    refine s_ldc (z := -1000004) C (by decide +kernel) dX1_valueIn_19 ?_
    exact s_iret C E dX1_valueIn_21 ⟨congrArg (fun z => some (vI z)) (by first | (rw [gR_in (by omega)]; done) | (rw [gR_out (by omega)]; done)), rfl⟩
  · have h_5 := bI_t h_5
    refine s_aload_n 0 C dX1_valueIn_8 rfl 0 rfl ?_
    refine s_get C dX1_valueIn_9 1 rfl hinX1 0 rfl 4 (by decide) (by decide +kernel) rfl ?_
    refine s_iload_n 1 C dX1_valueIn_12 rfl 1 rfl ?_
    refine s_iconst C dX1_valueIn_13 ?_
    refine s_isub C dX1_valueIn_14 ?_
    refine s_iald C dX1_valueIn_15 4 rfl (r - 1) rfl (by omega) (by omega) (by omega) ?_
    refine s_goto 21 C dX1_valueIn_16 (by decide) ?_
    exact s_iret C E dX1_valueIn_21 ⟨congrArg (fun z => some (vI z)) (by first | (rw [gR_in (by omega)]; done) | (rw [gR_out (by omega)]; done)), rfl⟩

set_option maxHeartbeats 4000000 in
set_option maxRecDepth 100000 in
/-- tickOf -/
theorem c_X1_tickOf (l : Launch) (G : fG) (a0 a1 a2 a3 a4 a5 : Nat) (n : Int) (K T Y V A : Int → Int) (r : Int) (hn : 0 ≤ n ∧ n ≤ 100) (hr : -2147483648 ≤ r ∧ r < 2147483648) : fCt l G yX1_tickOf wsX1_tickOf 1 21 0 0 [.ref a0, vI r] [cO a0 1 [vI n, .ref a1, .ref a2, .ref a3, .ref a4, .ref a5], cA a1 G.2.1.1 100 K, cA a2 G.2.1.1 100 T, cA a3 G.2.1.1 100 Y, cA a4 G.2.1.1 100 V, cA a5 G.2.1.1 100 A] (fun (v : Option Value) (w : va_W) => v = some (vI (gR n A r)) ∧ w = [cO a0 1 [vI n, .ref a1, .ref a2, .ref a3, .ref a4, .ref a5], cA a1 G.2.1.1 100 K, cA a2 G.2.1.1 100 T, cA a3 G.2.1.1 100 Y, cA a4 G.2.1.1 100 V, cA a5 G.2.1.1 100 A]) := by
  refine fs_met (cc := cX1_tickOf) (nL := 2) (ret := (some .int)) (by decide) rfl (Nat.le_of_ble_eq_true rfl) ?_
  intro X C E
  show fSt l G X 0 0 0 [(0, .ref a0), (1, vI r)] [] [cO a0 1 [vI n, .ref a1, .ref a2, .ref a3, .ref a4, .ref a5], cA a1 G.2.1.1 100 K, cA a2 G.2.1.1 100 T, cA a3 G.2.1.1 100 Y, cA a4 G.2.1.1 100 V, cA a5 G.2.1.1 100 A]
  have hinX1 : ∀ w ∈ u_ws RX1 TX1 6, w ∈ wsX1_tickOf := by decide +kernel
  refine s_aload_n 0 C dX1_tickOf_0 rfl 0 rfl ?_
  refine s_iload_n 1 C dX1_tickOf_1 rfl 1 rfl ?_
  refine s_callV (As := [vI r]) (rest := []) C dX1_tickOf_2 (c_X1_has l G a0 a1 a2 a3 a4 a5 n K T Y V A r (by first | assumption | omega) (by first | assumption | omega)) gX1_tickOf_X1_has rfl 1 (by decide +kernel) (by decide) 0 1 rfl rfl rfl [0, 1, 2, 3, 4, 5] rfl (by decide) rfl (Nat.le_of_ble_eq_true rfl) ⟨Nat.zero_le _, Nat.zero_le _⟩ ?_
  intro v w hq
  obtain ⟨rfl, rfl⟩ := hq
  refine ⟨rfl, ?_⟩
  show fSt l G X 0 0 5 [(0, .ref a0), (1, vI r)] [vI (bI (1 ≤ r ∧ r ≤ n))] [cO a0 1 [vI n, .ref a1, .ref a2, .ref a3, .ref a4, .ref a5], cA a1 G.2.1.1 100 K, cA a2 G.2.1.1 100 T, cA a3 G.2.1.1 100 Y, cA a4 G.2.1.1 100 V, cA a5 G.2.1.1 100 A]
  refine s_if_eq 19 C dX1_tickOf_5 (by decide) bI_rng (fun h_5 => ?_) (fun h_5 => ?_)
  · have h_5 := bI_f h_5
    refine s_ldc (z := -1000004) C (by decide +kernel) dX1_tickOf_19 ?_
    exact s_iret C E dX1_tickOf_21 ⟨congrArg (fun z => some (vI z)) (by first | (rw [gR_in (by omega)]; done) | (rw [gR_out (by omega)]; done)), rfl⟩
  · have h_5 := bI_t h_5
    refine s_aload_n 0 C dX1_tickOf_8 rfl 0 rfl ?_
    refine s_get C dX1_tickOf_9 1 rfl hinX1 0 rfl 5 (by decide) (by decide +kernel) rfl ?_
    refine s_iload_n 1 C dX1_tickOf_12 rfl 1 rfl ?_
    refine s_iconst C dX1_tickOf_13 ?_
    refine s_isub C dX1_tickOf_14 ?_
    refine s_iald C dX1_tickOf_15 5 rfl (r - 1) rfl (by omega) (by omega) (by omega) ?_
    refine s_goto 21 C dX1_tickOf_16 (by decide) ?_
    exact s_iret C E dX1_tickOf_21 ⟨congrArg (fun z => some (vI z)) (by first | (rw [gR_in (by omega)]; done) | (rw [gR_out (by omega)]; done)), rfl⟩

set_option maxHeartbeats 4000000 in
set_option maxRecDepth 100000 in
theorem c_X1_isPutOf (l : Launch) (G : fG) (a0 a1 a2 a3 a4 a5 : Nat) (n : Int) (K T Y V A : Int → Int) (r t : Int) (hn : 0 ≤ n ∧ n ≤ 100) (hK : rF K) (hT : rF T) (hY : rF Y) (hV : rF V) (hA : rF A) (hr : -2147483648 ≤ r ∧ r < 2147483648) (ht : -2147483648 ≤ t ∧ t < 2147483648) : fCt l G yX1_isPutOf wsX1_isPutOf 2 42 0 0 [.ref a0, vI r, vI t] [cO a0 1 [vI n, .ref a1, .ref a2, .ref a3, .ref a4, .ref a5], cA a1 G.2.1.1 100 K, cA a2 G.2.1.1 100 T, cA a3 G.2.1.1 100 Y, cA a4 G.2.1.1 100 V, cA a5 G.2.1.1 100 A] (fun (v : Option Value) (w : va_W) => v = some (vI (bI (gR n T r = t ∧ gR n K r = 0))) ∧ w = [cO a0 1 [vI n, .ref a1, .ref a2, .ref a3, .ref a4, .ref a5], cA a1 G.2.1.1 100 K, cA a2 G.2.1.1 100 T, cA a3 G.2.1.1 100 Y, cA a4 G.2.1.1 100 V, cA a5 G.2.1.1 100 A]) := by
  refine fs_met (cc := cX1_isPutOf) (nL := 3) (ret := (some .boolean)) (by decide) rfl (Nat.le_of_ble_eq_true rfl) ?_
  intro X C E
  show fSt l G X 0 0 0 [(0, .ref a0), (1, vI r), (2, vI t)] [] [cO a0 1 [vI n, .ref a1, .ref a2, .ref a3, .ref a4, .ref a5], cA a1 G.2.1.1 100 K, cA a2 G.2.1.1 100 T, cA a3 G.2.1.1 100 Y, cA a4 G.2.1.1 100 V, cA a5 G.2.1.1 100 A]
  refine s_aload_n 0 C dX1_isPutOf_0 rfl 0 rfl ?_
  refine s_iload_n 1 C dX1_isPutOf_1 rfl 1 rfl ?_
  refine s_callV (As := [vI r]) (rest := []) C dX1_isPutOf_2 (c_X1_transactionOf l G a0 a1 a2 a3 a4 a5 n K T Y V A r (by first | assumption | omega) (by first | assumption | omega)) gX1_isPutOf_X1_transactionOf rfl 1 (by decide +kernel) (by decide) 0 1 rfl rfl rfl [0, 1, 2, 3, 4, 5] rfl (by decide) rfl (Nat.le_of_ble_eq_true rfl) ⟨Nat.zero_le _, Nat.zero_le _⟩ ?_
  intro v w hq
  obtain ⟨rfl, rfl⟩ := hq
  refine ⟨rfl, ?_⟩
  show fSt l G X 0 0 5 [(0, .ref a0), (1, vI r), (2, vI t)] [vI (gR n T r)] [cO a0 1 [vI n, .ref a1, .ref a2, .ref a3, .ref a4, .ref a5], cA a1 G.2.1.1 100 K, cA a2 G.2.1.1 100 T, cA a3 G.2.1.1 100 Y, cA a4 G.2.1.1 100 V, cA a5 G.2.1.1 100 A]
  refine s_iload_n 2 C dX1_isPutOf_5 rfl 2 rfl ?_
  refine s_icmp_ne 21 C dX1_isPutOf_6 (by decide) (gR_r hT _) (by omega) (fun h_6 => ?_) (fun h_6 => ?_)
  · refine s_iconst C dX1_isPutOf_21 ?_
    exact s_zret C E dX1_isPutOf_22 rfl ⟨congrArg (fun z => some (vI z)) (bI_0 (by omega)), rfl⟩
  · refine s_aload_n 0 C dX1_isPutOf_9 rfl 0 rfl ?_
    refine s_iload_n 1 C dX1_isPutOf_10 rfl 1 rfl ?_
    refine s_callV (As := [vI r]) (rest := []) C dX1_isPutOf_11 (c_X1_kindOf l G a0 a1 a2 a3 a4 a5 n K T Y V A r (by first | assumption | omega) (by first | assumption | omega)) gX1_isPutOf_X1_kindOf rfl 1 (by decide +kernel) (by decide) 0 1 rfl rfl rfl [0, 1, 2, 3, 4, 5] rfl (by decide) rfl (Nat.le_of_ble_eq_true rfl) ⟨Nat.zero_le _, Nat.zero_le _⟩ ?_
    intro v w hq
    obtain ⟨rfl, rfl⟩ := hq
    refine ⟨rfl, ?_⟩
    show fSt l G X 0 0 14 [(0, .ref a0), (1, vI r), (2, vI t)] [vI (gR n K r)] [cO a0 1 [vI n, .ref a1, .ref a2, .ref a3, .ref a4, .ref a5], cA a1 G.2.1.1 100 K, cA a2 G.2.1.1 100 T, cA a3 G.2.1.1 100 Y, cA a4 G.2.1.1 100 V, cA a5 G.2.1.1 100 A]
    refine s_if_ne 21 C dX1_isPutOf_14 (by decide) (gR_r hK _) (fun h_14 => ?_) (fun h_14 => ?_)
    · refine s_iconst C dX1_isPutOf_21 ?_
      exact s_zret C E dX1_isPutOf_22 rfl ⟨congrArg (fun z => some (vI z)) (bI_0 (by omega)), rfl⟩
    · refine s_iconst C dX1_isPutOf_17 ?_
      refine s_goto 22 C dX1_isPutOf_18 (by decide) ?_
      exact s_zret C E dX1_isPutOf_22 rfl ⟨congrArg (fun z => some (vI z)) (bI_1 (by omega)), rfl⟩

set_option maxHeartbeats 4000000 in
set_option maxRecDepth 100000 in
theorem c_X1_lastPut (l : Launch) (G : fG) (a0 a1 a2 a3 a4 a5 : Nat) (n : Int) (K T Y V A : Int → Int) (t y p : Int) (hn : 0 ≤ n ∧ n ≤ 100) (hK : rF K) (hT : rF T) (hY : rF Y) (hV : rF V) (hA : rF A) (ht : -2147483648 ≤ t ∧ t < 2147483648) (hy : -2147483648 ≤ y ∧ y < 2147483648) (hp : 0 ≤ p ∧ p ≤ 100) : fCt l G yX1_lastPut wsX1_lastPut 3 64 0 0 [.ref a0, vI t, vI y, vI p] [cO a0 1 [vI n, .ref a1, .ref a2, .ref a3, .ref a4, .ref a5], cA a1 G.2.1.1 100 K, cA a2 G.2.1.1 100 T, cA a3 G.2.1.1 100 Y, cA a4 G.2.1.1 100 V, cA a5 G.2.1.1 100 A] (fun (v : Option Value) (w : va_W) => v = some (vI (lP n K T Y t y p)) ∧ w = [cO a0 1 [vI n, .ref a1, .ref a2, .ref a3, .ref a4, .ref a5], cA a1 G.2.1.1 100 K, cA a2 G.2.1.1 100 T, cA a3 G.2.1.1 100 Y, cA a4 G.2.1.1 100 V, cA a5 G.2.1.1 100 A]) := by
  refine fs_met (cc := cX1_lastPut) (nL := 5) (ret := (some .int)) (by decide) rfl (Nat.le_of_ble_eq_true rfl) ?_
  intro X C E
  show fSt l G X 0 0 0 [(0, .ref a0), (1, vI t), (2, vI y), (3, vI p)] [] [cO a0 1 [vI n, .ref a1, .ref a2, .ref a3, .ref a4, .ref a5], cA a1 G.2.1.1 100 K, cA a2 G.2.1.1 100 T, cA a3 G.2.1.1 100 Y, cA a4 G.2.1.1 100 V, cA a5 G.2.1.1 100 A]
  refine s_iload_n 3 C dX1_lastPut_0 rfl 3 rfl ?_
  refine s_istore [(4, vI p), (0, .ref a0), (1, vI t), (2, vI y), (3, vI p)] C dX1_lastPut_1 (by decide) rfl ?_
  have loop_3 : ∀ (fuel : Nat) (r : Int), (0 ≤ r ∧ r ≤ p) → (lP n K T Y t y p = lst (pP n K T Y t y) r.toNat) → (r < (fuel : Int)) → fSt l G X 0 0 3 [(0, .ref a0), (1, vI t), (2, vI y), (3, vI p), (4, vI r)] [] [cO a0 1 [vI n, .ref a1, .ref a2, .ref a3, .ref a4, .ref a5], cA a1 G.2.1.1 100 K, cA a2 G.2.1.1 100 T, cA a3 G.2.1.1 100 Y, cA a4 G.2.1.1 100 V, cA a5 G.2.1.1 100 A] := by
    intro fuel
    induction fuel with
    | zero =>
      intro r hr hi hm
      exfalso
      omega
    | succ fuel ih_3 =>
      intro r hr hi hm
      refine s_iload C dX1_lastPut_3 4 rfl ?_
      refine s_iconst C dX1_lastPut_5 ?_
      refine s_icmp_lt 38 C dX1_lastPut_6 (by decide) (by omega) (by omega) (fun h_6 => ?_) (fun h_6 => ?_)
      · refine s_iconst C dX1_lastPut_38 ?_
        exact s_iret C E dX1_lastPut_39 ⟨congrArg (fun z => some (vI z)) (by rw [hi, show r.toNat = 0 by omega]; rfl), rfl⟩
      · refine s_aload_n 0 C dX1_lastPut_9 rfl 0 rfl ?_
        refine s_iload C dX1_lastPut_10 4 rfl ?_
        refine s_iload_n 1 C dX1_lastPut_12 rfl 1 rfl ?_
        refine s_callV (As := [vI r, vI t]) (rest := []) C dX1_lastPut_13 (c_X1_isPutOf l G a0 a1 a2 a3 a4 a5 n K T Y V A r t (by first | assumption | omega) (by first | assumption | omega) (by first | assumption | omega) (by first | assumption | omega) (by first | assumption | omega) (by first | assumption | omega) (by first | assumption | omega) (by first | assumption | omega)) gX1_lastPut_X1_isPutOf rfl 2 (by decide +kernel) (by decide) 0 1 rfl rfl rfl [0, 1, 2, 3, 4, 5] rfl (by decide) rfl (Nat.le_of_ble_eq_true rfl) ⟨Nat.zero_le _, Nat.zero_le _⟩ ?_
        intro v w hq
        obtain ⟨rfl, rfl⟩ := hq
        refine ⟨rfl, ?_⟩
        show fSt l G X 0 0 16 [(0, .ref a0), (1, vI t), (2, vI y), (3, vI p), (4, vI r)] [vI (bI (gR n T r = t ∧ gR n K r = 0))] [cO a0 1 [vI n, .ref a1, .ref a2, .ref a3, .ref a4, .ref a5], cA a1 G.2.1.1 100 K, cA a2 G.2.1.1 100 T, cA a3 G.2.1.1 100 Y, cA a4 G.2.1.1 100 V, cA a5 G.2.1.1 100 A]
        refine s_if_eq 32 C dX1_lastPut_16 (by decide) bI_rng (fun h_16 => ?_) (fun h_16 => ?_)
        · have h_16 := bI_f h_16
          refine s_iinc [(4, vI (r + (-1))), (0, .ref a0), (1, vI t), (2, vI y), (3, vI p)] C dX1_lastPut_32 4 rfl (by decide) rfl ?_
          refine s_goto 3 C dX1_lastPut_35 (by decide) ?_
          refine s_lv [(0, .ref a0), (1, vI t), (2, vI y), (3, vI p), (4, vI (r + (-1)))] [1, 2, 3, 4, 0] rfl ?_
          exact ih_3 (r + (-1)) (by omega) (by rw [hi]; exact lst_no (by omega) (by simp only [pP, Bool.and_eq_false_iff, decide_eq_false_iff_not]; omega)) (by omega)
        · have h_16 := bI_t h_16
          refine s_aload_n 0 C dX1_lastPut_19 rfl 0 rfl ?_
          refine s_iload C dX1_lastPut_20 4 rfl ?_
          refine s_callV (As := [vI r]) (rest := []) C dX1_lastPut_22 (c_X1_keyOf l G a0 a1 a2 a3 a4 a5 n K T Y V A r (by first | assumption | omega) (by first | assumption | omega)) gX1_lastPut_X1_keyOf rfl 1 (by decide +kernel) (by decide) 0 1 rfl rfl rfl [0, 1, 2, 3, 4, 5] rfl (by decide) rfl (Nat.le_of_ble_eq_true rfl) ⟨Nat.zero_le _, Nat.zero_le _⟩ ?_
          intro v w hq
          obtain ⟨rfl, rfl⟩ := hq
          refine ⟨rfl, ?_⟩
          show fSt l G X 0 0 25 [(0, .ref a0), (1, vI t), (2, vI y), (3, vI p), (4, vI r)] [vI (gR n Y r)] [cO a0 1 [vI n, .ref a1, .ref a2, .ref a3, .ref a4, .ref a5], cA a1 G.2.1.1 100 K, cA a2 G.2.1.1 100 T, cA a3 G.2.1.1 100 Y, cA a4 G.2.1.1 100 V, cA a5 G.2.1.1 100 A]
          refine s_iload_n 2 C dX1_lastPut_25 rfl 2 rfl ?_
          refine s_icmp_ne 32 C dX1_lastPut_26 (by decide) (gR_r hY _) (by omega) (fun h_26 => ?_) (fun h_26 => ?_)
          · refine s_iinc [(4, vI (r + (-1))), (0, .ref a0), (1, vI t), (2, vI y), (3, vI p)] C dX1_lastPut_32 4 rfl (by decide) rfl ?_
            refine s_goto 3 C dX1_lastPut_35 (by decide) ?_
            refine s_lv [(0, .ref a0), (1, vI t), (2, vI y), (3, vI p), (4, vI (r + (-1)))] [1, 2, 3, 4, 0] rfl ?_
            exact ih_3 (r + (-1)) (by omega) (by rw [hi]; exact lst_no (by omega) (by simp only [pP, Bool.and_eq_false_iff, decide_eq_false_iff_not]; omega)) (by omega)
          · refine s_iload C dX1_lastPut_29 4 rfl ?_
            exact s_iret C E dX1_lastPut_31 ⟨congrArg (fun z => some (vI z)) (by rw [hi]; exact (lst_yes (by omega) (by simp only [pP, Bool.and_eq_true, decide_eq_true_eq]; omega)).symm), rfl⟩
  refine s_lv [(0, .ref a0), (1, vI t), (2, vI y), (3, vI p), (4, vI p)] [1, 2, 3, 4, 0] rfl ?_
  exact loop_3 (p + 1).toNat p (by omega) rfl (by omega)

set_option maxHeartbeats 4000000 in
set_option maxRecDepth 100000 in
theorem c_X1_lastCommit (l : Launch) (G : fG) (a0 a1 a2 a3 a4 a5 : Nat) (n : Int) (K T Y V A : Int → Int) (y p : Int) (hn : 0 ≤ n ∧ n ≤ 100) (hK : rF K) (hT : rF T) (hY : rF Y) (hV : rF V) (hA : rF A) (hy : -2147483648 ≤ y ∧ y < 2147483648) (hp : 0 ≤ p ∧ p ≤ 100) : fCt l G yX1_lastCommit wsX1_lastCommit 4 88 0 0 [.ref a0, vI y, vI p] [cO a0 1 [vI n, .ref a1, .ref a2, .ref a3, .ref a4, .ref a5], cA a1 G.2.1.1 100 K, cA a2 G.2.1.1 100 T, cA a3 G.2.1.1 100 Y, cA a4 G.2.1.1 100 V, cA a5 G.2.1.1 100 A] (fun (v : Option Value) (w : va_W) => v = some (vI (lC n K T Y y p)) ∧ w = [cO a0 1 [vI n, .ref a1, .ref a2, .ref a3, .ref a4, .ref a5], cA a1 G.2.1.1 100 K, cA a2 G.2.1.1 100 T, cA a3 G.2.1.1 100 Y, cA a4 G.2.1.1 100 V, cA a5 G.2.1.1 100 A]) := by
  refine fs_met (cc := cX1_lastCommit) (nL := 4) (ret := (some .int)) (by decide) rfl (Nat.le_of_ble_eq_true rfl) ?_
  intro X C E
  show fSt l G X 0 0 0 [(0, .ref a0), (1, vI y), (2, vI p)] [] [cO a0 1 [vI n, .ref a1, .ref a2, .ref a3, .ref a4, .ref a5], cA a1 G.2.1.1 100 K, cA a2 G.2.1.1 100 T, cA a3 G.2.1.1 100 Y, cA a4 G.2.1.1 100 V, cA a5 G.2.1.1 100 A]
  refine s_iload_n 2 C dX1_lastCommit_0 rfl 2 rfl ?_
  refine s_istore_n 3 [(3, vI p), (0, .ref a0), (1, vI y), (2, vI p)] C dX1_lastCommit_1 rfl (by decide) rfl ?_
  have loop_2 : ∀ (fuel : Nat) (r : Int), (0 ≤ r ∧ r ≤ p) → (lC n K T Y y p = lst (pC n K T Y y) r.toNat) → (r < (fuel : Int)) → fSt l G X 0 0 2 [(0, .ref a0), (1, vI y), (2, vI p), (3, vI r)] [] [cO a0 1 [vI n, .ref a1, .ref a2, .ref a3, .ref a4, .ref a5], cA a1 G.2.1.1 100 K, cA a2 G.2.1.1 100 T, cA a3 G.2.1.1 100 Y, cA a4 G.2.1.1 100 V, cA a5 G.2.1.1 100 A] := by
    intro fuel
    induction fuel with
    | zero =>
      intro r hr hi hm
      exfalso
      omega
    | succ fuel ih_2 =>
      intro r hr hi hm
      refine s_iload_n 3 C dX1_lastCommit_2 rfl 3 rfl ?_
      refine s_iconst C dX1_lastCommit_3 ?_
      refine s_icmp_lt 38 C dX1_lastCommit_4 (by decide) (by omega) (by omega) (fun h_4 => ?_) (fun h_4 => ?_)
      · refine s_iconst C dX1_lastCommit_38 ?_
        exact s_iret C E dX1_lastCommit_39 ⟨congrArg (fun z => some (vI z)) (by rw [hi, show r.toNat = 0 by omega]; rfl), rfl⟩
      · refine s_aload_n 0 C dX1_lastCommit_7 rfl 0 rfl ?_
        refine s_iload_n 3 C dX1_lastCommit_8 rfl 3 rfl ?_
        refine s_callV (As := [vI r]) (rest := []) C dX1_lastCommit_9 (c_X1_kindOf l G a0 a1 a2 a3 a4 a5 n K T Y V A r (by first | assumption | omega) (by first | assumption | omega)) gX1_lastCommit_X1_kindOf rfl 1 (by decide +kernel) (by decide) 0 1 rfl rfl rfl [0, 1, 2, 3, 4, 5] rfl (by decide) rfl (Nat.le_of_ble_eq_true rfl) ⟨Nat.zero_le _, Nat.zero_le _⟩ ?_
        intro v w hq
        obtain ⟨rfl, rfl⟩ := hq
        refine ⟨rfl, ?_⟩
        show fSt l G X 0 0 12 [(0, .ref a0), (1, vI y), (2, vI p), (3, vI r)] [vI (gR n K r)] [cO a0 1 [vI n, .ref a1, .ref a2, .ref a3, .ref a4, .ref a5], cA a1 G.2.1.1 100 K, cA a2 G.2.1.1 100 T, cA a3 G.2.1.1 100 Y, cA a4 G.2.1.1 100 V, cA a5 G.2.1.1 100 A]
        refine s_iconst C dX1_lastCommit_12 ?_
        refine s_icmp_ne 32 C dX1_lastCommit_13 (by decide) (gR_r hK _) (by omega) (fun h_13 => ?_) (fun h_13 => ?_)
        · refine s_iinc [(3, vI (r + (-1))), (0, .ref a0), (1, vI y), (2, vI p)] C dX1_lastCommit_32 3 rfl (by decide) rfl ?_
          refine s_goto 2 C dX1_lastCommit_35 (by decide) ?_
          refine s_lv [(0, .ref a0), (1, vI y), (2, vI p), (3, vI (r + (-1)))] [1, 2, 3, 0] rfl ?_
          exact ih_2 (r + (-1)) (by omega) (by rw [hi]; exact lst_no (by omega) (by simp only [pC, Bool.and_eq_false_iff, decide_eq_false_iff_not, ne_eq, Decidable.not_not]; omega)) (by omega)
        · refine s_aload_n 0 C dX1_lastCommit_16 rfl 0 rfl ?_
          refine s_aload_n 0 C dX1_lastCommit_17 rfl 0 rfl ?_
          refine s_iload_n 3 C dX1_lastCommit_18 rfl 3 rfl ?_
          refine s_callV (As := [vI r]) (rest := [.ref a0]) C dX1_lastCommit_19 (c_X1_transactionOf l G a0 a1 a2 a3 a4 a5 n K T Y V A r (by first | assumption | omega) (by first | assumption | omega)) gX1_lastCommit_X1_transactionOf rfl 1 (by decide +kernel) (by decide) 0 1 rfl rfl rfl [0, 1, 2, 3, 4, 5] rfl (by decide) rfl (Nat.le_of_ble_eq_true rfl) ⟨Nat.zero_le _, Nat.zero_le _⟩ ?_
          intro v w hq
          obtain ⟨rfl, rfl⟩ := hq
          refine ⟨rfl, ?_⟩
          show fSt l G X 0 0 22 [(0, .ref a0), (1, vI y), (2, vI p), (3, vI r)] [vI (gR n T r), .ref a0] [cO a0 1 [vI n, .ref a1, .ref a2, .ref a3, .ref a4, .ref a5], cA a1 G.2.1.1 100 K, cA a2 G.2.1.1 100 T, cA a3 G.2.1.1 100 Y, cA a4 G.2.1.1 100 V, cA a5 G.2.1.1 100 A]
          refine s_iload_n 1 C dX1_lastCommit_22 rfl 1 rfl ?_
          refine s_iload_n 3 C dX1_lastCommit_23 rfl 3 rfl ?_
          refine s_callV (As := [vI (gR n T r), vI y, vI r]) (rest := []) C dX1_lastCommit_24 (c_X1_lastPut l G a0 a1 a2 a3 a4 a5 n K T Y V A (gR n T r) y r (by first | assumption | omega) (by first | assumption | omega) (by first | assumption | omega) (by first | assumption | omega) (by first | assumption | omega) (by first | assumption | omega) (gR_r hT _) (by first | assumption | omega) (by first | assumption | omega)) gX1_lastCommit_X1_lastPut rfl 3 (by decide +kernel) (by decide) 0 1 rfl rfl rfl [0, 1, 2, 3, 4, 5] rfl (by decide) rfl (Nat.le_of_ble_eq_true rfl) ⟨Nat.zero_le _, Nat.zero_le _⟩ ?_
          intro v w hq
          obtain ⟨rfl, rfl⟩ := hq
          refine ⟨rfl, ?_⟩
          show fSt l G X 0 0 27 [(0, .ref a0), (1, vI y), (2, vI p), (3, vI r)] [vI (lP n K T Y (gR n T r) y r)] [cO a0 1 [vI n, .ref a1, .ref a2, .ref a3, .ref a4, .ref a5], cA a1 G.2.1.1 100 K, cA a2 G.2.1.1 100 T, cA a3 G.2.1.1 100 Y, cA a4 G.2.1.1 100 V, cA a5 G.2.1.1 100 A]
          refine s_if_eq 32 C dX1_lastCommit_27 (by decide) (lP_rg (by omega)) (fun h_27 => ?_) (fun h_27 => ?_)
          · refine s_iinc [(3, vI (r + (-1))), (0, .ref a0), (1, vI y), (2, vI p)] C dX1_lastCommit_32 3 rfl (by decide) rfl ?_
            refine s_goto 2 C dX1_lastCommit_35 (by decide) ?_
            refine s_lv [(0, .ref a0), (1, vI y), (2, vI p), (3, vI (r + (-1)))] [1, 2, 3, 0] rfl ?_
            exact ih_2 (r + (-1)) (by omega) (by rw [hi]; exact lst_no (by omega) (by simp only [pC, Bool.and_eq_false_iff, decide_eq_false_iff_not, ne_eq, Decidable.not_not]; omega)) (by omega)
          · refine s_iload_n 3 C dX1_lastCommit_30 rfl 3 rfl ?_
            exact s_iret C E dX1_lastCommit_31 ⟨congrArg (fun z => some (vI z)) (by rw [hi]; exact (lst_yes (by omega) (by simp only [pC, Bool.and_eq_true, decide_eq_true_eq]; omega)).symm), rfl⟩
  refine s_lv [(0, .ref a0), (1, vI y), (2, vI p), (3, vI p)] [1, 2, 3, 0] rfl ?_
  exact loop_2 (p + 1).toNat p (by omega) rfl (by omega)

set_option maxHeartbeats 4000000 in
set_option maxRecDepth 100000 in
theorem c_X1_valueAt (l : Launch) (G : fG) (a0 a1 a2 a3 a4 a5 : Nat) (n : Int) (K T Y V A : Int → Int) (y p : Int) (hn : 0 ≤ n ∧ n ≤ 100) (hK : rF K) (hT : rF T) (hY : rF Y) (hV : rF V) (hA : rF A) (hy : -2147483648 ≤ y ∧ y < 2147483648) (hp : 0 ≤ p ∧ p ≤ 100) : fCt l G yX1_valueAt wsX1_valueAt 5 111 0 0 [.ref a0, vI y, vI p] [cO a0 1 [vI n, .ref a1, .ref a2, .ref a3, .ref a4, .ref a5], cA a1 G.2.1.1 100 K, cA a2 G.2.1.1 100 T, cA a3 G.2.1.1 100 Y, cA a4 G.2.1.1 100 V, cA a5 G.2.1.1 100 A] (fun (v : Option Value) (w : va_W) => v = some (vI (vA n K T Y V y p)) ∧ w = [cO a0 1 [vI n, .ref a1, .ref a2, .ref a3, .ref a4, .ref a5], cA a1 G.2.1.1 100 K, cA a2 G.2.1.1 100 T, cA a3 G.2.1.1 100 Y, cA a4 G.2.1.1 100 V, cA a5 G.2.1.1 100 A]) := by
  refine fs_met (cc := cX1_valueAt) (nL := 4) (ret := (some .int)) (by decide) rfl (Nat.le_of_ble_eq_true rfl) ?_
  intro X C E
  show fSt l G X 0 0 0 [(0, .ref a0), (1, vI y), (2, vI p)] [] [cO a0 1 [vI n, .ref a1, .ref a2, .ref a3, .ref a4, .ref a5], cA a1 G.2.1.1 100 K, cA a2 G.2.1.1 100 T, cA a3 G.2.1.1 100 Y, cA a4 G.2.1.1 100 V, cA a5 G.2.1.1 100 A]
  refine s_aload_n 0 C dX1_valueAt_0 rfl 0 rfl ?_
  refine s_iload_n 1 C dX1_valueAt_1 rfl 1 rfl ?_
  refine s_iload_n 2 C dX1_valueAt_2 rfl 2 rfl ?_
  refine s_callV (As := [vI y, vI p]) (rest := []) C dX1_valueAt_3 (c_X1_lastCommit l G a0 a1 a2 a3 a4 a5 n K T Y V A y p (by first | assumption | omega) (by first | assumption | omega) (by first | assumption | omega) (by first | assumption | omega) (by first | assumption | omega) (by first | assumption | omega) (by first | assumption | omega) (by first | assumption | omega)) gX1_valueAt_X1_lastCommit rfl 2 (by decide +kernel) (by decide) 0 1 rfl rfl rfl [0, 1, 2, 3, 4, 5] rfl (by decide) rfl (Nat.le_of_ble_eq_true rfl) ⟨Nat.zero_le _, Nat.zero_le _⟩ ?_
  intro v w hq
  obtain ⟨rfl, rfl⟩ := hq
  refine ⟨rfl, ?_⟩
  show fSt l G X 0 0 6 [(0, .ref a0), (1, vI y), (2, vI p)] [vI (lC n K T Y y p)] [cO a0 1 [vI n, .ref a1, .ref a2, .ref a3, .ref a4, .ref a5], cA a1 G.2.1.1 100 K, cA a2 G.2.1.1 100 T, cA a3 G.2.1.1 100 Y, cA a4 G.2.1.1 100 V, cA a5 G.2.1.1 100 A]
  have hc := lC_in (n := n) (K := K) (T := T) (Y := Y) (y := y) hp
  refine s_istore_n 3 [(3, vI (lC n K T Y y p)), (0, .ref a0), (1, vI y), (2, vI p)] C dX1_valueAt_6 rfl (by decide) rfl ?_
  refine s_iload_n 3 C dX1_valueAt_7 rfl 0 rfl ?_
  refine s_if_ne 13 C dX1_valueAt_8 (by decide) (lC_rg (by omega)) (fun h_8 => ?_) (fun h_8 => ?_)
  · refine s_aload_n 0 C dX1_valueAt_13 rfl 1 rfl ?_
    refine s_aload_n 0 C dX1_valueAt_14 rfl 1 rfl ?_
    refine s_aload_n 0 C dX1_valueAt_15 rfl 1 rfl ?_
    refine s_iload_n 3 C dX1_valueAt_16 rfl 0 rfl ?_
    refine s_callV (As := [vI (lC n K T Y y p)]) (rest := [.ref a0, .ref a0]) C dX1_valueAt_17 (c_X1_transactionOf l G a0 a1 a2 a3 a4 a5 n K T Y V A (lC n K T Y y p) (by first | assumption | omega) (by first | assumption | omega)) gX1_valueAt_X1_transactionOf rfl 1 (by decide +kernel) (by decide) 0 1 rfl rfl rfl [0, 1, 2, 3, 4, 5] rfl (by decide) rfl (Nat.le_of_ble_eq_true rfl) ⟨Nat.zero_le _, Nat.zero_le _⟩ ?_
    intro v w hq
    obtain ⟨rfl, rfl⟩ := hq
    refine ⟨rfl, ?_⟩
    show fSt l G X 0 0 20 [(3, vI (lC n K T Y y p)), (0, .ref a0), (1, vI y), (2, vI p)] [vI (gR n T (lC n K T Y y p)), .ref a0, .ref a0] [cO a0 1 [vI n, .ref a1, .ref a2, .ref a3, .ref a4, .ref a5], cA a1 G.2.1.1 100 K, cA a2 G.2.1.1 100 T, cA a3 G.2.1.1 100 Y, cA a4 G.2.1.1 100 V, cA a5 G.2.1.1 100 A]
    refine s_iload_n 1 C dX1_valueAt_20 rfl 2 rfl ?_
    refine s_iload_n 3 C dX1_valueAt_21 rfl 0 rfl ?_
    refine s_callV (As := [vI (gR n T (lC n K T Y y p)), vI y, vI (lC n K T Y y p)]) (rest := [.ref a0]) C dX1_valueAt_22 (c_X1_lastPut l G a0 a1 a2 a3 a4 a5 n K T Y V A (gR n T (lC n K T Y y p)) y (lC n K T Y y p) (by first | assumption | omega) (by first | assumption | omega) (by first | assumption | omega) (by first | assumption | omega) (by first | assumption | omega) (by first | assumption | omega) (gR_r hT _) (by first | assumption | omega) (by first | assumption | omega)) gX1_valueAt_X1_lastPut rfl 3 (by decide +kernel) (by decide) 0 1 rfl rfl rfl [0, 1, 2, 3, 4, 5] rfl (by decide) rfl (Nat.le_of_ble_eq_true rfl) ⟨Nat.zero_le _, Nat.zero_le _⟩ ?_
    intro v w hq
    obtain ⟨rfl, rfl⟩ := hq
    refine ⟨rfl, ?_⟩
    show fSt l G X 0 0 25 [(3, vI (lC n K T Y y p)), (0, .ref a0), (1, vI y), (2, vI p)] [vI (lP n K T Y (gR n T (lC n K T Y y p)) y (lC n K T Y y p)), .ref a0] [cO a0 1 [vI n, .ref a1, .ref a2, .ref a3, .ref a4, .ref a5], cA a1 G.2.1.1 100 K, cA a2 G.2.1.1 100 T, cA a3 G.2.1.1 100 Y, cA a4 G.2.1.1 100 V, cA a5 G.2.1.1 100 A]
    have hq := lP_in (n := n) (K := K) (T := T) (Y := Y) (t := gR n T (lC n K T Y y p)) (y := y) (p := lC n K T Y y p) (by omega)
    refine s_callV (As := [vI (lP n K T Y (gR n T (lC n K T Y y p)) y (lC n K T Y y p))]) (rest := []) C dX1_valueAt_25 (c_X1_valueIn l G a0 a1 a2 a3 a4 a5 n K T Y V A (lP n K T Y (gR n T (lC n K T Y y p)) y (lC n K T Y y p)) (by first | assumption | omega) (by first | assumption | omega)) gX1_valueAt_X1_valueIn rfl 1 (by decide +kernel) (by decide) 0 1 rfl rfl rfl [0, 1, 2, 3, 4, 5] rfl (by decide) rfl (Nat.le_of_ble_eq_true rfl) ⟨Nat.zero_le _, Nat.zero_le _⟩ ?_
    intro v w hq
    obtain ⟨rfl, rfl⟩ := hq
    refine ⟨rfl, ?_⟩
    show fSt l G X 0 0 28 [(3, vI (lC n K T Y y p)), (0, .ref a0), (1, vI y), (2, vI p)] [vI (gR n V (lP n K T Y (gR n T (lC n K T Y y p)) y (lC n K T Y y p)))] [cO a0 1 [vI n, .ref a1, .ref a2, .ref a3, .ref a4, .ref a5], cA a1 G.2.1.1 100 K, cA a2 G.2.1.1 100 T, cA a3 G.2.1.1 100 Y, cA a4 G.2.1.1 100 V, cA a5 G.2.1.1 100 A]
    exact s_iret C E dX1_valueAt_28 ⟨congrArg (fun z => some (vI z)) (by rw [vA, if_neg h_8]), rfl⟩
  · refine s_iconst C dX1_valueAt_11 ?_
    exact s_iret C E dX1_valueAt_12 ⟨congrArg (fun z => some (vI z)) (by rw [vA, if_pos h_8]), rfl⟩

set_option maxHeartbeats 4000000 in
set_option maxRecDepth 100000 in
theorem c_X1_commitsBehind (l : Launch) (G : fG) (a0 a1 a2 a3 a4 a5 : Nat) (n : Int) (K T Y V A : Int → Int) (p : Int) (hn : 0 ≤ n ∧ n ≤ 100) (hK : rF K) (hT : rF T) (hY : rF Y) (hV : rF V) (hA : rF A) (hp : 0 ≤ p ∧ p ≤ n) : fCt l G yX1_commitsBehind wsX1_commitsBehind 2 42 0 0 [.ref a0, vI p] [cO a0 1 [vI n, .ref a1, .ref a2, .ref a3, .ref a4, .ref a5], cA a1 G.2.1.1 100 K, cA a2 G.2.1.1 100 T, cA a3 G.2.1.1 100 Y, cA a4 G.2.1.1 100 V, cA a5 G.2.1.1 100 A] (fun (v : Option Value) (w : va_W) => v = some (vI (cB n K p)) ∧ w = [cO a0 1 [vI n, .ref a1, .ref a2, .ref a3, .ref a4, .ref a5], cA a1 G.2.1.1 100 K, cA a2 G.2.1.1 100 T, cA a3 G.2.1.1 100 Y, cA a4 G.2.1.1 100 V, cA a5 G.2.1.1 100 A]) := by
  refine fs_met (cc := cX1_commitsBehind) (nL := 4) (ret := (some .int)) (by decide) rfl (Nat.le_of_ble_eq_true rfl) ?_
  intro X C E
  show fSt l G X 0 0 0 [(0, .ref a0), (1, vI p)] [] [cO a0 1 [vI n, .ref a1, .ref a2, .ref a3, .ref a4, .ref a5], cA a1 G.2.1.1 100 K, cA a2 G.2.1.1 100 T, cA a3 G.2.1.1 100 Y, cA a4 G.2.1.1 100 V, cA a5 G.2.1.1 100 A]
  have hinX1 : ∀ w ∈ u_ws RX1 TX1 6, w ∈ wsX1_commitsBehind := by decide +kernel
  refine s_iconst C dX1_commitsBehind_0 ?_
  refine s_istore_n 2 [(2, vI 0), (0, .ref a0), (1, vI p)] C dX1_commitsBehind_1 rfl (by decide) rfl ?_
  refine s_iload_n 1 C dX1_commitsBehind_2 rfl 2 rfl ?_
  refine s_iconst C dX1_commitsBehind_3 ?_
  refine s_iadd C dX1_commitsBehind_4 ?_
  refine s_istore_n 3 [(3, vI (p + 1)), (2, vI 0), (0, .ref a0), (1, vI p)] C dX1_commitsBehind_5 rfl (by decide) rfl ?_
  have loop_6 : ∀ (fuel : Nat) (r c : Int), (p + 1 ≤ r ∧ r ≤ n + 1) → (c = cnt (fun r => decide (gR n K r = 1)) (p + 1) (r - (p + 1)).toNat) → (0 ≤ c ∧ c ≤ r - (p + 1)) → (n + 1 - r < (fuel : Int)) → fSt l G X 0 0 6 [(0, .ref a0), (1, vI p), (2, vI c), (3, vI r)] [] [cO a0 1 [vI n, .ref a1, .ref a2, .ref a3, .ref a4, .ref a5], cA a1 G.2.1.1 100 K, cA a2 G.2.1.1 100 T, cA a3 G.2.1.1 100 Y, cA a4 G.2.1.1 100 V, cA a5 G.2.1.1 100 A] := by
    intro fuel
    induction fuel with
    | zero =>
      intro r c hr hc hcr hm
      exfalso
      omega
    | succ fuel ih_6 =>
      intro r c hr hc hcr hm
      refine s_iload_n 3 C dX1_commitsBehind_6 rfl 3 rfl ?_
      refine s_aload_n 0 C dX1_commitsBehind_7 rfl 0 rfl ?_
      refine s_get C dX1_commitsBehind_8 1 rfl hinX1 0 rfl 0 (by decide) (by decide +kernel) rfl ?_
      refine s_icmp_gt 32 C dX1_commitsBehind_11 (by decide) (by omega) (by omega) (fun h_11 => ?_) (fun h_11 => ?_)
      · refine s_iload_n 2 C dX1_commitsBehind_32 rfl 2 rfl ?_
        exact s_iret C E dX1_commitsBehind_33 ⟨congrArg (fun z => some (vI z)) (by rw [hc, cB]; congr 1; omega), rfl⟩
      · refine s_aload_n 0 C dX1_commitsBehind_14 rfl 0 rfl ?_
        refine s_iload_n 3 C dX1_commitsBehind_15 rfl 3 rfl ?_
        refine s_callV (As := [vI r]) (rest := []) C dX1_commitsBehind_16 (c_X1_kindOf l G a0 a1 a2 a3 a4 a5 n K T Y V A r (by first | assumption | omega) (by first | assumption | omega)) gX1_commitsBehind_X1_kindOf rfl 1 (by decide +kernel) (by decide) 0 1 rfl rfl rfl [0, 1, 2, 3, 4, 5] rfl (by decide) rfl (Nat.le_of_ble_eq_true rfl) ⟨Nat.zero_le _, Nat.zero_le _⟩ ?_
        intro v w hq
        obtain ⟨rfl, rfl⟩ := hq
        refine ⟨rfl, ?_⟩
        show fSt l G X 0 0 19 [(0, .ref a0), (1, vI p), (2, vI c), (3, vI r)] [vI (gR n K r)] [cO a0 1 [vI n, .ref a1, .ref a2, .ref a3, .ref a4, .ref a5], cA a1 G.2.1.1 100 K, cA a2 G.2.1.1 100 T, cA a3 G.2.1.1 100 Y, cA a4 G.2.1.1 100 V, cA a5 G.2.1.1 100 A]
        refine s_iconst C dX1_commitsBehind_19 ?_
        refine s_icmp_ne 26 C dX1_commitsBehind_20 (by decide) (gR_r hK _) (by omega) (fun h_20 => ?_) (fun h_20 => ?_)
        · refine s_iinc [(3, vI (r + 1)), (0, .ref a0), (1, vI p), (2, vI c)] C dX1_commitsBehind_26 3 rfl (by decide) rfl ?_
          refine s_goto 6 C dX1_commitsBehind_29 (by decide) ?_
          refine s_lv [(0, .ref a0), (1, vI p), (2, vI c), (3, vI (r + 1))] [1, 2, 3, 0] rfl ?_
          exact ih_6 (r + 1) c (by omega) (cnt_nx (by omega) hc (Or.inr ⟨(by simp only [decide_eq_true_eq]; omega), rfl⟩)) (by omega) (by omega)
        · refine s_iinc [(2, vI (c + 1)), (0, .ref a0), (1, vI p), (3, vI r)] C dX1_commitsBehind_23 2 rfl (by decide) rfl ?_
          refine s_iinc [(3, vI (r + 1)), (2, vI (c + 1)), (0, .ref a0), (1, vI p)] C dX1_commitsBehind_26 3 rfl (by decide) rfl ?_
          refine s_goto 6 C dX1_commitsBehind_29 (by decide) ?_
          refine s_lv [(0, .ref a0), (1, vI p), (2, vI (c + 1)), (3, vI (r + 1))] [2, 3, 1, 0] rfl ?_
          exact ih_6 (r + 1) (c + 1) (by omega) (cnt_nx (by omega) hc (Or.inl ⟨(by simp only [decide_eq_true_eq]; omega), rfl⟩)) (by omega) (by omega)
  refine s_lv [(0, .ref a0), (1, vI p), (2, vI 0), (3, vI (p + 1))] [2, 3, 1, 0] rfl ?_
  exact loop_6 (n + 1 - (p + 1) + 1).toNat (p + 1) 0 (by omega) (by rw [show (p + 1 - (p + 1)).toNat = 0 by omega]; rfl) (by omega) (by omega)

set_option maxHeartbeats 4000000 in
set_option maxRecDepth 100000 in
theorem c_X1_putsOf (l : Launch) (G : fG) (a0 a1 a2 a3 a4 a5 : Nat) (n : Int) (K T Y V A : Int → Int) (t : Int) (hn : 0 ≤ n ∧ n ≤ 100) (hK : rF K) (hT : rF T) (hY : rF Y) (hV : rF V) (hA : rF A) (ht : -2147483648 ≤ t ∧ t < 2147483648) : fCt l G yX1_putsOf wsX1_putsOf 3 64 0 0 [.ref a0, vI t] [cO a0 1 [vI n, .ref a1, .ref a2, .ref a3, .ref a4, .ref a5], cA a1 G.2.1.1 100 K, cA a2 G.2.1.1 100 T, cA a3 G.2.1.1 100 Y, cA a4 G.2.1.1 100 V, cA a5 G.2.1.1 100 A] (fun (v : Option Value) (w : va_W) => v = some (vI (pO n K T t)) ∧ w = [cO a0 1 [vI n, .ref a1, .ref a2, .ref a3, .ref a4, .ref a5], cA a1 G.2.1.1 100 K, cA a2 G.2.1.1 100 T, cA a3 G.2.1.1 100 Y, cA a4 G.2.1.1 100 V, cA a5 G.2.1.1 100 A]) := by
  refine fs_met (cc := cX1_putsOf) (nL := 4) (ret := (some .int)) (by decide) rfl (Nat.le_of_ble_eq_true rfl) ?_
  intro X C E
  show fSt l G X 0 0 0 [(0, .ref a0), (1, vI t)] [] [cO a0 1 [vI n, .ref a1, .ref a2, .ref a3, .ref a4, .ref a5], cA a1 G.2.1.1 100 K, cA a2 G.2.1.1 100 T, cA a3 G.2.1.1 100 Y, cA a4 G.2.1.1 100 V, cA a5 G.2.1.1 100 A]
  have hinX1 : ∀ w ∈ u_ws RX1 TX1 6, w ∈ wsX1_putsOf := by decide +kernel
  refine s_iconst C dX1_putsOf_0 ?_
  refine s_istore_n 2 [(2, vI 0), (0, .ref a0), (1, vI t)] C dX1_putsOf_1 rfl (by decide) rfl ?_
  refine s_iconst C dX1_putsOf_2 ?_
  refine s_istore_n 3 [(3, vI 1), (2, vI 0), (0, .ref a0), (1, vI t)] C dX1_putsOf_3 rfl (by decide) rfl ?_
  have loop_4 : ∀ (fuel : Nat) (r c : Int), (1 ≤ r ∧ r ≤ n + 1) → (c = cnt (fun r => decide (gR n T r = t) && decide (gR n K r = 0)) 1 (r - 1).toNat) → (0 ≤ c ∧ c < r) → (n + 1 - r < (fuel : Int)) → fSt l G X 0 0 4 [(0, .ref a0), (1, vI t), (2, vI c), (3, vI r)] [] [cO a0 1 [vI n, .ref a1, .ref a2, .ref a3, .ref a4, .ref a5], cA a1 G.2.1.1 100 K, cA a2 G.2.1.1 100 T, cA a3 G.2.1.1 100 Y, cA a4 G.2.1.1 100 V, cA a5 G.2.1.1 100 A] := by
    intro fuel
    induction fuel with
    | zero =>
      intro r c hr hc hcr hm
      exfalso
      omega
    | succ fuel ih_4 =>
      intro r c hr hc hcr hm
      refine s_iload_n 3 C dX1_putsOf_4 rfl 3 rfl ?_
      refine s_aload_n 0 C dX1_putsOf_5 rfl 0 rfl ?_
      refine s_get C dX1_putsOf_6 1 rfl hinX1 0 rfl 0 (by decide) (by decide +kernel) rfl ?_
      refine s_icmp_gt 30 C dX1_putsOf_9 (by decide) (by omega) (by omega) (fun h_9 => ?_) (fun h_9 => ?_)
      · refine s_iload_n 2 C dX1_putsOf_30 rfl 2 rfl ?_
        exact s_iret C E dX1_putsOf_31 ⟨congrArg (fun z => some (vI z)) (by rw [hc, pO]; congr 1; omega), rfl⟩
      · refine s_aload_n 0 C dX1_putsOf_12 rfl 0 rfl ?_
        refine s_iload_n 3 C dX1_putsOf_13 rfl 3 rfl ?_
        refine s_iload_n 1 C dX1_putsOf_14 rfl 1 rfl ?_
        refine s_callV (As := [vI r, vI t]) (rest := []) C dX1_putsOf_15 (c_X1_isPutOf l G a0 a1 a2 a3 a4 a5 n K T Y V A r t (by first | assumption | omega) (by first | assumption | omega) (by first | assumption | omega) (by first | assumption | omega) (by first | assumption | omega) (by first | assumption | omega) (by first | assumption | omega) (by first | assumption | omega)) gX1_putsOf_X1_isPutOf rfl 2 (by decide +kernel) (by decide) 0 1 rfl rfl rfl [0, 1, 2, 3, 4, 5] rfl (by decide) rfl (Nat.le_of_ble_eq_true rfl) ⟨Nat.zero_le _, Nat.zero_le _⟩ ?_
        intro v w hq
        obtain ⟨rfl, rfl⟩ := hq
        refine ⟨rfl, ?_⟩
        show fSt l G X 0 0 18 [(0, .ref a0), (1, vI t), (2, vI c), (3, vI r)] [vI (bI (gR n T r = t ∧ gR n K r = 0))] [cO a0 1 [vI n, .ref a1, .ref a2, .ref a3, .ref a4, .ref a5], cA a1 G.2.1.1 100 K, cA a2 G.2.1.1 100 T, cA a3 G.2.1.1 100 Y, cA a4 G.2.1.1 100 V, cA a5 G.2.1.1 100 A]
        refine s_if_eq 24 C dX1_putsOf_18 (by decide) bI_rng (fun h_18 => ?_) (fun h_18 => ?_)
        · have h_18 := bI_f h_18
          refine s_iinc [(3, vI (r + 1)), (0, .ref a0), (1, vI t), (2, vI c)] C dX1_putsOf_24 3 rfl (by decide) rfl ?_
          refine s_goto 4 C dX1_putsOf_27 (by decide) ?_
          refine s_lv [(0, .ref a0), (1, vI t), (2, vI c), (3, vI (r + 1))] [1, 2, 3, 0] rfl ?_
          exact ih_4 (r + 1) c (by omega) (cnt_nx (by omega) hc (Or.inr ⟨(by simp only [Bool.and_eq_true, decide_eq_true_eq]; omega), rfl⟩)) (by omega) (by omega)
        · have h_18 := bI_t h_18
          refine s_iinc [(2, vI (c + 1)), (0, .ref a0), (1, vI t), (3, vI r)] C dX1_putsOf_21 2 rfl (by decide) rfl ?_
          refine s_iinc [(3, vI (r + 1)), (2, vI (c + 1)), (0, .ref a0), (1, vI t)] C dX1_putsOf_24 3 rfl (by decide) rfl ?_
          refine s_goto 4 C dX1_putsOf_27 (by decide) ?_
          refine s_lv [(0, .ref a0), (1, vI t), (2, vI (c + 1)), (3, vI (r + 1))] [2, 3, 1, 0] rfl ?_
          exact ih_4 (r + 1) (c + 1) (by omega) (cnt_nx (by omega) hc (Or.inl ⟨(by simp only [Bool.and_eq_true, decide_eq_true_eq]; omega), rfl⟩)) (by omega) (by omega)
  refine s_lv [(0, .ref a0), (1, vI t), (2, vI 0), (3, vI 1)] [2, 3, 1, 0] rfl ?_
  exact loop_4 (n + 1 - 1 + 1).toNat 1 0 (by omega) rfl (by omega) (by omega)

set_option maxHeartbeats 4000000 in
set_option maxRecDepth 100000 in
/-- has(record) -/
theorem c_X1_has (l : Launch) (G : fG) (a0 a1 a2 a3 a4 a5 : Nat) (n : Int) (K T Y V A : Int → Int) (r : Int) (hn : 0 ≤ n ∧ n ≤ 100) (hr : -2147483648 ≤ r ∧ r < 2147483648) : fCt l G yX1_has wsX1_has 0 0 0 0 [.ref a0, vI r] [cO a0 1 [vI n, .ref a1, .ref a2, .ref a3, .ref a4, .ref a5], cA a1 G.2.1.1 100 K, cA a2 G.2.1.1 100 T, cA a3 G.2.1.1 100 Y, cA a4 G.2.1.1 100 V, cA a5 G.2.1.1 100 A] (fun (v0 : Option Value) (w0 : va_W) => v0 = some (vI (bI (1 ≤ r ∧ r ≤ n))) ∧ w0 = [cO a0 1 [vI n, .ref a1, .ref a2, .ref a3, .ref a4, .ref a5], cA a1 G.2.1.1 100 K, cA a2 G.2.1.1 100 T, cA a3 G.2.1.1 100 Y, cA a4 G.2.1.1 100 V, cA a5 G.2.1.1 100 A]) := by
  refine fs_met (cc := cX1_has) (nL := 2) (ret := (some .boolean)) (by decide) rfl (Nat.le_of_ble_eq_true rfl) ?_
  intro X C E
  show fSt l G X 0 0 0 [(0, .ref a0), (1, vI r)] [] [cO a0 1 [vI n, .ref a1, .ref a2, .ref a3, .ref a4, .ref a5], cA a1 G.2.1.1 100 K, cA a2 G.2.1.1 100 T, cA a3 G.2.1.1 100 Y, cA a4 G.2.1.1 100 V, cA a5 G.2.1.1 100 A]
  have hinX1 : ∀ w ∈ u_ws RX1 TX1 6, w ∈ wsX1_has := by decide +kernel
  refine s_iload_n 1 C dX1_has_0 rfl 1 rfl ?_
  refine s_iconst C dX1_has_1 ?_
  refine s_icmp_lt 23 C dX1_has_2 (by decide) (by omega) (by omega) (fun h_2 => ?_) (fun h_2 => ?_)
  · refine s_iconst C dX1_has_23 ?_
    exact s_zret C E dX1_has_24 rfl ⟨congrArg (fun z => some (vI z)) (bI_0 (by omega)), rfl⟩
  · refine s_iload_n 1 C dX1_has_5 rfl 1 rfl ?_
    refine s_aload_n 0 C dX1_has_6 rfl 0 rfl ?_
    refine s_get C dX1_has_7 1 rfl hinX1 0 rfl 0 (by decide) (by decide +kernel) rfl ?_
    refine s_icmp_gt 23 C dX1_has_10 (by decide) (by omega) (by omega) (fun h_10 => ?_) (fun h_10 => ?_)
    · refine s_iconst C dX1_has_23 ?_
      exact s_zret C E dX1_has_24 rfl ⟨congrArg (fun z => some (vI z)) (bI_0 (by omega)), rfl⟩
    · refine s_iload_n 1 C dX1_has_13 rfl 1 rfl ?_
      refine s_bipush (z := 100) C dX1_has_14 rfl ?_
      refine s_icmp_gt 23 C dX1_has_16 (by decide) (by omega) (by omega) (fun h_16 => ?_) (fun h_16 => ?_)
      · refine s_iconst C dX1_has_23 ?_
        exact s_zret C E dX1_has_24 rfl ⟨congrArg (fun z => some (vI z)) (bI_0 (by omega)), rfl⟩
      · refine s_iconst C dX1_has_19 ?_
        refine s_goto 24 C dX1_has_20 (by decide) ?_
        exact s_zret C E dX1_has_24 rfl ⟨congrArg (fun z => some (vI z)) (bI_1 (by omega)), rfl⟩

set_option maxHeartbeats 4000000 in
set_option maxRecDepth 100000 in
/-- kindOf -/
theorem c_X1_kindOf (l : Launch) (G : fG) (a0 a1 a2 a3 a4 a5 : Nat) (n : Int) (K T Y V A : Int → Int) (r : Int) (hn : 0 ≤ n ∧ n ≤ 100) (hr : -2147483648 ≤ r ∧ r < 2147483648) : fCt l G yX1_kindOf wsX1_kindOf 1 21 0 0 [.ref a0, vI r] [cO a0 1 [vI n, .ref a1, .ref a2, .ref a3, .ref a4, .ref a5], cA a1 G.2.1.1 100 K, cA a2 G.2.1.1 100 T, cA a3 G.2.1.1 100 Y, cA a4 G.2.1.1 100 V, cA a5 G.2.1.1 100 A] (fun (v0 : Option Value) (w0 : va_W) => v0 = some (vI (gR n K r)) ∧ w0 = [cO a0 1 [vI n, .ref a1, .ref a2, .ref a3, .ref a4, .ref a5], cA a1 G.2.1.1 100 K, cA a2 G.2.1.1 100 T, cA a3 G.2.1.1 100 Y, cA a4 G.2.1.1 100 V, cA a5 G.2.1.1 100 A]) := by
  refine fs_met (cc := cX1_kindOf) (nL := 2) (ret := (some .int)) (by decide) rfl (Nat.le_of_ble_eq_true rfl) ?_
  intro X C E
  show fSt l G X 0 0 0 [(0, .ref a0), (1, vI r)] [] [cO a0 1 [vI n, .ref a1, .ref a2, .ref a3, .ref a4, .ref a5], cA a1 G.2.1.1 100 K, cA a2 G.2.1.1 100 T, cA a3 G.2.1.1 100 Y, cA a4 G.2.1.1 100 V, cA a5 G.2.1.1 100 A]
  have hinX1 : ∀ w ∈ u_ws RX1 TX1 6, w ∈ wsX1_kindOf := by decide +kernel
  refine s_aload_n 0 C dX1_kindOf_0 rfl 0 rfl ?_
  refine s_iload_n 1 C dX1_kindOf_1 rfl 1 rfl ?_
  refine s_callV (As := [vI r]) (rest := []) C dX1_kindOf_2 (c_X1_has l G a0 a1 a2 a3 a4 a5 n K T Y V A r (by first | assumption | omega) (by first | assumption | omega)) gX1_kindOf_X1_has rfl 1 (by decide +kernel) (by decide) 0 1 rfl rfl rfl [0, 1, 2, 3, 4, 5] rfl (by decide) rfl (Nat.le_of_ble_eq_true rfl) ⟨Nat.zero_le _, Nat.zero_le _⟩ ?_
  intro v0 w0 hq
  obtain ⟨rfl, rfl⟩ := hq
  refine ⟨rfl, ?_⟩
  show fSt l G X 0 0 5 [(0, .ref a0), (1, vI r)] [vI (bI (1 ≤ r ∧ r ≤ n))] [cO a0 1 [vI n, .ref a1, .ref a2, .ref a3, .ref a4, .ref a5], cA a1 G.2.1.1 100 K, cA a2 G.2.1.1 100 T, cA a3 G.2.1.1 100 Y, cA a4 G.2.1.1 100 V, cA a5 G.2.1.1 100 A]
  refine s_if_eq 19 C dX1_kindOf_5 (by decide) bI_rng (fun h_5 => ?_) (fun h_5 => ?_)
  · have h_5 := bI_f h_5
    refine s_ldc (z := -1000004) C (by decide +kernel) dX1_kindOf_19 ?_
    exact s_iret C E dX1_kindOf_21 ⟨congrArg (fun z => some (vI z)) (by first | (rw [gR_in (by omega)]; done) | (rw [gR_out (by omega)]; done)), rfl⟩
  · have h_5 := bI_t h_5
    refine s_aload_n 0 C dX1_kindOf_8 rfl 0 rfl ?_
    refine s_get C dX1_kindOf_9 1 rfl hinX1 0 rfl 1 (by decide) (by decide +kernel) rfl ?_
    refine s_iload_n 1 C dX1_kindOf_12 rfl 1 rfl ?_
    refine s_iconst C dX1_kindOf_13 ?_
    refine s_isub C dX1_kindOf_14 ?_
    refine s_iald C dX1_kindOf_15 1 rfl (r - 1) rfl (by omega) (by omega) (by omega) ?_
    refine s_goto 21 C dX1_kindOf_16 (by decide) ?_
    exact s_iret C E dX1_kindOf_21 ⟨congrArg (fun z => some (vI z)) (by first | (rw [gR_in (by omega)]; done) | (rw [gR_out (by omega)]; done)), rfl⟩

set_option maxHeartbeats 4000000 in
set_option maxRecDepth 100000 in
/-- transactionOf -/
theorem c_X1_transactionOf (l : Launch) (G : fG) (a0 a1 a2 a3 a4 a5 : Nat) (n : Int) (K T Y V A : Int → Int) (r : Int) (hn : 0 ≤ n ∧ n ≤ 100) (hr : -2147483648 ≤ r ∧ r < 2147483648) : fCt l G yX1_transactionOf wsX1_transactionOf 1 21 0 0 [.ref a0, vI r] [cO a0 1 [vI n, .ref a1, .ref a2, .ref a3, .ref a4, .ref a5], cA a1 G.2.1.1 100 K, cA a2 G.2.1.1 100 T, cA a3 G.2.1.1 100 Y, cA a4 G.2.1.1 100 V, cA a5 G.2.1.1 100 A] (fun (v0 : Option Value) (w0 : va_W) => v0 = some (vI (gR n T r)) ∧ w0 = [cO a0 1 [vI n, .ref a1, .ref a2, .ref a3, .ref a4, .ref a5], cA a1 G.2.1.1 100 K, cA a2 G.2.1.1 100 T, cA a3 G.2.1.1 100 Y, cA a4 G.2.1.1 100 V, cA a5 G.2.1.1 100 A]) := by
  refine fs_met (cc := cX1_transactionOf) (nL := 2) (ret := (some .int)) (by decide) rfl (Nat.le_of_ble_eq_true rfl) ?_
  intro X C E
  show fSt l G X 0 0 0 [(0, .ref a0), (1, vI r)] [] [cO a0 1 [vI n, .ref a1, .ref a2, .ref a3, .ref a4, .ref a5], cA a1 G.2.1.1 100 K, cA a2 G.2.1.1 100 T, cA a3 G.2.1.1 100 Y, cA a4 G.2.1.1 100 V, cA a5 G.2.1.1 100 A]
  have hinX1 : ∀ w ∈ u_ws RX1 TX1 6, w ∈ wsX1_transactionOf := by decide +kernel
  refine s_aload_n 0 C dX1_transactionOf_0 rfl 0 rfl ?_
  refine s_iload_n 1 C dX1_transactionOf_1 rfl 1 rfl ?_
  refine s_callV (As := [vI r]) (rest := []) C dX1_transactionOf_2 (c_X1_has l G a0 a1 a2 a3 a4 a5 n K T Y V A r (by first | assumption | omega) (by first | assumption | omega)) gX1_transactionOf_X1_has rfl 1 (by decide +kernel) (by decide) 0 1 rfl rfl rfl [0, 1, 2, 3, 4, 5] rfl (by decide) rfl (Nat.le_of_ble_eq_true rfl) ⟨Nat.zero_le _, Nat.zero_le _⟩ ?_
  intro v0 w0 hq
  obtain ⟨rfl, rfl⟩ := hq
  refine ⟨rfl, ?_⟩
  show fSt l G X 0 0 5 [(0, .ref a0), (1, vI r)] [vI (bI (1 ≤ r ∧ r ≤ n))] [cO a0 1 [vI n, .ref a1, .ref a2, .ref a3, .ref a4, .ref a5], cA a1 G.2.1.1 100 K, cA a2 G.2.1.1 100 T, cA a3 G.2.1.1 100 Y, cA a4 G.2.1.1 100 V, cA a5 G.2.1.1 100 A]
  refine s_if_eq 19 C dX1_transactionOf_5 (by decide) bI_rng (fun h_5 => ?_) (fun h_5 => ?_)
  · have h_5 := bI_f h_5
    refine s_ldc (z := -1000004) C (by decide +kernel) dX1_transactionOf_19 ?_
    exact s_iret C E dX1_transactionOf_21 ⟨congrArg (fun z => some (vI z)) (by first | (rw [gR_in (by omega)]; done) | (rw [gR_out (by omega)]; done)), rfl⟩
  · have h_5 := bI_t h_5
    refine s_aload_n 0 C dX1_transactionOf_8 rfl 0 rfl ?_
    refine s_get C dX1_transactionOf_9 1 rfl hinX1 0 rfl 2 (by decide) (by decide +kernel) rfl ?_
    refine s_iload_n 1 C dX1_transactionOf_12 rfl 1 rfl ?_
    refine s_iconst C dX1_transactionOf_13 ?_
    refine s_isub C dX1_transactionOf_14 ?_
    refine s_iald C dX1_transactionOf_15 2 rfl (r - 1) rfl (by omega) (by omega) (by omega) ?_
    refine s_goto 21 C dX1_transactionOf_16 (by decide) ?_
    exact s_iret C E dX1_transactionOf_21 ⟨congrArg (fun z => some (vI z)) (by first | (rw [gR_in (by omega)]; done) | (rw [gR_out (by omega)]; done)), rfl⟩

set_option maxHeartbeats 4000000 in
set_option maxRecDepth 100000 in
/-- keyOf -/
theorem c_X1_keyOf (l : Launch) (G : fG) (a0 a1 a2 a3 a4 a5 : Nat) (n : Int) (K T Y V A : Int → Int) (r : Int) (hn : 0 ≤ n ∧ n ≤ 100) (hr : -2147483648 ≤ r ∧ r < 2147483648) : fCt l G yX1_keyOf wsX1_keyOf 1 21 0 0 [.ref a0, vI r] [cO a0 1 [vI n, .ref a1, .ref a2, .ref a3, .ref a4, .ref a5], cA a1 G.2.1.1 100 K, cA a2 G.2.1.1 100 T, cA a3 G.2.1.1 100 Y, cA a4 G.2.1.1 100 V, cA a5 G.2.1.1 100 A] (fun (v0 : Option Value) (w0 : va_W) => v0 = some (vI (gR n Y r)) ∧ w0 = [cO a0 1 [vI n, .ref a1, .ref a2, .ref a3, .ref a4, .ref a5], cA a1 G.2.1.1 100 K, cA a2 G.2.1.1 100 T, cA a3 G.2.1.1 100 Y, cA a4 G.2.1.1 100 V, cA a5 G.2.1.1 100 A]) := by
  refine fs_met (cc := cX1_keyOf) (nL := 2) (ret := (some .int)) (by decide) rfl (Nat.le_of_ble_eq_true rfl) ?_
  intro X C E
  show fSt l G X 0 0 0 [(0, .ref a0), (1, vI r)] [] [cO a0 1 [vI n, .ref a1, .ref a2, .ref a3, .ref a4, .ref a5], cA a1 G.2.1.1 100 K, cA a2 G.2.1.1 100 T, cA a3 G.2.1.1 100 Y, cA a4 G.2.1.1 100 V, cA a5 G.2.1.1 100 A]
  have hinX1 : ∀ w ∈ u_ws RX1 TX1 6, w ∈ wsX1_keyOf := by decide +kernel
  refine s_aload_n 0 C dX1_keyOf_0 rfl 0 rfl ?_
  refine s_iload_n 1 C dX1_keyOf_1 rfl 1 rfl ?_
  refine s_callV (As := [vI r]) (rest := []) C dX1_keyOf_2 (c_X1_has l G a0 a1 a2 a3 a4 a5 n K T Y V A r (by first | assumption | omega) (by first | assumption | omega)) gX1_keyOf_X1_has rfl 1 (by decide +kernel) (by decide) 0 1 rfl rfl rfl [0, 1, 2, 3, 4, 5] rfl (by decide) rfl (Nat.le_of_ble_eq_true rfl) ⟨Nat.zero_le _, Nat.zero_le _⟩ ?_
  intro v0 w0 hq
  obtain ⟨rfl, rfl⟩ := hq
  refine ⟨rfl, ?_⟩
  show fSt l G X 0 0 5 [(0, .ref a0), (1, vI r)] [vI (bI (1 ≤ r ∧ r ≤ n))] [cO a0 1 [vI n, .ref a1, .ref a2, .ref a3, .ref a4, .ref a5], cA a1 G.2.1.1 100 K, cA a2 G.2.1.1 100 T, cA a3 G.2.1.1 100 Y, cA a4 G.2.1.1 100 V, cA a5 G.2.1.1 100 A]
  refine s_if_eq 19 C dX1_keyOf_5 (by decide) bI_rng (fun h_5 => ?_) (fun h_5 => ?_)
  · have h_5 := bI_f h_5
    refine s_ldc (z := -1000004) C (by decide +kernel) dX1_keyOf_19 ?_
    exact s_iret C E dX1_keyOf_21 ⟨congrArg (fun z => some (vI z)) (by first | (rw [gR_in (by omega)]; done) | (rw [gR_out (by omega)]; done)), rfl⟩
  · have h_5 := bI_t h_5
    refine s_aload_n 0 C dX1_keyOf_8 rfl 0 rfl ?_
    refine s_get C dX1_keyOf_9 1 rfl hinX1 0 rfl 3 (by decide) (by decide +kernel) rfl ?_
    refine s_iload_n 1 C dX1_keyOf_12 rfl 1 rfl ?_
    refine s_iconst C dX1_keyOf_13 ?_
    refine s_isub C dX1_keyOf_14 ?_
    refine s_iald C dX1_keyOf_15 3 rfl (r - 1) rfl (by omega) (by omega) (by omega) ?_
    refine s_goto 21 C dX1_keyOf_16 (by decide) ?_
    exact s_iret C E dX1_keyOf_21 ⟨congrArg (fun z => some (vI z)) (by first | (rw [gR_in (by omega)]; done) | (rw [gR_out (by omega)]; done)), rfl⟩

set_option maxHeartbeats 4000000 in
set_option maxRecDepth 100000 in
/-- valueIn -/
theorem c_X1_valueIn (l : Launch) (G : fG) (a0 a1 a2 a3 a4 a5 : Nat) (n : Int) (K T Y V A : Int → Int) (r : Int) (hn : 0 ≤ n ∧ n ≤ 100) (hr : -2147483648 ≤ r ∧ r < 2147483648) : fCt l G yX1_valueIn wsX1_valueIn 1 21 0 0 [.ref a0, vI r] [cO a0 1 [vI n, .ref a1, .ref a2, .ref a3, .ref a4, .ref a5], cA a1 G.2.1.1 100 K, cA a2 G.2.1.1 100 T, cA a3 G.2.1.1 100 Y, cA a4 G.2.1.1 100 V, cA a5 G.2.1.1 100 A] (fun (v0 : Option Value) (w0 : va_W) => v0 = some (vI (gR n V r)) ∧ w0 = [cO a0 1 [vI n, .ref a1, .ref a2, .ref a3, .ref a4, .ref a5], cA a1 G.2.1.1 100 K, cA a2 G.2.1.1 100 T, cA a3 G.2.1.1 100 Y, cA a4 G.2.1.1 100 V, cA a5 G.2.1.1 100 A]) := by
  refine fs_met (cc := cX1_valueIn) (nL := 2) (ret := (some .int)) (by decide) rfl (Nat.le_of_ble_eq_true rfl) ?_
  intro X C E
  show fSt l G X 0 0 0 [(0, .ref a0), (1, vI r)] [] [cO a0 1 [vI n, .ref a1, .ref a2, .ref a3, .ref a4, .ref a5], cA a1 G.2.1.1 100 K, cA a2 G.2.1.1 100 T, cA a3 G.2.1.1 100 Y, cA a4 G.2.1.1 100 V, cA a5 G.2.1.1 100 A]
  have hinX1 : ∀ w ∈ u_ws RX1 TX1 6, w ∈ wsX1_valueIn := by decide +kernel
  refine s_aload_n 0 C dX1_valueIn_0 rfl 0 rfl ?_
  refine s_iload_n 1 C dX1_valueIn_1 rfl 1 rfl ?_
  refine s_callV (As := [vI r]) (rest := []) C dX1_valueIn_2 (c_X1_has l G a0 a1 a2 a3 a4 a5 n K T Y V A r (by first | assumption | omega) (by first | assumption | omega)) gX1_valueIn_X1_has rfl 1 (by decide +kernel) (by decide) 0 1 rfl rfl rfl [0, 1, 2, 3, 4, 5] rfl (by decide) rfl (Nat.le_of_ble_eq_true rfl) ⟨Nat.zero_le _, Nat.zero_le _⟩ ?_
  intro v0 w0 hq
  obtain ⟨rfl, rfl⟩ := hq
  refine ⟨rfl, ?_⟩
  show fSt l G X 0 0 5 [(0, .ref a0), (1, vI r)] [vI (bI (1 ≤ r ∧ r ≤ n))] [cO a0 1 [vI n, .ref a1, .ref a2, .ref a3, .ref a4, .ref a5], cA a1 G.2.1.1 100 K, cA a2 G.2.1.1 100 T, cA a3 G.2.1.1 100 Y, cA a4 G.2.1.1 100 V, cA a5 G.2.1.1 100 A]
  refine s_if_eq 19 C dX1_valueIn_5 (by decide) bI_rng (fun h_5 => ?_) (fun h_5 => ?_)
  · have h_5 := bI_f h_5
    refine s_ldc (z := -1000004) C (by decide +kernel) dX1_valueIn_19 ?_
    exact s_iret C E dX1_valueIn_21 ⟨congrArg (fun z => some (vI z)) (by first | (rw [gR_in (by omega)]; done) | (rw [gR_out (by omega)]; done)), rfl⟩
  · have h_5 := bI_t h_5
    refine s_aload_n 0 C dX1_valueIn_8 rfl 0 rfl ?_
    refine s_get C dX1_valueIn_9 1 rfl hinX1 0 rfl 4 (by decide) (by decide +kernel) rfl ?_
    refine s_iload_n 1 C dX1_valueIn_12 rfl 1 rfl ?_
    refine s_iconst C dX1_valueIn_13 ?_
    refine s_isub C dX1_valueIn_14 ?_
    refine s_iald C dX1_valueIn_15 4 rfl (r - 1) rfl (by omega) (by omega) (by omega) ?_
    refine s_goto 21 C dX1_valueIn_16 (by decide) ?_
    exact s_iret C E dX1_valueIn_21 ⟨congrArg (fun z => some (vI z)) (by first | (rw [gR_in (by omega)]; done) | (rw [gR_out (by omega)]; done)), rfl⟩

set_option maxHeartbeats 4000000 in
set_option maxRecDepth 100000 in
/-- tickOf -/
theorem c_X1_tickOf (l : Launch) (G : fG) (a0 a1 a2 a3 a4 a5 : Nat) (n : Int) (K T Y V A : Int → Int) (r : Int) (hn : 0 ≤ n ∧ n ≤ 100) (hr : -2147483648 ≤ r ∧ r < 2147483648) : fCt l G yX1_tickOf wsX1_tickOf 1 21 0 0 [.ref a0, vI r] [cO a0 1 [vI n, .ref a1, .ref a2, .ref a3, .ref a4, .ref a5], cA a1 G.2.1.1 100 K, cA a2 G.2.1.1 100 T, cA a3 G.2.1.1 100 Y, cA a4 G.2.1.1 100 V, cA a5 G.2.1.1 100 A] (fun (v0 : Option Value) (w0 : va_W) => v0 = some (vI (gR n A r)) ∧ w0 = [cO a0 1 [vI n, .ref a1, .ref a2, .ref a3, .ref a4, .ref a5], cA a1 G.2.1.1 100 K, cA a2 G.2.1.1 100 T, cA a3 G.2.1.1 100 Y, cA a4 G.2.1.1 100 V, cA a5 G.2.1.1 100 A]) := by
  refine fs_met (cc := cX1_tickOf) (nL := 2) (ret := (some .int)) (by decide) rfl (Nat.le_of_ble_eq_true rfl) ?_
  intro X C E
  show fSt l G X 0 0 0 [(0, .ref a0), (1, vI r)] [] [cO a0 1 [vI n, .ref a1, .ref a2, .ref a3, .ref a4, .ref a5], cA a1 G.2.1.1 100 K, cA a2 G.2.1.1 100 T, cA a3 G.2.1.1 100 Y, cA a4 G.2.1.1 100 V, cA a5 G.2.1.1 100 A]
  have hinX1 : ∀ w ∈ u_ws RX1 TX1 6, w ∈ wsX1_tickOf := by decide +kernel
  refine s_aload_n 0 C dX1_tickOf_0 rfl 0 rfl ?_
  refine s_iload_n 1 C dX1_tickOf_1 rfl 1 rfl ?_
  refine s_callV (As := [vI r]) (rest := []) C dX1_tickOf_2 (c_X1_has l G a0 a1 a2 a3 a4 a5 n K T Y V A r (by first | assumption | omega) (by first | assumption | omega)) gX1_tickOf_X1_has rfl 1 (by decide +kernel) (by decide) 0 1 rfl rfl rfl [0, 1, 2, 3, 4, 5] rfl (by decide) rfl (Nat.le_of_ble_eq_true rfl) ⟨Nat.zero_le _, Nat.zero_le _⟩ ?_
  intro v0 w0 hq
  obtain ⟨rfl, rfl⟩ := hq
  refine ⟨rfl, ?_⟩
  show fSt l G X 0 0 5 [(0, .ref a0), (1, vI r)] [vI (bI (1 ≤ r ∧ r ≤ n))] [cO a0 1 [vI n, .ref a1, .ref a2, .ref a3, .ref a4, .ref a5], cA a1 G.2.1.1 100 K, cA a2 G.2.1.1 100 T, cA a3 G.2.1.1 100 Y, cA a4 G.2.1.1 100 V, cA a5 G.2.1.1 100 A]
  refine s_if_eq 19 C dX1_tickOf_5 (by decide) bI_rng (fun h_5 => ?_) (fun h_5 => ?_)
  · have h_5 := bI_f h_5
    refine s_ldc (z := -1000004) C (by decide +kernel) dX1_tickOf_19 ?_
    exact s_iret C E dX1_tickOf_21 ⟨congrArg (fun z => some (vI z)) (by first | (rw [gR_in (by omega)]; done) | (rw [gR_out (by omega)]; done)), rfl⟩
  · have h_5 := bI_t h_5
    refine s_aload_n 0 C dX1_tickOf_8 rfl 0 rfl ?_
    refine s_get C dX1_tickOf_9 1 rfl hinX1 0 rfl 5 (by decide) (by decide +kernel) rfl ?_
    refine s_iload_n 1 C dX1_tickOf_12 rfl 1 rfl ?_
    refine s_iconst C dX1_tickOf_13 ?_
    refine s_isub C dX1_tickOf_14 ?_
    refine s_iald C dX1_tickOf_15 5 rfl (r - 1) rfl (by omega) (by omega) (by omega) ?_
    refine s_goto 21 C dX1_tickOf_16 (by decide) ?_
    exact s_iret C E dX1_tickOf_21 ⟨congrArg (fun z => some (vI z)) (by first | (rw [gR_in (by omega)]; done) | (rw [gR_out (by omega)]; done)), rfl⟩

set_option maxHeartbeats 4000000 in
set_option maxRecDepth 100000 in
theorem c_X1_isPutOf (l : Launch) (G : fG) (a0 a1 a2 a3 a4 a5 : Nat) (n : Int) (K T Y V A : Int → Int) (r t : Int) (hn : 0 ≤ n ∧ n ≤ 100) (hK : rF K) (hT : rF T) (hY : rF Y) (hV : rF V) (hA : rF A) (hr : -2147483648 ≤ r ∧ r < 2147483648) (ht : -2147483648 ≤ t ∧ t < 2147483648) : fCt l G yX1_isPutOf wsX1_isPutOf 2 42 0 0 [.ref a0, vI r, vI t] [cO a0 1 [vI n, .ref a1, .ref a2, .ref a3, .ref a4, .ref a5], cA a1 G.2.1.1 100 K, cA a2 G.2.1.1 100 T, cA a3 G.2.1.1 100 Y, cA a4 G.2.1.1 100 V, cA a5 G.2.1.1 100 A] (fun (v0 : Option Value) (w0 : va_W) => v0 = some (vI (bI (gR n T r = t ∧ gR n K r = 0))) ∧ w0 = [cO a0 1 [vI n, .ref a1, .ref a2, .ref a3, .ref a4, .ref a5], cA a1 G.2.1.1 100 K, cA a2 G.2.1.1 100 T, cA a3 G.2.1.1 100 Y, cA a4 G.2.1.1 100 V, cA a5 G.2.1.1 100 A]) := by
  refine fs_met (cc := cX1_isPutOf) (nL := 3) (ret := (some .boolean)) (by decide) rfl (Nat.le_of_ble_eq_true rfl) ?_
  intro X C E
  show fSt l G X 0 0 0 [(0, .ref a0), (1, vI r), (2, vI t)] [] [cO a0 1 [vI n, .ref a1, .ref a2, .ref a3, .ref a4, .ref a5], cA a1 G.2.1.1 100 K, cA a2 G.2.1.1 100 T, cA a3 G.2.1.1 100 Y, cA a4 G.2.1.1 100 V, cA a5 G.2.1.1 100 A]
  refine s_aload_n 0 C dX1_isPutOf_0 rfl 0 rfl ?_
  refine s_iload_n 1 C dX1_isPutOf_1 rfl 1 rfl ?_
  refine s_callV (As := [vI r]) (rest := []) C dX1_isPutOf_2 (c_X1_transactionOf l G a0 a1 a2 a3 a4 a5 n K T Y V A r (by first | assumption | omega) (by first | assumption | omega)) gX1_isPutOf_X1_transactionOf rfl 1 (by decide +kernel) (by decide) 0 1 rfl rfl rfl [0, 1, 2, 3, 4, 5] rfl (by decide) rfl (Nat.le_of_ble_eq_true rfl) ⟨Nat.zero_le _, Nat.zero_le _⟩ ?_
  intro v0 w0 hq
  obtain ⟨rfl, rfl⟩ := hq
  refine ⟨rfl, ?_⟩
  show fSt l G X 0 0 5 [(0, .ref a0), (1, vI r), (2, vI t)] [vI (gR n T r)] [cO a0 1 [vI n, .ref a1, .ref a2, .ref a3, .ref a4, .ref a5], cA a1 G.2.1.1 100 K, cA a2 G.2.1.1 100 T, cA a3 G.2.1.1 100 Y, cA a4 G.2.1.1 100 V, cA a5 G.2.1.1 100 A]
  refine s_iload_n 2 C dX1_isPutOf_5 rfl 2 rfl ?_
  refine s_icmp_ne 21 C dX1_isPutOf_6 (by decide) (gR_r hT _) (by omega) (fun h_6 => ?_) (fun h_6 => ?_)
  · refine s_iconst C dX1_isPutOf_21 ?_
    exact s_zret C E dX1_isPutOf_22 rfl ⟨congrArg (fun z => some (vI z)) (bI_0 (by omega)), rfl⟩
  · refine s_aload_n 0 C dX1_isPutOf_9 rfl 0 rfl ?_
    refine s_iload_n 1 C dX1_isPutOf_10 rfl 1 rfl ?_
    refine s_callV (As := [vI r]) (rest := []) C dX1_isPutOf_11 (c_X1_kindOf l G a0 a1 a2 a3 a4 a5 n K T Y V A r (by first | assumption | omega) (by first | assumption | omega)) gX1_isPutOf_X1_kindOf rfl 1 (by decide +kernel) (by decide) 0 1 rfl rfl rfl [0, 1, 2, 3, 4, 5] rfl (by decide) rfl (Nat.le_of_ble_eq_true rfl) ⟨Nat.zero_le _, Nat.zero_le _⟩ ?_
    intro v0 w0 hq
    obtain ⟨rfl, rfl⟩ := hq
    refine ⟨rfl, ?_⟩
    show fSt l G X 0 0 14 [(0, .ref a0), (1, vI r), (2, vI t)] [vI (gR n K r)] [cO a0 1 [vI n, .ref a1, .ref a2, .ref a3, .ref a4, .ref a5], cA a1 G.2.1.1 100 K, cA a2 G.2.1.1 100 T, cA a3 G.2.1.1 100 Y, cA a4 G.2.1.1 100 V, cA a5 G.2.1.1 100 A]
    refine s_if_ne 21 C dX1_isPutOf_14 (by decide) (gR_r hK _) (fun h_14 => ?_) (fun h_14 => ?_)
    · refine s_iconst C dX1_isPutOf_21 ?_
      exact s_zret C E dX1_isPutOf_22 rfl ⟨congrArg (fun z => some (vI z)) (bI_0 (by omega)), rfl⟩
    · refine s_iconst C dX1_isPutOf_17 ?_
      refine s_goto 22 C dX1_isPutOf_18 (by decide) ?_
      exact s_zret C E dX1_isPutOf_22 rfl ⟨congrArg (fun z => some (vI z)) (bI_1 (by omega)), rfl⟩

set_option maxHeartbeats 4000000 in
set_option maxRecDepth 100000 in
theorem c_X1_commitsBehind (l : Launch) (G : fG) (a0 a1 a2 a3 a4 a5 : Nat) (n : Int) (K T Y V A : Int → Int) (p : Int) (hn : 0 ≤ n ∧ n ≤ 100) (hK : rF K) (hT : rF T) (hY : rF Y) (hV : rF V) (hA : rF A) (hp : 0 ≤ p ∧ p ≤ n) : fCt l G yX1_commitsBehind wsX1_commitsBehind 2 42 0 0 [.ref a0, vI p] [cO a0 1 [vI n, .ref a1, .ref a2, .ref a3, .ref a4, .ref a5], cA a1 G.2.1.1 100 K, cA a2 G.2.1.1 100 T, cA a3 G.2.1.1 100 Y, cA a4 G.2.1.1 100 V, cA a5 G.2.1.1 100 A] (fun (v0 : Option Value) (w0 : va_W) => v0 = some (vI (cB n K p)) ∧ w0 = [cO a0 1 [vI n, .ref a1, .ref a2, .ref a3, .ref a4, .ref a5], cA a1 G.2.1.1 100 K, cA a2 G.2.1.1 100 T, cA a3 G.2.1.1 100 Y, cA a4 G.2.1.1 100 V, cA a5 G.2.1.1 100 A]) := by
  refine fs_met (cc := cX1_commitsBehind) (nL := 4) (ret := (some .int)) (by decide) rfl (Nat.le_of_ble_eq_true rfl) ?_
  intro X C E
  show fSt l G X 0 0 0 [(0, .ref a0), (1, vI p)] [] [cO a0 1 [vI n, .ref a1, .ref a2, .ref a3, .ref a4, .ref a5], cA a1 G.2.1.1 100 K, cA a2 G.2.1.1 100 T, cA a3 G.2.1.1 100 Y, cA a4 G.2.1.1 100 V, cA a5 G.2.1.1 100 A]
  have hinX1 : ∀ w ∈ u_ws RX1 TX1 6, w ∈ wsX1_commitsBehind := by decide +kernel
  refine s_iconst C dX1_commitsBehind_0 ?_
  refine s_istore_n 2 [(2, vI 0), (0, .ref a0), (1, vI p)] C dX1_commitsBehind_1 rfl (by decide) rfl ?_
  refine s_iload_n 1 C dX1_commitsBehind_2 rfl 2 rfl ?_
  refine s_iconst C dX1_commitsBehind_3 ?_
  refine s_iadd C dX1_commitsBehind_4 ?_
  refine s_istore_n 3 [(3, vI (p + 1)), (2, vI 0), (0, .ref a0), (1, vI p)] C dX1_commitsBehind_5 rfl (by decide) rfl ?_
  have loop_6 : ∀ (fuel : Nat) (r c : Int), (p + 1 ≤ r ∧ r ≤ n + 1) → (c = cnt (fun r => decide (gR n K r = 1)) (p + 1) (r - (p + 1)).toNat) → (0 ≤ c ∧ c ≤ r - (p + 1)) → (n + 1 - r < (fuel : Int)) → fSt l G X 0 0 6 [(0, .ref a0), (1, vI p), (2, vI c), (3, vI r)] [] [cO a0 1 [vI n, .ref a1, .ref a2, .ref a3, .ref a4, .ref a5], cA a1 G.2.1.1 100 K, cA a2 G.2.1.1 100 T, cA a3 G.2.1.1 100 Y, cA a4 G.2.1.1 100 V, cA a5 G.2.1.1 100 A] := by
    intro fuel
    induction fuel with
    | zero =>
      intro r c hr hc hcr hm
      exfalso
      omega
    | succ fuel ih_6 =>
      intro r c hr hc hcr hm
      refine s_iload_n 3 C dX1_commitsBehind_6 rfl 3 rfl ?_
      refine s_aload_n 0 C dX1_commitsBehind_7 rfl 0 rfl ?_
      refine s_get C dX1_commitsBehind_8 1 rfl hinX1 0 rfl 0 (by decide) (by decide +kernel) rfl ?_
      refine s_icmp_gt 32 C dX1_commitsBehind_11 (by decide) (by omega) (by omega) (fun h_11 => ?_) (fun h_11 => ?_)
      · refine s_iload_n 2 C dX1_commitsBehind_32 rfl 2 rfl ?_
        exact s_iret C E dX1_commitsBehind_33 ⟨congrArg (fun z => some (vI z)) (by rw [hc, cB]; congr 1; omega), rfl⟩
      · refine s_aload_n 0 C dX1_commitsBehind_14 rfl 0 rfl ?_
        refine s_iload_n 3 C dX1_commitsBehind_15 rfl 3 rfl ?_
        refine s_callV (As := [vI r]) (rest := []) C dX1_commitsBehind_16 (c_X1_kindOf l G a0 a1 a2 a3 a4 a5 n K T Y V A r (by first | assumption | omega) (by first | assumption | omega)) gX1_commitsBehind_X1_kindOf rfl 1 (by decide +kernel) (by decide) 0 1 rfl rfl rfl [0, 1, 2, 3, 4, 5] rfl (by decide) rfl (Nat.le_of_ble_eq_true rfl) ⟨Nat.zero_le _, Nat.zero_le _⟩ ?_
        intro v0 w0 hq
        obtain ⟨rfl, rfl⟩ := hq
        refine ⟨rfl, ?_⟩
        show fSt l G X 0 0 19 [(0, .ref a0), (1, vI p), (2, vI c), (3, vI r)] [vI (gR n K r)] [cO a0 1 [vI n, .ref a1, .ref a2, .ref a3, .ref a4, .ref a5], cA a1 G.2.1.1 100 K, cA a2 G.2.1.1 100 T, cA a3 G.2.1.1 100 Y, cA a4 G.2.1.1 100 V, cA a5 G.2.1.1 100 A]
        refine s_iconst C dX1_commitsBehind_19 ?_
        refine s_icmp_ne 26 C dX1_commitsBehind_20 (by decide) (gR_r hK _) (by omega) (fun h_20 => ?_) (fun h_20 => ?_)
        · refine s_iinc [(3, vI (r + 1)), (0, .ref a0), (1, vI p), (2, vI c)] C dX1_commitsBehind_26 3 rfl (by decide) rfl ?_
          refine s_goto 6 C dX1_commitsBehind_29 (by decide) ?_
          refine s_lv [(0, .ref a0), (1, vI p), (2, vI c), (3, vI (r + 1))] [1, 2, 3, 0] rfl ?_
          exact ih_6 (r + 1) c (by omega) (cnt_nx (by omega) hc (Or.inr ⟨(by simp only [decide_eq_true_eq]; omega), rfl⟩)) (by omega) (by omega)
        · refine s_iinc [(2, vI (c + 1)), (0, .ref a0), (1, vI p), (3, vI r)] C dX1_commitsBehind_23 2 rfl (by decide) rfl ?_
          refine s_iinc [(3, vI (r + 1)), (2, vI (c + 1)), (0, .ref a0), (1, vI p)] C dX1_commitsBehind_26 3 rfl (by decide) rfl ?_
          refine s_goto 6 C dX1_commitsBehind_29 (by decide) ?_
          refine s_lv [(0, .ref a0), (1, vI p), (2, vI (c + 1)), (3, vI (r + 1))] [2, 3, 1, 0] rfl ?_
          exact ih_6 (r + 1) (c + 1) (by omega) (cnt_nx (by omega) hc (Or.inl ⟨(by simp only [decide_eq_true_eq]; omega), rfl⟩)) (by omega) (by omega)
  refine s_lv [(0, .ref a0), (1, vI p), (2, vI 0), (3, vI (p + 1))] [2, 3, 1, 0] rfl ?_
  exact loop_6 (n + 1 - (p + 1) + 1 : Int).toNat (p + 1) 0 (by omega) (by rw [show (p + 1 - (p + 1)).toNat = 0 by omega]; rfl) (by omega) (by omega)

set_option maxHeartbeats 4000000 in
set_option maxRecDepth 100000 in
theorem c_X1_putsOf (l : Launch) (G : fG) (a0 a1 a2 a3 a4 a5 : Nat) (n : Int) (K T Y V A : Int → Int) (t : Int) (hn : 0 ≤ n ∧ n ≤ 100) (hK : rF K) (hT : rF T) (hY : rF Y) (hV : rF V) (hA : rF A) (ht : -2147483648 ≤ t ∧ t < 2147483648) : fCt l G yX1_putsOf wsX1_putsOf 3 64 0 0 [.ref a0, vI t] [cO a0 1 [vI n, .ref a1, .ref a2, .ref a3, .ref a4, .ref a5], cA a1 G.2.1.1 100 K, cA a2 G.2.1.1 100 T, cA a3 G.2.1.1 100 Y, cA a4 G.2.1.1 100 V, cA a5 G.2.1.1 100 A] (fun (v0 : Option Value) (w0 : va_W) => v0 = some (vI (pO n K T t)) ∧ w0 = [cO a0 1 [vI n, .ref a1, .ref a2, .ref a3, .ref a4, .ref a5], cA a1 G.2.1.1 100 K, cA a2 G.2.1.1 100 T, cA a3 G.2.1.1 100 Y, cA a4 G.2.1.1 100 V, cA a5 G.2.1.1 100 A]) := by
  refine fs_met (cc := cX1_putsOf) (nL := 4) (ret := (some .int)) (by decide) rfl (Nat.le_of_ble_eq_true rfl) ?_
  intro X C E
  show fSt l G X 0 0 0 [(0, .ref a0), (1, vI t)] [] [cO a0 1 [vI n, .ref a1, .ref a2, .ref a3, .ref a4, .ref a5], cA a1 G.2.1.1 100 K, cA a2 G.2.1.1 100 T, cA a3 G.2.1.1 100 Y, cA a4 G.2.1.1 100 V, cA a5 G.2.1.1 100 A]
  have hinX1 : ∀ w ∈ u_ws RX1 TX1 6, w ∈ wsX1_putsOf := by decide +kernel
  refine s_iconst C dX1_putsOf_0 ?_
  refine s_istore_n 2 [(2, vI 0), (0, .ref a0), (1, vI t)] C dX1_putsOf_1 rfl (by decide) rfl ?_
  refine s_iconst C dX1_putsOf_2 ?_
  refine s_istore_n 3 [(3, vI 1), (2, vI 0), (0, .ref a0), (1, vI t)] C dX1_putsOf_3 rfl (by decide) rfl ?_
  have loop_4 : ∀ (fuel : Nat) (r c : Int), (1 ≤ r ∧ r ≤ n + 1) → (c = cnt (fun r => decide (gR n T r = t) && decide (gR n K r = 0)) 1 (r - 1).toNat) → (0 ≤ c ∧ c < r) → (n + 1 - r < (fuel : Int)) → fSt l G X 0 0 4 [(0, .ref a0), (1, vI t), (2, vI c), (3, vI r)] [] [cO a0 1 [vI n, .ref a1, .ref a2, .ref a3, .ref a4, .ref a5], cA a1 G.2.1.1 100 K, cA a2 G.2.1.1 100 T, cA a3 G.2.1.1 100 Y, cA a4 G.2.1.1 100 V, cA a5 G.2.1.1 100 A] := by
    intro fuel
    induction fuel with
    | zero =>
      intro r c hr hc hcr hm
      exfalso
      omega
    | succ fuel ih_4 =>
      intro r c hr hc hcr hm
      refine s_iload_n 3 C dX1_putsOf_4 rfl 3 rfl ?_
      refine s_aload_n 0 C dX1_putsOf_5 rfl 0 rfl ?_
      refine s_get C dX1_putsOf_6 1 rfl hinX1 0 rfl 0 (by decide) (by decide +kernel) rfl ?_
      refine s_icmp_gt 30 C dX1_putsOf_9 (by decide) (by omega) (by omega) (fun h_9 => ?_) (fun h_9 => ?_)
      · refine s_iload_n 2 C dX1_putsOf_30 rfl 2 rfl ?_
        exact s_iret C E dX1_putsOf_31 ⟨congrArg (fun z => some (vI z)) (by rw [hc, pO]; congr 1; omega), rfl⟩
      · refine s_aload_n 0 C dX1_putsOf_12 rfl 0 rfl ?_
        refine s_iload_n 3 C dX1_putsOf_13 rfl 3 rfl ?_
        refine s_iload_n 1 C dX1_putsOf_14 rfl 1 rfl ?_
        refine s_callV (As := [vI r, vI t]) (rest := []) C dX1_putsOf_15 (c_X1_isPutOf l G a0 a1 a2 a3 a4 a5 n K T Y V A r t (by first | assumption | omega) (by first | assumption | omega) (by first | assumption | omega) (by first | assumption | omega) (by first | assumption | omega) (by first | assumption | omega) (by first | assumption | omega) (by first | assumption | omega)) gX1_putsOf_X1_isPutOf rfl 2 (by decide +kernel) (by decide) 0 1 rfl rfl rfl [0, 1, 2, 3, 4, 5] rfl (by decide) rfl (Nat.le_of_ble_eq_true rfl) ⟨Nat.zero_le _, Nat.zero_le _⟩ ?_
        intro v0 w0 hq
        obtain ⟨rfl, rfl⟩ := hq
        refine ⟨rfl, ?_⟩
        show fSt l G X 0 0 18 [(0, .ref a0), (1, vI t), (2, vI c), (3, vI r)] [vI (bI (gR n T r = t ∧ gR n K r = 0))] [cO a0 1 [vI n, .ref a1, .ref a2, .ref a3, .ref a4, .ref a5], cA a1 G.2.1.1 100 K, cA a2 G.2.1.1 100 T, cA a3 G.2.1.1 100 Y, cA a4 G.2.1.1 100 V, cA a5 G.2.1.1 100 A]
        refine s_if_eq 24 C dX1_putsOf_18 (by decide) bI_rng (fun h_18 => ?_) (fun h_18 => ?_)
        · have h_18 := bI_f h_18
          refine s_iinc [(3, vI (r + 1)), (0, .ref a0), (1, vI t), (2, vI c)] C dX1_putsOf_24 3 rfl (by decide) rfl ?_
          refine s_goto 4 C dX1_putsOf_27 (by decide) ?_
          refine s_lv [(0, .ref a0), (1, vI t), (2, vI c), (3, vI (r + 1))] [1, 2, 3, 0] rfl ?_
          exact ih_4 (r + 1) c (by omega) (cnt_nx (by omega) hc (Or.inr ⟨(by simp only [Bool.and_eq_true, decide_eq_true_eq]; omega), rfl⟩)) (by omega) (by omega)
        · have h_18 := bI_t h_18
          refine s_iinc [(2, vI (c + 1)), (0, .ref a0), (1, vI t), (3, vI r)] C dX1_putsOf_21 2 rfl (by decide) rfl ?_
          refine s_iinc [(3, vI (r + 1)), (2, vI (c + 1)), (0, .ref a0), (1, vI t)] C dX1_putsOf_24 3 rfl (by decide) rfl ?_
          refine s_goto 4 C dX1_putsOf_27 (by decide) ?_
          refine s_lv [(0, .ref a0), (1, vI t), (2, vI (c + 1)), (3, vI (r + 1))] [2, 3, 1, 0] rfl ?_
          exact ih_4 (r + 1) (c + 1) (by omega) (cnt_nx (by omega) hc (Or.inl ⟨(by simp only [Bool.and_eq_true, decide_eq_true_eq]; omega), rfl⟩)) (by omega) (by omega)
  refine s_lv [(0, .ref a0), (1, vI t), (2, vI 0), (3, vI 1)] [2, 3, 1, 0] rfl ?_
  exact loop_4 (n + 1 - 1 + 1 : Int).toNat 1 0 (by omega) rfl (by omega) (by omega)

set_option maxHeartbeats 4000000 in
set_option maxRecDepth 100000 in
theorem c_X1_setValue (l : Launch) (G : fG) (b0 : Nat) (W : Int → Int) (y x : Int) (hy : -2147483648 ≤ y ∧ y < 2147483648) : fCt l G yX1_setValue wsX1_setValue 0 0 0 0 [.ref b0, vI y, vI x] [cA b0 G.2.1.1 24 W] (fun (v0 : Option Value) (w0 : va_W) => ∃ (W2 : Int → Int), v0 = none ∧ w0 = [cA b0 G.2.1.1 24 W2] ∧ (W2 = if 0 ≤ y ∧ y < 24 then uZ W y x else W)) := by
  refine fs_met (cc := cX1_setValue) (nL := 3) (ret := none) (by decide) rfl (Nat.le_of_ble_eq_true rfl) ?_
  intro X C E
  show fSt l G X 0 0 0 [(0, .ref b0), (1, vI y), (2, vI x)] [] [cA b0 G.2.1.1 24 W]
  refine s_iload_n 1 C dX1_setValue_0 rfl 1 rfl ?_
  refine s_if_lt 14 C dX1_setValue_1 (by decide) (by omega) (fun h_1 => ?_) (fun h_1 => ?_)
  · exact s_vret C E dX1_setValue_14 ⟨W, rfl, rfl, by first | (rw [if_pos (by omega)]; done) | (rw [if_neg (by omega)]; done)⟩
  · refine s_iload_n 1 C dX1_setValue_4 rfl 1 rfl ?_
    refine s_aload_n 0 C dX1_setValue_5 rfl 0 rfl ?_
    refine s_alen C dX1_setValue_6 0 0 rfl rfl ?_
    refine s_icmp_ge 14 C dX1_setValue_7 (by decide) (by omega) (by omega) (fun h_7 => ?_) (fun h_7 => ?_)
    · exact s_vret C E dX1_setValue_14 ⟨W, rfl, rfl, by first | (rw [if_pos (by omega)]; done) | (rw [if_neg (by omega)]; done)⟩
    · refine s_aload_n 0 C dX1_setValue_10 rfl 0 rfl ?_
      refine s_iload_n 1 C dX1_setValue_11 rfl 1 rfl ?_
      refine s_iload_n 2 C dX1_setValue_12 rfl 2 rfl ?_
      refine s_iast [cA b0 G.2.1.1 24 (uZ W y x)] C dX1_setValue_13 0 rfl y rfl (by omega) (by omega) (by omega) rfl ?_
      exact s_vret C E dX1_setValue_14 ⟨(uZ W y x), rfl, rfl, by first | (rw [if_pos (by omega)]; done) | (rw [if_neg (by omega)]; done)⟩

set_option maxHeartbeats 4000000 in
set_option maxRecDepth 100000 in
theorem c_X1_applyPuts (l : Launch) (G : fG) (a0 a1 a2 a3 a4 a5 : Nat) (n : Int) (K T Y V A : Int → Int) (b0 : Nat) (W : Int → Int) (t c : Int) (hn : 0 ≤ n ∧ n ≤ 100) (hK : rF K) (hT : rF T) (hY : rF Y) (hV : rF V) (hA : rF A) (ht : -2147483648 ≤ t ∧ t < 2147483648) (hc : 1 ≤ c ∧ c ≤ 101) : fCt l G yX1_applyPuts wsX1_applyPuts 3 64 0 0 [.ref a0, vI t, vI c, .ref b0] [cO a0 1 [vI n, .ref a1, .ref a2, .ref a3, .ref a4, .ref a5], cA a1 G.2.1.1 100 K, cA a2 G.2.1.1 100 T, cA a3 G.2.1.1 100 Y, cA a4 G.2.1.1 100 V, cA a5 G.2.1.1 100 A, cA b0 G.2.1.1 24 W] (fun (v0 : Option Value) (w0 : va_W) => ∃ (W2 : Int → Int), v0 = none ∧ w0 = [cO a0 1 [vI n, .ref a1, .ref a2, .ref a3, .ref a4, .ref a5], cA a1 G.2.1.1 100 K, cA a2 G.2.1.1 100 T, cA a3 G.2.1.1 100 Y, cA a4 G.2.1.1 100 V, cA a5 G.2.1.1 100 A, cA b0 G.2.1.1 24 W2] ∧ (∀ y, 0 ≤ y → y < 24 → W2 y = apV n K T Y V t W (c - 1) y)) := by
  refine fs_met (cc := cX1_applyPuts) (nL := 5) (ret := none) (by decide) rfl (Nat.le_of_ble_eq_true rfl) ?_
  intro X C E
  show fSt l G X 0 0 0 [(0, .ref a0), (1, vI t), (2, vI c), (3, .ref b0)] [] [cO a0 1 [vI n, .ref a1, .ref a2, .ref a3, .ref a4, .ref a5], cA a1 G.2.1.1 100 K, cA a2 G.2.1.1 100 T, cA a3 G.2.1.1 100 Y, cA a4 G.2.1.1 100 V, cA a5 G.2.1.1 100 A, cA b0 G.2.1.1 24 W]
  refine s_iconst C dX1_applyPuts_0 ?_
  refine s_istore [(4, vI 1), (0, .ref a0), (1, vI t), (2, vI c), (3, .ref b0)] C dX1_applyPuts_1 (by decide) rfl ?_
  have loop_3 : ∀ (fuel : Nat) (r : Int) (U : Int → Int), (1 ≤ r ∧ r ≤ c) → (∀ y, 0 ≤ y → y < 24 → U y = apV n K T Y V t W (r - 1) y) → (c - r < (fuel : Int)) → fSt l G X 0 0 3 [(0, .ref a0), (1, vI t), (2, vI c), (3, .ref b0), (4, vI r)] [] [cO a0 1 [vI n, .ref a1, .ref a2, .ref a3, .ref a4, .ref a5], cA a1 G.2.1.1 100 K, cA a2 G.2.1.1 100 T, cA a3 G.2.1.1 100 Y, cA a4 G.2.1.1 100 V, cA a5 G.2.1.1 100 A, cA b0 G.2.1.1 24 U] := by
    intro fuel
    induction fuel with
    | zero =>
      intro r U hr hU hm
      exfalso
      omega
    | succ fuel ih_3 =>
      intro r U hr hU hm
      refine s_iload C dX1_applyPuts_3 4 rfl ?_
      refine s_iload_n 2 C dX1_applyPuts_5 rfl 2 rfl ?_
      refine s_icmp_ge 41 C dX1_applyPuts_6 (by decide) (by omega) (by omega) (fun h_6 => ?_) (fun h_6 => ?_)
      · exact s_vret C E dX1_applyPuts_41 ⟨U, rfl, rfl, by rw [show c - 1 = r - 1 by omega]; exact hU⟩
      · refine s_aload_n 0 C dX1_applyPuts_9 rfl 0 rfl ?_
        refine s_iload C dX1_applyPuts_10 4 rfl ?_
        refine s_iload_n 1 C dX1_applyPuts_12 rfl 1 rfl ?_
        refine s_callV (As := [vI r, vI t]) (rest := []) C dX1_applyPuts_13 (c_X1_isPutOf l G a0 a1 a2 a3 a4 a5 n K T Y V A r t (by first | assumption | omega) (by first | assumption | omega) (by first | assumption | omega) (by first | assumption | omega) (by first | assumption | omega) (by first | assumption | omega) (by first | assumption | omega) (by first | assumption | omega)) gX1_applyPuts_X1_isPutOf rfl 2 (by decide +kernel) (by decide) 0 1 rfl rfl rfl [0, 1, 2, 3, 4, 5] rfl (by decide) rfl (Nat.le_of_ble_eq_true rfl) ⟨Nat.zero_le _, Nat.zero_le _⟩ ?_
        intro v0 w0 hq
        obtain ⟨rfl, rfl⟩ := hq
        refine ⟨rfl, ?_⟩
        show fSt l G X 0 0 16 [(0, .ref a0), (1, vI t), (2, vI c), (3, .ref b0), (4, vI r)] [vI (bI (gR n T r = t ∧ gR n K r = 0))] [cO a0 1 [vI n, .ref a1, .ref a2, .ref a3, .ref a4, .ref a5], cA a1 G.2.1.1 100 K, cA a2 G.2.1.1 100 T, cA a3 G.2.1.1 100 Y, cA a4 G.2.1.1 100 V, cA a5 G.2.1.1 100 A, cA b0 G.2.1.1 24 U]
        refine s_if_eq 35 C dX1_applyPuts_16 (by decide) bI_rng (fun h_16 => ?_) (fun h_16 => ?_)
        · have h_16 := bI_f h_16
          refine s_iinc [(4, vI (r + 1)), (0, .ref a0), (1, vI t), (2, vI c), (3, .ref b0)] C dX1_applyPuts_35 4 rfl (by decide) rfl ?_
          refine s_goto 3 C dX1_applyPuts_38 (by decide) ?_
          refine s_lv [(0, .ref a0), (1, vI t), (2, vI c), (3, .ref b0), (4, vI (r + 1))] [1, 2, 3, 4, 0] rfl ?_
          exact ih_3 (r + 1) U (by omega) (by rw [show r + 1 - 1 = r by omega]; exact ap_miss (by omega) h_16 hU) (by omega)
        · have h_16 := bI_t h_16
          refine s_aload_n 3 C dX1_applyPuts_19 rfl 3 rfl ?_
          refine s_aload_n 0 C dX1_applyPuts_20 rfl 0 rfl ?_
          refine s_iload C dX1_applyPuts_21 4 rfl ?_
          refine s_callV (As := [vI r]) (rest := [.ref b0]) C dX1_applyPuts_23 (c_X1_keyOf l G a0 a1 a2 a3 a4 a5 n K T Y V A r (by first | assumption | omega) (by first | assumption | omega)) gX1_applyPuts_X1_keyOf rfl 1 (by decide +kernel) (by decide) 0 1 rfl rfl rfl [0, 1, 2, 3, 4, 5] rfl (by decide) rfl (Nat.le_of_ble_eq_true rfl) ⟨Nat.zero_le _, Nat.zero_le _⟩ ?_
          intro v0 w0 hq
          obtain ⟨rfl, rfl⟩ := hq
          refine ⟨rfl, ?_⟩
          show fSt l G X 0 0 26 [(0, .ref a0), (1, vI t), (2, vI c), (3, .ref b0), (4, vI r)] [vI (gR n Y r), .ref b0] [cO a0 1 [vI n, .ref a1, .ref a2, .ref a3, .ref a4, .ref a5], cA a1 G.2.1.1 100 K, cA a2 G.2.1.1 100 T, cA a3 G.2.1.1 100 Y, cA a4 G.2.1.1 100 V, cA a5 G.2.1.1 100 A, cA b0 G.2.1.1 24 U]
          refine s_aload_n 0 C dX1_applyPuts_26 rfl 0 rfl ?_
          refine s_iload C dX1_applyPuts_27 4 rfl ?_
          refine s_callV (As := [vI r]) (rest := [vI (gR n Y r), .ref b0]) C dX1_applyPuts_29 (c_X1_valueIn l G a0 a1 a2 a3 a4 a5 n K T Y V A r (by first | assumption | omega) (by first | assumption | omega)) gX1_applyPuts_X1_valueIn rfl 1 (by decide +kernel) (by decide) 0 1 rfl rfl rfl [0, 1, 2, 3, 4, 5] rfl (by decide) rfl (Nat.le_of_ble_eq_true rfl) ⟨Nat.zero_le _, Nat.zero_le _⟩ ?_
          intro v0 w0 hq
          obtain ⟨rfl, rfl⟩ := hq
          refine ⟨rfl, ?_⟩
          show fSt l G X 0 0 32 [(0, .ref a0), (1, vI t), (2, vI c), (3, .ref b0), (4, vI r)] [vI (gR n V r), vI (gR n Y r), .ref b0] [cO a0 1 [vI n, .ref a1, .ref a2, .ref a3, .ref a4, .ref a5], cA a1 G.2.1.1 100 K, cA a2 G.2.1.1 100 T, cA a3 G.2.1.1 100 Y, cA a4 G.2.1.1 100 V, cA a5 G.2.1.1 100 A, cA b0 G.2.1.1 24 U]
          refine s_callS (As := [.ref b0, vI (gR n Y r), vI (gR n V r)]) (rest := []) C dX1_applyPuts_32 (c_X1_setValue l G b0 U (gR n Y r) (gR n V r) (gR_r hY _)) gX1_applyPuts_X1_setValue rfl 3 (by decide +kernel) (by decide) [6] rfl (by decide) rfl (Nat.le_of_ble_eq_true rfl) ⟨Nat.zero_le _, Nat.zero_le _⟩ ?_
          intro v0 w0 hq
          obtain ⟨W2_32, rfl, rfl, hq0_32⟩ := hq
          refine ⟨rfl, ?_⟩
          show fSt l G X 0 0 35 [(0, .ref a0), (1, vI t), (2, vI c), (3, .ref b0), (4, vI r)] [] [cO a0 1 [vI n, .ref a1, .ref a2, .ref a3, .ref a4, .ref a5], cA a1 G.2.1.1 100 K, cA a2 G.2.1.1 100 T, cA a3 G.2.1.1 100 Y, cA a4 G.2.1.1 100 V, cA a5 G.2.1.1 100 A, cA b0 G.2.1.1 24 W2_32]
          refine s_iinc [(4, vI (r + 1)), (0, .ref a0), (1, vI t), (2, vI c), (3, .ref b0)] C dX1_applyPuts_35 4 rfl (by decide) rfl ?_
          refine s_goto 3 C dX1_applyPuts_38 (by decide) ?_
          refine s_lv [(0, .ref a0), (1, vI t), (2, vI c), (3, .ref b0), (4, vI (r + 1))] [1, 2, 3, 4, 0] rfl ?_
          exact ih_3 (r + 1) W2_32 (by omega) (by rw [show r + 1 - 1 = r by omega]; exact ap_hit (by omega) h_16 hU hq0_32) (by omega)
  refine s_lv [(0, .ref a0), (1, vI t), (2, vI c), (3, .ref b0), (4, vI 1)] [1, 2, 3, 4, 0] rfl ?_
  exact loop_3 (c - 1 + 1 : Int).toNat 1 W (by omega) (fun _ _ _ => rfl) (by omega)

set_option maxHeartbeats 4000000 in
set_option maxRecDepth 100000 in
theorem c_X1_fillValues (l : Launch) (G : fG) (a0 a1 a2 a3 a4 a5 : Nat) (n : Int) (K T Y V A : Int → Int) (b0 : Nat) (W : Int → Int) (p : Int) (hn : 0 ≤ n ∧ n ≤ 100) (hK : rF K) (hT : rF T) (hY : rF Y) (hV : rF V) (hA : rF A) (hp : 0 ≤ p ∧ p ≤ n) : fCt l G yX1_fillValues wsX1_fillValues 4 88 0 0 [.ref a0, vI p, .ref b0] [cO a0 1 [vI n, .ref a1, .ref a2, .ref a3, .ref a4, .ref a5], cA a1 G.2.1.1 100 K, cA a2 G.2.1.1 100 T, cA a3 G.2.1.1 100 Y, cA a4 G.2.1.1 100 V, cA a5 G.2.1.1 100 A, cA b0 G.2.1.1 24 W] (fun (v0 : Option Value) (w0 : va_W) => ∃ (W2 : Int → Int), v0 = none ∧ w0 = [cO a0 1 [vI n, .ref a1, .ref a2, .ref a3, .ref a4, .ref a5], cA a1 G.2.1.1 100 K, cA a2 G.2.1.1 100 T, cA a3 G.2.1.1 100 Y, cA a4 G.2.1.1 100 V, cA a5 G.2.1.1 100 A, cA b0 G.2.1.1 24 W2] ∧ (∀ y, 0 ≤ y → y < 24 → W2 y = vA n K T Y V y p)) := by
  refine fs_met (cc := cX1_fillValues) (nL := 4) (ret := none) (by decide) rfl (Nat.le_of_ble_eq_true rfl) ?_
  intro X C E
  show fSt l G X 0 0 0 [(0, .ref a0), (1, vI p), (2, .ref b0)] [] [cO a0 1 [vI n, .ref a1, .ref a2, .ref a3, .ref a4, .ref a5], cA a1 G.2.1.1 100 K, cA a2 G.2.1.1 100 T, cA a3 G.2.1.1 100 Y, cA a4 G.2.1.1 100 V, cA a5 G.2.1.1 100 A, cA b0 G.2.1.1 24 W]
  refine s_iconst C dX1_fillValues_0 ?_
  refine s_istore_n 3 [(3, vI 0), (0, .ref a0), (1, vI p), (2, .ref b0)] C dX1_fillValues_1 rfl (by decide) rfl ?_
  have loop_2 : ∀ (fuel : Nat) (k : Int) (U : Int → Int), (0 ≤ k ∧ k ≤ 24) → (∀ y, 0 ≤ y → y < k → U y = 0) → (24 - k < (fuel : Int)) → fSt l G X 0 0 2 [(0, .ref a0), (1, vI p), (2, .ref b0), (3, vI k)] [] [cO a0 1 [vI n, .ref a1, .ref a2, .ref a3, .ref a4, .ref a5], cA a1 G.2.1.1 100 K, cA a2 G.2.1.1 100 T, cA a3 G.2.1.1 100 Y, cA a4 G.2.1.1 100 V, cA a5 G.2.1.1 100 A, cA b0 G.2.1.1 24 U] := by
    intro fuel
    induction fuel with
    | zero =>
      intro k U hk hU hm
      exfalso
      omega
    | succ fuel ih_2 =>
      intro k U hk hU hm
      refine s_iload_n 3 C dX1_fillValues_2 rfl 3 rfl ?_
      refine s_aload_n 2 C dX1_fillValues_3 rfl 2 rfl ?_
      refine s_alen C dX1_fillValues_4 6 0 rfl rfl ?_
      refine s_icmp_ge 18 C dX1_fillValues_5 (by decide) (by omega) (by omega) (fun h_5 => ?_) (fun h_5 => ?_)
      · refine s_iconst C dX1_fillValues_18 ?_
        refine s_istore_n 3 [(3, vI 1), (0, .ref a0), (1, vI p), (2, .ref b0)] C dX1_fillValues_19 rfl (by decide) rfl ?_
        have loop_20 : ∀ (fuel : Nat) (r : Int) (U2 : Int → Int), (1 ≤ r ∧ r ≤ p + 1) → (∀ y, 0 ≤ y → y < 24 → U2 y = vA n K T Y V y (r - 1)) → (p + 1 - r < (fuel : Int)) → fSt l G X 0 0 20 [(0, .ref a0), (1, vI p), (2, .ref b0), (3, vI r)] [] [cO a0 1 [vI n, .ref a1, .ref a2, .ref a3, .ref a4, .ref a5], cA a1 G.2.1.1 100 K, cA a2 G.2.1.1 100 T, cA a3 G.2.1.1 100 Y, cA a4 G.2.1.1 100 V, cA a5 G.2.1.1 100 A, cA b0 G.2.1.1 24 U2] := by
          intro fuel
          induction fuel with
          | zero =>
            intro r U2 hr hU2 hm
            exfalso
            omega
          | succ fuel ih_20 =>
            intro r U2 hr hU2 hm
            refine s_iload_n 3 C dX1_fillValues_20 rfl 3 rfl ?_
            refine s_iload_n 1 C dX1_fillValues_21 rfl 1 rfl ?_
            refine s_icmp_gt 51 C dX1_fillValues_22 (by decide) (by omega) (by omega) (fun h_22 => ?_) (fun h_22 => ?_)
            · exact s_vret C E dX1_fillValues_51 ⟨U2, rfl, rfl, by rw [show p = r - 1 by omega]; exact hU2⟩
            · refine s_aload_n 0 C dX1_fillValues_25 rfl 0 rfl ?_
              refine s_iload_n 3 C dX1_fillValues_26 rfl 3 rfl ?_
              refine s_callV (As := [vI r]) (rest := []) C dX1_fillValues_27 (c_X1_kindOf l G a0 a1 a2 a3 a4 a5 n K T Y V A r (by first | assumption | omega) (by first | assumption | omega)) gX1_fillValues_X1_kindOf rfl 1 (by decide +kernel) (by decide) 0 1 rfl rfl rfl [0, 1, 2, 3, 4, 5] rfl (by decide) rfl (Nat.le_of_ble_eq_true rfl) ⟨Nat.zero_le _, Nat.zero_le _⟩ ?_
              intro v0 w0 hq
              obtain ⟨rfl, rfl⟩ := hq
              refine ⟨rfl, ?_⟩
              show fSt l G X 0 0 30 [(0, .ref a0), (1, vI p), (2, .ref b0), (3, vI r)] [vI (gR n K r)] [cO a0 1 [vI n, .ref a1, .ref a2, .ref a3, .ref a4, .ref a5], cA a1 G.2.1.1 100 K, cA a2 G.2.1.1 100 T, cA a3 G.2.1.1 100 Y, cA a4 G.2.1.1 100 V, cA a5 G.2.1.1 100 A, cA b0 G.2.1.1 24 U2]
              refine s_iconst C dX1_fillValues_30 ?_
              refine s_icmp_ne 45 C dX1_fillValues_31 (by decide) (gR_r hK _) (by omega) (fun h_31 => ?_) (fun h_31 => ?_)
              · refine s_iinc [(3, vI (r + 1)), (0, .ref a0), (1, vI p), (2, .ref b0)] C dX1_fillValues_45 3 rfl (by decide) rfl ?_
                refine s_goto 20 C dX1_fillValues_48 (by decide) ?_
                refine s_lv [(0, .ref a0), (1, vI p), (2, .ref b0), (3, vI (r + 1))] [1, 2, 3, 0] rfl ?_
                exact ih_20 (r + 1) U2 (by omega) (by rw [show r + 1 - 1 = r by omega]; exact fv_miss (by omega) h_31 hU2) (by omega)
              · refine s_aload_n 0 C dX1_fillValues_34 rfl 0 rfl ?_
                refine s_aload_n 0 C dX1_fillValues_35 rfl 0 rfl ?_
                refine s_iload_n 3 C dX1_fillValues_36 rfl 3 rfl ?_
                refine s_callV (As := [vI r]) (rest := [.ref a0]) C dX1_fillValues_37 (c_X1_transactionOf l G a0 a1 a2 a3 a4 a5 n K T Y V A r (by first | assumption | omega) (by first | assumption | omega)) gX1_fillValues_X1_transactionOf rfl 1 (by decide +kernel) (by decide) 0 1 rfl rfl rfl [0, 1, 2, 3, 4, 5] rfl (by decide) rfl (Nat.le_of_ble_eq_true rfl) ⟨Nat.zero_le _, Nat.zero_le _⟩ ?_
                intro v0 w0 hq
                obtain ⟨rfl, rfl⟩ := hq
                refine ⟨rfl, ?_⟩
                show fSt l G X 0 0 40 [(0, .ref a0), (1, vI p), (2, .ref b0), (3, vI r)] [vI (gR n T r), .ref a0] [cO a0 1 [vI n, .ref a1, .ref a2, .ref a3, .ref a4, .ref a5], cA a1 G.2.1.1 100 K, cA a2 G.2.1.1 100 T, cA a3 G.2.1.1 100 Y, cA a4 G.2.1.1 100 V, cA a5 G.2.1.1 100 A, cA b0 G.2.1.1 24 U2]
                refine s_iload_n 3 C dX1_fillValues_40 rfl 3 rfl ?_
                refine s_aload_n 2 C dX1_fillValues_41 rfl 2 rfl ?_
                refine s_callV (As := [vI (gR n T r), vI r, .ref b0]) (rest := []) C dX1_fillValues_42 (c_X1_applyPuts l G a0 a1 a2 a3 a4 a5 n K T Y V A b0 U2 (gR n T r) r (by first | assumption | omega) (by first | assumption | omega) (by first | assumption | omega) (by first | assumption | omega) (by first | assumption | omega) (by first | assumption | omega) (gR_r hT _) (by first | assumption | omega)) gX1_fillValues_X1_applyPuts rfl 3 (by decide +kernel) (by decide) 0 1 rfl rfl rfl [0, 1, 2, 3, 4, 5, 6] rfl (by decide) rfl (Nat.le_of_ble_eq_true rfl) ⟨Nat.zero_le _, Nat.zero_le _⟩ ?_
                intro v0 w0 hq
                obtain ⟨W2_42, rfl, rfl, hq0_42⟩ := hq
                refine ⟨rfl, ?_⟩
                show fSt l G X 0 0 45 [(0, .ref a0), (1, vI p), (2, .ref b0), (3, vI r)] [] [cO a0 1 [vI n, .ref a1, .ref a2, .ref a3, .ref a4, .ref a5], cA a1 G.2.1.1 100 K, cA a2 G.2.1.1 100 T, cA a3 G.2.1.1 100 Y, cA a4 G.2.1.1 100 V, cA a5 G.2.1.1 100 A, cA b0 G.2.1.1 24 W2_42]
                refine s_iinc [(3, vI (r + 1)), (0, .ref a0), (1, vI p), (2, .ref b0)] C dX1_fillValues_45 3 rfl (by decide) rfl ?_
                refine s_goto 20 C dX1_fillValues_48 (by decide) ?_
                refine s_lv [(0, .ref a0), (1, vI p), (2, .ref b0), (3, vI (r + 1))] [1, 2, 3, 0] rfl ?_
                exact ih_20 (r + 1) W2_42 (by omega) (by rw [show r + 1 - 1 = r by omega]; exact fv_hit (by omega) h_31 hU2 hq0_42) (by omega)
        refine s_lv [(0, .ref a0), (1, vI p), (2, .ref b0), (3, vI 1)] [1, 2, 3, 0] rfl ?_
        exact loop_20 (p + 1 - 1 + 1 : Int).toNat 1 U (by omega) (fun y h0 h1 => by rw [hU y h0 (by omega)]; rfl) (by omega)
      · refine s_aload_n 2 C dX1_fillValues_8 rfl 2 rfl ?_
        refine s_iload_n 3 C dX1_fillValues_9 rfl 3 rfl ?_
        refine s_iconst C dX1_fillValues_10 ?_
        refine s_iast [cO a0 1 [vI n, .ref a1, .ref a2, .ref a3, .ref a4, .ref a5], cA a1 G.2.1.1 100 K, cA a2 G.2.1.1 100 T, cA a3 G.2.1.1 100 Y, cA a4 G.2.1.1 100 V, cA a5 G.2.1.1 100 A, cA b0 G.2.1.1 24 (uZ U k 0)] C dX1_fillValues_11 6 rfl k rfl (by omega) (by omega) (by omega) rfl ?_
        refine s_iinc [(3, vI (k + 1)), (0, .ref a0), (1, vI p), (2, .ref b0)] C dX1_fillValues_12 3 rfl (by decide) rfl ?_
        refine s_goto 2 C dX1_fillValues_15 (by decide) ?_
        refine s_lv [(0, .ref a0), (1, vI p), (2, .ref b0), (3, vI (k + 1))] [1, 2, 3, 0] rfl ?_
        exact ih_2 (k + 1) (uZ U k 0) (by omega) (fun y h0 h1 => by by_cases hy : y = k; (· rw [hy, uZ_s]); (· rw [uZ_n hy]; exact hU y h0 (by omega))) (by omega)
  refine s_lv [(0, .ref a0), (1, vI p), (2, .ref b0), (3, vI 0)] [1, 2, 3, 0] rfl ?_
  exact loop_2 (24 - 0 + 1 : Int).toNat 0 W (by omega) (fun y h0 h1 => absurd h0 (by omega)) (by omega)

set_option maxHeartbeats 4000000 in
set_option maxRecDepth 100000 in
theorem c_X1_append (l : Launch) (G : fG) (a0 a1 a2 a3 a4 a5 : Nat) (n : Int) (K T Y V A : Int → Int) (kd t y x tk : Int) (hn : 0 ≤ n ∧ n ≤ 100) : fCt l G yX1_append wsX1_append 0 0 0 0 [.ref a0, vI kd, vI t, vI y, vI x, vI tk] [cO a0 1 [vI n, .ref a1, .ref a2, .ref a3, .ref a4, .ref a5], cA a1 G.2.1.1 100 K, cA a2 G.2.1.1 100 T, cA a3 G.2.1.1 100 Y, cA a4 G.2.1.1 100 V, cA a5 G.2.1.1 100 A] (fun (v0 : Option Value) (w0 : va_W) => ∃ (z n2 : Int) (K2 T2 Y2 V2 A2 : Int → Int), v0 = some (vI z) ∧ w0 = [cO a0 1 [vI n2, .ref a1, .ref a2, .ref a3, .ref a4, .ref a5], cA a1 G.2.1.1 100 K2, cA a2 G.2.1.1 100 T2, cA a3 G.2.1.1 100 Y2, cA a4 G.2.1.1 100 V2, cA a5 G.2.1.1 100 A2] ∧ ((n = 100 ∧ z = -1000003 ∧ n2 = n ∧ K2 = K ∧ T2 = T ∧ Y2 = Y ∧ V2 = V ∧ A2 = A) ∨ (n < 100 ∧ z = n + 1 ∧ n2 = n + 1 ∧ K2 = uZ K n kd ∧ T2 = uZ T n t ∧ Y2 = uZ Y n y ∧ V2 = uZ V n x ∧ A2 = uZ A n tk))) := by
  refine fs_met (cc := cX1_append) (nL := 7) (ret := (some .int)) (by decide) rfl (Nat.le_of_ble_eq_true rfl) ?_
  intro X C E
  show fSt l G X 0 0 0 [(0, .ref a0), (1, vI kd), (2, vI t), (3, vI y), (4, vI x), (5, vI tk)] [] [cO a0 1 [vI n, .ref a1, .ref a2, .ref a3, .ref a4, .ref a5], cA a1 G.2.1.1 100 K, cA a2 G.2.1.1 100 T, cA a3 G.2.1.1 100 Y, cA a4 G.2.1.1 100 V, cA a5 G.2.1.1 100 A]
  have hinX1 : ∀ w ∈ u_ws RX1 TX1 6, w ∈ wsX1_append := by decide +kernel
  refine s_aload_n 0 C dX1_append_0 rfl 0 rfl ?_
  refine s_get C dX1_append_1 1 rfl hinX1 0 rfl 0 (by decide) (by decide +kernel) rfl ?_
  refine s_istore [(6, vI n), (0, .ref a0), (1, vI kd), (2, vI t), (3, vI y), (4, vI x), (5, vI tk)] C dX1_append_4 (by decide) rfl ?_
  refine s_iload C dX1_append_6 0 rfl ?_
  refine s_if_lt 18 C dX1_append_8 (by decide) (by omega) (fun h_8 => ?_) (fun h_8 => ?_)
  · exfalso
    omega
  · refine s_iload C dX1_append_11 0 rfl ?_
    refine s_bipush (z := 100) C dX1_append_13 rfl ?_
    refine s_icmp_lt 21 C dX1_append_15 (by decide) (by omega) (by omega) (fun h_15 => ?_) (fun h_15 => ?_)
    · refine s_aload_n 0 C dX1_append_21 rfl 1 rfl ?_
      refine s_get C dX1_append_22 1 rfl hinX1 0 rfl 1 (by decide) (by decide +kernel) rfl ?_
      refine s_iload C dX1_append_25 0 rfl ?_
      refine s_iload_n 1 C dX1_append_27 rfl 2 rfl ?_
      refine s_iast [cO a0 1 [vI n, .ref a1, .ref a2, .ref a3, .ref a4, .ref a5], cA a1 G.2.1.1 100 (uZ K n kd), cA a2 G.2.1.1 100 T, cA a3 G.2.1.1 100 Y, cA a4 G.2.1.1 100 V, cA a5 G.2.1.1 100 A] C dX1_append_28 1 rfl n rfl (by omega) (by omega) (by omega) rfl ?_
      refine s_aload_n 0 C dX1_append_29 rfl 1 rfl ?_
      refine s_get C dX1_append_30 1 rfl hinX1 0 rfl 2 (by decide) (by decide +kernel) rfl ?_
      refine s_iload C dX1_append_33 0 rfl ?_
      refine s_iload_n 2 C dX1_append_35 rfl 3 rfl ?_
      refine s_iast [cO a0 1 [vI n, .ref a1, .ref a2, .ref a3, .ref a4, .ref a5], cA a1 G.2.1.1 100 (uZ K n kd), cA a2 G.2.1.1 100 (uZ T n t), cA a3 G.2.1.1 100 Y, cA a4 G.2.1.1 100 V, cA a5 G.2.1.1 100 A] C dX1_append_36 2 rfl n rfl (by omega) (by omega) (by omega) rfl ?_
      refine s_aload_n 0 C dX1_append_37 rfl 1 rfl ?_
      refine s_get C dX1_append_38 1 rfl hinX1 0 rfl 3 (by decide) (by decide +kernel) rfl ?_
      refine s_iload C dX1_append_41 0 rfl ?_
      refine s_iload_n 3 C dX1_append_43 rfl 4 rfl ?_
      refine s_iast [cO a0 1 [vI n, .ref a1, .ref a2, .ref a3, .ref a4, .ref a5], cA a1 G.2.1.1 100 (uZ K n kd), cA a2 G.2.1.1 100 (uZ T n t), cA a3 G.2.1.1 100 (uZ Y n y), cA a4 G.2.1.1 100 V, cA a5 G.2.1.1 100 A] C dX1_append_44 3 rfl n rfl (by omega) (by omega) (by omega) rfl ?_
      refine s_aload_n 0 C dX1_append_45 rfl 1 rfl ?_
      refine s_get C dX1_append_46 1 rfl hinX1 0 rfl 4 (by decide) (by decide +kernel) rfl ?_
      refine s_iload C dX1_append_49 0 rfl ?_
      refine s_iload C dX1_append_51 5 rfl ?_
      refine s_iast [cO a0 1 [vI n, .ref a1, .ref a2, .ref a3, .ref a4, .ref a5], cA a1 G.2.1.1 100 (uZ K n kd), cA a2 G.2.1.1 100 (uZ T n t), cA a3 G.2.1.1 100 (uZ Y n y), cA a4 G.2.1.1 100 (uZ V n x), cA a5 G.2.1.1 100 A] C dX1_append_53 4 rfl n rfl (by omega) (by omega) (by omega) rfl ?_
      refine s_aload_n 0 C dX1_append_54 rfl 1 rfl ?_
      refine s_get C dX1_append_55 1 rfl hinX1 0 rfl 5 (by decide) (by decide +kernel) rfl ?_
      refine s_iload C dX1_append_58 0 rfl ?_
      refine s_iload C dX1_append_60 6 rfl ?_
      refine s_iast [cO a0 1 [vI n, .ref a1, .ref a2, .ref a3, .ref a4, .ref a5], cA a1 G.2.1.1 100 (uZ K n kd), cA a2 G.2.1.1 100 (uZ T n t), cA a3 G.2.1.1 100 (uZ Y n y), cA a4 G.2.1.1 100 (uZ V n x), cA a5 G.2.1.1 100 (uZ A n tk)] C dX1_append_62 5 rfl n rfl (by omega) (by omega) (by omega) rfl ?_
      refine s_aload_n 0 C dX1_append_63 rfl 1 rfl ?_
      refine s_iload C dX1_append_64 0 rfl ?_
      refine s_iconst C dX1_append_66 ?_
      refine s_iadd C dX1_append_67 ?_
      refine s_put [cO a0 1 [vI (n + 1), .ref a1, .ref a2, .ref a3, .ref a4, .ref a5], cA a1 G.2.1.1 100 (uZ K n kd), cA a2 G.2.1.1 100 (uZ T n t), cA a3 G.2.1.1 100 (uZ Y n y), cA a4 G.2.1.1 100 (uZ V n x), cA a5 G.2.1.1 100 (uZ A n tk)] C dX1_append_68 1 rfl hinX1 tyX1 tyX1_ok nmX1 0 rfl 0 (by decide) (by decide +kernel) rfl rfl rfl (Nat.le_of_ble_eq_true rfl) rfl ?_
      refine s_aload_n 0 C dX1_append_71 rfl 1 rfl ?_
      refine s_get C dX1_append_72 1 rfl hinX1 0 rfl 0 (by decide) (by decide +kernel) rfl ?_
      exact s_iret C E dX1_append_75 ⟨(n + 1), (n + 1), (uZ K n kd), (uZ T n t), (uZ Y n y), (uZ V n x), (uZ A n tk), rfl, rfl, Or.inr ⟨by omega, rfl, rfl, rfl, rfl, rfl, rfl, rfl⟩⟩
    · refine s_ldc (z := -1000003) C (by decide +kernel) dX1_append_18 ?_
      exact s_iret C E dX1_append_20 ⟨(-1000003), n, K, T, Y, V, A, rfl, rfl, Or.inl ⟨by omega, rfl, rfl, rfl, rfl, rfl, rfl, rfl⟩⟩

set_option maxHeartbeats 4000000 in
set_option maxRecDepth 100000 in
theorem c_X1_copyFrom (l : Launch) (G : fG) (a0 a1 a2 a3 a4 a5 : Nat) (n : Int) (K T Y V A : Int → Int) (b0 b1 b2 b3 b4 b5 : Nat) (m : Int) (K2 T2 Y2 V2 A2 : Int → Int) (hm : 0 ≤ m ∧ m ≤ 100) : fCt l G yX1_copyFrom wsX1_copyFrom 1 40 0 0 [.ref a0, .ref b0] [cO a0 1 [vI n, .ref a1, .ref a2, .ref a3, .ref a4, .ref a5], cA a1 G.2.1.1 100 K, cA a2 G.2.1.1 100 T, cA a3 G.2.1.1 100 Y, cA a4 G.2.1.1 100 V, cA a5 G.2.1.1 100 A, cO b0 1 [vI m, .ref b1, .ref b2, .ref b3, .ref b4, .ref b5], cA b1 G.2.1.1 100 K2, cA b2 G.2.1.1 100 T2, cA b3 G.2.1.1 100 Y2, cA b4 G.2.1.1 100 V2, cA b5 G.2.1.1 100 A2] (fun (v0 : Option Value) (w0 : va_W) => v0 = none ∧ w0 = [cO a0 1 [vI m, .ref a1, .ref a2, .ref a3, .ref a4, .ref a5], cA a1 G.2.1.1 100 (cpZ K2 K m), cA a2 G.2.1.1 100 (cpZ T2 T m), cA a3 G.2.1.1 100 (cpZ Y2 Y m), cA a4 G.2.1.1 100 (cpZ V2 V m), cA a5 G.2.1.1 100 (cpZ A2 A m), cO b0 1 [vI m, .ref b1, .ref b2, .ref b3, .ref b4, .ref b5], cA b1 G.2.1.1 100 K2, cA b2 G.2.1.1 100 T2, cA b3 G.2.1.1 100 Y2, cA b4 G.2.1.1 100 V2, cA b5 G.2.1.1 100 A2]) := by
  refine fs_met (cc := cX1_copyFrom) (nL := 3) (ret := none) (by decide) rfl (Nat.le_of_ble_eq_true rfl) ?_
  intro X C E
  show fSt l G X 0 0 0 [(0, .ref a0), (1, .ref b0)] [] [cO a0 1 [vI n, .ref a1, .ref a2, .ref a3, .ref a4, .ref a5], cA a1 G.2.1.1 100 K, cA a2 G.2.1.1 100 T, cA a3 G.2.1.1 100 Y, cA a4 G.2.1.1 100 V, cA a5 G.2.1.1 100 A, cO b0 1 [vI m, .ref b1, .ref b2, .ref b3, .ref b4, .ref b5], cA b1 G.2.1.1 100 K2, cA b2 G.2.1.1 100 T2, cA b3 G.2.1.1 100 Y2, cA b4 G.2.1.1 100 V2, cA b5 G.2.1.1 100 A2]
  have hinX1 : ∀ w ∈ u_ws RX1 TX1 6, w ∈ wsX1_copyFrom := by decide +kernel
  refine s_iconst C dX1_copyFrom_0 ?_
  refine s_aload_n 1 C dX1_copyFrom_1 rfl 1 rfl ?_
  refine s_get C dX1_copyFrom_2 1 rfl hinX1 6 rfl 0 (by decide) (by decide +kernel) rfl ?_
  refine s_bipush (z := 100) C dX1_copyFrom_5 rfl ?_
  refine s_mmin C dX1_copyFrom_7 (by decide +kernel) (by decide +kernel) (by decide +kernel) (by decide +kernel) (by decide) (Nat.le_of_ble_eq_true rfl) ⟨Nat.zero_le _, Nat.zero_le _⟩ (by omega) (by omega) ?_
  refine s_mmax C dX1_copyFrom_10 (by decide +kernel) (by decide +kernel) (by decide +kernel) (by decide +kernel) (by decide) (Nat.le_of_ble_eq_true rfl) ⟨Nat.zero_le _, Nat.zero_le _⟩ (by omega) (by omega) ?_
  refine s_top m (by omega) ?_
  refine s_istore_n 2 [(2, vI m), (0, .ref a0), (1, .ref b0)] C dX1_copyFrom_13 rfl (by decide) rfl ?_
  refine s_aload_n 1 C dX1_copyFrom_14 rfl 2 rfl ?_
  refine s_get C dX1_copyFrom_15 1 rfl hinX1 6 rfl 1 (by decide) (by decide +kernel) rfl ?_
  refine s_iconst C dX1_copyFrom_18 ?_
  refine s_aload_n 0 C dX1_copyFrom_19 rfl 1 rfl ?_
  refine s_get C dX1_copyFrom_20 1 rfl hinX1 0 rfl 1 (by decide) (by decide +kernel) rfl ?_
  refine s_iconst C dX1_copyFrom_23 ?_
  refine s_iload_n 2 C dX1_copyFrom_24 rfl 0 rfl ?_
  refine s_acopy (ty := .int) [cO a0 1 [vI n, .ref a1, .ref a2, .ref a3, .ref a4, .ref a5], cA a1 G.2.1.1 100 (cpZ K2 K m), cA a2 G.2.1.1 100 T, cA a3 G.2.1.1 100 Y, cA a4 G.2.1.1 100 V, cA a5 G.2.1.1 100 A, cO b0 1 [vI m, .ref b1, .ref b2, .ref b3, .ref b4, .ref b5], cA b1 G.2.1.1 100 K2, cA b2 G.2.1.1 100 T2, cA b3 G.2.1.1 100 Y2, cA b4 G.2.1.1 100 V2, cA b5 G.2.1.1 100 A2] C dX1_copyFrom_25 (by decide +kernel) (by decide +kernel) (by decide +kernel) (by decide +kernel) 7 1 0 rfl rfl rfl rfl (by omega) (by omega) (by omega) (fun _ _ => rfl) (by decide) (Nat.le_of_ble_eq_true rfl) rfl ?_
  refine s_aload_n 1 C dX1_copyFrom_28 rfl 2 rfl ?_
  refine s_get C dX1_copyFrom_29 1 rfl hinX1 6 rfl 2 (by decide) (by decide +kernel) rfl ?_
  refine s_iconst C dX1_copyFrom_32 ?_
  refine s_aload_n 0 C dX1_copyFrom_33 rfl 1 rfl ?_
  refine s_get C dX1_copyFrom_34 1 rfl hinX1 0 rfl 2 (by decide) (by decide +kernel) rfl ?_
  refine s_iconst C dX1_copyFrom_37 ?_
  refine s_iload_n 2 C dX1_copyFrom_38 rfl 0 rfl ?_
  refine s_acopy (ty := .int) [cO a0 1 [vI n, .ref a1, .ref a2, .ref a3, .ref a4, .ref a5], cA a1 G.2.1.1 100 (cpZ K2 K m), cA a2 G.2.1.1 100 (cpZ T2 T m), cA a3 G.2.1.1 100 Y, cA a4 G.2.1.1 100 V, cA a5 G.2.1.1 100 A, cO b0 1 [vI m, .ref b1, .ref b2, .ref b3, .ref b4, .ref b5], cA b1 G.2.1.1 100 K2, cA b2 G.2.1.1 100 T2, cA b3 G.2.1.1 100 Y2, cA b4 G.2.1.1 100 V2, cA b5 G.2.1.1 100 A2] C dX1_copyFrom_39 (by decide +kernel) (by decide +kernel) (by decide +kernel) (by decide +kernel) 8 2 0 rfl rfl rfl rfl (by omega) (by omega) (by omega) (fun _ _ => rfl) (by decide) (Nat.le_of_ble_eq_true rfl) rfl ?_
  refine s_aload_n 1 C dX1_copyFrom_42 rfl 2 rfl ?_
  refine s_get C dX1_copyFrom_43 1 rfl hinX1 6 rfl 3 (by decide) (by decide +kernel) rfl ?_
  refine s_iconst C dX1_copyFrom_46 ?_
  refine s_aload_n 0 C dX1_copyFrom_47 rfl 1 rfl ?_
  refine s_get C dX1_copyFrom_48 1 rfl hinX1 0 rfl 3 (by decide) (by decide +kernel) rfl ?_
  refine s_iconst C dX1_copyFrom_51 ?_
  refine s_iload_n 2 C dX1_copyFrom_52 rfl 0 rfl ?_
  refine s_acopy (ty := .int) [cO a0 1 [vI n, .ref a1, .ref a2, .ref a3, .ref a4, .ref a5], cA a1 G.2.1.1 100 (cpZ K2 K m), cA a2 G.2.1.1 100 (cpZ T2 T m), cA a3 G.2.1.1 100 (cpZ Y2 Y m), cA a4 G.2.1.1 100 V, cA a5 G.2.1.1 100 A, cO b0 1 [vI m, .ref b1, .ref b2, .ref b3, .ref b4, .ref b5], cA b1 G.2.1.1 100 K2, cA b2 G.2.1.1 100 T2, cA b3 G.2.1.1 100 Y2, cA b4 G.2.1.1 100 V2, cA b5 G.2.1.1 100 A2] C dX1_copyFrom_53 (by decide +kernel) (by decide +kernel) (by decide +kernel) (by decide +kernel) 9 3 0 rfl rfl rfl rfl (by omega) (by omega) (by omega) (fun _ _ => rfl) (by decide) (Nat.le_of_ble_eq_true rfl) rfl ?_
  refine s_aload_n 1 C dX1_copyFrom_56 rfl 2 rfl ?_
  refine s_get C dX1_copyFrom_57 1 rfl hinX1 6 rfl 4 (by decide) (by decide +kernel) rfl ?_
  refine s_iconst C dX1_copyFrom_60 ?_
  refine s_aload_n 0 C dX1_copyFrom_61 rfl 1 rfl ?_
  refine s_get C dX1_copyFrom_62 1 rfl hinX1 0 rfl 4 (by decide) (by decide +kernel) rfl ?_
  refine s_iconst C dX1_copyFrom_65 ?_
  refine s_iload_n 2 C dX1_copyFrom_66 rfl 0 rfl ?_
  refine s_acopy (ty := .int) [cO a0 1 [vI n, .ref a1, .ref a2, .ref a3, .ref a4, .ref a5], cA a1 G.2.1.1 100 (cpZ K2 K m), cA a2 G.2.1.1 100 (cpZ T2 T m), cA a3 G.2.1.1 100 (cpZ Y2 Y m), cA a4 G.2.1.1 100 (cpZ V2 V m), cA a5 G.2.1.1 100 A, cO b0 1 [vI m, .ref b1, .ref b2, .ref b3, .ref b4, .ref b5], cA b1 G.2.1.1 100 K2, cA b2 G.2.1.1 100 T2, cA b3 G.2.1.1 100 Y2, cA b4 G.2.1.1 100 V2, cA b5 G.2.1.1 100 A2] C dX1_copyFrom_67 (by decide +kernel) (by decide +kernel) (by decide +kernel) (by decide +kernel) 10 4 0 rfl rfl rfl rfl (by omega) (by omega) (by omega) (fun _ _ => rfl) (by decide) (Nat.le_of_ble_eq_true rfl) rfl ?_
  refine s_aload_n 1 C dX1_copyFrom_70 rfl 2 rfl ?_
  refine s_get C dX1_copyFrom_71 1 rfl hinX1 6 rfl 5 (by decide) (by decide +kernel) rfl ?_
  refine s_iconst C dX1_copyFrom_74 ?_
  refine s_aload_n 0 C dX1_copyFrom_75 rfl 1 rfl ?_
  refine s_get C dX1_copyFrom_76 1 rfl hinX1 0 rfl 5 (by decide) (by decide +kernel) rfl ?_
  refine s_iconst C dX1_copyFrom_79 ?_
  refine s_iload_n 2 C dX1_copyFrom_80 rfl 0 rfl ?_
  refine s_acopy (ty := .int) [cO a0 1 [vI n, .ref a1, .ref a2, .ref a3, .ref a4, .ref a5], cA a1 G.2.1.1 100 (cpZ K2 K m), cA a2 G.2.1.1 100 (cpZ T2 T m), cA a3 G.2.1.1 100 (cpZ Y2 Y m), cA a4 G.2.1.1 100 (cpZ V2 V m), cA a5 G.2.1.1 100 (cpZ A2 A m), cO b0 1 [vI m, .ref b1, .ref b2, .ref b3, .ref b4, .ref b5], cA b1 G.2.1.1 100 K2, cA b2 G.2.1.1 100 T2, cA b3 G.2.1.1 100 Y2, cA b4 G.2.1.1 100 V2, cA b5 G.2.1.1 100 A2] C dX1_copyFrom_81 (by decide +kernel) (by decide +kernel) (by decide +kernel) (by decide +kernel) 11 5 0 rfl rfl rfl rfl (by omega) (by omega) (by omega) (fun _ _ => rfl) (by decide) (Nat.le_of_ble_eq_true rfl) rfl ?_
  refine s_aload_n 0 C dX1_copyFrom_84 rfl 1 rfl ?_
  refine s_iload_n 2 C dX1_copyFrom_85 rfl 0 rfl ?_
  refine s_put [cO a0 1 [vI m, .ref a1, .ref a2, .ref a3, .ref a4, .ref a5], cA a1 G.2.1.1 100 (cpZ K2 K m), cA a2 G.2.1.1 100 (cpZ T2 T m), cA a3 G.2.1.1 100 (cpZ Y2 Y m), cA a4 G.2.1.1 100 (cpZ V2 V m), cA a5 G.2.1.1 100 (cpZ A2 A m), cO b0 1 [vI m, .ref b1, .ref b2, .ref b3, .ref b4, .ref b5], cA b1 G.2.1.1 100 K2, cA b2 G.2.1.1 100 T2, cA b3 G.2.1.1 100 Y2, cA b4 G.2.1.1 100 V2, cA b5 G.2.1.1 100 A2] C dX1_copyFrom_86 1 rfl hinX1 tyX1 tyX1_ok nmX1 0 rfl 0 (by decide) (by decide +kernel) rfl rfl rfl (Nat.le_of_ble_eq_true rfl) rfl ?_
  exact s_vret C E dX1_copyFrom_89 ⟨rfl, rfl⟩

set_option maxHeartbeats 4000000 in
set_option maxRecDepth 100000 in
theorem c_X6_isSlot (l : Launch) (G : fG) (k : Int) (hk : -2147483648 ≤ k ∧ k < 2147483648) : fCt l G yX6_isSlot wsX6_isSlot 0 0 0 0 [vI k] [] (fun (v0 : Option Value) (w0 : va_W) => v0 = some (vI (bI (0 ≤ k ∧ k ≤ 2))) ∧ w0 = []) := by
  refine fs_met (cc := cX6_isSlot) (nL := 1) (ret := (some .boolean)) (by decide) rfl (Nat.le_of_ble_eq_true rfl) ?_
  intro X C E
  show fSt l G X 0 0 0 [(0, vI k)] [] []
  refine s_iload_n 0 C dX6_isSlot_0 rfl 0 rfl ?_
  refine s_if_lt 13 C dX6_isSlot_1 (by decide) (by omega) (fun h_1 => ?_) (fun h_1 => ?_)
  · refine s_iconst C dX6_isSlot_13 ?_
    exact s_zret C E dX6_isSlot_14 rfl ⟨congrArg (fun z => some (vI z)) (bI_0 (by omega)), rfl⟩
  · refine s_iload_n 0 C dX6_isSlot_4 rfl 0 rfl ?_
    refine s_iconst C dX6_isSlot_5 ?_
    refine s_icmp_ge 13 C dX6_isSlot_6 (by decide) (by omega) (by omega) (fun h_6 => ?_) (fun h_6 => ?_)
    · refine s_iconst C dX6_isSlot_13 ?_
      exact s_zret C E dX6_isSlot_14 rfl ⟨congrArg (fun z => some (vI z)) (bI_0 (by omega)), rfl⟩
    · refine s_iconst C dX6_isSlot_9 ?_
      refine s_goto 14 C dX6_isSlot_10 (by decide) ?_
      exact s_zret C E dX6_isSlot_14 rfl ⟨congrArg (fun z => some (vI z)) (bI_1 (by omega)), rfl⟩

set_option maxHeartbeats 4000000 in
set_option maxRecDepth 100000 in
theorem c_X6_isKey (l : Launch) (G : fG) (k : Int) (hk : -2147483648 ≤ k ∧ k < 2147483648) : fCt l G yX6_isKey wsX6_isKey 0 0 0 0 [vI k] [] (fun (v0 : Option Value) (w0 : va_W) => v0 = some (vI (bI (0 ≤ k ∧ k ≤ 23))) ∧ w0 = []) := by
  refine fs_met (cc := cX6_isKey) (nL := 1) (ret := (some .boolean)) (by decide) rfl (Nat.le_of_ble_eq_true rfl) ?_
  intro X C E
  show fSt l G X 0 0 0 [(0, vI k)] [] []
  refine s_iload_n 0 C dX6_isKey_0 rfl 0 rfl ?_
  refine s_if_lt 14 C dX6_isKey_1 (by decide) (by omega) (fun h_1 => ?_) (fun h_1 => ?_)
  · refine s_iconst C dX6_isKey_14 ?_
    exact s_zret C E dX6_isKey_15 rfl ⟨congrArg (fun z => some (vI z)) (bI_0 (by omega)), rfl⟩
  · refine s_iload_n 0 C dX6_isKey_4 rfl 0 rfl ?_
    refine s_bipush (z := 24) C dX6_isKey_5 rfl ?_
    refine s_icmp_ge 14 C dX6_isKey_7 (by decide) (by omega) (by omega) (fun h_7 => ?_) (fun h_7 => ?_)
    · refine s_iconst C dX6_isKey_14 ?_
      exact s_zret C E dX6_isKey_15 rfl ⟨congrArg (fun z => some (vI z)) (bI_0 (by omega)), rfl⟩
    · refine s_iconst C dX6_isKey_10 ?_
      refine s_goto 15 C dX6_isKey_11 (by decide) ?_
      exact s_zret C E dX6_isKey_15 rfl ⟨congrArg (fun z => some (vI z)) (bI_1 (by omega)), rfl⟩

set_option maxHeartbeats 4000000 in
set_option maxRecDepth 100000 in
theorem c_X6_isStandby (l : Launch) (G : fG) (k : Int) (hk : -2147483648 ≤ k ∧ k < 2147483648) : fCt l G yX6_isStandby wsX6_isStandby 0 0 0 0 [vI k] [] (fun (v0 : Option Value) (w0 : va_W) => v0 = some (vI (bI (0 ≤ k ∧ k ≤ 1))) ∧ w0 = []) := by
  refine fs_met (cc := cX6_isStandby) (nL := 1) (ret := (some .boolean)) (by decide) rfl (Nat.le_of_ble_eq_true rfl) ?_
  intro X C E
  show fSt l G X 0 0 0 [(0, vI k)] [] []
  refine s_iload_n 0 C dX6_isStandby_0 rfl 0 rfl ?_
  refine s_if_lt 13 C dX6_isStandby_1 (by decide) (by omega) (fun h_1 => ?_) (fun h_1 => ?_)
  · refine s_iconst C dX6_isStandby_13 ?_
    exact s_zret C E dX6_isStandby_14 rfl ⟨congrArg (fun z => some (vI z)) (bI_0 (by omega)), rfl⟩
  · refine s_iload_n 0 C dX6_isStandby_4 rfl 0 rfl ?_
    refine s_iconst C dX6_isStandby_5 ?_
    refine s_icmp_ge 13 C dX6_isStandby_6 (by decide) (by omega) (by omega) (fun h_6 => ?_) (fun h_6 => ?_)
    · refine s_iconst C dX6_isStandby_13 ?_
      exact s_zret C E dX6_isStandby_14 rfl ⟨congrArg (fun z => some (vI z)) (bI_0 (by omega)), rfl⟩
    · refine s_iconst C dX6_isStandby_9 ?_
      refine s_goto 14 C dX6_isStandby_10 (by decide) ?_
      exact s_zret C E dX6_isStandby_14 rfl ⟨congrArg (fun z => some (vI z)) (bI_1 (by omega)), rfl⟩

set_option maxHeartbeats 4000000 in
set_option maxRecDepth 100000 in
theorem c_X6_isTicks (l : Launch) (G : fG) (k : Int) (hk : -2147483648 ≤ k ∧ k < 2147483648) : fCt l G yX6_isTicks wsX6_isTicks 0 0 0 0 [vI k] [] (fun (v0 : Option Value) (w0 : va_W) => v0 = some (vI (bI (1 ≤ k ∧ k ≤ 99))) ∧ w0 = []) := by
  refine fs_met (cc := cX6_isTicks) (nL := 1) (ret := (some .boolean)) (by decide) rfl (Nat.le_of_ble_eq_true rfl) ?_
  intro X C E
  show fSt l G X 0 0 0 [(0, vI k)] [] []
  refine s_iload_n 0 C dX6_isTicks_0 rfl 0 rfl ?_
  refine s_iconst C dX6_isTicks_1 ?_
  refine s_icmp_lt 15 C dX6_isTicks_2 (by decide) (by omega) (by omega) (fun h_2 => ?_) (fun h_2 => ?_)
  · refine s_iconst C dX6_isTicks_15 ?_
    exact s_zret C E dX6_isTicks_16 rfl ⟨congrArg (fun z => some (vI z)) (bI_0 (by omega)), rfl⟩
  · refine s_iload_n 0 C dX6_isTicks_5 rfl 0 rfl ?_
    refine s_bipush (z := 99) C dX6_isTicks_6 rfl ?_
    refine s_icmp_gt 15 C dX6_isTicks_8 (by decide) (by omega) (by omega) (fun h_8 => ?_) (fun h_8 => ?_)
    · refine s_iconst C dX6_isTicks_15 ?_
      exact s_zret C E dX6_isTicks_16 rfl ⟨congrArg (fun z => some (vI z)) (bI_0 (by omega)), rfl⟩
    · refine s_iconst C dX6_isTicks_11 ?_
      refine s_goto 16 C dX6_isTicks_12 (by decide) ?_
      exact s_zret C E dX6_isTicks_16 rfl ⟨congrArg (fun z => some (vI z)) (bI_1 (by omega)), rfl⟩

set_option maxHeartbeats 4000000 in
set_option maxRecDepth 100000 in
theorem c_X6_found (l : Launch) (G : fG) (r : Int) (hr : -2147483648 ≤ r ∧ r < 2147483648) : fCt l G yX6_found wsX6_found 0 0 0 0 [vI r] [] (fun (v0 : Option Value) (w0 : va_W) => v0 = some (vI (if r = 0 then -1000004 else r)) ∧ w0 = []) := by
  refine fs_met (cc := cX6_found) (nL := 1) (ret := (some .int)) (by decide) rfl (Nat.le_of_ble_eq_true rfl) ?_
  intro X C E
  show fSt l G X 0 0 0 [(0, vI r)] [] []
  refine s_iload_n 0 C dX6_found_0 rfl 0 rfl ?_
  refine s_if_ne 9 C dX6_found_1 (by decide) (by omega) (fun h_1 => ?_) (fun h_1 => ?_)
  · refine s_iload_n 0 C dX6_found_9 rfl 0 rfl ?_
    exact s_iret C E dX6_found_10 ⟨congrArg (fun z => some (vI z)) (by omega), rfl⟩
  · refine s_ldc (z := -1000004) C (by decide +kernel) dX6_found_4 ?_
    refine s_goto 10 C dX6_found_6 (by decide) ?_
    exact s_iret C E dX6_found_10 ⟨congrArg (fun z => some (vI z)) (by omega), rfl⟩

set_option maxHeartbeats 4000000 in
set_option maxRecDepth 100000 in
theorem c_X4_standby0 (l : Launch) (G : fG) (s0 a0 b0 d0 : Nat) (xs : List Value) (k : Int) (hk : k = 0) : fCt l G yX4_standby wsX4_standby 0 0 0 0 [.ref s0, vI k] [cO s0 4 (.ref a0 :: .ref b0 :: .ref d0 :: xs)] (fun (v0 : Option Value) (w0 : va_W) => v0 = some (.ref b0) ∧ w0 = [cO s0 4 (.ref a0 :: .ref b0 :: .ref d0 :: xs)]) := by
  refine fs_met (cc := cX4_standby) (nL := 2) (ret := (some (.object "FencedStandbys$Standby"))) (by decide) rfl (Nat.le_of_ble_eq_true rfl) ?_
  intro X C E
  show fSt l G X 0 0 0 [(0, .ref s0), (1, vI k)] [] [cO s0 4 (.ref a0 :: .ref b0 :: .ref d0 :: xs)]
  have hinX4 : ∀ w ∈ u_ws RX4 TX4 12, w ∈ wsX4_standby := by decide +kernel
  refine s_iload_n 1 C dX4_standby_0 rfl 1 rfl ?_
  refine s_if_ne 11 C dX4_standby_1 (by decide) (by omega) (fun h_1 => ?_) (fun h_1 => ?_)
  · exfalso
    omega
  · refine s_aload_n 0 C dX4_standby_4 rfl 0 rfl ?_
    refine s_get C dX4_standby_5 4 rfl hinX4 0 rfl 1 (by decide) (by decide +kernel) rfl ?_
    refine s_goto 15 C dX4_standby_8 (by decide) ?_
    exact s_aret C E (Or.inl ⟨_, rfl⟩) dX4_standby_15 ⟨rfl, rfl⟩

set_option maxHeartbeats 4000000 in
set_option maxRecDepth 100000 in
theorem c_X4_standby1 (l : Launch) (G : fG) (s0 a0 b0 d0 : Nat) (xs : List Value) (k : Int) (hk : k = 1) : fCt l G yX4_standby wsX4_standby 0 0 0 0 [.ref s0, vI k] [cO s0 4 (.ref a0 :: .ref b0 :: .ref d0 :: xs)] (fun (v0 : Option Value) (w0 : va_W) => v0 = some (.ref d0) ∧ w0 = [cO s0 4 (.ref a0 :: .ref b0 :: .ref d0 :: xs)]) := by
  refine fs_met (cc := cX4_standby) (nL := 2) (ret := (some (.object "FencedStandbys$Standby"))) (by decide) rfl (Nat.le_of_ble_eq_true rfl) ?_
  intro X C E
  show fSt l G X 0 0 0 [(0, .ref s0), (1, vI k)] [] [cO s0 4 (.ref a0 :: .ref b0 :: .ref d0 :: xs)]
  have hinX4 : ∀ w ∈ u_ws RX4 TX4 12, w ∈ wsX4_standby := by decide +kernel
  refine s_iload_n 1 C dX4_standby_0 rfl 1 rfl ?_
  refine s_if_ne 11 C dX4_standby_1 (by decide) (by omega) (fun h_1 => ?_) (fun h_1 => ?_)
  · refine s_aload_n 0 C dX4_standby_11 rfl 0 rfl ?_
    refine s_get C dX4_standby_12 4 rfl hinX4 0 rfl 2 (by decide) (by decide +kernel) rfl ?_
    exact s_aret C E (Or.inl ⟨_, rfl⟩) dX4_standby_15 ⟨rfl, rfl⟩
  · exfalso
    omega

set_option maxHeartbeats 4000000 in
set_option maxRecDepth 100000 in
theorem c_X4_transactionIn (l : Launch) (G : fG) (s0 e0 : Nat) (y0 y1 y2 : Value) (xs : List Value) (sl : Int → Int) (k : Int) (hk : -2147483648 ≤ k ∧ k < 2147483648) : fCt l G yX4_transactionIn wsX4_transactionIn 1 20 0 0 [.ref s0, vI k] [cO s0 4 (y0 :: y1 :: y2 :: .ref e0 :: xs), cA e0 G.2.1.1 3 sl] (fun (v0 : Option Value) (w0 : va_W) => v0 = some (vI (if 0 ≤ k ∧ k ≤ 2 then sl k else 0)) ∧ w0 = [cO s0 4 (y0 :: y1 :: y2 :: .ref e0 :: xs), cA e0 G.2.1.1 3 sl]) := by
  refine fs_met (cc := cX4_transactionIn) (nL := 2) (ret := (some .int)) (by decide) rfl (Nat.le_of_ble_eq_true rfl) ?_
  intro X C E
  show fSt l G X 0 0 0 [(0, .ref s0), (1, vI k)] [] [cO s0 4 (y0 :: y1 :: y2 :: .ref e0 :: xs), cA e0 G.2.1.1 3 sl]
  have hinX4 : ∀ w ∈ u_ws RX4 TX4 12, w ∈ wsX4_transactionIn := by decide +kernel
  refine s_iload_n 1 C dX4_transactionIn_0 rfl 1 rfl ?_
  refine s_callSN (As := [vI k]) (rest := []) (host := RX6) C dX4_transactionIn_1 (c_X6_isSlot l G k (by first | assumption | omega)) gX4_transactionIn_X6_isSlot_n60 (by decide +kernel) (by decide +kernel) (by decide +kernel) rfl 1 (by decide +kernel) (by decide) [] rfl (by decide) rfl (Nat.le_of_ble_eq_true rfl) ⟨Nat.zero_le _, Nat.zero_le _⟩ ?_
  intro v0 w0 hq
  obtain ⟨rfl, rfl⟩ := hq
  refine ⟨rfl, ?_⟩
  show fSt l G X 0 0 4 [(0, .ref s0), (1, vI k)] [vI (bI (0 ≤ k ∧ k ≤ 2))] [cO s0 4 (y0 :: y1 :: y2 :: .ref e0 :: xs), cA e0 G.2.1.1 3 sl]
  refine s_if_eq 16 C dX4_transactionIn_4 (by decide) bI_rng (fun h_4 => ?_) (fun h_4 => ?_)
  · have h_4 := bI_f h_4
    refine s_iconst C dX4_transactionIn_16 ?_
    exact s_iret C E dX4_transactionIn_17 ⟨congrArg (fun z => some (vI z)) (by first | (rw [if_pos (by omega)]; done) | (rw [if_neg (by omega)]; done)), rfl⟩
  · have h_4 := bI_t h_4
    refine s_aload_n 0 C dX4_transactionIn_7 rfl 0 rfl ?_
    refine s_get C dX4_transactionIn_8 4 rfl hinX4 0 rfl 3 (by decide) (by decide +kernel) rfl ?_
    refine s_iload_n 1 C dX4_transactionIn_11 rfl 1 rfl ?_
    refine s_iald C dX4_transactionIn_12 1 rfl k rfl (by omega) (by omega) (by omega) ?_
    refine s_goto 17 C dX4_transactionIn_13 (by decide) ?_
    exact s_iret C E dX4_transactionIn_17 ⟨congrArg (fun z => some (vI z)) (by first | (rw [if_pos (by omega)]; done) | (rw [if_neg (by omega)]; done)), rfl⟩

set_option maxHeartbeats 4000000 in
set_option maxRecDepth 100000 in
theorem c_X4_appliedAfter (l : Launch) (G : fG) (s0 a0 a1 a2 a3 a4 a5 b0 b1 : Nat) (y1 y2 y3 y4 y5 y6 y7 y8 y9 y10 : Value) (dl n : Int) (K T Y V A : Int → Int) (rc ap st : Int) (g : Int → Int) (p t rt : Int) (hdl : 0 ≤ dl ∧ dl ≤ 20) (hn : 0 ≤ n ∧ n ≤ 100) (hA : rF A) (hg : gF g) (hrc : 0 ≤ rc ∧ rc ≤ 100) (hst : st = 0 ∨ st = 1) (hp : 0 ≤ p ∧ p ≤ rc) (ht : 0 ≤ t ∧ t ≤ 1073741823) (hrt : 0 ≤ rt ∧ rt ≤ 20) : fCt l G yX4_appliedAfter wsX4_appliedAfter 2 42 0 0 [.ref s0, .ref b0, vI p, vI t, vI rt] [cO s0 4 [.ref a0, y1, y2, y3, y4, y5, y6, y7, y8, y9, y10, vI dl], cO a0 1 [vI n, .ref a1, .ref a2, .ref a3, .ref a4, .ref a5], cA a1 G.2.1.1 100 K, cA a2 G.2.1.1 100 T, cA a3 G.2.1.1 100 Y, cA a4 G.2.1.1 100 V, cA a5 G.2.1.1 100 A, cO b0 3 [vI rc, vI ap, vI st, .ref b1], cA b1 G.2.1.2.1 101 g] (fun (v0 : Option Value) (w0 : va_W) => v0 = some (vI (cg n A rc st g dl p t rt)) ∧ w0 = [cO s0 4 [.ref a0, y1, y2, y3, y4, y5, y6, y7, y8, y9, y10, vI dl], cO a0 1 [vI n, .ref a1, .ref a2, .ref a3, .ref a4, .ref a5], cA a1 G.2.1.1 100 K, cA a2 G.2.1.1 100 T, cA a3 G.2.1.1 100 Y, cA a4 G.2.1.1 100 V, cA a5 G.2.1.1 100 A, cO b0 3 [vI rc, vI ap, vI st, .ref b1], cA b1 G.2.1.2.1 101 g]) := by
  refine fs_met (cc := cX4_appliedAfter) (nL := 8) (ret := (some .int)) (by decide) rfl (Nat.le_of_ble_eq_true rfl) ?_
  intro X C E
  show fSt l G X 0 0 0 [(0, .ref s0), (1, .ref b0), (2, vI p), (3, vI t), (4, vI rt)] [] [cO s0 4 [.ref a0, y1, y2, y3, y4, y5, y6, y7, y8, y9, y10, vI dl], cO a0 1 [vI n, .ref a1, .ref a2, .ref a3, .ref a4, .ref a5], cA a1 G.2.1.1 100 K, cA a2 G.2.1.1 100 T, cA a3 G.2.1.1 100 Y, cA a4 G.2.1.1 100 V, cA a5 G.2.1.1 100 A, cO b0 3 [vI rc, vI ap, vI st, .ref b1], cA b1 G.2.1.2.1 101 g]
  have hinX3 : ∀ w ∈ u_ws RX3 TX3 4, w ∈ wsX4_appliedAfter := by decide +kernel
  have hinX4 : ∀ w ∈ u_ws RX4 TX4 12, w ∈ wsX4_appliedAfter := by decide +kernel
  refine s_iload_n 2 C dX4_appliedAfter_0 rfl 2 rfl ?_
  refine s_istore [(5, vI p), (0, .ref s0), (1, .ref b0), (2, vI p), (3, vI t), (4, vI rt)] C dX4_appliedAfter_1 (by decide) rfl ?_
  refine s_aload_n 1 C dX4_appliedAfter_3 rfl 2 rfl ?_
  refine s_get C dX4_appliedAfter_4 3 rfl hinX3 7 rfl 2 (by decide) (by decide +kernel) rfl ?_
  refine s_if_eq 13 C dX4_appliedAfter_7 (by decide) (by omega) (fun h_7 => ?_) (fun h_7 => ?_)
  · refine s_iconst C dX4_appliedAfter_13 ?_
    refine s_istore [(6, vI 0), (5, vI p), (0, .ref s0), (1, .ref b0), (2, vI p), (3, vI t), (4, vI rt)] C dX4_appliedAfter_14 (by decide) rfl ?_
    have loop_16 : ∀ (fuel : Nat) (m q : Int), (0 ≤ m ∧ m ≤ rt) → (q = p + m ∧ q ≤ rc) → (adv (okC n A rc g dl t) p m.toNat = p + m) → (rt - m < (fuel : Int)) → fSt l G X 0 0 16 [(0, .ref s0), (1, .ref b0), (2, vI p), (3, vI t), (4, vI rt), (5, vI q), (6, vI m)] [] [cO s0 4 [.ref a0, y1, y2, y3, y4, y5, y6, y7, y8, y9, y10, vI dl], cO a0 1 [vI n, .ref a1, .ref a2, .ref a3, .ref a4, .ref a5], cA a1 G.2.1.1 100 K, cA a2 G.2.1.1 100 T, cA a3 G.2.1.1 100 Y, cA a4 G.2.1.1 100 V, cA a5 G.2.1.1 100 A, cO b0 3 [vI rc, vI ap, vI st, .ref b1], cA b1 G.2.1.2.1 101 g] := by
      intro fuel
      induction fuel with
      | zero =>
        intro m q hm hq ha hm
        exfalso
        omega
      | succ fuel ih_16 =>
        intro m q hm hq ha hm
        refine s_iload C dX4_appliedAfter_16 6 rfl ?_
        refine s_iload C dX4_appliedAfter_18 4 rfl ?_
        refine s_icmp_ge 78 C dX4_appliedAfter_20 (by decide) (by omega) (by omega) (fun h_20 => ?_) (fun h_20 => ?_)
        · refine s_iload C dX4_appliedAfter_78 5 rfl ?_
          exact s_iret C E dX4_appliedAfter_80 ⟨congrArg (fun z => some (vI z)) (by rw [cg, if_pos (by omega), show rt.toNat = m.toNat by omega, ha]; omega), rfl⟩
        · refine s_iload C dX4_appliedAfter_23 5 rfl ?_
          refine s_iconst C dX4_appliedAfter_25 ?_
          refine s_iadd C dX4_appliedAfter_26 ?_
          refine s_istore [(7, vI (q + 1)), (0, .ref s0), (1, .ref b0), (2, vI p), (3, vI t), (4, vI rt), (5, vI q), (6, vI m)] C dX4_appliedAfter_27 (by decide) rfl ?_
          refine s_iload C dX4_appliedAfter_29 0 rfl ?_
          refine s_aload_n 1 C dX4_appliedAfter_31 rfl 2 rfl ?_
          refine s_get C dX4_appliedAfter_32 3 rfl hinX3 7 rfl 0 (by decide) (by decide +kernel) rfl ?_
          refine s_icmp_gt 65 C dX4_appliedAfter_35 (by decide) (by omega) (by omega) (fun h_35 => ?_) (fun h_35 => ?_)
          · refine s_iload C dX4_appliedAfter_65 6 rfl ?_
            exact s_iret C E dX4_appliedAfter_67 ⟨congrArg (fun z => some (vI z)) (by rw [cg, if_pos (by omega)]; have hsp := adv_stop (P := okC n A rc g dl t) (p := p) (k := m.toNat) (by omega) (by simp only [okC, Bool.and_eq_false_iff, decide_eq_false_iff_not]; rw [show p + ((m.toNat : Nat) : Int) + 1 = q + 1 by omega]; omega) (rt.toNat - m.toNat); rw [show m.toNat + (rt.toNat - m.toNat) = rt.toNat by omega] at hsp; omega), rfl⟩
          · refine s_aload_n 1 C dX4_appliedAfter_38 rfl 2 rfl ?_
            refine s_iload C dX4_appliedAfter_39 0 rfl ?_
            refine s_callV (As := [vI (q + 1)]) (rest := []) C dX4_appliedAfter_41 (c_X3_isGap l G b0 b1 rc ap st g (q + 1) (by first | assumption | omega) (by first | assumption | omega)) gX4_appliedAfter_X3_isGap rfl 1 (by decide +kernel) (by decide) 7 3 rfl rfl rfl [7, 8] rfl (by decide) rfl (Nat.le_of_ble_eq_true rfl) ⟨Nat.zero_le _, Nat.zero_le _⟩ ?_
            intro v0 w0 hq
            obtain ⟨rfl, rfl⟩ := hq
            refine ⟨rfl, ?_⟩
            show fSt l G X 0 0 44 [(7, vI (q + 1)), (0, .ref s0), (1, .ref b0), (2, vI p), (3, vI t), (4, vI rt), (5, vI q), (6, vI m)] [vI (bI (1 ≤ (q + 1) ∧ (q + 1) ≤ 100 ∧ g (q + 1) ≠ 0))] [cO s0 4 [.ref a0, y1, y2, y3, y4, y5, y6, y7, y8, y9, y10, vI dl], cO a0 1 [vI n, .ref a1, .ref a2, .ref a3, .ref a4, .ref a5], cA a1 G.2.1.1 100 K, cA a2 G.2.1.1 100 T, cA a3 G.2.1.1 100 Y, cA a4 G.2.1.1 100 V, cA a5 G.2.1.1 100 A, cO b0 3 [vI rc, vI ap, vI st, .ref b1], cA b1 G.2.1.2.1 101 g]
            refine s_if_ne 65 C dX4_appliedAfter_44 (by decide) bI_rng (fun h_44 => ?_) (fun h_44 => ?_)
            · have h_44 := bI_t h_44
              refine s_iload C dX4_appliedAfter_65 6 rfl ?_
              exact s_iret C E dX4_appliedAfter_67 ⟨congrArg (fun z => some (vI z)) (by rw [cg, if_pos (by omega)]; have hsp := adv_stop (P := okC n A rc g dl t) (p := p) (k := m.toNat) (by omega) (by simp only [okC, Bool.and_eq_false_iff, decide_eq_false_iff_not]; rw [show p + ((m.toNat : Nat) : Int) + 1 = q + 1 by omega]; omega) (rt.toNat - m.toNat); rw [show m.toNat + (rt.toNat - m.toNat) = rt.toNat by omega] at hsp; omega), rfl⟩
            · have h_44 := bI_f h_44
              refine s_aload_n 0 C dX4_appliedAfter_47 rfl 1 rfl ?_
              refine s_get C dX4_appliedAfter_48 4 rfl hinX4 0 rfl 0 (by decide) (by decide +kernel) rfl ?_
              refine s_iload C dX4_appliedAfter_51 0 rfl ?_
              refine s_callV (As := [vI (q + 1)]) (rest := []) C dX4_appliedAfter_53 (c_X1_tickOf l G a0 a1 a2 a3 a4 a5 n K T Y V A (q + 1) (by first | assumption | omega) (by first | assumption | omega)) gX4_appliedAfter_X1_tickOf rfl 1 (by decide +kernel) (by decide) 1 1 rfl rfl rfl [1, 2, 3, 4, 5, 6] rfl (by decide) rfl (Nat.le_of_ble_eq_true rfl) ⟨Nat.zero_le _, Nat.zero_le _⟩ ?_
              intro v0 w0 hq
              obtain ⟨rfl, rfl⟩ := hq
              refine ⟨rfl, ?_⟩
              show fSt l G X 0 0 56 [(7, vI (q + 1)), (0, .ref s0), (1, .ref b0), (2, vI p), (3, vI t), (4, vI rt), (5, vI q), (6, vI m)] [vI (gR n A (q + 1))] [cO s0 4 [.ref a0, y1, y2, y3, y4, y5, y6, y7, y8, y9, y10, vI dl], cO a0 1 [vI n, .ref a1, .ref a2, .ref a3, .ref a4, .ref a5], cA a1 G.2.1.1 100 K, cA a2 G.2.1.1 100 T, cA a3 G.2.1.1 100 Y, cA a4 G.2.1.1 100 V, cA a5 G.2.1.1 100 A, cO b0 3 [vI rc, vI ap, vI st, .ref b1], cA b1 G.2.1.2.1 101 g]
              refine s_iload_n 3 C dX4_appliedAfter_56 rfl 4 rfl ?_
              refine s_aload_n 0 C dX4_appliedAfter_57 rfl 1 rfl ?_
              refine s_get C dX4_appliedAfter_58 4 rfl hinX4 0 rfl 11 (by decide) (by decide +kernel) rfl ?_
              refine s_isub C dX4_appliedAfter_61 ?_
              refine s_icmp_le 68 C dX4_appliedAfter_62 (by decide) (gR_r hA _) (by omega) (fun h_62 => ?_) (fun h_62 => ?_)
              · refine s_iload C dX4_appliedAfter_68 0 rfl ?_
                refine s_istore [(5, vI (q + 1)), (7, vI (q + 1)), (0, .ref s0), (1, .ref b0), (2, vI p), (3, vI t), (4, vI rt), (6, vI m)] C dX4_appliedAfter_70 (by decide) rfl ?_
                refine s_iinc [(6, vI (m + 1)), (5, vI (q + 1)), (7, vI (q + 1)), (0, .ref s0), (1, .ref b0), (2, vI p), (3, vI t), (4, vI rt)] C dX4_appliedAfter_72 7 rfl (by decide) rfl ?_
                refine s_goto 16 C dX4_appliedAfter_75 (by decide) ?_
                refine s_lv [(0, .ref s0), (1, .ref b0), (2, vI p), (3, vI t), (4, vI rt), (5, vI (q + 1)), (6, vI (m + 1))] [3, 4, 5, 6, 7, 1, 0] rfl ?_
                exact ih_16 (m + 1) (q + 1) (by omega) (by omega) (by have hgo := adv_go (P := okC n A rc g dl t) (p := p) (k := m.toNat) (by omega) (by simp only [okC, Bool.and_eq_true, decide_eq_true_eq]; rw [show p + ((m.toNat : Nat) : Int) + 1 = q + 1 by omega]; omega); rw [show (m + 1).toNat = m.toNat + 1 by omega, hgo]; omega) (by omega)
              · refine s_iload C dX4_appliedAfter_65 6 rfl ?_
                exact s_iret C E dX4_appliedAfter_67 ⟨congrArg (fun z => some (vI z)) (by rw [cg, if_pos (by omega)]; have hsp := adv_stop (P := okC n A rc g dl t) (p := p) (k := m.toNat) (by omega) (by simp only [okC, Bool.and_eq_false_iff, decide_eq_false_iff_not]; rw [show p + ((m.toNat : Nat) : Int) + 1 = q + 1 by omega]; omega) (rt.toNat - m.toNat); rw [show m.toNat + (rt.toNat - m.toNat) = rt.toNat by omega] at hsp; omega), rfl⟩
    refine s_lv [(0, .ref s0), (1, .ref b0), (2, vI p), (3, vI t), (4, vI rt), (5, vI p), (6, vI 0)] [2, 3, 4, 5, 6, 1, 0] rfl ?_
    exact loop_16 (rt - 0 + 1 : Int).toNat 0 p (by omega) (by omega) (by rw [show (0 : Int).toNat = 0 by rfl, adv]; omega) (by omega)
  · refine s_iload C dX4_appliedAfter_10 0 rfl ?_
    exact s_iret C E dX4_appliedAfter_12 ⟨congrArg (fun z => some (vI z)) (by rw [cg, if_neg (by omega)]), rfl⟩

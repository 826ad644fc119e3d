set_option maxHeartbeats 4000000 in
set_option maxRecDepth 100000 in
theorem c_X4_openIn (l : Launch) (G : fG) (s0 a0 a1 a2 a3 a4 a5 b0 b1 d0 d1 e0 : Nat) (B : Int) (f : Int → Int) (n tk ln tr lc lo ap rt dl r0 p0 q0 r1 p1 q1 : Int) (sl g0 g1 K T Y V A : Int → Int) (k : Int) (hR : RS f n tk ln tr lc lo ap rt dl r0 p0 q0 r1 p1 q1 sl g0 g1 K T Y V A) (hI : Inv B f) (hB : B ≤ 1073000000) (hk : -2147483648 ≤ k ∧ k < 2147483648) : fCt l G yX4_openIn wsX4_openIn 1 20 0 0 [.ref s0, vI k] [cO s0 4 [.ref a0, .ref b0, .ref d0, .ref e0, vI tk, vI ln, vI tr, vI lc, vI lo, vI ap, vI rt, vI dl], cO a0 1 [vI n, .ref a1, .ref a2, .ref a3, .ref a4, .ref a5], cA a1 G.2.1.1 100 K, cA a2 G.2.1.1 100 T, cA a3 G.2.1.1 100 Y, cA a4 G.2.1.1 100 V, cA a5 G.2.1.1 100 A, cO b0 3 [vI r0, vI p0, vI q0, .ref b1], cA b1 G.2.1.2.1 101 g0, cO d0 3 [vI r1, vI p1, vI q1, .ref d1], cA d1 G.2.1.2.1 101 g1, cA e0 G.2.1.1 3 sl] (fun (v0 : Option Value) (w0 : va_W) => ∃ (z : Int) (f2 : Int → Int) (n2 tk2 ln2 tr2 lc2 lo2 ap2 rt2 dl2 r02 p02 q02 r12 p12 q12 : Int) (sl2 g02 g12 K2 T2 Y2 V2 A2 : Int → Int), v0 = some (vI z) ∧ w0 = [cO s0 4 [.ref a0, .ref b0, .ref d0, .ref e0, vI tk2, vI ln2, vI tr2, vI lc2, vI lo2, vI ap2, vI rt2, vI dl2], cO a0 1 [vI n2, .ref a1, .ref a2, .ref a3, .ref a4, .ref a5], cA a1 G.2.1.1 100 K2, cA a2 G.2.1.1 100 T2, cA a3 G.2.1.1 100 Y2, cA a4 G.2.1.1 100 V2, cA a5 G.2.1.1 100 A2, cO b0 3 [vI r02, vI p02, vI q02, .ref b1], cA b1 G.2.1.2.1 101 g02, cO d0 3 [vI r12, vI p12, vI q12, .ref d1], cA d1 G.2.1.2.1 101 g12, cA e0 G.2.1.1 3 sl2] ∧ (RS f2 n2 tk2 ln2 tr2 lc2 lo2 ap2 rt2 dl2 r02 p02 q02 r12 p12 q12 sl2 g02 g12 K2 T2 Y2 V2 A2) ∧ ((z, f2) = sp_open f k)) := by
  refine fs_met (cc := cX4_openIn) (nL := 2) (ret := (some .int)) (by decide) rfl (Nat.le_of_ble_eq_true rfl) ?_
  intro X C E
  show fSt l G X 0 0 0 [(0, .ref s0), (1, vI k)] [] [cO s0 4 [.ref a0, .ref b0, .ref d0, .ref e0, vI tk, vI ln, vI tr, vI lc, vI lo, vI ap, vI rt, vI dl], cO a0 1 [vI n, .ref a1, .ref a2, .ref a3, .ref a4, .ref a5], cA a1 G.2.1.1 100 K, cA a2 G.2.1.1 100 T, cA a3 G.2.1.1 100 Y, cA a4 G.2.1.1 100 V, cA a5 G.2.1.1 100 A, cO b0 3 [vI r0, vI p0, vI q0, .ref b1], cA b1 G.2.1.2.1 101 g0, cO d0 3 [vI r1, vI p1, vI q1, .ref d1], cA d1 G.2.1.2.1 101 g1, cA e0 G.2.1.1 3 sl]
  have hinX4 : ∀ w ∈ u_ws RX4 TX4 12, w ∈ wsX4_openIn := by decide +kernel
  obtain ⟨hn, htk, hln, htr, hlc, hlo, hap, hrt, hdl, hS0, hS1⟩ := hR.scal hI
  have hK := hR.hrK
  have hT := hR.hrT
  have hY := hR.hrY
  have hV := hR.hrV
  have hA := hR.hrA
  have hsl := hR.hrs
  have hg0 := hR.hG0
  have hg1 := hR.hG1
  have hb0 := hR.b0
  have hb1 := hR.b1
  refine s_iload_n 1 C dX4_openIn_0 rfl 1 rfl ?_
  refine s_callSN (As := [vI k]) (rest := []) (host := RX6) C dX4_openIn_1 (c_X6_isSlot l G k (by first | assumption | omega)) gX4_openIn_X6_isSlot_n60 (by decide +kernel) (by decide +kernel) (by decide +kernel) rfl 1 (by decide +kernel) (by decide) [] rfl (by decide) rfl (Nat.le_of_ble_eq_true rfl) ⟨Nat.zero_le _, Nat.zero_le _⟩ ?_
  intro v0 w0 hq
  obtain ⟨rfl, rfl⟩ := hq
  refine ⟨rfl, ?_⟩
  show fSt l G X 0 0 4 [(0, .ref s0), (1, vI k)] [vI (bI (0 ≤ k ∧ k ≤ 2))] [cO s0 4 [.ref a0, .ref b0, .ref d0, .ref e0, vI tk, vI ln, vI tr, vI lc, vI lo, vI ap, vI rt, vI dl], cO a0 1 [vI n, .ref a1, .ref a2, .ref a3, .ref a4, .ref a5], cA a1 G.2.1.1 100 K, cA a2 G.2.1.1 100 T, cA a3 G.2.1.1 100 Y, cA a4 G.2.1.1 100 V, cA a5 G.2.1.1 100 A, cO b0 3 [vI r0, vI p0, vI q0, .ref b1], cA b1 G.2.1.2.1 101 g0, cO d0 3 [vI r1, vI p1, vI q1, .ref d1], cA d1 G.2.1.2.1 101 g1, cA e0 G.2.1.1 3 sl]
  refine s_if_ne 10 C dX4_openIn_4 (by decide) bI_rng (fun h_4 => ?_) (fun h_4 => ?_)
  · have h_4 := bI_t h_4
    have hs9 := hR.hsl k h_4.1 h_4.2
    have hs8 := hI.sl k h_4.1 h_4.2
    refine s_aload_n 0 C dX4_openIn_10 rfl 0 rfl ?_
    refine s_get C dX4_openIn_11 4 rfl hinX4 0 rfl 3 (by decide) (by decide +kernel) rfl ?_
    refine s_iload_n 1 C dX4_openIn_14 rfl 1 rfl ?_
    refine s_iald C dX4_openIn_15 11 rfl k rfl (by omega) (by omega) (by omega) ?_
    refine s_if_eq 22 C dX4_openIn_16 (by decide) (hsl _) (fun h_16 => ?_) (fun h_16 => ?_)
    · refine s_aload_n 0 C dX4_openIn_22 rfl 0 rfl ?_
      refine s_dup C dX4_openIn_23 rfl ?_
      refine s_get C dX4_openIn_24 4 rfl hinX4 0 rfl 6 (by decide) (by decide +kernel) rfl ?_
      refine s_iconst C dX4_openIn_27 ?_
      refine s_iadd C dX4_openIn_28 ?_
      refine s_put [cO s0 4 [.ref a0, .ref b0, .ref d0, .ref e0, vI tk, vI ln, vI (tr + 1), vI lc, vI lo, vI ap, vI rt, vI dl], cO a0 1 [vI n, .ref a1, .ref a2, .ref a3, .ref a4, .ref a5], cA a1 G.2.1.1 100 K, cA a2 G.2.1.1 100 T, cA a3 G.2.1.1 100 Y, cA a4 G.2.1.1 100 V, cA a5 G.2.1.1 100 A, cO b0 3 [vI r0, vI p0, vI q0, .ref b1], cA b1 G.2.1.2.1 101 g0, cO d0 3 [vI r1, vI p1, vI q1, .ref d1], cA d1 G.2.1.2.1 101 g1, cA e0 G.2.1.1 3 sl] C dX4_openIn_29 4 rfl hinX4 tyX4 tyX4_ok nmX4 0 rfl 6 (by decide) (by decide +kernel) rfl rfl rfl (Nat.le_of_ble_eq_true rfl) rfl ?_
      refine s_aload_n 0 C dX4_openIn_32 rfl 0 rfl ?_
      refine s_get C dX4_openIn_33 4 rfl hinX4 0 rfl 3 (by decide) (by decide +kernel) rfl ?_
      refine s_iload_n 1 C dX4_openIn_36 rfl 1 rfl ?_
      refine s_aload_n 0 C dX4_openIn_37 rfl 0 rfl ?_
      refine s_get C dX4_openIn_38 4 rfl hinX4 0 rfl 6 (by decide) (by decide +kernel) rfl ?_
      refine s_iast [cO s0 4 [.ref a0, .ref b0, .ref d0, .ref e0, vI tk, vI ln, vI (tr + 1), vI lc, vI lo, vI ap, vI rt, vI dl], cO a0 1 [vI n, .ref a1, .ref a2, .ref a3, .ref a4, .ref a5], cA a1 G.2.1.1 100 K, cA a2 G.2.1.1 100 T, cA a3 G.2.1.1 100 Y, cA a4 G.2.1.1 100 V, cA a5 G.2.1.1 100 A, cO b0 3 [vI r0, vI p0, vI q0, .ref b1], cA b1 G.2.1.2.1 101 g0, cO d0 3 [vI r1, vI p1, vI q1, .ref d1], cA d1 G.2.1.2.1 101 g1, cA e0 G.2.1.1 3 (uZ sl k (tr + 1))] C dX4_openIn_41 11 rfl k rfl (by omega) (by omega) (by omega) rfl ?_
      refine s_aload_n 0 C dX4_openIn_42 rfl 0 rfl ?_
      refine s_get C dX4_openIn_43 4 rfl hinX4 0 rfl 6 (by decide) (by decide +kernel) rfl ?_
      exact s_iret C E dX4_openIn_46 ⟨(tr + 1), (uZ (uZ f 3 (tr + 1)) (k + 9) (tr + 1)), n, tk, ln, (tr + 1), lc, lo, ap, rt, dl, r0, p0, q0, r1, p1, q1, (uZ sl k (tr + 1)), g0, g1, K, T, Y, V, A, rfl, rfl, ((hR.s_tr (z := tr + 1)).s_sl h_4 (by omega)), (by rw [sp_open, if_pos (by omega), if_neg (by omega), hR.e_tr])⟩
    · refine s_ldc (z := -1000002) C (by decide +kernel) dX4_openIn_19 ?_
      exact s_iret C E dX4_openIn_21 ⟨(-1000002), f, n, tk, ln, tr, lc, lo, ap, rt, dl, r0, p0, q0, r1, p1, q1, sl, g0, g1, K, T, Y, V, A, rfl, rfl, hR, (by rw [sp_open, if_pos (by omega), if_pos (by omega)])⟩
  · have h_4 := bI_f h_4
    refine s_ldc (z := -1000001) C (by decide +kernel) dX4_openIn_7 ?_
    exact s_iret C E dX4_openIn_9 ⟨(-1000001), f, n, tk, ln, tr, lc, lo, ap, rt, dl, r0, p0, q0, r1, p1, q1, sl, g0, g1, K, T, Y, V, A, rfl, rfl, hR, (by rw [sp_open, if_neg (by omega)])⟩

set_option maxHeartbeats 4000000 in
set_option maxRecDepth 100000 in
theorem c_X4_write (l : Launch) (G : fG) (s0 a0 a1 a2 a3 a4 a5 : Nat) (y1 y2 y3 : Value) (xs : List Value) (tk n : Int) (K T Y V A : Int → Int) (kd t y x : Int) (hn : 0 ≤ n ∧ n ≤ 100) (ht : -2147483648 ≤ t ∧ t < 2147483648) : fCt l G yX4_write wsX4_write 1 26 0 0 [.ref s0, vI kd, vI t, vI y, vI x] [cO s0 4 (.ref a0 :: y1 :: y2 :: y3 :: vI tk :: xs), cO a0 1 [vI n, .ref a1, .ref a2, .ref a3, .ref a4, .ref a5], cA a1 G.2.1.1 100 K, cA a2 G.2.1.1 100 T, cA a3 G.2.1.1 100 Y, cA a4 G.2.1.1 100 V, cA a5 G.2.1.1 100 A] (fun (v0 : Option Value) (w0 : va_W) => ∃ (z n2 : Int) (K2 T2 Y2 V2 A2 : Int → Int), v0 = some (vI z) ∧ w0 = [cO s0 4 (.ref a0 :: y1 :: y2 :: y3 :: vI tk :: xs), cO a0 1 [vI n2, .ref a1, .ref a2, .ref a3, .ref a4, .ref a5], cA a1 G.2.1.1 100 K2, cA a2 G.2.1.1 100 T2, cA a3 G.2.1.1 100 Y2, cA a4 G.2.1.1 100 V2, cA a5 G.2.1.1 100 A2] ∧ (wrt n z n2 kd t y x tk K T Y V A K2 T2 Y2 V2 A2)) := by
  refine fs_met (cc := cX4_write) (nL := 5) (ret := (some .int)) (by decide) rfl (Nat.le_of_ble_eq_true rfl) ?_
  intro X C E
  show fSt l G X 0 0 0 [(0, .ref s0), (1, vI kd), (2, vI t), (3, vI y), (4, vI x)] [] [cO s0 4 (.ref a0 :: y1 :: y2 :: y3 :: vI tk :: xs), cO a0 1 [vI n, .ref a1, .ref a2, .ref a3, .ref a4, .ref a5], cA a1 G.2.1.1 100 K, cA a2 G.2.1.1 100 T, cA a3 G.2.1.1 100 Y, cA a4 G.2.1.1 100 V, cA a5 G.2.1.1 100 A]
  have hinX4 : ∀ w ∈ u_ws RX4 TX4 12, w ∈ wsX4_write := by decide +kernel
  refine s_iload_n 2 C dX4_write_0 rfl 2 rfl ?_
  refine s_if_ne 7 C dX4_write_1 (by decide) (by omega) (fun h_1 => ?_) (fun h_1 => ?_)
  · refine s_aload_n 0 C dX4_write_7 rfl 0 rfl ?_
    refine s_get C dX4_write_8 4 rfl hinX4 0 rfl 0 (by decide) (by decide +kernel) rfl ?_
    refine s_iload_n 1 C dX4_write_11 rfl 1 rfl ?_
    refine s_iload_n 2 C dX4_write_12 rfl 2 rfl ?_
    refine s_iload_n 3 C dX4_write_13 rfl 3 rfl ?_
    refine s_iload C dX4_write_14 4 rfl ?_
    refine s_aload_n 0 C dX4_write_16 rfl 0 rfl ?_
    refine s_get C dX4_write_17 4 rfl hinX4 0 rfl 4 (by decide) (by decide +kernel) rfl ?_
    refine s_callV (As := [vI kd, vI t, vI y, vI x, vI tk]) (rest := []) C dX4_write_20 (c_X1_append l G a0 a1 a2 a3 a4 a5 n K T Y V A kd t y x tk (by first | assumption | omega)) gX4_write_X1_append rfl 5 (by decide +kernel) (by decide) 1 1 rfl rfl rfl [1, 2, 3, 4, 5, 6] rfl (by decide) rfl (Nat.le_of_ble_eq_true rfl) ⟨Nat.zero_le _, Nat.zero_le _⟩ ?_
    intro v0 w0 hq
    obtain ⟨z_20, n2_20, K2_20, T2_20, Y2_20, V2_20, A2_20, rfl, rfl, hq0_20⟩ := hq
    refine ⟨rfl, ?_⟩
    show fSt l G X 0 0 23 [(0, .ref s0), (1, vI kd), (2, vI t), (3, vI y), (4, vI x)] [vI z_20] [cO s0 4 (.ref a0 :: y1 :: y2 :: y3 :: vI tk :: xs), cO a0 1 [vI n2_20, .ref a1, .ref a2, .ref a3, .ref a4, .ref a5], cA a1 G.2.1.1 100 K2_20, cA a2 G.2.1.1 100 T2_20, cA a3 G.2.1.1 100 Y2_20, cA a4 G.2.1.1 100 V2_20, cA a5 G.2.1.1 100 A2_20]
    exact s_iret C E dX4_write_23 ⟨z_20, n2_20, K2_20, T2_20, Y2_20, V2_20, A2_20, rfl, rfl, Or.inr ⟨by omega, hq0_20⟩⟩
  · refine s_ldc (z := -1000002) C (by decide +kernel) dX4_write_4 ?_
    exact s_iret C E dX4_write_6 ⟨(-1000002), n, K, T, Y, V, A, rfl, rfl, Or.inl ⟨by omega, rfl, rfl, rfl, rfl, rfl, rfl, rfl⟩⟩

set_option maxHeartbeats 4000000 in
set_option maxRecDepth 100000 in
theorem c_X4_putBy (l : Launch) (G : fG) (s0 a0 a1 a2 a3 a4 a5 b0 b1 d0 d1 e0 : Nat) (B : Int) (f : Int → Int) (n tk ln tr lc lo ap rt dl r0 p0 q0 r1 p1 q1 : Int) (sl g0 g1 K T Y V A : Int → Int) (k y x : Int) (hR : RS f n tk ln tr lc lo ap rt dl r0 p0 q0 r1 p1 q1 sl g0 g1 K T Y V A) (hI : Inv B f) (hB : B ≤ 1073000000) (hk : -2147483648 ≤ k ∧ k < 2147483648) (hy : -2147483648 ≤ y ∧ y < 2147483648) (hx : -2147483648 ≤ x ∧ x < 2147483648) : fCt l G yX4_putBy wsX4_putBy 2 50 0 0 [.ref s0, vI k, vI y, vI x] [cO s0 4 [.ref a0, .ref b0, .ref d0, .ref e0, vI tk, vI ln, vI tr, vI lc, vI lo, vI ap, vI rt, vI dl], cO a0 1 [vI n, .ref a1, .ref a2, .ref a3, .ref a4, .ref a5], cA a1 G.2.1.1 100 K, cA a2 G.2.1.1 100 T, cA a3 G.2.1.1 100 Y, cA a4 G.2.1.1 100 V, cA a5 G.2.1.1 100 A, cO b0 3 [vI r0, vI p0, vI q0, .ref b1], cA b1 G.2.1.2.1 101 g0, cO d0 3 [vI r1, vI p1, vI q1, .ref d1], cA d1 G.2.1.2.1 101 g1, cA e0 G.2.1.1 3 sl] (fun (v0 : Option Value) (w0 : va_W) => ∃ (z : Int) (f2 : Int → Int) (n2 tk2 ln2 tr2 lc2 lo2 ap2 rt2 dl2 r02 p02 q02 r12 p12 q12 : Int) (sl2 g02 g12 K2 T2 Y2 V2 A2 : Int → Int), v0 = some (vI z) ∧ w0 = [cO s0 4 [.ref a0, .ref b0, .ref d0, .ref e0, vI tk2, vI ln2, vI tr2, vI lc2, vI lo2, vI ap2, vI rt2, vI dl2], cO a0 1 [vI n2, .ref a1, .ref a2, .ref a3, .ref a4, .ref a5], cA a1 G.2.1.1 100 K2, cA a2 G.2.1.1 100 T2, cA a3 G.2.1.1 100 Y2, cA a4 G.2.1.1 100 V2, cA a5 G.2.1.1 100 A2, cO b0 3 [vI r02, vI p02, vI q02, .ref b1], cA b1 G.2.1.2.1 101 g02, cO d0 3 [vI r12, vI p12, vI q12, .ref d1], cA d1 G.2.1.2.1 101 g12, cA e0 G.2.1.1 3 sl2] ∧ (RS f2 n2 tk2 ln2 tr2 lc2 lo2 ap2 rt2 dl2 r02 p02 q02 r12 p12 q12 sl2 g02 g12 K2 T2 Y2 V2 A2) ∧ ((z, f2) = sp_put f k y x)) := by
  refine fs_met (cc := cX4_putBy) (nL := 4) (ret := (some .int)) (by decide) rfl (Nat.le_of_ble_eq_true rfl) ?_
  intro X C E
  show fSt l G X 0 0 0 [(0, .ref s0), (1, vI k), (2, vI y), (3, vI x)] [] [cO s0 4 [.ref a0, .ref b0, .ref d0, .ref e0, vI tk, vI ln, vI tr, vI lc, vI lo, vI ap, vI rt, vI dl], cO a0 1 [vI n, .ref a1, .ref a2, .ref a3, .ref a4, .ref a5], cA a1 G.2.1.1 100 K, cA a2 G.2.1.1 100 T, cA a3 G.2.1.1 100 Y, cA a4 G.2.1.1 100 V, cA a5 G.2.1.1 100 A, cO b0 3 [vI r0, vI p0, vI q0, .ref b1], cA b1 G.2.1.2.1 101 g0, cO d0 3 [vI r1, vI p1, vI q1, .ref d1], cA d1 G.2.1.2.1 101 g1, cA e0 G.2.1.1 3 sl]
  have hinX4 : ∀ w ∈ u_ws RX4 TX4 12, w ∈ wsX4_putBy := by decide +kernel
  obtain ⟨hn, htk, hln, htr, hlc, hlo, hap, hrt, hdl, hS0, hS1⟩ := hR.scal hI
  have hK := hR.hrK
  have hT := hR.hrT
  have hY := hR.hrY
  have hV := hR.hrV
  have hA := hR.hrA
  have hsl := hR.hrs
  have hg0 := hR.hG0
  have hg1 := hR.hG1
  have hb0 := hR.b0
  have hb1 := hR.b1
  refine s_iload_n 1 C dX4_putBy_0 rfl 1 rfl ?_
  refine s_callSN (As := [vI k]) (rest := []) (host := RX6) C dX4_putBy_1 (c_X6_isSlot l G k (by first | assumption | omega)) gX4_putBy_X6_isSlot_n60 (by decide +kernel) (by decide +kernel) (by decide +kernel) rfl 1 (by decide +kernel) (by decide) [] rfl (by decide) rfl (Nat.le_of_ble_eq_true rfl) ⟨Nat.zero_le _, Nat.zero_le _⟩ ?_
  intro v0 w0 hq
  obtain ⟨rfl, rfl⟩ := hq
  refine ⟨rfl, ?_⟩
  show fSt l G X 0 0 4 [(0, .ref s0), (1, vI k), (2, vI y), (3, vI x)] [vI (bI (0 ≤ k ∧ k ≤ 2))] [cO s0 4 [.ref a0, .ref b0, .ref d0, .ref e0, vI tk, vI ln, vI tr, vI lc, vI lo, vI ap, vI rt, vI dl], cO a0 1 [vI n, .ref a1, .ref a2, .ref a3, .ref a4, .ref a5], cA a1 G.2.1.1 100 K, cA a2 G.2.1.1 100 T, cA a3 G.2.1.1 100 Y, cA a4 G.2.1.1 100 V, cA a5 G.2.1.1 100 A, cO b0 3 [vI r0, vI p0, vI q0, .ref b1], cA b1 G.2.1.2.1 101 g0, cO d0 3 [vI r1, vI p1, vI q1, .ref d1], cA d1 G.2.1.2.1 101 g1, cA e0 G.2.1.1 3 sl]
  refine s_if_eq 25 C dX4_putBy_4 (by decide) bI_rng (fun h_4 => ?_) (fun h_4 => ?_)
  · have h_4 := bI_f h_4
    refine s_ldc (z := -1000001) C (by decide +kernel) dX4_putBy_25 ?_
    exact s_iret C E dX4_putBy_27 ⟨(-1000001), f, n, tk, ln, tr, lc, lo, ap, rt, dl, r0, p0, q0, r1, p1, q1, sl, g0, g1, K, T, Y, V, A, rfl, rfl, hR, (sp_put_bad (by omega))⟩
  · have h_4 := bI_t h_4
    refine s_iload_n 2 C dX4_putBy_7 rfl 2 rfl ?_
    refine s_callSN (As := [vI y]) (rest := []) (host := RX6) C dX4_putBy_8 (c_X6_isKey l G y (by first | assumption | omega)) gX4_putBy_X6_isKey_n66 (by decide +kernel) (by decide +kernel) (by decide +kernel) rfl 1 (by decide +kernel) (by decide) [] rfl (by decide) rfl (Nat.le_of_ble_eq_true rfl) ⟨Nat.zero_le _, Nat.zero_le _⟩ ?_
    intro v0 w0 hq
    obtain ⟨rfl, rfl⟩ := hq
    refine ⟨rfl, ?_⟩
    show fSt l G X 0 0 11 [(0, .ref s0), (1, vI k), (2, vI y), (3, vI x)] [vI (bI (0 ≤ y ∧ y ≤ 23))] [cO s0 4 [.ref a0, .ref b0, .ref d0, .ref e0, vI tk, vI ln, vI tr, vI lc, vI lo, vI ap, vI rt, vI dl], cO a0 1 [vI n, .ref a1, .ref a2, .ref a3, .ref a4, .ref a5], cA a1 G.2.1.1 100 K, cA a2 G.2.1.1 100 T, cA a3 G.2.1.1 100 Y, cA a4 G.2.1.1 100 V, cA a5 G.2.1.1 100 A, cO b0 3 [vI r0, vI p0, vI q0, .ref b1], cA b1 G.2.1.2.1 101 g0, cO d0 3 [vI r1, vI p1, vI q1, .ref d1], cA d1 G.2.1.2.1 101 g1, cA e0 G.2.1.1 3 sl]
    refine s_if_eq 25 C dX4_putBy_11 (by decide) bI_rng (fun h_11 => ?_) (fun h_11 => ?_)
    · have h_11 := bI_f h_11
      refine s_ldc (z := -1000001) C (by decide +kernel) dX4_putBy_25 ?_
      exact s_iret C E dX4_putBy_27 ⟨(-1000001), f, n, tk, ln, tr, lc, lo, ap, rt, dl, r0, p0, q0, r1, p1, q1, sl, g0, g1, K, T, Y, V, A, rfl, rfl, hR, (sp_put_bad (by omega))⟩
    · have h_11 := bI_t h_11
      refine s_iload_n 3 C dX4_putBy_14 rfl 3 rfl ?_
      refine s_if_lt 25 C dX4_putBy_15 (by decide) (by omega) (fun h_15 => ?_) (fun h_15 => ?_)
      · refine s_ldc (z := -1000001) C (by decide +kernel) dX4_putBy_25 ?_
        exact s_iret C E dX4_putBy_27 ⟨(-1000001), f, n, tk, ln, tr, lc, lo, ap, rt, dl, r0, p0, q0, r1, p1, q1, sl, g0, g1, K, T, Y, V, A, rfl, rfl, hR, (sp_put_bad (by omega))⟩
      · refine s_iload_n 3 C dX4_putBy_18 rfl 3 rfl ?_
        refine s_sipush (z := 999) C dX4_putBy_19 rfl ?_
        refine s_icmp_le 28 C dX4_putBy_22 (by decide) (by omega) (by omega) (fun h_22 => ?_) (fun h_22 => ?_)
        · refine s_aload_n 0 C dX4_putBy_28 rfl 0 rfl ?_
          refine s_iconst C dX4_putBy_29 ?_
          refine s_aload_n 0 C dX4_putBy_30 rfl 0 rfl ?_
          refine s_get C dX4_putBy_31 4 rfl hinX4 0 rfl 3 (by decide) (by decide +kernel) rfl ?_
          refine s_iload_n 1 C dX4_putBy_34 rfl 1 rfl ?_
          refine s_iald C dX4_putBy_35 11 rfl k rfl (by omega) (by omega) (by omega) ?_
          refine s_iload_n 2 C dX4_putBy_36 rfl 2 rfl ?_
          refine s_iload_n 3 C dX4_putBy_37 rfl 3 rfl ?_
          refine s_callV (As := [vI 0, vI (sl k), vI y, vI x]) (rest := []) C dX4_putBy_38 (c_X4_write l G s0 a0 a1 a2 a3 a4 a5 (.ref b0) (.ref d0) (.ref e0) [vI ln, vI tr, vI lc, vI lo, vI ap, vI rt, vI dl] tk n K T Y V A 0 (sl k) y x (by first | assumption | omega) (hsl _)) gX4_putBy_X4_write rfl 4 (by decide +kernel) (by decide) 0 4 rfl rfl rfl [0, 1, 2, 3, 4, 5, 6] rfl (by decide) rfl (Nat.le_of_ble_eq_true rfl) ⟨Nat.zero_le _, Nat.zero_le _⟩ ?_
          intro v0 w0 hq
          obtain ⟨z_38, n2_38, K2_38, T2_38, Y2_38, V2_38, A2_38, rfl, rfl, hq0_38⟩ := hq
          refine ⟨rfl, ?_⟩
          show fSt l G X 0 0 41 [(0, .ref s0), (1, vI k), (2, vI y), (3, vI x)] [vI z_38] [cO s0 4 [.ref a0, .ref b0, .ref d0, .ref e0, vI tk, vI ln, vI tr, vI lc, vI lo, vI ap, vI rt, vI dl], cO a0 1 [vI n2_38, .ref a1, .ref a2, .ref a3, .ref a4, .ref a5], cA a1 G.2.1.1 100 K2_38, cA a2 G.2.1.1 100 T2_38, cA a3 G.2.1.1 100 Y2_38, cA a4 G.2.1.1 100 V2_38, cA a5 G.2.1.1 100 A2_38, cO b0 3 [vI r0, vI p0, vI q0, .ref b1], cA b1 G.2.1.2.1 101 g0, cO d0 3 [vI r1, vI p1, vI q1, .ref d1], cA d1 G.2.1.2.1 101 g1, cA e0 G.2.1.1 3 sl]
          exact s_iret C E dX4_putBy_41 ⟨z_38, ((sp_put f k y x).2), n2_38, tk, ln, tr, lc, lo, ap, rt, dl, r0, p0, q0, r1, p1, q1, sl, g0, g1, K2_38, T2_38, Y2_38, V2_38, A2_38, rfl, rfl, (put_rel hR hI hB (by omega) (by omega) (by omega) hq0_38).1, (put_rel hR hI hB (by omega) (by omega) (by omega) hq0_38).2⟩
        · refine s_ldc (z := -1000001) C (by decide +kernel) dX4_putBy_25 ?_
          exact s_iret C E dX4_putBy_27 ⟨(-1000001), f, n, tk, ln, tr, lc, lo, ap, rt, dl, r0, p0, q0, r1, p1, q1, sl, g0, g1, K, T, Y, V, A, rfl, rfl, hR, (sp_put_bad (by omega))⟩

set_option maxHeartbeats 4000000 in
set_option maxRecDepth 100000 in
theorem c_X4_endIn (l : Launch) (G : fG) (s0 a0 a1 a2 a3 a4 a5 b0 b1 d0 d1 e0 : Nat) (B : Int) (f : Int → Int) (n tk ln tr lc lo ap rt dl r0 p0 q0 r1 p1 q1 : Int) (sl g0 g1 K T Y V A : Int → Int) (k kd : Int) (hR : RS f n tk ln tr lc lo ap rt dl r0 p0 q0 r1 p1 q1 sl g0 g1 K T Y V A) (hI : Inv B f) (hB : B ≤ 1073000000) (hk : -2147483648 ≤ k ∧ k < 2147483648) (hkd : kd = 1 ∨ kd = 2) : fCt l G yX4_endIn wsX4_endIn 2 50 0 0 [.ref s0, vI k, vI kd] [cO s0 4 [.ref a0, .ref b0, .ref d0, .ref e0, vI tk, vI ln, vI tr, vI lc, vI lo, vI ap, vI rt, vI dl], cO a0 1 [vI n, .ref a1, .ref a2, .ref a3, .ref a4, .ref a5], cA a1 G.2.1.1 100 K, cA a2 G.2.1.1 100 T, cA a3 G.2.1.1 100 Y, cA a4 G.2.1.1 100 V, cA a5 G.2.1.1 100 A, cO b0 3 [vI r0, vI p0, vI q0, .ref b1], cA b1 G.2.1.2.1 101 g0, cO d0 3 [vI r1, vI p1, vI q1, .ref d1], cA d1 G.2.1.2.1 101 g1, cA e0 G.2.1.1 3 sl] (fun (v0 : Option Value) (w0 : va_W) => ∃ (z : Int) (f2 : Int → Int) (n2 tk2 ln2 tr2 lc2 lo2 ap2 rt2 dl2 r02 p02 q02 r12 p12 q12 : Int) (sl2 g02 g12 K2 T2 Y2 V2 A2 : Int → Int), v0 = some (vI z) ∧ w0 = [cO s0 4 [.ref a0, .ref b0, .ref d0, .ref e0, vI tk2, vI ln2, vI tr2, vI lc2, vI lo2, vI ap2, vI rt2, vI dl2], cO a0 1 [vI n2, .ref a1, .ref a2, .ref a3, .ref a4, .ref a5], cA a1 G.2.1.1 100 K2, cA a2 G.2.1.1 100 T2, cA a3 G.2.1.1 100 Y2, cA a4 G.2.1.1 100 V2, cA a5 G.2.1.1 100 A2, cO b0 3 [vI r02, vI p02, vI q02, .ref b1], cA b1 G.2.1.2.1 101 g02, cO d0 3 [vI r12, vI p12, vI q12, .ref d1], cA d1 G.2.1.2.1 101 g12, cA e0 G.2.1.1 3 sl2] ∧ (RS f2 n2 tk2 ln2 tr2 lc2 lo2 ap2 rt2 dl2 r02 p02 q02 r12 p12 q12 sl2 g02 g12 K2 T2 Y2 V2 A2) ∧ ((z, f2) = sp_end f kd k)) := by
  refine fs_met (cc := cX4_endIn) (nL := 4) (ret := (some .int)) (by decide) rfl (Nat.le_of_ble_eq_true rfl) ?_
  intro X C E
  show fSt l G X 0 0 0 [(0, .ref s0), (1, vI k), (2, vI kd)] [] [cO s0 4 [.ref a0, .ref b0, .ref d0, .ref e0, vI tk, vI ln, vI tr, vI lc, vI lo, vI ap, vI rt, vI dl], cO a0 1 [vI n, .ref a1, .ref a2, .ref a3, .ref a4, .ref a5], cA a1 G.2.1.1 100 K, cA a2 G.2.1.1 100 T, cA a3 G.2.1.1 100 Y, cA a4 G.2.1.1 100 V, cA a5 G.2.1.1 100 A, cO b0 3 [vI r0, vI p0, vI q0, .ref b1], cA b1 G.2.1.2.1 101 g0, cO d0 3 [vI r1, vI p1, vI q1, .ref d1], cA d1 G.2.1.2.1 101 g1, cA e0 G.2.1.1 3 sl]
  have hinX4 : ∀ w ∈ u_ws RX4 TX4 12, w ∈ wsX4_endIn := by decide +kernel
  obtain ⟨hn, htk, hln, htr, hlc, hlo, hap, hrt, hdl, hS0, hS1⟩ := hR.scal hI
  have hK := hR.hrK
  have hT := hR.hrT
  have hY := hR.hrY
  have hV := hR.hrV
  have hA := hR.hrA
  have hsl := hR.hrs
  have hg0 := hR.hG0
  have hg1 := hR.hG1
  have hb0 := hR.b0
  have hb1 := hR.b1
  refine s_iload_n 1 C dX4_endIn_0 rfl 1 rfl ?_
  refine s_callSN (As := [vI k]) (rest := []) (host := RX6) C dX4_endIn_1 (c_X6_isSlot l G k (by first | assumption | omega)) gX4_endIn_X6_isSlot_n60 (by decide +kernel) (by decide +kernel) (by decide +kernel) rfl 1 (by decide +kernel) (by decide) [] rfl (by decide) rfl (Nat.le_of_ble_eq_true rfl) ⟨Nat.zero_le _, Nat.zero_le _⟩ ?_
  intro v0 w0 hq
  obtain ⟨rfl, rfl⟩ := hq
  refine ⟨rfl, ?_⟩
  show fSt l G X 0 0 4 [(0, .ref s0), (1, vI k), (2, vI kd)] [vI (bI (0 ≤ k ∧ k ≤ 2))] [cO s0 4 [.ref a0, .ref b0, .ref d0, .ref e0, vI tk, vI ln, vI tr, vI lc, vI lo, vI ap, vI rt, vI dl], cO a0 1 [vI n, .ref a1, .ref a2, .ref a3, .ref a4, .ref a5], cA a1 G.2.1.1 100 K, cA a2 G.2.1.1 100 T, cA a3 G.2.1.1 100 Y, cA a4 G.2.1.1 100 V, cA a5 G.2.1.1 100 A, cO b0 3 [vI r0, vI p0, vI q0, .ref b1], cA b1 G.2.1.2.1 101 g0, cO d0 3 [vI r1, vI p1, vI q1, .ref d1], cA d1 G.2.1.2.1 101 g1, cA e0 G.2.1.1 3 sl]
  refine s_if_ne 10 C dX4_endIn_4 (by decide) bI_rng (fun h_4 => ?_) (fun h_4 => ?_)
  · have h_4 := bI_t h_4
    refine s_aload_n 0 C dX4_endIn_10 rfl 0 rfl ?_
    refine s_iload_n 2 C dX4_endIn_11 rfl 2 rfl ?_
    refine s_aload_n 0 C dX4_endIn_12 rfl 0 rfl ?_
    refine s_get C dX4_endIn_13 4 rfl hinX4 0 rfl 3 (by decide) (by decide +kernel) rfl ?_
    refine s_iload_n 1 C dX4_endIn_16 rfl 1 rfl ?_
    refine s_iald C dX4_endIn_17 11 rfl k rfl (by omega) (by omega) (by omega) ?_
    refine s_iconst C dX4_endIn_18 ?_
    refine s_iconst C dX4_endIn_19 ?_
    refine s_callV (As := [vI kd, vI (sl k), vI 0, vI 0]) (rest := []) C dX4_endIn_20 (c_X4_write l G s0 a0 a1 a2 a3 a4 a5 (.ref b0) (.ref d0) (.ref e0) [vI ln, vI tr, vI lc, vI lo, vI ap, vI rt, vI dl] tk n K T Y V A kd (sl k) 0 0 (by first | assumption | omega) (hsl _)) gX4_endIn_X4_write rfl 4 (by decide +kernel) (by decide) 0 4 rfl rfl rfl [0, 1, 2, 3, 4, 5, 6] rfl (by decide) rfl (Nat.le_of_ble_eq_true rfl) ⟨Nat.zero_le _, Nat.zero_le _⟩ ?_
    intro v0 w0 hq
    obtain ⟨z_20, n2_20, K2_20, T2_20, Y2_20, V2_20, A2_20, rfl, rfl, hq0_20⟩ := hq
    refine ⟨rfl, ?_⟩
    show fSt l G X 0 0 23 [(0, .ref s0), (1, vI k), (2, vI kd)] [vI z_20] [cO s0 4 [.ref a0, .ref b0, .ref d0, .ref e0, vI tk, vI ln, vI tr, vI lc, vI lo, vI ap, vI rt, vI dl], cO a0 1 [vI n2_20, .ref a1, .ref a2, .ref a3, .ref a4, .ref a5], cA a1 G.2.1.1 100 K2_20, cA a2 G.2.1.1 100 T2_20, cA a3 G.2.1.1 100 Y2_20, cA a4 G.2.1.1 100 V2_20, cA a5 G.2.1.1 100 A2_20, cO b0 3 [vI r0, vI p0, vI q0, .ref b1], cA b1 G.2.1.2.1 101 g0, cO d0 3 [vI r1, vI p1, vI q1, .ref d1], cA d1 G.2.1.2.1 101 g1, cA e0 G.2.1.1 3 sl]
    refine s_istore_n 3 [(3, vI z_20), (0, .ref s0), (1, vI k), (2, vI kd)] C dX4_endIn_23 rfl (by decide) rfl ?_
    refine s_iload_n 3 C dX4_endIn_24 rfl 0 rfl ?_
    refine s_iconst C dX4_endIn_25 ?_
    refine s_icmp_lt 36 C dX4_endIn_26 (by decide) (by rcases hq0_20 with q | ⟨-, q | q⟩ <;> omega) (by omega) (fun h_26 => ?_) (fun h_26 => ?_)
    · refine s_iload_n 3 C dX4_endIn_36 rfl 0 rfl ?_
      exact s_iret C E dX4_endIn_37 ⟨z_20, ((sp_end f kd k).2), n2_20, tk, ln, tr, lc, lo, ap, rt, dl, r0, p0, q0, r1, p1, q1, sl, g0, g1, K2_20, T2_20, Y2_20, V2_20, A2_20, rfl, rfl, (end_rel hR hI hB (by omega) hkd hq0_20 (if_neg (by omega)).symm).1, (end_rel hR hI hB (by omega) hkd hq0_20 (sl2 := sl) (if_neg (by omega)).symm).2⟩
    · refine s_aload_n 0 C dX4_endIn_29 rfl 1 rfl ?_
      refine s_get C dX4_endIn_30 4 rfl hinX4 0 rfl 3 (by decide) (by decide +kernel) rfl ?_
      refine s_iload_n 1 C dX4_endIn_33 rfl 2 rfl ?_
      refine s_iconst C dX4_endIn_34 ?_
      refine s_iast [cO s0 4 [.ref a0, .ref b0, .ref d0, .ref e0, vI tk, vI ln, vI tr, vI lc, vI lo, vI ap, vI rt, vI dl], cO a0 1 [vI n2_20, .ref a1, .ref a2, .ref a3, .ref a4, .ref a5], cA a1 G.2.1.1 100 K2_20, cA a2 G.2.1.1 100 T2_20, cA a3 G.2.1.1 100 Y2_20, cA a4 G.2.1.1 100 V2_20, cA a5 G.2.1.1 100 A2_20, cO b0 3 [vI r0, vI p0, vI q0, .ref b1], cA b1 G.2.1.2.1 101 g0, cO d0 3 [vI r1, vI p1, vI q1, .ref d1], cA d1 G.2.1.2.1 101 g1, cA e0 G.2.1.1 3 (uZ sl k 0)] C dX4_endIn_35 11 rfl k rfl (by omega) (by omega) (by omega) rfl ?_
      refine s_iload_n 3 C dX4_endIn_36 rfl 0 rfl ?_
      exact s_iret C E dX4_endIn_37 ⟨z_20, ((sp_end f kd k).2), n2_20, tk, ln, tr, lc, lo, ap, rt, dl, r0, p0, q0, r1, p1, q1, (uZ sl k 0), g0, g1, K2_20, T2_20, Y2_20, V2_20, A2_20, rfl, rfl, (end_rel hR hI hB (by omega) hkd hq0_20 (if_pos (by omega)).symm).1, (end_rel hR hI hB (by omega) hkd hq0_20 (sl2 := (uZ sl k 0)) (if_pos (by omega)).symm).2⟩
  · have h_4 := bI_f h_4
    refine s_ldc (z := -1000001) C (by decide +kernel) dX4_endIn_7 ?_
    exact s_iret C E dX4_endIn_9 ⟨(-1000001), f, n, tk, ln, tr, lc, lo, ap, rt, dl, r0, p0, q0, r1, p1, q1, sl, g0, g1, K, T, Y, V, A, rfl, rfl, hR, (sp_end_bad h_4)⟩

set_option maxHeartbeats 4000000 in
set_option maxRecDepth 100000 in
theorem c_X4_shipTo_0 (l : Launch) (G : fG) (s0 a0 a1 a2 a3 a4 a5 b0 b1 d0 d1 e0 : Nat) (B : Int) (f : Int → Int) (n tk ln tr lc lo ap rt dl r0 p0 q0 r1 p1 q1 : Int) (sl g0 g1 K T Y V A : Int → Int) (m : Int) (hR : RS f n tk ln tr lc lo ap rt dl r0 p0 q0 r1 p1 q1 sl g0 g1 K T Y V A) (hI : Inv B f) (hB : B ≤ 1073000000) (hm : -2147483648 ≤ m ∧ m < 2147483648) : fCt l G yX4_shipTo wsX4_shipTo 1 21 0 0 [.ref s0, vI 0, vI m] [cO s0 4 [.ref a0, .ref b0, .ref d0, .ref e0, vI tk, vI ln, vI tr, vI lc, vI lo, vI ap, vI rt, vI dl], cO a0 1 [vI n, .ref a1, .ref a2, .ref a3, .ref a4, .ref a5], cA a1 G.2.1.1 100 K, cA a2 G.2.1.1 100 T, cA a3 G.2.1.1 100 Y, cA a4 G.2.1.1 100 V, cA a5 G.2.1.1 100 A, cO b0 3 [vI r0, vI p0, vI q0, .ref b1], cA b1 G.2.1.2.1 101 g0, cO d0 3 [vI r1, vI p1, vI q1, .ref d1], cA d1 G.2.1.2.1 101 g1, cA e0 G.2.1.1 3 sl] (fun (v0 : Option Value) (w0 : va_W) => ∃ (z : Int) (f2 : Int → Int) (n2 tk2 ln2 tr2 lc2 lo2 ap2 rt2 dl2 r02 p02 q02 r12 p12 q12 : Int) (sl2 g02 g12 K2 T2 Y2 V2 A2 : Int → Int), v0 = some (vI z) ∧ w0 = [cO s0 4 [.ref a0, .ref b0, .ref d0, .ref e0, vI tk2, vI ln2, vI tr2, vI lc2, vI lo2, vI ap2, vI rt2, vI dl2], cO a0 1 [vI n2, .ref a1, .ref a2, .ref a3, .ref a4, .ref a5], cA a1 G.2.1.1 100 K2, cA a2 G.2.1.1 100 T2, cA a3 G.2.1.1 100 Y2, cA a4 G.2.1.1 100 V2, cA a5 G.2.1.1 100 A2, cO b0 3 [vI r02, vI p02, vI q02, .ref b1], cA b1 G.2.1.2.1 101 g02, cO d0 3 [vI r12, vI p12, vI q12, .ref d1], cA d1 G.2.1.2.1 101 g12, cA e0 G.2.1.1 3 sl2] ∧ (RS f2 n2 tk2 ln2 tr2 lc2 lo2 ap2 rt2 dl2 r02 p02 q02 r12 p12 q12 sl2 g02 g12 K2 T2 Y2 V2 A2) ∧ ((z, f2) = sp_ship f 0 m)) := by
  refine fs_met (cc := cX4_shipTo) (nL := 5) (ret := (some .int)) (by decide) rfl (Nat.le_of_ble_eq_true rfl) ?_
  intro X C E
  show fSt l G X 0 0 0 [(0, .ref s0), (1, vI 0), (2, vI m)] [] [cO s0 4 [.ref a0, .ref b0, .ref d0, .ref e0, vI tk, vI ln, vI tr, vI lc, vI lo, vI ap, vI rt, vI dl], cO a0 1 [vI n, .ref a1, .ref a2, .ref a3, .ref a4, .ref a5], cA a1 G.2.1.1 100 K, cA a2 G.2.1.1 100 T, cA a3 G.2.1.1 100 Y, cA a4 G.2.1.1 100 V, cA a5 G.2.1.1 100 A, cO b0 3 [vI r0, vI p0, vI q0, .ref b1], cA b1 G.2.1.2.1 101 g0, cO d0 3 [vI r1, vI p1, vI q1, .ref d1], cA d1 G.2.1.2.1 101 g1, cA e0 G.2.1.1 3 sl]
  have hinX1 : ∀ w ∈ u_ws RX1 TX1 6, w ∈ wsX4_shipTo := by decide +kernel
  have hinX3 : ∀ w ∈ u_ws RX3 TX3 4, w ∈ wsX4_shipTo := by decide +kernel
  have hinX4 : ∀ w ∈ u_ws RX4 TX4 12, w ∈ wsX4_shipTo := by decide +kernel
  obtain ⟨hn, htk, hln, htr, hlc, hlo, hap, hrt, hdl, hS0, hS1⟩ := hR.scal hI
  have hK := hR.hrK
  have hT := hR.hrT
  have hY := hR.hrY
  have hV := hR.hrV
  have hA := hR.hrA
  have hsl := hR.hrs
  have hg0 := hR.hG0
  have hg1 := hR.hG1
  have hb0 := hR.b0
  have hb1 := hR.b1
  refine s_iload_n 1 C dX4_shipTo_0 rfl 1 rfl ?_
  refine s_callSN (As := [vI 0]) (rest := []) (host := RX6) C dX4_shipTo_1 (c_X6_isStandby l G 0 (by first | assumption | omega)) gX4_shipTo_X6_isStandby_n77 (by decide +kernel) (by decide +kernel) (by decide +kernel) rfl 1 (by decide +kernel) (by decide) [] rfl (by decide) rfl (Nat.le_of_ble_eq_true rfl) ⟨Nat.zero_le _, Nat.zero_le _⟩ ?_
  intro v0 w0 hq
  obtain ⟨rfl, rfl⟩ := hq
  refine ⟨rfl, ?_⟩
  show fSt l G X 0 0 4 [(0, .ref s0), (1, vI 0), (2, vI m)] [vI (bI (0 ≤ 0 ∧ 0 ≤ 1))] [cO s0 4 [.ref a0, .ref b0, .ref d0, .ref e0, vI tk, vI ln, vI tr, vI lc, vI lo, vI ap, vI rt, vI dl], cO a0 1 [vI n, .ref a1, .ref a2, .ref a3, .ref a4, .ref a5], cA a1 G.2.1.1 100 K, cA a2 G.2.1.1 100 T, cA a3 G.2.1.1 100 Y, cA a4 G.2.1.1 100 V, cA a5 G.2.1.1 100 A, cO b0 3 [vI r0, vI p0, vI q0, .ref b1], cA b1 G.2.1.2.1 101 g0, cO d0 3 [vI r1, vI p1, vI q1, .ref d1], cA d1 G.2.1.2.1 101 g1, cA e0 G.2.1.1 3 sl]
  refine s_if_eq 18 C dX4_shipTo_4 (by decide) bI_rng (fun h_4 => ?_) (fun h_4 => ?_)
  · have h_4 := bI_f h_4
    refine s_ldc (z := -1000001) C (by decide +kernel) dX4_shipTo_18 ?_
    exact s_iret C E dX4_shipTo_20 ⟨(-1000001), f, n, tk, ln, tr, lc, lo, ap, rt, dl, r0, p0, q0, r1, p1, q1, sl, g0, g1, K, T, Y, V, A, rfl, rfl, hR, (by rw [sp_ship, if_neg (by omega)])⟩
  · have h_4 := bI_t h_4
    refine s_iload_n 2 C dX4_shipTo_7 rfl 2 rfl ?_
    refine s_iconst C dX4_shipTo_8 ?_
    refine s_icmp_lt 18 C dX4_shipTo_9 (by decide) (by omega) (by omega) (fun h_9 => ?_) (fun h_9 => ?_)
    · refine s_ldc (z := -1000001) C (by decide +kernel) dX4_shipTo_18 ?_
      exact s_iret C E dX4_shipTo_20 ⟨(-1000001), f, n, tk, ln, tr, lc, lo, ap, rt, dl, r0, p0, q0, r1, p1, q1, sl, g0, g1, K, T, Y, V, A, rfl, rfl, hR, (by rw [sp_ship, if_neg (by omega)])⟩
    · refine s_iload_n 2 C dX4_shipTo_12 rfl 2 rfl ?_
      refine s_bipush (z := 20) C dX4_shipTo_13 rfl ?_
      refine s_icmp_le 21 C dX4_shipTo_15 (by decide) (by omega) (by omega) (fun h_15 => ?_) (fun h_15 => ?_)
      · refine s_aload_n 0 C dX4_shipTo_21 rfl 0 rfl ?_
        refine s_iload_n 1 C dX4_shipTo_22 rfl 1 rfl ?_
        refine s_callV (As := [vI 0]) (rest := []) C dX4_shipTo_23 (c_X4_standby0 l G s0 a0 b0 d0 [.ref e0, vI tk, vI ln, vI tr, vI lc, vI lo, vI ap, vI rt, vI dl] 0 (by first | assumption | omega)) gX4_shipTo_X4_standby rfl 1 (by decide +kernel) (by decide) 0 4 rfl rfl rfl [0] rfl (by decide) rfl (Nat.le_of_ble_eq_true rfl) ⟨Nat.zero_le _, Nat.zero_le _⟩ ?_
        intro v0 w0 hq
        obtain ⟨rfl, rfl⟩ := hq
        refine ⟨rfl, ?_⟩
        show fSt l G X 0 0 26 [(0, .ref s0), (1, vI 0), (2, vI m)] [.ref b0] [cO s0 4 [.ref a0, .ref b0, .ref d0, .ref e0, vI tk, vI ln, vI tr, vI lc, vI lo, vI ap, vI rt, vI dl], cO a0 1 [vI n, .ref a1, .ref a2, .ref a3, .ref a4, .ref a5], cA a1 G.2.1.1 100 K, cA a2 G.2.1.1 100 T, cA a3 G.2.1.1 100 Y, cA a4 G.2.1.1 100 V, cA a5 G.2.1.1 100 A, cO b0 3 [vI r0, vI p0, vI q0, .ref b1], cA b1 G.2.1.2.1 101 g0, cO d0 3 [vI r1, vI p1, vI q1, .ref d1], cA d1 G.2.1.2.1 101 g1, cA e0 G.2.1.1 3 sl]
        refine s_astore_n 3 [(3, .ref b0), (0, .ref s0), (1, vI 0), (2, vI m)] C dX4_shipTo_26 rfl (by decide) rfl ?_
        refine s_aload_n 3 C dX4_shipTo_27 rfl 0 rfl ?_
        refine s_get C dX4_shipTo_28 3 rfl hinX3 7 rfl 2 (by decide) (by decide +kernel) rfl ?_
        refine s_if_eq 37 C dX4_shipTo_31 (by decide) (by omega) (fun h_31 => ?_) (fun h_31 => ?_)
        · refine s_iload_n 2 C dX4_shipTo_37 rfl 3 rfl ?_
          refine s_aload_n 0 C dX4_shipTo_38 rfl 1 rfl ?_
          refine s_get C dX4_shipTo_39 4 rfl hinX4 0 rfl 0 (by decide) (by decide +kernel) rfl ?_
          refine s_get C dX4_shipTo_42 1 rfl hinX1 1 rfl 0 (by decide) (by decide +kernel) rfl ?_
          refine s_aload_n 3 C dX4_shipTo_45 rfl 0 rfl ?_
          refine s_get C dX4_shipTo_46 3 rfl hinX3 7 rfl 0 (by decide) (by decide +kernel) rfl ?_
          refine s_isub C dX4_shipTo_49 ?_
          refine s_mmin C dX4_shipTo_50 (by decide +kernel) (by decide +kernel) (by decide +kernel) (by decide +kernel) (by decide) (Nat.le_of_ble_eq_true rfl) ⟨Nat.zero_le _, Nat.zero_le _⟩ (by omega) (by omega) ?_
          refine s_istore [(4, vI (if n - r0 < m then n - r0 else m)), (3, .ref b0), (0, .ref s0), (1, vI 0), (2, vI m)] C dX4_shipTo_53 (by decide) rfl ?_
          refine s_aload_n 3 C dX4_shipTo_55 rfl 1 rfl ?_
          refine s_dup C dX4_shipTo_56 rfl ?_
          refine s_get C dX4_shipTo_57 3 rfl hinX3 7 rfl 0 (by decide) (by decide +kernel) rfl ?_
          refine s_iload C dX4_shipTo_60 0 rfl ?_
          refine s_iadd C dX4_shipTo_62 ?_
          refine s_put [cO s0 4 [.ref a0, .ref b0, .ref d0, .ref e0, vI tk, vI ln, vI tr, vI lc, vI lo, vI ap, vI rt, vI dl], cO a0 1 [vI n, .ref a1, .ref a2, .ref a3, .ref a4, .ref a5], cA a1 G.2.1.1 100 K, cA a2 G.2.1.1 100 T, cA a3 G.2.1.1 100 Y, cA a4 G.2.1.1 100 V, cA a5 G.2.1.1 100 A, cO b0 3 [vI (r0 + (if n - r0 < m then n - r0 else m)), vI p0, vI q0, .ref b1], cA b1 G.2.1.2.1 101 g0, cO d0 3 [vI r1, vI p1, vI q1, .ref d1], cA d1 G.2.1.2.1 101 g1, cA e0 G.2.1.1 3 sl] C dX4_shipTo_63 3 rfl hinX3 tyX3 tyX3_ok nmX3 7 rfl 0 (by decide) (by decide +kernel) rfl rfl rfl (Nat.le_of_ble_eq_true rfl) rfl ?_
          refine s_iload C dX4_shipTo_66 0 rfl ?_
          exact s_iret C E dX4_shipTo_68 ⟨(if n - r0 < m then n - r0 else m), (uZ f 12 (r0 + (if n - r0 < m then n - r0 else m))), n, tk, ln, tr, lc, lo, ap, rt, dl, (r0 + (if n - r0 < m then n - r0 else m)), p0, q0, r1, p1, q1, sl, g0, g1, K, T, Y, V, A, rfl, rfl, (hR.s_r0), (ship_0 hR (by omega) (by omega))⟩
        · refine s_ldc (z := -1000002) C (by decide +kernel) dX4_shipTo_34 ?_
          exact s_iret C E dX4_shipTo_36 ⟨(-1000002), f, n, tk, ln, tr, lc, lo, ap, rt, dl, r0, p0, q0, r1, p1, q1, sl, g0, g1, K, T, Y, V, A, rfl, rfl, hR, (by rw [sp_ship, if_pos (by omega), if_pos (by omega)])⟩
      · refine s_ldc (z := -1000001) C (by decide +kernel) dX4_shipTo_18 ?_
        exact s_iret C E dX4_shipTo_20 ⟨(-1000001), f, n, tk, ln, tr, lc, lo, ap, rt, dl, r0, p0, q0, r1, p1, q1, sl, g0, g1, K, T, Y, V, A, rfl, rfl, hR, (by rw [sp_ship, if_neg (by omega)])⟩

set_option maxHeartbeats 4000000 in
set_option maxRecDepth 100000 in
theorem c_X4_shipTo_1 (l : Launch) (G : fG) (s0 a0 a1 a2 a3 a4 a5 b0 b1 d0 d1 e0 : Nat) (B : Int) (f : Int → Int) (n tk ln tr lc lo ap rt dl r0 p0 q0 r1 p1 q1 : Int) (sl g0 g1 K T Y V A : Int → Int) (m : Int) (hR : RS f n tk ln tr lc lo ap rt dl r0 p0 q0 r1 p1 q1 sl g0 g1 K T Y V A) (hI : Inv B f) (hB : B ≤ 1073000000) (hm : -2147483648 ≤ m ∧ m < 2147483648) : fCt l G yX4_shipTo wsX4_shipTo 1 21 0 0 [.ref s0, vI 1, vI m] [cO s0 4 [.ref a0, .ref b0, .ref d0, .ref e0, vI tk, vI ln, vI tr, vI lc, vI lo, vI ap, vI rt, vI dl], cO a0 1 [vI n, .ref a1, .ref a2, .ref a3, .ref a4, .ref a5], cA a1 G.2.1.1 100 K, cA a2 G.2.1.1 100 T, cA a3 G.2.1.1 100 Y, cA a4 G.2.1.1 100 V, cA a5 G.2.1.1 100 A, cO b0 3 [vI r0, vI p0, vI q0, .ref b1], cA b1 G.2.1.2.1 101 g0, cO d0 3 [vI r1, vI p1, vI q1, .ref d1], cA d1 G.2.1.2.1 101 g1, cA e0 G.2.1.1 3 sl] (fun (v0 : Option Value) (w0 : va_W) => ∃ (z : Int) (f2 : Int → Int) (n2 tk2 ln2 tr2 lc2 lo2 ap2 rt2 dl2 r02 p02 q02 r12 p12 q12 : Int) (sl2 g02 g12 K2 T2 Y2 V2 A2 : Int → Int), v0 = some (vI z) ∧ w0 = [cO s0 4 [.ref a0, .ref b0, .ref d0, .ref e0, vI tk2, vI ln2, vI tr2, vI lc2, vI lo2, vI ap2, vI rt2, vI dl2], cO a0 1 [vI n2, .ref a1, .ref a2, .ref a3, .ref a4, .ref a5], cA a1 G.2.1.1 100 K2, cA a2 G.2.1.1 100 T2, cA a3 G.2.1.1 100 Y2, cA a4 G.2.1.1 100 V2, cA a5 G.2.1.1 100 A2, cO b0 3 [vI r02, vI p02, vI q02, .ref b1], cA b1 G.2.1.2.1 101 g02, cO d0 3 [vI r12, vI p12, vI q12, .ref d1], cA d1 G.2.1.2.1 101 g12, cA e0 G.2.1.1 3 sl2] ∧ (RS f2 n2 tk2 ln2 tr2 lc2 lo2 ap2 rt2 dl2 r02 p02 q02 r12 p12 q12 sl2 g02 g12 K2 T2 Y2 V2 A2) ∧ ((z, f2) = sp_ship f 1 m)) := by
  refine fs_met (cc := cX4_shipTo) (nL := 5) (ret := (some .int)) (by decide) rfl (Nat.le_of_ble_eq_true rfl) ?_
  intro X C E
  show fSt l G X 0 0 0 [(0, .ref s0), (1, vI 1), (2, vI m)] [] [cO s0 4 [.ref a0, .ref b0, .ref d0, .ref e0, vI tk, vI ln, vI tr, vI lc, vI lo, vI ap, vI rt, vI dl], cO a0 1 [vI n, .ref a1, .ref a2, .ref a3, .ref a4, .ref a5], cA a1 G.2.1.1 100 K, cA a2 G.2.1.1 100 T, cA a3 G.2.1.1 100 Y, cA a4 G.2.1.1 100 V, cA a5 G.2.1.1 100 A, cO b0 3 [vI r0, vI p0, vI q0, .ref b1], cA b1 G.2.1.2.1 101 g0, cO d0 3 [vI r1, vI p1, vI q1, .ref d1], cA d1 G.2.1.2.1 101 g1, cA e0 G.2.1.1 3 sl]
  have hinX1 : ∀ w ∈ u_ws RX1 TX1 6, w ∈ wsX4_shipTo := by decide +kernel
  have hinX3 : ∀ w ∈ u_ws RX3 TX3 4, w ∈ wsX4_shipTo := by decide +kernel
  have hinX4 : ∀ w ∈ u_ws RX4 TX4 12, w ∈ wsX4_shipTo := by decide +kernel
  obtain ⟨hn, htk, hln, htr, hlc, hlo, hap, hrt, hdl, hS0, hS1⟩ := hR.scal hI
  have hK := hR.hrK
  have hT := hR.hrT
  have hY := hR.hrY
  have hV := hR.hrV
  have hA := hR.hrA
  have hsl := hR.hrs
  have hg0 := hR.hG0
  have hg1 := hR.hG1
  have hb0 := hR.b0
  have hb1 := hR.b1
  refine s_iload_n 1 C dX4_shipTo_0 rfl 1 rfl ?_
  refine s_callSN (As := [vI 1]) (rest := []) (host := RX6) C dX4_shipTo_1 (c_X6_isStandby l G 1 (by first | assumption | omega)) gX4_shipTo_X6_isStandby_n77 (by decide +kernel) (by decide +kernel) (by decide +kernel) rfl 1 (by decide +kernel) (by decide) [] rfl (by decide) rfl (Nat.le_of_ble_eq_true rfl) ⟨Nat.zero_le _, Nat.zero_le _⟩ ?_
  intro v0 w0 hq
  obtain ⟨rfl, rfl⟩ := hq
  refine ⟨rfl, ?_⟩
  show fSt l G X 0 0 4 [(0, .ref s0), (1, vI 1), (2, vI m)] [vI (bI (0 ≤ 1 ∧ 1 ≤ 1))] [cO s0 4 [.ref a0, .ref b0, .ref d0, .ref e0, vI tk, vI ln, vI tr, vI lc, vI lo, vI ap, vI rt, vI dl], cO a0 1 [vI n, .ref a1, .ref a2, .ref a3, .ref a4, .ref a5], cA a1 G.2.1.1 100 K, cA a2 G.2.1.1 100 T, cA a3 G.2.1.1 100 Y, cA a4 G.2.1.1 100 V, cA a5 G.2.1.1 100 A, cO b0 3 [vI r0, vI p0, vI q0, .ref b1], cA b1 G.2.1.2.1 101 g0, cO d0 3 [vI r1, vI p1, vI q1, .ref d1], cA d1 G.2.1.2.1 101 g1, cA e0 G.2.1.1 3 sl]
  refine s_if_eq 18 C dX4_shipTo_4 (by decide) bI_rng (fun h_4 => ?_) (fun h_4 => ?_)
  · have h_4 := bI_f h_4
    refine s_ldc (z := -1000001) C (by decide +kernel) dX4_shipTo_18 ?_
    exact s_iret C E dX4_shipTo_20 ⟨(-1000001), f, n, tk, ln, tr, lc, lo, ap, rt, dl, r0, p0, q0, r1, p1, q1, sl, g0, g1, K, T, Y, V, A, rfl, rfl, hR, (by rw [sp_ship, if_neg (by omega)])⟩
  · have h_4 := bI_t h_4
    refine s_iload_n 2 C dX4_shipTo_7 rfl 2 rfl ?_
    refine s_iconst C dX4_shipTo_8 ?_
    refine s_icmp_lt 18 C dX4_shipTo_9 (by decide) (by omega) (by omega) (fun h_9 => ?_) (fun h_9 => ?_)
    · refine s_ldc (z := -1000001) C (by decide +kernel) dX4_shipTo_18 ?_
      exact s_iret C E dX4_shipTo_20 ⟨(-1000001), f, n, tk, ln, tr, lc, lo, ap, rt, dl, r0, p0, q0, r1, p1, q1, sl, g0, g1, K, T, Y, V, A, rfl, rfl, hR, (by rw [sp_ship, if_neg (by omega)])⟩
    · refine s_iload_n 2 C dX4_shipTo_12 rfl 2 rfl ?_
      refine s_bipush (z := 20) C dX4_shipTo_13 rfl ?_
      refine s_icmp_le 21 C dX4_shipTo_15 (by decide) (by omega) (by omega) (fun h_15 => ?_) (fun h_15 => ?_)
      · refine s_aload_n 0 C dX4_shipTo_21 rfl 0 rfl ?_
        refine s_iload_n 1 C dX4_shipTo_22 rfl 1 rfl ?_
        refine s_callV (As := [vI 1]) (rest := []) C dX4_shipTo_23 (c_X4_standby1 l G s0 a0 b0 d0 [.ref e0, vI tk, vI ln, vI tr, vI lc, vI lo, vI ap, vI rt, vI dl] 1 (by first | assumption | omega)) gX4_shipTo_X4_standby rfl 1 (by decide +kernel) (by decide) 0 4 rfl rfl rfl [0] rfl (by decide) rfl (Nat.le_of_ble_eq_true rfl) ⟨Nat.zero_le _, Nat.zero_le _⟩ ?_
        intro v0 w0 hq
        obtain ⟨rfl, rfl⟩ := hq
        refine ⟨rfl, ?_⟩
        show fSt l G X 0 0 26 [(0, .ref s0), (1, vI 1), (2, vI m)] [.ref d0] [cO s0 4 [.ref a0, .ref b0, .ref d0, .ref e0, vI tk, vI ln, vI tr, vI lc, vI lo, vI ap, vI rt, vI dl], cO a0 1 [vI n, .ref a1, .ref a2, .ref a3, .ref a4, .ref a5], cA a1 G.2.1.1 100 K, cA a2 G.2.1.1 100 T, cA a3 G.2.1.1 100 Y, cA a4 G.2.1.1 100 V, cA a5 G.2.1.1 100 A, cO b0 3 [vI r0, vI p0, vI q0, .ref b1], cA b1 G.2.1.2.1 101 g0, cO d0 3 [vI r1, vI p1, vI q1, .ref d1], cA d1 G.2.1.2.1 101 g1, cA e0 G.2.1.1 3 sl]
        refine s_astore_n 3 [(3, .ref d0), (0, .ref s0), (1, vI 1), (2, vI m)] C dX4_shipTo_26 rfl (by decide) rfl ?_
        refine s_aload_n 3 C dX4_shipTo_27 rfl 0 rfl ?_
        refine s_get C dX4_shipTo_28 3 rfl hinX3 9 rfl 2 (by decide) (by decide +kernel) rfl ?_
        refine s_if_eq 37 C dX4_shipTo_31 (by decide) (by omega) (fun h_31 => ?_) (fun h_31 => ?_)
        · refine s_iload_n 2 C dX4_shipTo_37 rfl 3 rfl ?_
          refine s_aload_n 0 C dX4_shipTo_38 rfl 1 rfl ?_
          refine s_get C dX4_shipTo_39 4 rfl hinX4 0 rfl 0 (by decide) (by decide +kernel) rfl ?_
          refine s_get C dX4_shipTo_42 1 rfl hinX1 1 rfl 0 (by decide) (by decide +kernel) rfl ?_
          refine s_aload_n 3 C dX4_shipTo_45 rfl 0 rfl ?_
          refine s_get C dX4_shipTo_46 3 rfl hinX3 9 rfl 0 (by decide) (by decide +kernel) rfl ?_
          refine s_isub C dX4_shipTo_49 ?_
          refine s_mmin C dX4_shipTo_50 (by decide +kernel) (by decide +kernel) (by decide +kernel) (by decide +kernel) (by decide) (Nat.le_of_ble_eq_true rfl) ⟨Nat.zero_le _, Nat.zero_le _⟩ (by omega) (by omega) ?_
          refine s_istore [(4, vI (if n - r1 < m then n - r1 else m)), (3, .ref d0), (0, .ref s0), (1, vI 1), (2, vI m)] C dX4_shipTo_53 (by decide) rfl ?_
          refine s_aload_n 3 C dX4_shipTo_55 rfl 1 rfl ?_
          refine s_dup C dX4_shipTo_56 rfl ?_
          refine s_get C dX4_shipTo_57 3 rfl hinX3 9 rfl 0 (by decide) (by decide +kernel) rfl ?_
          refine s_iload C dX4_shipTo_60 0 rfl ?_
          refine s_iadd C dX4_shipTo_62 ?_
          refine s_put [cO s0 4 [.ref a0, .ref b0, .ref d0, .ref e0, vI tk, vI ln, vI tr, vI lc, vI lo, vI ap, vI rt, vI dl], cO a0 1 [vI n, .ref a1, .ref a2, .ref a3, .ref a4, .ref a5], cA a1 G.2.1.1 100 K, cA a2 G.2.1.1 100 T, cA a3 G.2.1.1 100 Y, cA a4 G.2.1.1 100 V, cA a5 G.2.1.1 100 A, cO b0 3 [vI r0, vI p0, vI q0, .ref b1], cA b1 G.2.1.2.1 101 g0, cO d0 3 [vI (r1 + (if n - r1 < m then n - r1 else m)), vI p1, vI q1, .ref d1], cA d1 G.2.1.2.1 101 g1, cA e0 G.2.1.1 3 sl] C dX4_shipTo_63 3 rfl hinX3 tyX3 tyX3_ok nmX3 9 rfl 0 (by decide) (by decide +kernel) rfl rfl rfl (Nat.le_of_ble_eq_true rfl) rfl ?_
          refine s_iload C dX4_shipTo_66 0 rfl ?_
          exact s_iret C E dX4_shipTo_68 ⟨(if n - r1 < m then n - r1 else m), (uZ f 15 (r1 + (if n - r1 < m then n - r1 else m))), n, tk, ln, tr, lc, lo, ap, rt, dl, r0, p0, q0, (r1 + (if n - r1 < m then n - r1 else m)), p1, q1, sl, g0, g1, K, T, Y, V, A, rfl, rfl, (hR.s_r1), (ship_1 hR (by omega) (by omega))⟩
        · refine s_ldc (z := -1000002) C (by decide +kernel) dX4_shipTo_34 ?_
          exact s_iret C E dX4_shipTo_36 ⟨(-1000002), f, n, tk, ln, tr, lc, lo, ap, rt, dl, r0, p0, q0, r1, p1, q1, sl, g0, g1, K, T, Y, V, A, rfl, rfl, hR, (by rw [sp_ship, if_pos (by omega), if_pos (by omega)])⟩
      · refine s_ldc (z := -1000001) C (by decide +kernel) dX4_shipTo_18 ?_
        exact s_iret C E dX4_shipTo_20 ⟨(-1000001), f, n, tk, ln, tr, lc, lo, ap, rt, dl, r0, p0, q0, r1, p1, q1, sl, g0, g1, K, T, Y, V, A, rfl, rfl, hR, (by rw [sp_ship, if_neg (by omega)])⟩

set_option maxHeartbeats 4000000 in
set_option maxRecDepth 100000 in
theorem c_X4_shipTo_x (l : Launch) (G : fG) (s0 a0 a1 a2 a3 a4 a5 b0 b1 d0 d1 e0 : Nat) (B : Int) (f : Int → Int) (n tk ln tr lc lo ap rt dl r0 p0 q0 r1 p1 q1 : Int) (sl g0 g1 K T Y V A : Int → Int) (b m : Int) (hR : RS f n tk ln tr lc lo ap rt dl r0 p0 q0 r1 p1 q1 sl g0 g1 K T Y V A) (hI : Inv B f) (hB : B ≤ 1073000000) (hm : -2147483648 ≤ m ∧ m < 2147483648) (hb : -2147483648 ≤ b ∧ b < 2147483648) (hbx : ¬ (0 ≤ b ∧ b ≤ 1)) : fCt l G yX4_shipTo wsX4_shipTo 1 21 0 0 [.ref s0, vI b, vI m] [cO s0 4 [.ref a0, .ref b0, .ref d0, .ref e0, vI tk, vI ln, vI tr, vI lc, vI lo, vI ap, vI rt, vI dl], cO a0 1 [vI n, .ref a1, .ref a2, .ref a3, .ref a4, .ref a5], cA a1 G.2.1.1 100 K, cA a2 G.2.1.1 100 T, cA a3 G.2.1.1 100 Y, cA a4 G.2.1.1 100 V, cA a5 G.2.1.1 100 A, cO b0 3 [vI r0, vI p0, vI q0, .ref b1], cA b1 G.2.1.2.1 101 g0, cO d0 3 [vI r1, vI p1, vI q1, .ref d1], cA d1 G.2.1.2.1 101 g1, cA e0 G.2.1.1 3 sl] (fun (v0 : Option Value) (w0 : va_W) => ∃ (z : Int) (f2 : Int → Int) (n2 tk2 ln2 tr2 lc2 lo2 ap2 rt2 dl2 r02 p02 q02 r12 p12 q12 : Int) (sl2 g02 g12 K2 T2 Y2 V2 A2 : Int → Int), v0 = some (vI z) ∧ w0 = [cO s0 4 [.ref a0, .ref b0, .ref d0, .ref e0, vI tk2, vI ln2, vI tr2, vI lc2, vI lo2, vI ap2, vI rt2, vI dl2], cO a0 1 [vI n2, .ref a1, .ref a2, .ref a3, .ref a4, .ref a5], cA a1 G.2.1.1 100 K2, cA a2 G.2.1.1 100 T2, cA a3 G.2.1.1 100 Y2, cA a4 G.2.1.1 100 V2, cA a5 G.2.1.1 100 A2, cO b0 3 [vI r02, vI p02, vI q02, .ref b1], cA b1 G.2.1.2.1 101 g02, cO d0 3 [vI r12, vI p12, vI q12, .ref d1], cA d1 G.2.1.2.1 101 g12, cA e0 G.2.1.1 3 sl2] ∧ (RS f2 n2 tk2 ln2 tr2 lc2 lo2 ap2 rt2 dl2 r02 p02 q02 r12 p12 q12 sl2 g02 g12 K2 T2 Y2 V2 A2) ∧ ((z, f2) = sp_ship f b m)) := by
  refine fs_met (cc := cX4_shipTo) (nL := 5) (ret := (some .int)) (by decide) rfl (Nat.le_of_ble_eq_true rfl) ?_
  intro X C E
  show fSt l G X 0 0 0 [(0, .ref s0), (1, vI b), (2, vI m)] [] [cO s0 4 [.ref a0, .ref b0, .ref d0, .ref e0, vI tk, vI ln, vI tr, vI lc, vI lo, vI ap, vI rt, vI dl], cO a0 1 [vI n, .ref a1, .ref a2, .ref a3, .ref a4, .ref a5], cA a1 G.2.1.1 100 K, cA a2 G.2.1.1 100 T, cA a3 G.2.1.1 100 Y, cA a4 G.2.1.1 100 V, cA a5 G.2.1.1 100 A, cO b0 3 [vI r0, vI p0, vI q0, .ref b1], cA b1 G.2.1.2.1 101 g0, cO d0 3 [vI r1, vI p1, vI q1, .ref d1], cA d1 G.2.1.2.1 101 g1, cA e0 G.2.1.1 3 sl]
  obtain ⟨hn, htk, hln, htr, hlc, hlo, hap, hrt, hdl, hS0, hS1⟩ := hR.scal hI
  have hK := hR.hrK
  have hT := hR.hrT
  have hY := hR.hrY
  have hV := hR.hrV
  have hA := hR.hrA
  have hsl := hR.hrs
  have hg0 := hR.hG0
  have hg1 := hR.hG1
  have hb0 := hR.b0
  have hb1 := hR.b1
  refine s_iload_n 1 C dX4_shipTo_0 rfl 1 rfl ?_
  refine s_callSN (As := [vI b]) (rest := []) (host := RX6) C dX4_shipTo_1 (c_X6_isStandby l G b (by first | assumption | omega)) gX4_shipTo_X6_isStandby_n77 (by decide +kernel) (by decide +kernel) (by decide +kernel) rfl 1 (by decide +kernel) (by decide) [] rfl (by decide) rfl (Nat.le_of_ble_eq_true rfl) ⟨Nat.zero_le _, Nat.zero_le _⟩ ?_
  intro v0 w0 hq
  obtain ⟨rfl, rfl⟩ := hq
  refine ⟨rfl, ?_⟩
  show fSt l G X 0 0 4 [(0, .ref s0), (1, vI b), (2, vI m)] [vI (bI (0 ≤ b ∧ b ≤ 1))] [cO s0 4 [.ref a0, .ref b0, .ref d0, .ref e0, vI tk, vI ln, vI tr, vI lc, vI lo, vI ap, vI rt, vI dl], cO a0 1 [vI n, .ref a1, .ref a2, .ref a3, .ref a4, .ref a5], cA a1 G.2.1.1 100 K, cA a2 G.2.1.1 100 T, cA a3 G.2.1.1 100 Y, cA a4 G.2.1.1 100 V, cA a5 G.2.1.1 100 A, cO b0 3 [vI r0, vI p0, vI q0, .ref b1], cA b1 G.2.1.2.1 101 g0, cO d0 3 [vI r1, vI p1, vI q1, .ref d1], cA d1 G.2.1.2.1 101 g1, cA e0 G.2.1.1 3 sl]
  refine s_if_eq 18 C dX4_shipTo_4 (by decide) bI_rng (fun h_4 => ?_) (fun h_4 => ?_)
  · have h_4 := bI_f h_4
    refine s_ldc (z := -1000001) C (by decide +kernel) dX4_shipTo_18 ?_
    exact s_iret C E dX4_shipTo_20 ⟨(-1000001), f, n, tk, ln, tr, lc, lo, ap, rt, dl, r0, p0, q0, r1, p1, q1, sl, g0, g1, K, T, Y, V, A, rfl, rfl, hR, (by rw [sp_ship, if_neg (by omega)])⟩
  · have h_4 := bI_t h_4
    exfalso
    omega

set_option maxHeartbeats 4000000 in
set_option maxRecDepth 100000 in
theorem c_X4_loseFor_0 (l : Launch) (G : fG) (s0 a0 a1 a2 a3 a4 a5 b0 b1 d0 d1 e0 : Nat) (B : Int) (f : Int → Int) (n tk ln tr lc lo ap rt dl r0 p0 q0 r1 p1 q1 : Int) (sl g0 g1 K T Y V A : Int → Int) (r : Int) (hR : RS f n tk ln tr lc lo ap rt dl r0 p0 q0 r1 p1 q1 sl g0 g1 K T Y V A) (hI : Inv B f) (hB : B ≤ 1073000000) (hr : -2147483648 ≤ r ∧ r < 2147483648) : fCt l G yX4_loseFor wsX4_loseFor 1 22 0 0 [.ref s0, vI 0, vI r] [cO s0 4 [.ref a0, .ref b0, .ref d0, .ref e0, vI tk, vI ln, vI tr, vI lc, vI lo, vI ap, vI rt, vI dl], cO a0 1 [vI n, .ref a1, .ref a2, .ref a3, .ref a4, .ref a5], cA a1 G.2.1.1 100 K, cA a2 G.2.1.1 100 T, cA a3 G.2.1.1 100 Y, cA a4 G.2.1.1 100 V, cA a5 G.2.1.1 100 A, cO b0 3 [vI r0, vI p0, vI q0, .ref b1], cA b1 G.2.1.2.1 101 g0, cO d0 3 [vI r1, vI p1, vI q1, .ref d1], cA d1 G.2.1.2.1 101 g1, cA e0 G.2.1.1 3 sl] (fun (v0 : Option Value) (w0 : va_W) => ∃ (z : Int) (f2 : Int → Int) (n2 tk2 ln2 tr2 lc2 lo2 ap2 rt2 dl2 r02 p02 q02 r12 p12 q12 : Int) (sl2 g02 g12 K2 T2 Y2 V2 A2 : Int → Int), v0 = some (vI z) ∧ w0 = [cO s0 4 [.ref a0, .ref b0, .ref d0, .ref e0, vI tk2, vI ln2, vI tr2, vI lc2, vI lo2, vI ap2, vI rt2, vI dl2], cO a0 1 [vI n2, .ref a1, .ref a2, .ref a3, .ref a4, .ref a5], cA a1 G.2.1.1 100 K2, cA a2 G.2.1.1 100 T2, cA a3 G.2.1.1 100 Y2, cA a4 G.2.1.1 100 V2, cA a5 G.2.1.1 100 A2, cO b0 3 [vI r02, vI p02, vI q02, .ref b1], cA b1 G.2.1.2.1 101 g02, cO d0 3 [vI r12, vI p12, vI q12, .ref d1], cA d1 G.2.1.2.1 101 g12, cA e0 G.2.1.1 3 sl2] ∧ (RS f2 n2 tk2 ln2 tr2 lc2 lo2 ap2 rt2 dl2 r02 p02 q02 r12 p12 q12 sl2 g02 g12 K2 T2 Y2 V2 A2) ∧ ((z, f2) = sp_lose f 0 r)) := by
  refine fs_met (cc := cX4_loseFor) (nL := 4) (ret := (some .int)) (by decide) rfl (Nat.le_of_ble_eq_true rfl) ?_
  intro X C E
  show fSt l G X 0 0 0 [(0, .ref s0), (1, vI 0), (2, vI r)] [] [cO s0 4 [.ref a0, .ref b0, .ref d0, .ref e0, vI tk, vI ln, vI tr, vI lc, vI lo, vI ap, vI rt, vI dl], cO a0 1 [vI n, .ref a1, .ref a2, .ref a3, .ref a4, .ref a5], cA a1 G.2.1.1 100 K, cA a2 G.2.1.1 100 T, cA a3 G.2.1.1 100 Y, cA a4 G.2.1.1 100 V, cA a5 G.2.1.1 100 A, cO b0 3 [vI r0, vI p0, vI q0, .ref b1], cA b1 G.2.1.2.1 101 g0, cO d0 3 [vI r1, vI p1, vI q1, .ref d1], cA d1 G.2.1.2.1 101 g1, cA e0 G.2.1.1 3 sl]
  have hinX3 : ∀ w ∈ u_ws RX3 TX3 4, w ∈ wsX4_loseFor := by decide +kernel
  have hinX4 : ∀ w ∈ u_ws RX4 TX4 12, w ∈ wsX4_loseFor := by decide +kernel
  obtain ⟨hn, htk, hln, htr, hlc, hlo, hap, hrt, hdl, hS0, hS1⟩ := hR.scal hI
  have hK := hR.hrK
  have hT := hR.hrT
  have hY := hR.hrY
  have hV := hR.hrV
  have hA := hR.hrA
  have hsl := hR.hrs
  have hg0 := hR.hG0
  have hg1 := hR.hG1
  have hb0 := hR.b0
  have hb1 := hR.b1
  refine s_iload_n 1 C dX4_loseFor_0 rfl 1 rfl ?_
  refine s_callSN (As := [vI 0]) (rest := []) (host := RX6) C dX4_loseFor_1 (c_X6_isStandby l G 0 (by first | assumption | omega)) gX4_loseFor_X6_isStandby_n77 (by decide +kernel) (by decide +kernel) (by decide +kernel) rfl 1 (by decide +kernel) (by decide) [] rfl (by decide) rfl (Nat.le_of_ble_eq_true rfl) ⟨Nat.zero_le _, Nat.zero_le _⟩ ?_
  intro v0 w0 hq
  obtain ⟨rfl, rfl⟩ := hq
  refine ⟨rfl, ?_⟩
  show fSt l G X 0 0 4 [(0, .ref s0), (1, vI 0), (2, vI r)] [vI (bI (0 ≤ 0 ∧ 0 ≤ 1))] [cO s0 4 [.ref a0, .ref b0, .ref d0, .ref e0, vI tk, vI ln, vI tr, vI lc, vI lo, vI ap, vI rt, vI dl], cO a0 1 [vI n, .ref a1, .ref a2, .ref a3, .ref a4, .ref a5], cA a1 G.2.1.1 100 K, cA a2 G.2.1.1 100 T, cA a3 G.2.1.1 100 Y, cA a4 G.2.1.1 100 V, cA a5 G.2.1.1 100 A, cO b0 3 [vI r0, vI p0, vI q0, .ref b1], cA b1 G.2.1.2.1 101 g0, cO d0 3 [vI r1, vI p1, vI q1, .ref d1], cA d1 G.2.1.2.1 101 g1, cA e0 G.2.1.1 3 sl]
  refine s_if_eq 12 C dX4_loseFor_4 (by decide) bI_rng (fun h_4 => ?_) (fun h_4 => ?_)
  · have h_4 := bI_f h_4
    refine s_ldc (z := -1000001) C (by decide +kernel) dX4_loseFor_12 ?_
    exact s_iret C E dX4_loseFor_14 ⟨(-1000001), f, n, tk, ln, tr, lc, lo, ap, rt, dl, r0, p0, q0, r1, p1, q1, sl, g0, g1, K, T, Y, V, A, rfl, rfl, hR, (by rw [sp_lose, if_neg (by omega)])⟩
  · have h_4 := bI_t h_4
    refine s_iload_n 2 C dX4_loseFor_7 rfl 2 rfl ?_
    refine s_iconst C dX4_loseFor_8 ?_
    refine s_icmp_ge 15 C dX4_loseFor_9 (by decide) (by omega) (by omega) (fun h_9 => ?_) (fun h_9 => ?_)
    · refine s_aload_n 0 C dX4_loseFor_15 rfl 0 rfl ?_
      refine s_iload_n 1 C dX4_loseFor_16 rfl 1 rfl ?_
      refine s_callV (As := [vI 0]) (rest := []) C dX4_loseFor_17 (c_X4_standby0 l G s0 a0 b0 d0 [.ref e0, vI tk, vI ln, vI tr, vI lc, vI lo, vI ap, vI rt, vI dl] 0 (by first | assumption | omega)) gX4_loseFor_X4_standby rfl 1 (by decide +kernel) (by decide) 0 4 rfl rfl rfl [0] rfl (by decide) rfl (Nat.le_of_ble_eq_true rfl) ⟨Nat.zero_le _, Nat.zero_le _⟩ ?_
      intro v0 w0 hq
      obtain ⟨rfl, rfl⟩ := hq
      refine ⟨rfl, ?_⟩
      show fSt l G X 0 0 20 [(0, .ref s0), (1, vI 0), (2, vI r)] [.ref b0] [cO s0 4 [.ref a0, .ref b0, .ref d0, .ref e0, vI tk, vI ln, vI tr, vI lc, vI lo, vI ap, vI rt, vI dl], cO a0 1 [vI n, .ref a1, .ref a2, .ref a3, .ref a4, .ref a5], cA a1 G.2.1.1 100 K, cA a2 G.2.1.1 100 T, cA a3 G.2.1.1 100 Y, cA a4 G.2.1.1 100 V, cA a5 G.2.1.1 100 A, cO b0 3 [vI r0, vI p0, vI q0, .ref b1], cA b1 G.2.1.2.1 101 g0, cO d0 3 [vI r1, vI p1, vI q1, .ref d1], cA d1 G.2.1.2.1 101 g1, cA e0 G.2.1.1 3 sl]
      refine s_astore_n 3 [(3, .ref b0), (0, .ref s0), (1, vI 0), (2, vI r)] C dX4_loseFor_20 rfl (by decide) rfl ?_
      refine s_aload_n 3 C dX4_loseFor_21 rfl 0 rfl ?_
      refine s_get C dX4_loseFor_22 3 rfl hinX3 7 rfl 2 (by decide) (by decide +kernel) rfl ?_
      refine s_if_ne 52 C dX4_loseFor_25 (by decide) (by omega) (fun h_25 => ?_) (fun h_25 => ?_)
      · refine s_ldc (z := -1000002) C (by decide +kernel) dX4_loseFor_52 ?_
        exact s_iret C E dX4_loseFor_54 ⟨(-1000002), f, n, tk, ln, tr, lc, lo, ap, rt, dl, r0, p0, q0, r1, p1, q1, sl, g0, g1, K, T, Y, V, A, rfl, rfl, hR, (by rw [sp_lose, if_pos (by omega), if_pos (by omega)])⟩
      · have hgr : 1 ≤ r ∧ r ≤ 100 → (g0 r ≠ 0 ↔ oG f 0 r = 1) := fun q => q_h0 hR hI r q.1 q.2
        refine s_iload_n 2 C dX4_loseFor_28 rfl 3 rfl ?_
        refine s_aload_n 3 C dX4_loseFor_29 rfl 0 rfl ?_
        refine s_get C dX4_loseFor_30 3 rfl hinX3 7 rfl 0 (by decide) (by decide +kernel) rfl ?_
        refine s_icmp_gt 52 C dX4_loseFor_33 (by decide) (by omega) (by omega) (fun h_33 => ?_) (fun h_33 => ?_)
        · refine s_ldc (z := -1000002) C (by decide +kernel) dX4_loseFor_52 ?_
          exact s_iret C E dX4_loseFor_54 ⟨(-1000002), f, n, tk, ln, tr, lc, lo, ap, rt, dl, r0, p0, q0, r1, p1, q1, sl, g0, g1, K, T, Y, V, A, rfl, rfl, hR, (by rw [sp_lose, if_pos (by omega), if_pos (by omega)])⟩
        · refine s_iload_n 2 C dX4_loseFor_36 rfl 3 rfl ?_
          refine s_aload_n 3 C dX4_loseFor_37 rfl 0 rfl ?_
          refine s_get C dX4_loseFor_38 3 rfl hinX3 7 rfl 1 (by decide) (by decide +kernel) rfl ?_
          refine s_icmp_le 52 C dX4_loseFor_41 (by decide) (by omega) (by omega) (fun h_41 => ?_) (fun h_41 => ?_)
          · refine s_ldc (z := -1000002) C (by decide +kernel) dX4_loseFor_52 ?_
            exact s_iret C E dX4_loseFor_54 ⟨(-1000002), f, n, tk, ln, tr, lc, lo, ap, rt, dl, r0, p0, q0, r1, p1, q1, sl, g0, g1, K, T, Y, V, A, rfl, rfl, hR, (by rw [sp_lose, if_pos (by omega), if_pos (by omega)])⟩
          · refine s_aload_n 3 C dX4_loseFor_44 rfl 0 rfl ?_
            refine s_iload_n 2 C dX4_loseFor_45 rfl 3 rfl ?_
            refine s_callV (As := [vI r]) (rest := []) C dX4_loseFor_46 (c_X3_isGap l G b0 b1 r0 p0 q0 g0 r (by first | assumption | omega) (by first | assumption | omega)) gX4_loseFor_X3_isGap rfl 1 (by decide +kernel) (by decide) 7 3 rfl rfl rfl [7, 8] rfl (by decide) rfl (Nat.le_of_ble_eq_true rfl) ⟨Nat.zero_le _, Nat.zero_le _⟩ ?_
            intro v0 w0 hq
            obtain ⟨rfl, rfl⟩ := hq
            refine ⟨rfl, ?_⟩
            show fSt l G X 0 0 49 [(3, .ref b0), (0, .ref s0), (1, vI 0), (2, vI r)] [vI (bI (1 ≤ r ∧ r ≤ 100 ∧ g0 r ≠ 0))] [cO s0 4 [.ref a0, .ref b0, .ref d0, .ref e0, vI tk, vI ln, vI tr, vI lc, vI lo, vI ap, vI rt, vI dl], cO a0 1 [vI n, .ref a1, .ref a2, .ref a3, .ref a4, .ref a5], cA a1 G.2.1.1 100 K, cA a2 G.2.1.1 100 T, cA a3 G.2.1.1 100 Y, cA a4 G.2.1.1 100 V, cA a5 G.2.1.1 100 A, cO b0 3 [vI r0, vI p0, vI q0, .ref b1], cA b1 G.2.1.2.1 101 g0, cO d0 3 [vI r1, vI p1, vI q1, .ref d1], cA d1 G.2.1.2.1 101 g1, cA e0 G.2.1.1 3 sl]
            refine s_if_eq 55 C dX4_loseFor_49 (by decide) bI_rng (fun h_49 => ?_) (fun h_49 => ?_)
            · have h_49 := bI_f h_49
              refine s_aload_n 3 C dX4_loseFor_55 rfl 0 rfl ?_
              refine s_iload_n 2 C dX4_loseFor_56 rfl 3 rfl ?_
              refine s_callV (As := [vI r]) (rest := []) C dX4_loseFor_57 (c_X3_setGap l G b0 b1 r0 p0 q0 g0 r (by first | assumption | omega)) gX4_loseFor_X3_setGap rfl 1 (by decide +kernel) (by decide) 7 3 rfl rfl rfl [7, 8] rfl (by decide) rfl (Nat.le_of_ble_eq_true rfl) ⟨Nat.zero_le _, Nat.zero_le _⟩ ?_
              intro v0 w0 hq
              obtain ⟨rfl, rfl⟩ := hq
              refine ⟨rfl, ?_⟩
              show fSt l G X 0 0 60 [(3, .ref b0), (0, .ref s0), (1, vI 0), (2, vI r)] [] [cO s0 4 [.ref a0, .ref b0, .ref d0, .ref e0, vI tk, vI ln, vI tr, vI lc, vI lo, vI ap, vI rt, vI dl], cO a0 1 [vI n, .ref a1, .ref a2, .ref a3, .ref a4, .ref a5], cA a1 G.2.1.1 100 K, cA a2 G.2.1.1 100 T, cA a3 G.2.1.1 100 Y, cA a4 G.2.1.1 100 V, cA a5 G.2.1.1 100 A, cO b0 3 [vI r0, vI p0, vI q0, .ref b1], cA b1 G.2.1.2.1 101 (uZ g0 r 1), cO d0 3 [vI r1, vI p1, vI q1, .ref d1], cA d1 G.2.1.2.1 101 g1, cA e0 G.2.1.1 3 sl]
              refine s_aload_n 0 C dX4_loseFor_60 rfl 1 rfl ?_
              refine s_dup C dX4_loseFor_61 rfl ?_
              refine s_get C dX4_loseFor_62 4 rfl hinX4 0 rfl 8 (by decide) (by decide +kernel) rfl ?_
              refine s_iconst C dX4_loseFor_65 ?_
              refine s_iadd C dX4_loseFor_66 ?_
              refine s_put [cO s0 4 [.ref a0, .ref b0, .ref d0, .ref e0, vI tk, vI ln, vI tr, vI lc, vI (lo + 1), vI ap, vI rt, vI dl], cO a0 1 [vI n, .ref a1, .ref a2, .ref a3, .ref a4, .ref a5], cA a1 G.2.1.1 100 K, cA a2 G.2.1.1 100 T, cA a3 G.2.1.1 100 Y, cA a4 G.2.1.1 100 V, cA a5 G.2.1.1 100 A, cO b0 3 [vI r0, vI p0, vI q0, .ref b1], cA b1 G.2.1.2.1 101 (uZ g0 r 1), cO d0 3 [vI r1, vI p1, vI q1, .ref d1], cA d1 G.2.1.2.1 101 g1, cA e0 G.2.1.1 3 sl] C dX4_loseFor_67 4 rfl hinX4 tyX4 tyX4_ok nmX4 0 rfl 8 (by decide) (by decide +kernel) rfl rfl rfl (Nat.le_of_ble_eq_true rfl) rfl ?_
              refine s_aload_n 3 C dX4_loseFor_70 rfl 0 rfl ?_
              refine s_callV (As := []) (rest := []) C dX4_loseFor_71 (c_X3_gapCount l G b0 b1 r0 p0 q0 (uZ g0 r 1) (hg0.up (Or.inr rfl))) gX4_loseFor_X3_gapCount rfl 0 (by decide +kernel) (by decide) 7 3 rfl rfl rfl [7, 8] rfl (by decide) rfl (Nat.le_of_ble_eq_true rfl) ⟨Nat.zero_le _, Nat.zero_le _⟩ ?_
              intro v0 w0 hq
              obtain ⟨rfl, rfl⟩ := hq
              refine ⟨rfl, ?_⟩
              show fSt l G X 0 0 74 [(3, .ref b0), (0, .ref s0), (1, vI 0), (2, vI r)] [vI (sC (uZ g0 r 1))] [cO s0 4 [.ref a0, .ref b0, .ref d0, .ref e0, vI tk, vI ln, vI tr, vI lc, vI (lo + 1), vI ap, vI rt, vI dl], cO a0 1 [vI n, .ref a1, .ref a2, .ref a3, .ref a4, .ref a5], cA a1 G.2.1.1 100 K, cA a2 G.2.1.1 100 T, cA a3 G.2.1.1 100 Y, cA a4 G.2.1.1 100 V, cA a5 G.2.1.1 100 A, cO b0 3 [vI r0, vI p0, vI q0, .ref b1], cA b1 G.2.1.2.1 101 (uZ g0 r 1), cO d0 3 [vI r1, vI p1, vI q1, .ref d1], cA d1 G.2.1.2.1 101 g1, cA e0 G.2.1.1 3 sl]
              exact s_iret C E dX4_loseFor_74 ⟨(sC (uZ g0 r 1)), (uZ (uZ f (100 * 0 + r + 17) 1) 5 (lo + 1)), n, tk, ln, tr, lc, (lo + 1), ap, rt, dl, r0, p0, q0, r1, p1, q1, sl, (uZ g0 r 1), g1, K, T, Y, V, A, rfl, rfl, ((hR.s_g0 (by omega) (Or.inr rfl)).s_lo (z := lo + 1)), (by rw [sp_lose, if_pos (by omega), if_neg (by omega), hR.e_lo, lose_sC0 hR hI (by omega)])⟩
            · have h_49 := bI_t h_49
              refine s_ldc (z := -1000002) C (by decide +kernel) dX4_loseFor_52 ?_
              exact s_iret C E dX4_loseFor_54 ⟨(-1000002), f, n, tk, ln, tr, lc, lo, ap, rt, dl, r0, p0, q0, r1, p1, q1, sl, g0, g1, K, T, Y, V, A, rfl, rfl, hR, (by rw [sp_lose, if_pos (by omega), if_pos (by omega)])⟩
    · refine s_ldc (z := -1000001) C (by decide +kernel) dX4_loseFor_12 ?_
      exact s_iret C E dX4_loseFor_14 ⟨(-1000001), f, n, tk, ln, tr, lc, lo, ap, rt, dl, r0, p0, q0, r1, p1, q1, sl, g0, g1, K, T, Y, V, A, rfl, rfl, hR, (by rw [sp_lose, if_neg (by omega)])⟩

set_option maxHeartbeats 4000000 in
set_option maxRecDepth 100000 in
theorem c_X4_loseFor_1 (l : Launch) (G : fG) (s0 a0 a1 a2 a3 a4 a5 b0 b1 d0 d1 e0 : Nat) (B : Int) (f : Int → Int) (n tk ln tr lc lo ap rt dl r0 p0 q0 r1 p1 q1 : Int) (sl g0 g1 K T Y V A : Int → Int) (r : Int) (hR : RS f n tk ln tr lc lo ap rt dl r0 p0 q0 r1 p1 q1 sl g0 g1 K T Y V A) (hI : Inv B f) (hB : B ≤ 1073000000) (hr : -2147483648 ≤ r ∧ r < 2147483648) : fCt l G yX4_loseFor wsX4_loseFor 1 22 0 0 [.ref s0, vI 1, vI r] [cO s0 4 [.ref a0, .ref b0, .ref d0, .ref e0, vI tk, vI ln, vI tr, vI lc, vI lo, vI ap, vI rt, vI dl], cO a0 1 [vI n, .ref a1, .ref a2, .ref a3, .ref a4, .ref a5], cA a1 G.2.1.1 100 K, cA a2 G.2.1.1 100 T, cA a3 G.2.1.1 100 Y, cA a4 G.2.1.1 100 V, cA a5 G.2.1.1 100 A, cO b0 3 [vI r0, vI p0, vI q0, .ref b1], cA b1 G.2.1.2.1 101 g0, cO d0 3 [vI r1, vI p1, vI q1, .ref d1], cA d1 G.2.1.2.1 101 g1, cA e0 G.2.1.1 3 sl] (fun (v0 : Option Value) (w0 : va_W) => ∃ (z : Int) (f2 : Int → Int) (n2 tk2 ln2 tr2 lc2 lo2 ap2 rt2 dl2 r02 p02 q02 r12 p12 q12 : Int) (sl2 g02 g12 K2 T2 Y2 V2 A2 : Int → Int), v0 = some (vI z) ∧ w0 = [cO s0 4 [.ref a0, .ref b0, .ref d0, .ref e0, vI tk2, vI ln2, vI tr2, vI lc2, vI lo2, vI ap2, vI rt2, vI dl2], cO a0 1 [vI n2, .ref a1, .ref a2, .ref a3, .ref a4, .ref a5], cA a1 G.2.1.1 100 K2, cA a2 G.2.1.1 100 T2, cA a3 G.2.1.1 100 Y2, cA a4 G.2.1.1 100 V2, cA a5 G.2.1.1 100 A2, cO b0 3 [vI r02, vI p02, vI q02, .ref b1], cA b1 G.2.1.2.1 101 g02, cO d0 3 [vI r12, vI p12, vI q12, .ref d1], cA d1 G.2.1.2.1 101 g12, cA e0 G.2.1.1 3 sl2] ∧ (RS f2 n2 tk2 ln2 tr2 lc2 lo2 ap2 rt2 dl2 r02 p02 q02 r12 p12 q12 sl2 g02 g12 K2 T2 Y2 V2 A2) ∧ ((z, f2) = sp_lose f 1 r)) := by
  refine fs_met (cc := cX4_loseFor) (nL := 4) (ret := (some .int)) (by decide) rfl (Nat.le_of_ble_eq_true rfl) ?_
  intro X C E
  show fSt l G X 0 0 0 [(0, .ref s0), (1, vI 1), (2, vI r)] [] [cO s0 4 [.ref a0, .ref b0, .ref d0, .ref e0, vI tk, vI ln, vI tr, vI lc, vI lo, vI ap, vI rt, vI dl], cO a0 1 [vI n, .ref a1, .ref a2, .ref a3, .ref a4, .ref a5], cA a1 G.2.1.1 100 K, cA a2 G.2.1.1 100 T, cA a3 G.2.1.1 100 Y, cA a4 G.2.1.1 100 V, cA a5 G.2.1.1 100 A, cO b0 3 [vI r0, vI p0, vI q0, .ref b1], cA b1 G.2.1.2.1 101 g0, cO d0 3 [vI r1, vI p1, vI q1, .ref d1], cA d1 G.2.1.2.1 101 g1, cA e0 G.2.1.1 3 sl]
  have hinX3 : ∀ w ∈ u_ws RX3 TX3 4, w ∈ wsX4_loseFor := by decide +kernel
  have hinX4 : ∀ w ∈ u_ws RX4 TX4 12, w ∈ wsX4_loseFor := by decide +kernel
  obtain ⟨hn, htk, hln, htr, hlc, hlo, hap, hrt, hdl, hS0, hS1⟩ := hR.scal hI
  have hK := hR.hrK
  have hT := hR.hrT
  have hY := hR.hrY
  have hV := hR.hrV
  have hA := hR.hrA
  have hsl := hR.hrs
  have hg0 := hR.hG0
  have hg1 := hR.hG1
  have hb0 := hR.b0
  have hb1 := hR.b1
  refine s_iload_n 1 C dX4_loseFor_0 rfl 1 rfl ?_
  refine s_callSN (As := [vI 1]) (rest := []) (host := RX6) C dX4_loseFor_1 (c_X6_isStandby l G 1 (by first | assumption | omega)) gX4_loseFor_X6_isStandby_n77 (by decide +kernel) (by decide +kernel) (by decide +kernel) rfl 1 (by decide +kernel) (by decide) [] rfl (by decide) rfl (Nat.le_of_ble_eq_true rfl) ⟨Nat.zero_le _, Nat.zero_le _⟩ ?_
  intro v0 w0 hq
  obtain ⟨rfl, rfl⟩ := hq
  refine ⟨rfl, ?_⟩
  show fSt l G X 0 0 4 [(0, .ref s0), (1, vI 1), (2, vI r)] [vI (bI (0 ≤ 1 ∧ 1 ≤ 1))] [cO s0 4 [.ref a0, .ref b0, .ref d0, .ref e0, vI tk, vI ln, vI tr, vI lc, vI lo, vI ap, vI rt, vI dl], cO a0 1 [vI n, .ref a1, .ref a2, .ref a3, .ref a4, .ref a5], cA a1 G.2.1.1 100 K, cA a2 G.2.1.1 100 T, cA a3 G.2.1.1 100 Y, cA a4 G.2.1.1 100 V, cA a5 G.2.1.1 100 A, cO b0 3 [vI r0, vI p0, vI q0, .ref b1], cA b1 G.2.1.2.1 101 g0, cO d0 3 [vI r1, vI p1, vI q1, .ref d1], cA d1 G.2.1.2.1 101 g1, cA e0 G.2.1.1 3 sl]
  refine s_if_eq 12 C dX4_loseFor_4 (by decide) bI_rng (fun h_4 => ?_) (fun h_4 => ?_)
  · have h_4 := bI_f h_4
    refine s_ldc (z := -1000001) C (by decide +kernel) dX4_loseFor_12 ?_
    exact s_iret C E dX4_loseFor_14 ⟨(-1000001), f, n, tk, ln, tr, lc, lo, ap, rt, dl, r0, p0, q0, r1, p1, q1, sl, g0, g1, K, T, Y, V, A, rfl, rfl, hR, (by rw [sp_lose, if_neg (by omega)])⟩
  · have h_4 := bI_t h_4
    refine s_iload_n 2 C dX4_loseFor_7 rfl 2 rfl ?_
    refine s_iconst C dX4_loseFor_8 ?_
    refine s_icmp_ge 15 C dX4_loseFor_9 (by decide) (by omega) (by omega) (fun h_9 => ?_) (fun h_9 => ?_)
    · refine s_aload_n 0 C dX4_loseFor_15 rfl 0 rfl ?_
      refine s_iload_n 1 C dX4_loseFor_16 rfl 1 rfl ?_
      refine s_callV (As := [vI 1]) (rest := []) C dX4_loseFor_17 (c_X4_standby1 l G s0 a0 b0 d0 [.ref e0, vI tk, vI ln, vI tr, vI lc, vI lo, vI ap, vI rt, vI dl] 1 (by first | assumption | omega)) gX4_loseFor_X4_standby rfl 1 (by decide +kernel) (by decide) 0 4 rfl rfl rfl [0] rfl (by decide) rfl (Nat.le_of_ble_eq_true rfl) ⟨Nat.zero_le _, Nat.zero_le _⟩ ?_
      intro v0 w0 hq
      obtain ⟨rfl, rfl⟩ := hq
      refine ⟨rfl, ?_⟩
      show fSt l G X 0 0 20 [(0, .ref s0), (1, vI 1), (2, vI r)] [.ref d0] [cO s0 4 [.ref a0, .ref b0, .ref d0, .ref e0, vI tk, vI ln, vI tr, vI lc, vI lo, vI ap, vI rt, vI dl], cO a0 1 [vI n, .ref a1, .ref a2, .ref a3, .ref a4, .ref a5], cA a1 G.2.1.1 100 K, cA a2 G.2.1.1 100 T, cA a3 G.2.1.1 100 Y, cA a4 G.2.1.1 100 V, cA a5 G.2.1.1 100 A, cO b0 3 [vI r0, vI p0, vI q0, .ref b1], cA b1 G.2.1.2.1 101 g0, cO d0 3 [vI r1, vI p1, vI q1, .ref d1], cA d1 G.2.1.2.1 101 g1, cA e0 G.2.1.1 3 sl]
      refine s_astore_n 3 [(3, .ref d0), (0, .ref s0), (1, vI 1), (2, vI r)] C dX4_loseFor_20 rfl (by decide) rfl ?_
      refine s_aload_n 3 C dX4_loseFor_21 rfl 0 rfl ?_
      refine s_get C dX4_loseFor_22 3 rfl hinX3 9 rfl 2 (by decide) (by decide +kernel) rfl ?_
      refine s_if_ne 52 C dX4_loseFor_25 (by decide) (by omega) (fun h_25 => ?_) (fun h_25 => ?_)
      · refine s_ldc (z := -1000002) C (by decide +kernel) dX4_loseFor_52 ?_
        exact s_iret C E dX4_loseFor_54 ⟨(-1000002), f, n, tk, ln, tr, lc, lo, ap, rt, dl, r0, p0, q0, r1, p1, q1, sl, g0, g1, K, T, Y, V, A, rfl, rfl, hR, (by rw [sp_lose, if_pos (by omega), if_pos (by omega)])⟩
      · have hgr : 1 ≤ r ∧ r ≤ 100 → (g1 r ≠ 0 ↔ oG f 1 r = 1) := fun q => q_h1 hR hI r q.1 q.2
        refine s_iload_n 2 C dX4_loseFor_28 rfl 3 rfl ?_
        refine s_aload_n 3 C dX4_loseFor_29 rfl 0 rfl ?_
        refine s_get C dX4_loseFor_30 3 rfl hinX3 9 rfl 0 (by decide) (by decide +kernel) rfl ?_
        refine s_icmp_gt 52 C dX4_loseFor_33 (by decide) (by omega) (by omega) (fun h_33 => ?_) (fun h_33 => ?_)
        · refine s_ldc (z := -1000002) C (by decide +kernel) dX4_loseFor_52 ?_
          exact s_iret C E dX4_loseFor_54 ⟨(-1000002), f, n, tk, ln, tr, lc, lo, ap, rt, dl, r0, p0, q0, r1, p1, q1, sl, g0, g1, K, T, Y, V, A, rfl, rfl, hR, (by rw [sp_lose, if_pos (by omega), if_pos (by omega)])⟩
        · refine s_iload_n 2 C dX4_loseFor_36 rfl 3 rfl ?_
          refine s_aload_n 3 C dX4_loseFor_37 rfl 0 rfl ?_
          refine s_get C dX4_loseFor_38 3 rfl hinX3 9 rfl 1 (by decide) (by decide +kernel) rfl ?_
          refine s_icmp_le 52 C dX4_loseFor_41 (by decide) (by omega) (by omega) (fun h_41 => ?_) (fun h_41 => ?_)
          · refine s_ldc (z := -1000002) C (by decide +kernel) dX4_loseFor_52 ?_
            exact s_iret C E dX4_loseFor_54 ⟨(-1000002), f, n, tk, ln, tr, lc, lo, ap, rt, dl, r0, p0, q0, r1, p1, q1, sl, g0, g1, K, T, Y, V, A, rfl, rfl, hR, (by rw [sp_lose, if_pos (by omega), if_pos (by omega)])⟩
          · refine s_aload_n 3 C dX4_loseFor_44 rfl 0 rfl ?_
            refine s_iload_n 2 C dX4_loseFor_45 rfl 3 rfl ?_
            refine s_callV (As := [vI r]) (rest := []) C dX4_loseFor_46 (c_X3_isGap l G d0 d1 r1 p1 q1 g1 r (by first | assumption | omega) (by first | assumption | omega)) gX4_loseFor_X3_isGap rfl 1 (by decide +kernel) (by decide) 9 3 rfl rfl rfl [9, 10] rfl (by decide) rfl (Nat.le_of_ble_eq_true rfl) ⟨Nat.zero_le _, Nat.zero_le _⟩ ?_
            intro v0 w0 hq
            obtain ⟨rfl, rfl⟩ := hq
            refine ⟨rfl, ?_⟩
            show fSt l G X 0 0 49 [(3, .ref d0), (0, .ref s0), (1, vI 1), (2, vI r)] [vI (bI (1 ≤ r ∧ r ≤ 100 ∧ g1 r ≠ 0))] [cO s0 4 [.ref a0, .ref b0, .ref d0, .ref e0, vI tk, vI ln, vI tr, vI lc, vI lo, vI ap, vI rt, vI dl], cO a0 1 [vI n, .ref a1, .ref a2, .ref a3, .ref a4, .ref a5], cA a1 G.2.1.1 100 K, cA a2 G.2.1.1 100 T, cA a3 G.2.1.1 100 Y, cA a4 G.2.1.1 100 V, cA a5 G.2.1.1 100 A, cO b0 3 [vI r0, vI p0, vI q0, .ref b1], cA b1 G.2.1.2.1 101 g0, cO d0 3 [vI r1, vI p1, vI q1, .ref d1], cA d1 G.2.1.2.1 101 g1, cA e0 G.2.1.1 3 sl]
            refine s_if_eq 55 C dX4_loseFor_49 (by decide) bI_rng (fun h_49 => ?_) (fun h_49 => ?_)
            · have h_49 := bI_f h_49
              refine s_aload_n 3 C dX4_loseFor_55 rfl 0 rfl ?_
              refine s_iload_n 2 C dX4_loseFor_56 rfl 3 rfl ?_
              refine s_callV (As := [vI r]) (rest := []) C dX4_loseFor_57 (c_X3_setGap l G d0 d1 r1 p1 q1 g1 r (by first | assumption | omega)) gX4_loseFor_X3_setGap rfl 1 (by decide +kernel) (by decide) 9 3 rfl rfl rfl [9, 10] rfl (by decide) rfl (Nat.le_of_ble_eq_true rfl) ⟨Nat.zero_le _, Nat.zero_le _⟩ ?_
              intro v0 w0 hq
              obtain ⟨rfl, rfl⟩ := hq
              refine ⟨rfl, ?_⟩
              show fSt l G X 0 0 60 [(3, .ref d0), (0, .ref s0), (1, vI 1), (2, vI r)] [] [cO s0 4 [.ref a0, .ref b0, .ref d0, .ref e0, vI tk, vI ln, vI tr, vI lc, vI lo, vI ap, vI rt, vI dl], cO a0 1 [vI n, .ref a1, .ref a2, .ref a3, .ref a4, .ref a5], cA a1 G.2.1.1 100 K, cA a2 G.2.1.1 100 T, cA a3 G.2.1.1 100 Y, cA a4 G.2.1.1 100 V, cA a5 G.2.1.1 100 A, cO b0 3 [vI r0, vI p0, vI q0, .ref b1], cA b1 G.2.1.2.1 101 g0, cO d0 3 [vI r1, vI p1, vI q1, .ref d1], cA d1 G.2.1.2.1 101 (uZ g1 r 1), cA e0 G.2.1.1 3 sl]
              refine s_aload_n 0 C dX4_loseFor_60 rfl 1 rfl ?_
              refine s_dup C dX4_loseFor_61 rfl ?_
              refine s_get C dX4_loseFor_62 4 rfl hinX4 0 rfl 8 (by decide) (by decide +kernel) rfl ?_
              refine s_iconst C dX4_loseFor_65 ?_
              refine s_iadd C dX4_loseFor_66 ?_
              refine s_put [cO s0 4 [.ref a0, .ref b0, .ref d0, .ref e0, vI tk, vI ln, vI tr, vI lc, vI (lo + 1), vI ap, vI rt, vI dl], cO a0 1 [vI n, .ref a1, .ref a2, .ref a3, .ref a4, .ref a5], cA a1 G.2.1.1 100 K, cA a2 G.2.1.1 100 T, cA a3 G.2.1.1 100 Y, cA a4 G.2.1.1 100 V, cA a5 G.2.1.1 100 A, cO b0 3 [vI r0, vI p0, vI q0, .ref b1], cA b1 G.2.1.2.1 101 g0, cO d0 3 [vI r1, vI p1, vI q1, .ref d1], cA d1 G.2.1.2.1 101 (uZ g1 r 1), cA e0 G.2.1.1 3 sl] C dX4_loseFor_67 4 rfl hinX4 tyX4 tyX4_ok nmX4 0 rfl 8 (by decide) (by decide +kernel) rfl rfl rfl (Nat.le_of_ble_eq_true rfl) rfl ?_
              refine s_aload_n 3 C dX4_loseFor_70 rfl 0 rfl ?_
              refine s_callV (As := []) (rest := []) C dX4_loseFor_71 (c_X3_gapCount l G d0 d1 r1 p1 q1 (uZ g1 r 1) (hg1.up (Or.inr rfl))) gX4_loseFor_X3_gapCount rfl 0 (by decide +kernel) (by decide) 9 3 rfl rfl rfl [9, 10] rfl (by decide) rfl (Nat.le_of_ble_eq_true rfl) ⟨Nat.zero_le _, Nat.zero_le _⟩ ?_
              intro v0 w0 hq
              obtain ⟨rfl, rfl⟩ := hq
              refine ⟨rfl, ?_⟩
              show fSt l G X 0 0 74 [(3, .ref d0), (0, .ref s0), (1, vI 1), (2, vI r)] [vI (sC (uZ g1 r 1))] [cO s0 4 [.ref a0, .ref b0, .ref d0, .ref e0, vI tk, vI ln, vI tr, vI lc, vI (lo + 1), vI ap, vI rt, vI dl], cO a0 1 [vI n, .ref a1, .ref a2, .ref a3, .ref a4, .ref a5], cA a1 G.2.1.1 100 K, cA a2 G.2.1.1 100 T, cA a3 G.2.1.1 100 Y, cA a4 G.2.1.1 100 V, cA a5 G.2.1.1 100 A, cO b0 3 [vI r0, vI p0, vI q0, .ref b1], cA b1 G.2.1.2.1 101 g0, cO d0 3 [vI r1, vI p1, vI q1, .ref d1], cA d1 G.2.1.2.1 101 (uZ g1 r 1), cA e0 G.2.1.1 3 sl]
              exact s_iret C E dX4_loseFor_74 ⟨(sC (uZ g1 r 1)), (uZ (uZ f (100 * 1 + r + 17) 1) 5 (lo + 1)), n, tk, ln, tr, lc, (lo + 1), ap, rt, dl, r0, p0, q0, r1, p1, q1, sl, g0, (uZ g1 r 1), K, T, Y, V, A, rfl, rfl, ((hR.s_g1 (by omega) (Or.inr rfl)).s_lo (z := lo + 1)), (by rw [sp_lose, if_pos (by omega), if_neg (by omega), hR.e_lo, lose_sC1 hR hI (by omega)])⟩
            · have h_49 := bI_t h_49
              refine s_ldc (z := -1000002) C (by decide +kernel) dX4_loseFor_52 ?_
              exact s_iret C E dX4_loseFor_54 ⟨(-1000002), f, n, tk, ln, tr, lc, lo, ap, rt, dl, r0, p0, q0, r1, p1, q1, sl, g0, g1, K, T, Y, V, A, rfl, rfl, hR, (by rw [sp_lose, if_pos (by omega), if_pos (by omega)])⟩
    · refine s_ldc (z := -1000001) C (by decide +kernel) dX4_loseFor_12 ?_
      exact s_iret C E dX4_loseFor_14 ⟨(-1000001), f, n, tk, ln, tr, lc, lo, ap, rt, dl, r0, p0, q0, r1, p1, q1, sl, g0, g1, K, T, Y, V, A, rfl, rfl, hR, (by rw [sp_lose, if_neg (by omega)])⟩

set_option maxHeartbeats 4000000 in
set_option maxRecDepth 100000 in
theorem c_X4_loseFor_x (l : Launch) (G : fG) (s0 a0 a1 a2 a3 a4 a5 b0 b1 d0 d1 e0 : Nat) (B : Int) (f : Int → Int) (n tk ln tr lc lo ap rt dl r0 p0 q0 r1 p1 q1 : Int) (sl g0 g1 K T Y V A : Int → Int) (b r : Int) (hR : RS f n tk ln tr lc lo ap rt dl r0 p0 q0 r1 p1 q1 sl g0 g1 K T Y V A) (hI : Inv B f) (hB : B ≤ 1073000000) (hr : -2147483648 ≤ r ∧ r < 2147483648) (hb : -2147483648 ≤ b ∧ b < 2147483648) (hbx : ¬ (0 ≤ b ∧ b ≤ 1)) : fCt l G yX4_loseFor wsX4_loseFor 1 22 0 0 [.ref s0, vI b, vI r] [cO s0 4 [.ref a0, .ref b0, .ref d0, .ref e0, vI tk, vI ln, vI tr, vI lc, vI lo, vI ap, vI rt, vI dl], cO a0 1 [vI n, .ref a1, .ref a2, .ref a3, .ref a4, .ref a5], cA a1 G.2.1.1 100 K, cA a2 G.2.1.1 100 T, cA a3 G.2.1.1 100 Y, cA a4 G.2.1.1 100 V, cA a5 G.2.1.1 100 A, cO b0 3 [vI r0, vI p0, vI q0, .ref b1], cA b1 G.2.1.2.1 101 g0, cO d0 3 [vI r1, vI p1, vI q1, .ref d1], cA d1 G.2.1.2.1 101 g1, cA e0 G.2.1.1 3 sl] (fun (v0 : Option Value) (w0 : va_W) => ∃ (z : Int) (f2 : Int → Int) (n2 tk2 ln2 tr2 lc2 lo2 ap2 rt2 dl2 r02 p02 q02 r12 p12 q12 : Int) (sl2 g02 g12 K2 T2 Y2 V2 A2 : Int → Int), v0 = some (vI z) ∧ w0 = [cO s0 4 [.ref a0, .ref b0, .ref d0, .ref e0, vI tk2, vI ln2, vI tr2, vI lc2, vI lo2, vI ap2, vI rt2, vI dl2], cO a0 1 [vI n2, .ref a1, .ref a2, .ref a3, .ref a4, .ref a5], cA a1 G.2.1.1 100 K2, cA a2 G.2.1.1 100 T2, cA a3 G.2.1.1 100 Y2, cA a4 G.2.1.1 100 V2, cA a5 G.2.1.1 100 A2, cO b0 3 [vI r02, vI p02, vI q02, .ref b1], cA b1 G.2.1.2.1 101 g02, cO d0 3 [vI r12, vI p12, vI q12, .ref d1], cA d1 G.2.1.2.1 101 g12, cA e0 G.2.1.1 3 sl2] ∧ (RS f2 n2 tk2 ln2 tr2 lc2 lo2 ap2 rt2 dl2 r02 p02 q02 r12 p12 q12 sl2 g02 g12 K2 T2 Y2 V2 A2) ∧ ((z, f2) = sp_lose f b r)) := by
  refine fs_met (cc := cX4_loseFor) (nL := 4) (ret := (some .int)) (by decide) rfl (Nat.le_of_ble_eq_true rfl) ?_
  intro X C E
  show fSt l G X 0 0 0 [(0, .ref s0), (1, vI b), (2, vI r)] [] [cO s0 4 [.ref a0, .ref b0, .ref d0, .ref e0, vI tk, vI ln, vI tr, vI lc, vI lo, vI ap, vI rt, vI dl], cO a0 1 [vI n, .ref a1, .ref a2, .ref a3, .ref a4, .ref a5], cA a1 G.2.1.1 100 K, cA a2 G.2.1.1 100 T, cA a3 G.2.1.1 100 Y, cA a4 G.2.1.1 100 V, cA a5 G.2.1.1 100 A, cO b0 3 [vI r0, vI p0, vI q0, .ref b1], cA b1 G.2.1.2.1 101 g0, cO d0 3 [vI r1, vI p1, vI q1, .ref d1], cA d1 G.2.1.2.1 101 g1, cA e0 G.2.1.1 3 sl]
  obtain ⟨hn, htk, hln, htr, hlc, hlo, hap, hrt, hdl, hS0, hS1⟩ := hR.scal hI
  have hK := hR.hrK
  have hT := hR.hrT
  have hY := hR.hrY
  have hV := hR.hrV
  have hA := hR.hrA
  have hsl := hR.hrs
  have hg0 := hR.hG0
  have hg1 := hR.hG1
  have hb0 := hR.b0
  have hb1 := hR.b1
  refine s_iload_n 1 C dX4_loseFor_0 rfl 1 rfl ?_
  refine s_callSN (As := [vI b]) (rest := []) (host := RX6) C dX4_loseFor_1 (c_X6_isStandby l G b (by first | assumption | omega)) gX4_loseFor_X6_isStandby_n77 (by decide +kernel) (by decide +kernel) (by decide +kernel) rfl 1 (by decide +kernel) (by decide) [] rfl (by decide) rfl (Nat.le_of_ble_eq_true rfl) ⟨Nat.zero_le _, Nat.zero_le _⟩ ?_
  intro v0 w0 hq
  obtain ⟨rfl, rfl⟩ := hq
  refine ⟨rfl, ?_⟩
  show fSt l G X 0 0 4 [(0, .ref s0), (1, vI b), (2, vI r)] [vI (bI (0 ≤ b ∧ b ≤ 1))] [cO s0 4 [.ref a0, .ref b0, .ref d0, .ref e0, vI tk, vI ln, vI tr, vI lc, vI lo, vI ap, vI rt, vI dl], cO a0 1 [vI n, .ref a1, .ref a2, .ref a3, .ref a4, .ref a5], cA a1 G.2.1.1 100 K, cA a2 G.2.1.1 100 T, cA a3 G.2.1.1 100 Y, cA a4 G.2.1.1 100 V, cA a5 G.2.1.1 100 A, cO b0 3 [vI r0, vI p0, vI q0, .ref b1], cA b1 G.2.1.2.1 101 g0, cO d0 3 [vI r1, vI p1, vI q1, .ref d1], cA d1 G.2.1.2.1 101 g1, cA e0 G.2.1.1 3 sl]
  refine s_if_eq 12 C dX4_loseFor_4 (by decide) bI_rng (fun h_4 => ?_) (fun h_4 => ?_)
  · have h_4 := bI_f h_4
    refine s_ldc (z := -1000001) C (by decide +kernel) dX4_loseFor_12 ?_
    exact s_iret C E dX4_loseFor_14 ⟨(-1000001), f, n, tk, ln, tr, lc, lo, ap, rt, dl, r0, p0, q0, r1, p1, q1, sl, g0, g1, K, T, Y, V, A, rfl, rfl, hR, (by rw [sp_lose, if_neg (by omega)])⟩
  · have h_4 := bI_t h_4
    exfalso
    omega

set_option maxHeartbeats 4000000 in
set_option maxRecDepth 100000 in
theorem c_X4_resendTo_0 (l : Launch) (G : fG) (s0 a0 a1 a2 a3 a4 a5 b0 b1 d0 d1 e0 : Nat) (B : Int) (f : Int → Int) (n tk ln tr lc lo ap rt dl r0 p0 q0 r1 p1 q1 : Int) (sl g0 g1 K T Y V A : Int → Int) (hR : RS f n tk ln tr lc lo ap rt dl r0 p0 q0 r1 p1 q1 sl g0 g1 K T Y V A) (hI : Inv B f) (hB : B ≤ 1073000000) : fCt l G yX4_resendTo wsX4_resendTo 2 35 0 0 [.ref s0, vI 0] [cO s0 4 [.ref a0, .ref b0, .ref d0, .ref e0, vI tk, vI ln, vI tr, vI lc, vI lo, vI ap, vI rt, vI dl], cO a0 1 [vI n, .ref a1, .ref a2, .ref a3, .ref a4, .ref a5], cA a1 G.2.1.1 100 K, cA a2 G.2.1.1 100 T, cA a3 G.2.1.1 100 Y, cA a4 G.2.1.1 100 V, cA a5 G.2.1.1 100 A, cO b0 3 [vI r0, vI p0, vI q0, .ref b1], cA b1 G.2.1.2.1 101 g0, cO d0 3 [vI r1, vI p1, vI q1, .ref d1], cA d1 G.2.1.2.1 101 g1, cA e0 G.2.1.1 3 sl] (fun (v0 : Option Value) (w0 : va_W) => ∃ (z : Int) (f2 : Int → Int) (n2 tk2 ln2 tr2 lc2 lo2 ap2 rt2 dl2 r02 p02 q02 r12 p12 q12 : Int) (sl2 g02 g12 K2 T2 Y2 V2 A2 : Int → Int), v0 = some (vI z) ∧ w0 = [cO s0 4 [.ref a0, .ref b0, .ref d0, .ref e0, vI tk2, vI ln2, vI tr2, vI lc2, vI lo2, vI ap2, vI rt2, vI dl2], cO a0 1 [vI n2, .ref a1, .ref a2, .ref a3, .ref a4, .ref a5], cA a1 G.2.1.1 100 K2, cA a2 G.2.1.1 100 T2, cA a3 G.2.1.1 100 Y2, cA a4 G.2.1.1 100 V2, cA a5 G.2.1.1 100 A2, cO b0 3 [vI r02, vI p02, vI q02, .ref b1], cA b1 G.2.1.2.1 101 g02, cO d0 3 [vI r12, vI p12, vI q12, .ref d1], cA d1 G.2.1.2.1 101 g12, cA e0 G.2.1.1 3 sl2] ∧ (RS f2 n2 tk2 ln2 tr2 lc2 lo2 ap2 rt2 dl2 r02 p02 q02 r12 p12 q12 sl2 g02 g12 K2 T2 Y2 V2 A2) ∧ ((z, f2) = sp_resend f 0)) := by
  refine fs_met (cc := cX4_resendTo) (nL := 4) (ret := (some .int)) (by decide) rfl (Nat.le_of_ble_eq_true rfl) ?_
  intro X C E
  show fSt l G X 0 0 0 [(0, .ref s0), (1, vI 0)] [] [cO s0 4 [.ref a0, .ref b0, .ref d0, .ref e0, vI tk, vI ln, vI tr, vI lc, vI lo, vI ap, vI rt, vI dl], cO a0 1 [vI n, .ref a1, .ref a2, .ref a3, .ref a4, .ref a5], cA a1 G.2.1.1 100 K, cA a2 G.2.1.1 100 T, cA a3 G.2.1.1 100 Y, cA a4 G.2.1.1 100 V, cA a5 G.2.1.1 100 A, cO b0 3 [vI r0, vI p0, vI q0, .ref b1], cA b1 G.2.1.2.1 101 g0, cO d0 3 [vI r1, vI p1, vI q1, .ref d1], cA d1 G.2.1.2.1 101 g1, cA e0 G.2.1.1 3 sl]
  have hinX3 : ∀ w ∈ u_ws RX3 TX3 4, w ∈ wsX4_resendTo := by decide +kernel
  obtain ⟨hn, htk, hln, htr, hlc, hlo, hap, hrt, hdl, hS0, hS1⟩ := hR.scal hI
  have hK := hR.hrK
  have hT := hR.hrT
  have hY := hR.hrY
  have hV := hR.hrV
  have hA := hR.hrA
  have hsl := hR.hrs
  have hg0 := hR.hG0
  have hg1 := hR.hG1
  have hb0 := hR.b0
  have hb1 := hR.b1
  refine s_iload_n 1 C dX4_resendTo_0 rfl 1 rfl ?_
  refine s_callSN (As := [vI 0]) (rest := []) (host := RX6) C dX4_resendTo_1 (c_X6_isStandby l G 0 (by first | assumption | omega)) gX4_resendTo_X6_isStandby_n77 (by decide +kernel) (by decide +kernel) (by decide +kernel) rfl 1 (by decide +kernel) (by decide) [] rfl (by decide) rfl (Nat.le_of_ble_eq_true rfl) ⟨Nat.zero_le _, Nat.zero_le _⟩ ?_
  intro v0 w0 hq
  obtain ⟨rfl, rfl⟩ := hq
  refine ⟨rfl, ?_⟩
  show fSt l G X 0 0 4 [(0, .ref s0), (1, vI 0)] [vI (bI (0 ≤ 0 ∧ 0 ≤ 1))] [cO s0 4 [.ref a0, .ref b0, .ref d0, .ref e0, vI tk, vI ln, vI tr, vI lc, vI lo, vI ap, vI rt, vI dl], cO a0 1 [vI n, .ref a1, .ref a2, .ref a3, .ref a4, .ref a5], cA a1 G.2.1.1 100 K, cA a2 G.2.1.1 100 T, cA a3 G.2.1.1 100 Y, cA a4 G.2.1.1 100 V, cA a5 G.2.1.1 100 A, cO b0 3 [vI r0, vI p0, vI q0, .ref b1], cA b1 G.2.1.2.1 101 g0, cO d0 3 [vI r1, vI p1, vI q1, .ref d1], cA d1 G.2.1.2.1 101 g1, cA e0 G.2.1.1 3 sl]
  refine s_if_ne 10 C dX4_resendTo_4 (by decide) bI_rng (fun h_4 => ?_) (fun h_4 => ?_)
  · have h_4 := bI_t h_4
    refine s_aload_n 0 C dX4_resendTo_10 rfl 0 rfl ?_
    refine s_iload_n 1 C dX4_resendTo_11 rfl 1 rfl ?_
    refine s_callV (As := [vI 0]) (rest := []) C dX4_resendTo_12 (c_X4_standby0 l G s0 a0 b0 d0 [.ref e0, vI tk, vI ln, vI tr, vI lc, vI lo, vI ap, vI rt, vI dl] 0 (by first | assumption | omega)) gX4_resendTo_X4_standby rfl 1 (by decide +kernel) (by decide) 0 4 rfl rfl rfl [0] rfl (by decide) rfl (Nat.le_of_ble_eq_true rfl) ⟨Nat.zero_le _, Nat.zero_le _⟩ ?_
    intro v0 w0 hq
    obtain ⟨rfl, rfl⟩ := hq
    refine ⟨rfl, ?_⟩
    show fSt l G X 0 0 15 [(0, .ref s0), (1, vI 0)] [.ref b0] [cO s0 4 [.ref a0, .ref b0, .ref d0, .ref e0, vI tk, vI ln, vI tr, vI lc, vI lo, vI ap, vI rt, vI dl], cO a0 1 [vI n, .ref a1, .ref a2, .ref a3, .ref a4, .ref a5], cA a1 G.2.1.1 100 K, cA a2 G.2.1.1 100 T, cA a3 G.2.1.1 100 Y, cA a4 G.2.1.1 100 V, cA a5 G.2.1.1 100 A, cO b0 3 [vI r0, vI p0, vI q0, .ref b1], cA b1 G.2.1.2.1 101 g0, cO d0 3 [vI r1, vI p1, vI q1, .ref d1], cA d1 G.2.1.2.1 101 g1, cA e0 G.2.1.1 3 sl]
    refine s_astore_n 2 [(2, .ref b0), (0, .ref s0), (1, vI 0)] C dX4_resendTo_15 rfl (by decide) rfl ?_
    refine s_aload_n 2 C dX4_resendTo_16 rfl 0 rfl ?_
    refine s_get C dX4_resendTo_17 3 rfl hinX3 7 rfl 2 (by decide) (by decide +kernel) rfl ?_
    refine s_if_eq 26 C dX4_resendTo_20 (by decide) (by omega) (fun h_20 => ?_) (fun h_20 => ?_)
    · refine s_aload_n 2 C dX4_resendTo_26 rfl 0 rfl ?_
      refine s_callV (As := []) (rest := []) C dX4_resendTo_27 (c_X3_gapCount l G b0 b1 r0 p0 q0 g0 (by first | assumption | omega)) gX4_resendTo_X3_gapCount rfl 0 (by decide +kernel) (by decide) 7 3 rfl rfl rfl [7, 8] rfl (by decide) rfl (Nat.le_of_ble_eq_true rfl) ⟨Nat.zero_le _, Nat.zero_le _⟩ ?_
      intro v0 w0 hq
      obtain ⟨rfl, rfl⟩ := hq
      refine ⟨rfl, ?_⟩
      show fSt l G X 0 0 30 [(2, .ref b0), (0, .ref s0), (1, vI 0)] [vI (sC g0)] [cO s0 4 [.ref a0, .ref b0, .ref d0, .ref e0, vI tk, vI ln, vI tr, vI lc, vI lo, vI ap, vI rt, vI dl], cO a0 1 [vI n, .ref a1, .ref a2, .ref a3, .ref a4, .ref a5], cA a1 G.2.1.1 100 K, cA a2 G.2.1.1 100 T, cA a3 G.2.1.1 100 Y, cA a4 G.2.1.1 100 V, cA a5 G.2.1.1 100 A, cO b0 3 [vI r0, vI p0, vI q0, .ref b1], cA b1 G.2.1.2.1 101 g0, cO d0 3 [vI r1, vI p1, vI q1, .ref d1], cA d1 G.2.1.2.1 101 g1, cA e0 G.2.1.1 3 sl]
      refine s_istore_n 3 [(3, vI (sC g0)), (2, .ref b0), (0, .ref s0), (1, vI 0)] C dX4_resendTo_30 rfl (by decide) rfl ?_
      refine s_aload_n 2 C dX4_resendTo_31 rfl 1 rfl ?_
      refine s_iconst C dX4_resendTo_32 ?_
      refine s_callV (As := [vI 0]) (rest := []) C dX4_resendTo_33 (c_X3_dropGapsBehind l G b0 b1 r0 p0 q0 g0 0 (by first | assumption | omega)) gX4_resendTo_X3_dropGapsBehind rfl 1 (by decide +kernel) (by decide) 7 3 rfl rfl rfl [7, 8] rfl (by decide) rfl (Nat.le_of_ble_eq_true rfl) ⟨Nat.zero_le _, Nat.zero_le _⟩ ?_
      intro v0 w0 hq
      obtain ⟨rfl, rfl⟩ := hq
      refine ⟨rfl, ?_⟩
      show fSt l G X 0 0 36 [(3, vI (sC g0)), (2, .ref b0), (0, .ref s0), (1, vI 0)] [] [cO s0 4 [.ref a0, .ref b0, .ref d0, .ref e0, vI tk, vI ln, vI tr, vI lc, vI lo, vI ap, vI rt, vI dl], cO a0 1 [vI n, .ref a1, .ref a2, .ref a3, .ref a4, .ref a5], cA a1 G.2.1.1 100 K, cA a2 G.2.1.1 100 T, cA a3 G.2.1.1 100 Y, cA a4 G.2.1.1 100 V, cA a5 G.2.1.1 100 A, cO b0 3 [vI r0, vI p0, vI q0, .ref b1], cA b1 G.2.1.2.1 101 (dG g0 0), cO d0 3 [vI r1, vI p1, vI q1, .ref d1], cA d1 G.2.1.2.1 101 g1, cA e0 G.2.1.1 3 sl]
      refine s_iload_n 3 C dX4_resendTo_36 rfl 0 rfl ?_
      exact s_iret C E dX4_resendTo_37 ⟨(sC g0), (fG0 f 0 0 (100 * 0 + 118)), n, tk, ln, tr, lc, lo, ap, rt, dl, r0, p0, q0, r1, p1, q1, sl, (dG g0 0), g1, K, T, Y, V, A, rfl, rfl, (hR.s_d0 (by omega)), (by rw [sp_resend, if_pos (by omega), if_neg (by omega), q_sC0 hR hI])⟩
    · refine s_ldc (z := -1000002) C (by decide +kernel) dX4_resendTo_23 ?_
      exact s_iret C E dX4_resendTo_25 ⟨(-1000002), f, n, tk, ln, tr, lc, lo, ap, rt, dl, r0, p0, q0, r1, p1, q1, sl, g0, g1, K, T, Y, V, A, rfl, rfl, hR, (by rw [sp_resend, if_pos (by omega), if_pos (by omega)])⟩
  · have h_4 := bI_f h_4
    refine s_ldc (z := -1000001) C (by decide +kernel) dX4_resendTo_7 ?_
    exact s_iret C E dX4_resendTo_9 ⟨(-1000001), f, n, tk, ln, tr, lc, lo, ap, rt, dl, r0, p0, q0, r1, p1, q1, sl, g0, g1, K, T, Y, V, A, rfl, rfl, hR, (by rw [sp_resend, if_neg (by omega)])⟩

set_option maxHeartbeats 4000000 in
set_option maxRecDepth 100000 in
theorem c_X4_resendTo_1 (l : Launch) (G : fG) (s0 a0 a1 a2 a3 a4 a5 b0 b1 d0 d1 e0 : Nat) (B : Int) (f : Int → Int) (n tk ln tr lc lo ap rt dl r0 p0 q0 r1 p1 q1 : Int) (sl g0 g1 K T Y V A : Int → Int) (hR : RS f n tk ln tr lc lo ap rt dl r0 p0 q0 r1 p1 q1 sl g0 g1 K T Y V A) (hI : Inv B f) (hB : B ≤ 1073000000) : fCt l G yX4_resendTo wsX4_resendTo 2 35 0 0 [.ref s0, vI 1] [cO s0 4 [.ref a0, .ref b0, .ref d0, .ref e0, vI tk, vI ln, vI tr, vI lc, vI lo, vI ap, vI rt, vI dl], cO a0 1 [vI n, .ref a1, .ref a2, .ref a3, .ref a4, .ref a5], cA a1 G.2.1.1 100 K, cA a2 G.2.1.1 100 T, cA a3 G.2.1.1 100 Y, cA a4 G.2.1.1 100 V, cA a5 G.2.1.1 100 A, cO b0 3 [vI r0, vI p0, vI q0, .ref b1], cA b1 G.2.1.2.1 101 g0, cO d0 3 [vI r1, vI p1, vI q1, .ref d1], cA d1 G.2.1.2.1 101 g1, cA e0 G.2.1.1 3 sl] (fun (v0 : Option Value) (w0 : va_W) => ∃ (z : Int) (f2 : Int → Int) (n2 tk2 ln2 tr2 lc2 lo2 ap2 rt2 dl2 r02 p02 q02 r12 p12 q12 : Int) (sl2 g02 g12 K2 T2 Y2 V2 A2 : Int → Int), v0 = some (vI z) ∧ w0 = [cO s0 4 [.ref a0, .ref b0, .ref d0, .ref e0, vI tk2, vI ln2, vI tr2, vI lc2, vI lo2, vI ap2, vI rt2, vI dl2], cO a0 1 [vI n2, .ref a1, .ref a2, .ref a3, .ref a4, .ref a5], cA a1 G.2.1.1 100 K2, cA a2 G.2.1.1 100 T2, cA a3 G.2.1.1 100 Y2, cA a4 G.2.1.1 100 V2, cA a5 G.2.1.1 100 A2, cO b0 3 [vI r02, vI p02, vI q02, .ref b1], cA b1 G.2.1.2.1 101 g02, cO d0 3 [vI r12, vI p12, vI q12, .ref d1], cA d1 G.2.1.2.1 101 g12, cA e0 G.2.1.1 3 sl2] ∧ (RS f2 n2 tk2 ln2 tr2 lc2 lo2 ap2 rt2 dl2 r02 p02 q02 r12 p12 q12 sl2 g02 g12 K2 T2 Y2 V2 A2) ∧ ((z, f2) = sp_resend f 1)) := by
  refine fs_met (cc := cX4_resendTo) (nL := 4) (ret := (some .int)) (by decide) rfl (Nat.le_of_ble_eq_true rfl) ?_
  intro X C E
  show fSt l G X 0 0 0 [(0, .ref s0), (1, vI 1)] [] [cO s0 4 [.ref a0, .ref b0, .ref d0, .ref e0, vI tk, vI ln, vI tr, vI lc, vI lo, vI ap, vI rt, vI dl], cO a0 1 [vI n, .ref a1, .ref a2, .ref a3, .ref a4, .ref a5], cA a1 G.2.1.1 100 K, cA a2 G.2.1.1 100 T, cA a3 G.2.1.1 100 Y, cA a4 G.2.1.1 100 V, cA a5 G.2.1.1 100 A, cO b0 3 [vI r0, vI p0, vI q0, .ref b1], cA b1 G.2.1.2.1 101 g0, cO d0 3 [vI r1, vI p1, vI q1, .ref d1], cA d1 G.2.1.2.1 101 g1, cA e0 G.2.1.1 3 sl]
  have hinX3 : ∀ w ∈ u_ws RX3 TX3 4, w ∈ wsX4_resendTo := by decide +kernel
  obtain ⟨hn, htk, hln, htr, hlc, hlo, hap, hrt, hdl, hS0, hS1⟩ := hR.scal hI
  have hK := hR.hrK
  have hT := hR.hrT
  have hY := hR.hrY
  have hV := hR.hrV
  have hA := hR.hrA
  have hsl := hR.hrs
  have hg0 := hR.hG0
  have hg1 := hR.hG1
  have hb0 := hR.b0
  have hb1 := hR.b1
  refine s_iload_n 1 C dX4_resendTo_0 rfl 1 rfl ?_
  refine s_callSN (As := [vI 1]) (rest := []) (host := RX6) C dX4_resendTo_1 (c_X6_isStandby l G 1 (by first | assumption | omega)) gX4_resendTo_X6_isStandby_n77 (by decide +kernel) (by decide +kernel) (by decide +kernel) rfl 1 (by decide +kernel) (by decide) [] rfl (by decide) rfl (Nat.le_of_ble_eq_true rfl) ⟨Nat.zero_le _, Nat.zero_le _⟩ ?_
  intro v0 w0 hq
  obtain ⟨rfl, rfl⟩ := hq
  refine ⟨rfl, ?_⟩
  show fSt l G X 0 0 4 [(0, .ref s0), (1, vI 1)] [vI (bI (0 ≤ 1 ∧ 1 ≤ 1))] [cO s0 4 [.ref a0, .ref b0, .ref d0, .ref e0, vI tk, vI ln, vI tr, vI lc, vI lo, vI ap, vI rt, vI dl], cO a0 1 [vI n, .ref a1, .ref a2, .ref a3, .ref a4, .ref a5], cA a1 G.2.1.1 100 K, cA a2 G.2.1.1 100 T, cA a3 G.2.1.1 100 Y, cA a4 G.2.1.1 100 V, cA a5 G.2.1.1 100 A, cO b0 3 [vI r0, vI p0, vI q0, .ref b1], cA b1 G.2.1.2.1 101 g0, cO d0 3 [vI r1, vI p1, vI q1, .ref d1], cA d1 G.2.1.2.1 101 g1, cA e0 G.2.1.1 3 sl]
  refine s_if_ne 10 C dX4_resendTo_4 (by decide) bI_rng (fun h_4 => ?_) (fun h_4 => ?_)
  · have h_4 := bI_t h_4
    refine s_aload_n 0 C dX4_resendTo_10 rfl 0 rfl ?_
    refine s_iload_n 1 C dX4_resendTo_11 rfl 1 rfl ?_
    refine s_callV (As := [vI 1]) (rest := []) C dX4_resendTo_12 (c_X4_standby1 l G s0 a0 b0 d0 [.ref e0, vI tk, vI ln, vI tr, vI lc, vI lo, vI ap, vI rt, vI dl] 1 (by first | assumption | omega)) gX4_resendTo_X4_standby rfl 1 (by decide +kernel) (by decide) 0 4 rfl rfl rfl [0] rfl (by decide) rfl (Nat.le_of_ble_eq_true rfl) ⟨Nat.zero_le _, Nat.zero_le _⟩ ?_
    intro v0 w0 hq
    obtain ⟨rfl, rfl⟩ := hq
    refine ⟨rfl, ?_⟩
    show fSt l G X 0 0 15 [(0, .ref s0), (1, vI 1)] [.ref d0] [cO s0 4 [.ref a0, .ref b0, .ref d0, .ref e0, vI tk, vI ln, vI tr, vI lc, vI lo, vI ap, vI rt, vI dl], cO a0 1 [vI n, .ref a1, .ref a2, .ref a3, .ref a4, .ref a5], cA a1 G.2.1.1 100 K, cA a2 G.2.1.1 100 T, cA a3 G.2.1.1 100 Y, cA a4 G.2.1.1 100 V, cA a5 G.2.1.1 100 A, cO b0 3 [vI r0, vI p0, vI q0, .ref b1], cA b1 G.2.1.2.1 101 g0, cO d0 3 [vI r1, vI p1, vI q1, .ref d1], cA d1 G.2.1.2.1 101 g1, cA e0 G.2.1.1 3 sl]
    refine s_astore_n 2 [(2, .ref d0), (0, .ref s0), (1, vI 1)] C dX4_resendTo_15 rfl (by decide) rfl ?_
    refine s_aload_n 2 C dX4_resendTo_16 rfl 0 rfl ?_
    refine s_get C dX4_resendTo_17 3 rfl hinX3 9 rfl 2 (by decide) (by decide +kernel) rfl ?_
    refine s_if_eq 26 C dX4_resendTo_20 (by decide) (by omega) (fun h_20 => ?_) (fun h_20 => ?_)
    · refine s_aload_n 2 C dX4_resendTo_26 rfl 0 rfl ?_
      refine s_callV (As := []) (rest := []) C dX4_resendTo_27 (c_X3_gapCount l G d0 d1 r1 p1 q1 g1 (by first | assumption | omega)) gX4_resendTo_X3_gapCount rfl 0 (by decide +kernel) (by decide) 9 3 rfl rfl rfl [9, 10] rfl (by decide) rfl (Nat.le_of_ble_eq_true rfl) ⟨Nat.zero_le _, Nat.zero_le _⟩ ?_
      intro v0 w0 hq
      obtain ⟨rfl, rfl⟩ := hq
      refine ⟨rfl, ?_⟩
      show fSt l G X 0 0 30 [(2, .ref d0), (0, .ref s0), (1, vI 1)] [vI (sC g1)] [cO s0 4 [.ref a0, .ref b0, .ref d0, .ref e0, vI tk, vI ln, vI tr, vI lc, vI lo, vI ap, vI rt, vI dl], cO a0 1 [vI n, .ref a1, .ref a2, .ref a3, .ref a4, .ref a5], cA a1 G.2.1.1 100 K, cA a2 G.2.1.1 100 T, cA a3 G.2.1.1 100 Y, cA a4 G.2.1.1 100 V, cA a5 G.2.1.1 100 A, cO b0 3 [vI r0, vI p0, vI q0, .ref b1], cA b1 G.2.1.2.1 101 g0, cO d0 3 [vI r1, vI p1, vI q1, .ref d1], cA d1 G.2.1.2.1 101 g1, cA e0 G.2.1.1 3 sl]
      refine s_istore_n 3 [(3, vI (sC g1)), (2, .ref d0), (0, .ref s0), (1, vI 1)] C dX4_resendTo_30 rfl (by decide) rfl ?_
      refine s_aload_n 2 C dX4_resendTo_31 rfl 1 rfl ?_
      refine s_iconst C dX4_resendTo_32 ?_
      refine s_callV (As := [vI 0]) (rest := []) C dX4_resendTo_33 (c_X3_dropGapsBehind l G d0 d1 r1 p1 q1 g1 0 (by first | assumption | omega)) gX4_resendTo_X3_dropGapsBehind rfl 1 (by decide +kernel) (by decide) 9 3 rfl rfl rfl [9, 10] rfl (by decide) rfl (Nat.le_of_ble_eq_true rfl) ⟨Nat.zero_le _, Nat.zero_le _⟩ ?_
      intro v0 w0 hq
      obtain ⟨rfl, rfl⟩ := hq
      refine ⟨rfl, ?_⟩
      show fSt l G X 0 0 36 [(3, vI (sC g1)), (2, .ref d0), (0, .ref s0), (1, vI 1)] [] [cO s0 4 [.ref a0, .ref b0, .ref d0, .ref e0, vI tk, vI ln, vI tr, vI lc, vI lo, vI ap, vI rt, vI dl], cO a0 1 [vI n, .ref a1, .ref a2, .ref a3, .ref a4, .ref a5], cA a1 G.2.1.1 100 K, cA a2 G.2.1.1 100 T, cA a3 G.2.1.1 100 Y, cA a4 G.2.1.1 100 V, cA a5 G.2.1.1 100 A, cO b0 3 [vI r0, vI p0, vI q0, .ref b1], cA b1 G.2.1.2.1 101 g0, cO d0 3 [vI r1, vI p1, vI q1, .ref d1], cA d1 G.2.1.2.1 101 (dG g1 0), cA e0 G.2.1.1 3 sl]
      refine s_iload_n 3 C dX4_resendTo_36 rfl 0 rfl ?_
      exact s_iret C E dX4_resendTo_37 ⟨(sC g1), (fG0 f 1 0 (100 * 1 + 118)), n, tk, ln, tr, lc, lo, ap, rt, dl, r0, p0, q0, r1, p1, q1, sl, g0, (dG g1 0), K, T, Y, V, A, rfl, rfl, (hR.s_d1 (by omega)), (by rw [sp_resend, if_pos (by omega), if_neg (by omega), q_sC1 hR hI])⟩
    · refine s_ldc (z := -1000002) C (by decide +kernel) dX4_resendTo_23 ?_
      exact s_iret C E dX4_resendTo_25 ⟨(-1000002), f, n, tk, ln, tr, lc, lo, ap, rt, dl, r0, p0, q0, r1, p1, q1, sl, g0, g1, K, T, Y, V, A, rfl, rfl, hR, (by rw [sp_resend, if_pos (by omega), if_pos (by omega)])⟩
  · have h_4 := bI_f h_4
    refine s_ldc (z := -1000001) C (by decide +kernel) dX4_resendTo_7 ?_
    exact s_iret C E dX4_resendTo_9 ⟨(-1000001), f, n, tk, ln, tr, lc, lo, ap, rt, dl, r0, p0, q0, r1, p1, q1, sl, g0, g1, K, T, Y, V, A, rfl, rfl, hR, (by rw [sp_resend, if_neg (by omega)])⟩

set_option maxHeartbeats 4000000 in
set_option maxRecDepth 100000 in
theorem c_X4_resendTo_x (l : Launch) (G : fG) (s0 a0 a1 a2 a3 a4 a5 b0 b1 d0 d1 e0 : Nat) (B : Int) (f : Int → Int) (n tk ln tr lc lo ap rt dl r0 p0 q0 r1 p1 q1 : Int) (sl g0 g1 K T Y V A : Int → Int) (b : Int) (hR : RS f n tk ln tr lc lo ap rt dl r0 p0 q0 r1 p1 q1 sl g0 g1 K T Y V A) (hI : Inv B f) (hB : B ≤ 1073000000) (hb : -2147483648 ≤ b ∧ b < 2147483648) (hbx : ¬ (0 ≤ b ∧ b ≤ 1)) : fCt l G yX4_resendTo wsX4_resendTo 2 35 0 0 [.ref s0, vI b] [cO s0 4 [.ref a0, .ref b0, .ref d0, .ref e0, vI tk, vI ln, vI tr, vI lc, vI lo, vI ap, vI rt, vI dl], cO a0 1 [vI n, .ref a1, .ref a2, .ref a3, .ref a4, .ref a5], cA a1 G.2.1.1 100 K, cA a2 G.2.1.1 100 T, cA a3 G.2.1.1 100 Y, cA a4 G.2.1.1 100 V, cA a5 G.2.1.1 100 A, cO b0 3 [vI r0, vI p0, vI q0, .ref b1], cA b1 G.2.1.2.1 101 g0, cO d0 3 [vI r1, vI p1, vI q1, .ref d1], cA d1 G.2.1.2.1 101 g1, cA e0 G.2.1.1 3 sl] (fun (v0 : Option Value) (w0 : va_W) => ∃ (z : Int) (f2 : Int → Int) (n2 tk2 ln2 tr2 lc2 lo2 ap2 rt2 dl2 r02 p02 q02 r12 p12 q12 : Int) (sl2 g02 g12 K2 T2 Y2 V2 A2 : Int → Int), v0 = some (vI z) ∧ w0 = [cO s0 4 [.ref a0, .ref b0, .ref d0, .ref e0, vI tk2, vI ln2, vI tr2, vI lc2, vI lo2, vI ap2, vI rt2, vI dl2], cO a0 1 [vI n2, .ref a1, .ref a2, .ref a3, .ref a4, .ref a5], cA a1 G.2.1.1 100 K2, cA a2 G.2.1.1 100 T2, cA a3 G.2.1.1 100 Y2, cA a4 G.2.1.1 100 V2, cA a5 G.2.1.1 100 A2, cO b0 3 [vI r02, vI p02, vI q02, .ref b1], cA b1 G.2.1.2.1 101 g02, cO d0 3 [vI r12, vI p12, vI q12, .ref d1], cA d1 G.2.1.2.1 101 g12, cA e0 G.2.1.1 3 sl2] ∧ (RS f2 n2 tk2 ln2 tr2 lc2 lo2 ap2 rt2 dl2 r02 p02 q02 r12 p12 q12 sl2 g02 g12 K2 T2 Y2 V2 A2) ∧ ((z, f2) = sp_resend f b)) := by
  refine fs_met (cc := cX4_resendTo) (nL := 4) (ret := (some .int)) (by decide) rfl (Nat.le_of_ble_eq_true rfl) ?_
  intro X C E
  show fSt l G X 0 0 0 [(0, .ref s0), (1, vI b)] [] [cO s0 4 [.ref a0, .ref b0, .ref d0, .ref e0, vI tk, vI ln, vI tr, vI lc, vI lo, vI ap, vI rt, vI dl], cO a0 1 [vI n, .ref a1, .ref a2, .ref a3, .ref a4, .ref a5], cA a1 G.2.1.1 100 K, cA a2 G.2.1.1 100 T, cA a3 G.2.1.1 100 Y, cA a4 G.2.1.1 100 V, cA a5 G.2.1.1 100 A, cO b0 3 [vI r0, vI p0, vI q0, .ref b1], cA b1 G.2.1.2.1 101 g0, cO d0 3 [vI r1, vI p1, vI q1, .ref d1], cA d1 G.2.1.2.1 101 g1, cA e0 G.2.1.1 3 sl]
  obtain ⟨hn, htk, hln, htr, hlc, hlo, hap, hrt, hdl, hS0, hS1⟩ := hR.scal hI
  have hK := hR.hrK
  have hT := hR.hrT
  have hY := hR.hrY
  have hV := hR.hrV
  have hA := hR.hrA
  have hsl := hR.hrs
  have hg0 := hR.hG0
  have hg1 := hR.hG1
  have hb0 := hR.b0
  have hb1 := hR.b1
  refine s_iload_n 1 C dX4_resendTo_0 rfl 1 rfl ?_
  refine s_callSN (As := [vI b]) (rest := []) (host := RX6) C dX4_resendTo_1 (c_X6_isStandby l G b (by first | assumption | omega)) gX4_resendTo_X6_isStandby_n77 (by decide +kernel) (by decide +kernel) (by decide +kernel) rfl 1 (by decide +kernel) (by decide) [] rfl (by decide) rfl (Nat.le_of_ble_eq_true rfl) ⟨Nat.zero_le _, Nat.zero_le _⟩ ?_
  intro v0 w0 hq
  obtain ⟨rfl, rfl⟩ := hq
  refine ⟨rfl, ?_⟩
  show fSt l G X 0 0 4 [(0, .ref s0), (1, vI b)] [vI (bI (0 ≤ b ∧ b ≤ 1))] [cO s0 4 [.ref a0, .ref b0, .ref d0, .ref e0, vI tk, vI ln, vI tr, vI lc, vI lo, vI ap, vI rt, vI dl], cO a0 1 [vI n, .ref a1, .ref a2, .ref a3, .ref a4, .ref a5], cA a1 G.2.1.1 100 K, cA a2 G.2.1.1 100 T, cA a3 G.2.1.1 100 Y, cA a4 G.2.1.1 100 V, cA a5 G.2.1.1 100 A, cO b0 3 [vI r0, vI p0, vI q0, .ref b1], cA b1 G.2.1.2.1 101 g0, cO d0 3 [vI r1, vI p1, vI q1, .ref d1], cA d1 G.2.1.2.1 101 g1, cA e0 G.2.1.1 3 sl]
  refine s_if_ne 10 C dX4_resendTo_4 (by decide) bI_rng (fun h_4 => ?_) (fun h_4 => ?_)
  · have h_4 := bI_t h_4
    exfalso
    omega
  · have h_4 := bI_f h_4
    refine s_ldc (z := -1000001) C (by decide +kernel) dX4_resendTo_7 ?_
    exact s_iret C E dX4_resendTo_9 ⟨(-1000001), f, n, tk, ln, tr, lc, lo, ap, rt, dl, r0, p0, q0, r1, p1, q1, sl, g0, g1, K, T, Y, V, A, rfl, rfl, hR, (by rw [sp_resend, if_neg (by omega)])⟩

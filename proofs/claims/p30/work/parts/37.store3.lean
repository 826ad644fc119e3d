set_option maxHeartbeats 4000000 in
set_option maxRecDepth 100000 in
theorem c_X4_pass (l : Launch) (G : fG) (s0 a0 a1 a2 a3 a4 a5 b0 b1 d0 d1 e0 : Nat) (B : Int) (f : Int → Int) (n tk ln tr lc lo ap rt dl r0 p0 q0 r1 p1 q1 : Int) (sl g0 g1 K T Y V A : Int → Int) (k : Int) (hR : RS f n tk ln tr lc lo ap rt dl r0 p0 q0 r1 p1 q1 sl g0 g1 K T Y V A) (hI : Inv B f) (hB : B ≤ 1073000000) (hk : -2147483648 ≤ k ∧ k < 2147483648) : fCt l G yX4_pass wsX4_pass 3 69 0 0 [.ref s0, vI k] [cO s0 4 [.ref a0, .ref b0, .ref d0, .ref e0, vI tk, vI ln, vI tr, vI lc, vI lo, vI ap, vI rt, vI dl], cO a0 1 [vI n, .ref a1, .ref a2, .ref a3, .ref a4, .ref a5], cA a1 G.2.1.1 100 K, cA a2 G.2.1.1 100 T, cA a3 G.2.1.1 100 Y, cA a4 G.2.1.1 100 V, cA a5 G.2.1.1 100 A, cO b0 3 [vI r0, vI p0, vI q0, .ref b1], cA b1 G.2.1.2.1 101 g0, cO d0 3 [vI r1, vI p1, vI q1, .ref d1], cA d1 G.2.1.2.1 101 g1, cA e0 G.2.1.1 3 sl] (fun (v0 : Option Value) (w0 : va_W) => ∃ (z : Int) (f2 : Int → Int) (n2 tk2 ln2 tr2 lc2 lo2 ap2 rt2 dl2 r02 p02 q02 r12 p12 q12 : Int) (sl2 g02 g12 K2 T2 Y2 V2 A2 : Int → Int), v0 = some (vI z) ∧ w0 = [cO s0 4 [.ref a0, .ref b0, .ref d0, .ref e0, vI tk2, vI ln2, vI tr2, vI lc2, vI lo2, vI ap2, vI rt2, vI dl2], cO a0 1 [vI n2, .ref a1, .ref a2, .ref a3, .ref a4, .ref a5], cA a1 G.2.1.1 100 K2, cA a2 G.2.1.1 100 T2, cA a3 G.2.1.1 100 Y2, cA a4 G.2.1.1 100 V2, cA a5 G.2.1.1 100 A2, cO b0 3 [vI r02, vI p02, vI q02, .ref b1], cA b1 G.2.1.2.1 101 g02, cO d0 3 [vI r12, vI p12, vI q12, .ref d1], cA d1 G.2.1.2.1 101 g12, cA e0 G.2.1.1 3 sl2] ∧ (RS f2 n2 tk2 ln2 tr2 lc2 lo2 ap2 rt2 dl2 r02 p02 q02 r12 p12 q12 sl2 g02 g12 K2 T2 Y2 V2 A2) ∧ ((z, f2) = sp_tick f k)) := by
  refine fs_met (cc := cX4_pass) (nL := 7) (ret := (some .int)) (by decide) rfl (Nat.le_of_ble_eq_true rfl) ?_
  intro X C E
  show fSt l G X 0 0 0 [(0, .ref s0), (1, vI k)] [] [cO s0 4 [.ref a0, .ref b0, .ref d0, .ref e0, vI tk, vI ln, vI tr, vI lc, vI lo, vI ap, vI rt, vI dl], cO a0 1 [vI n, .ref a1, .ref a2, .ref a3, .ref a4, .ref a5], cA a1 G.2.1.1 100 K, cA a2 G.2.1.1 100 T, cA a3 G.2.1.1 100 Y, cA a4 G.2.1.1 100 V, cA a5 G.2.1.1 100 A, cO b0 3 [vI r0, vI p0, vI q0, .ref b1], cA b1 G.2.1.2.1 101 g0, cO d0 3 [vI r1, vI p1, vI q1, .ref d1], cA d1 G.2.1.2.1 101 g1, cA e0 G.2.1.1 3 sl]
  have hinX3 : ∀ w ∈ u_ws RX3 TX3 4, w ∈ wsX4_pass := by decide +kernel
  have hinX4 : ∀ w ∈ u_ws RX4 TX4 12, w ∈ wsX4_pass := by decide +kernel
  obtain ⟨hn, htk, hln, htr, hlc, hlo, hap, hrt, hdl, hS0, hS1⟩ := hR.scal hI
  have hK := hR.hrK
  have hT := hR.hrT
  have hY := hR.hrY
  have hV := hR.hrV
  have hA := hR.hrA
  have hsl := hR.hrs
  have hg0 := hR.hG0
  have hg1 := hR.hG1
  have hb0 := hR.b0
  have hb1 := hR.b1
  refine s_iload_n 1 C dX4_pass_0 rfl 1 rfl ?_
  refine s_callSN (As := [vI k]) (rest := []) (host := RX6) C dX4_pass_1 (c_X6_isTicks l G k (by first | assumption | omega)) gX4_pass_X6_isTicks_n114 (by decide +kernel) (by decide +kernel) (by decide +kernel) rfl 1 (by decide +kernel) (by decide) [] rfl (by decide) rfl (Nat.le_of_ble_eq_true rfl) ⟨Nat.zero_le _, Nat.zero_le _⟩ ?_
  intro v0 w0 hq
  obtain ⟨rfl, rfl⟩ := hq
  refine ⟨rfl, ?_⟩
  show fSt l G X 0 0 4 [(0, .ref s0), (1, vI k)] [vI (bI (1 ≤ k ∧ k ≤ 99))] [cO s0 4 [.ref a0, .ref b0, .ref d0, .ref e0, vI tk, vI ln, vI tr, vI lc, vI lo, vI ap, vI rt, vI dl], cO a0 1 [vI n, .ref a1, .ref a2, .ref a3, .ref a4, .ref a5], cA a1 G.2.1.1 100 K, cA a2 G.2.1.1 100 T, cA a3 G.2.1.1 100 Y, cA a4 G.2.1.1 100 V, cA a5 G.2.1.1 100 A, cO b0 3 [vI r0, vI p0, vI q0, .ref b1], cA b1 G.2.1.2.1 101 g0, cO d0 3 [vI r1, vI p1, vI q1, .ref d1], cA d1 G.2.1.2.1 101 g1, cA e0 G.2.1.1 3 sl]
  refine s_if_ne 10 C dX4_pass_4 (by decide) bI_rng (fun h_4 => ?_) (fun h_4 => ?_)
  · have h_4 := bI_t h_4
    refine s_iconst C dX4_pass_10 ?_
    refine s_istore_n 2 [(2, vI 0), (0, .ref s0), (1, vI k)] C dX4_pass_11 rfl (by decide) rfl ?_
    refine s_iconst C dX4_pass_12 ?_
    refine s_istore_n 3 [(3, vI 0), (2, vI 0), (0, .ref s0), (1, vI k)] C dX4_pass_13 rfl (by decide) rfl ?_
    have loop_14 : ∀ (fuel : Nat) (i c t u0 u1 : Int), (0 ≤ i ∧ i ≤ k) → (RS (tkN f i.toNat) n t ln tr lc lo ap rt dl r0 u0 q0 r1 u1 q1 sl g0 g1 K T Y V A) → (c = u0 + u1 - f 13 - f 16) → (k - i < (fuel : Int)) → fSt l G X 0 0 14 [(0, .ref s0), (1, vI k), (2, vI c), (3, vI i)] [] [cO s0 4 [.ref a0, .ref b0, .ref d0, .ref e0, vI t, vI ln, vI tr, vI lc, vI lo, vI ap, vI rt, vI dl], cO a0 1 [vI n, .ref a1, .ref a2, .ref a3, .ref a4, .ref a5], cA a1 G.2.1.1 100 K, cA a2 G.2.1.1 100 T, cA a3 G.2.1.1 100 Y, cA a4 G.2.1.1 100 V, cA a5 G.2.1.1 100 A, cO b0 3 [vI r0, vI u0, vI q0, .ref b1], cA b1 G.2.1.2.1 101 g0, cO d0 3 [vI r1, vI u1, vI q1, .ref d1], cA d1 G.2.1.2.1 101 g1, cA e0 G.2.1.1 3 sl] := by
      intro fuel
      induction fuel with
      | zero =>
        intro i c t u0 u1 hi hu hc hm
        exfalso
        omega
      | succ fuel ih_14 =>
        intro i c t u0 u1 hi hu hc hm
        refine s_iload_n 3 C dX4_pass_14 rfl 3 rfl ?_
        refine s_iload_n 1 C dX4_pass_15 rfl 1 rfl ?_
        refine s_icmp_ge 97 C dX4_pass_16 (by decide) (by omega) (by omega) (fun h_16 => ?_) (fun h_16 => ?_)
        · have hu2 : RS (tkN f k.toNat) n t ln tr lc lo ap rt dl r0 u0 q0 r1 u1 q1 sl g0 g1 K T Y V A := by rw [show k.toNat = i.toNat by omega]; exact hu
          refine s_aload_n 0 C dX4_pass_97 rfl 0 rfl ?_
          refine s_dup C dX4_pass_98 rfl ?_
          refine s_get C dX4_pass_99 4 rfl hinX4 0 rfl 9 (by decide) (by decide +kernel) rfl ?_
          refine s_iload_n 2 C dX4_pass_102 rfl 2 rfl ?_
          refine s_iadd C dX4_pass_103 ?_
          refine s_put [cO s0 4 [.ref a0, .ref b0, .ref d0, .ref e0, vI t, vI ln, vI tr, vI lc, vI lo, vI (ap + c), vI rt, vI dl], cO a0 1 [vI n, .ref a1, .ref a2, .ref a3, .ref a4, .ref a5], cA a1 G.2.1.1 100 K, cA a2 G.2.1.1 100 T, cA a3 G.2.1.1 100 Y, cA a4 G.2.1.1 100 V, cA a5 G.2.1.1 100 A, cO b0 3 [vI r0, vI u0, vI q0, .ref b1], cA b1 G.2.1.2.1 101 g0, cO d0 3 [vI r1, vI u1, vI q1, .ref d1], cA d1 G.2.1.2.1 101 g1, cA e0 G.2.1.1 3 sl] C dX4_pass_104 4 rfl hinX4 tyX4 tyX4_ok nmX4 0 rfl 9 (by decide) (by decide +kernel) rfl rfl rfl (Nat.le_of_ble_eq_true rfl) rfl ?_
          refine s_iload_n 2 C dX4_pass_107 rfl 2 rfl ?_
          exact s_iret C E dX4_pass_108 ⟨c, (uZ (tkN f k.toNat) 6 (ap + c)), n, t, ln, tr, lc, lo, (ap + c), rt, dl, r0, u0, q0, r1, u1, q1, sl, g0, g1, K, T, Y, V, A, rfl, rfl, (hu2.s_ap (z := ap + c)), (by rw [sp_tick, if_pos (by omega), ← hu2.e_p0, ← hu2.e_p1, ← hu2.e_ap, ← hc])⟩
        · have hti := (hI.TI (by omega)).n i.toNat (by omega)
          have htb := tk_b hu hti (by omega)
          refine s_aload_n 0 C dX4_pass_19 rfl 0 rfl ?_
          refine s_dup C dX4_pass_20 rfl ?_
          refine s_get C dX4_pass_21 4 rfl hinX4 0 rfl 4 (by decide) (by decide +kernel) rfl ?_
          refine s_iconst C dX4_pass_24 ?_
          refine s_iadd C dX4_pass_25 ?_
          refine s_put [cO s0 4 [.ref a0, .ref b0, .ref d0, .ref e0, vI (t + 1), vI ln, vI tr, vI lc, vI lo, vI ap, vI rt, vI dl], cO a0 1 [vI n, .ref a1, .ref a2, .ref a3, .ref a4, .ref a5], cA a1 G.2.1.1 100 K, cA a2 G.2.1.1 100 T, cA a3 G.2.1.1 100 Y, cA a4 G.2.1.1 100 V, cA a5 G.2.1.1 100 A, cO b0 3 [vI r0, vI u0, vI q0, .ref b1], cA b1 G.2.1.2.1 101 g0, cO d0 3 [vI r1, vI u1, vI q1, .ref d1], cA d1 G.2.1.2.1 101 g1, cA e0 G.2.1.1 3 sl] C dX4_pass_26 4 rfl hinX4 tyX4 tyX4_ok nmX4 0 rfl 4 (by decide) (by decide +kernel) rfl rfl rfl (Nat.le_of_ble_eq_true rfl) rfl ?_
          refine s_iconst C dX4_pass_29 ?_
          refine s_istore [(4, vI 0), (0, .ref s0), (1, vI k), (2, vI c), (3, vI i)] C dX4_pass_30 (by decide) rfl ?_
          refine s_iload C dX4_pass_32 0 rfl ?_
          refine s_iconst C dX4_pass_34 ?_
          refine s_icmp_ge 91 C dX4_pass_35 (by decide) (by decide) (by decide) (fun h => absurd h (by decide)) (fun h => ?_)
          refine s_aload_n 0 C dX4_pass_38 rfl 1 rfl ?_
          refine s_iload C dX4_pass_39 0 rfl ?_
          refine s_callV (As := [vI 0]) (rest := []) C dX4_pass_41 (c_X4_standby0 l G s0 a0 b0 d0 [.ref e0, vI (t + 1), vI ln, vI tr, vI lc, vI lo, vI ap, vI rt, vI dl] 0 (by first | assumption | omega)) gX4_pass_X4_standby rfl 1 (by decide +kernel) (by decide) 0 4 rfl rfl rfl [0] rfl (by decide) rfl (Nat.le_of_ble_eq_true rfl) ⟨Nat.zero_le _, Nat.zero_le _⟩ ?_
          intro v0 w0 hq
          obtain ⟨rfl, rfl⟩ := hq
          refine ⟨rfl, ?_⟩
          show fSt l G X 0 0 44 [(4, vI 0), (0, .ref s0), (1, vI k), (2, vI c), (3, vI i)] [.ref b0] [cO s0 4 [.ref a0, .ref b0, .ref d0, .ref e0, vI (t + 1), vI ln, vI tr, vI lc, vI lo, vI ap, vI rt, vI dl], cO a0 1 [vI n, .ref a1, .ref a2, .ref a3, .ref a4, .ref a5], cA a1 G.2.1.1 100 K, cA a2 G.2.1.1 100 T, cA a3 G.2.1.1 100 Y, cA a4 G.2.1.1 100 V, cA a5 G.2.1.1 100 A, cO b0 3 [vI r0, vI u0, vI q0, .ref b1], cA b1 G.2.1.2.1 101 g0, cO d0 3 [vI r1, vI u1, vI q1, .ref d1], cA d1 G.2.1.2.1 101 g1, cA e0 G.2.1.1 3 sl]
          refine s_astore [(5, .ref b0), (4, vI 0), (0, .ref s0), (1, vI k), (2, vI c), (3, vI i)] C dX4_pass_44 (by decide) rfl ?_
          refine s_aload_n 0 C dX4_pass_46 rfl 2 rfl ?_
          refine s_aload C dX4_pass_47 0 rfl ?_
          refine s_aload C dX4_pass_49 0 rfl ?_
          refine s_get C dX4_pass_51 3 rfl hinX3 7 rfl 1 (by decide) (by decide +kernel) rfl ?_
          refine s_aload_n 0 C dX4_pass_54 rfl 2 rfl ?_
          refine s_get C dX4_pass_55 4 rfl hinX4 0 rfl 4 (by decide) (by decide +kernel) rfl ?_
          refine s_aload_n 0 C dX4_pass_58 rfl 2 rfl ?_
          refine s_get C dX4_pass_59 4 rfl hinX4 0 rfl 10 (by decide) (by decide +kernel) rfl ?_
          refine s_callV (As := [.ref b0, vI u0, vI (t + 1), vI rt]) (rest := []) C dX4_pass_62 (c_X4_appliedAfter l G s0 a0 a1 a2 a3 a4 a5 b0 b1 (.ref b0) (.ref d0) (.ref e0) (vI (t + 1)) (vI ln) (vI tr) (vI lc) (vI lo) (vI ap) (vI rt) dl n K T Y V A r0 u0 q0 g0 u0 (t + 1) rt (by first | assumption | omega) (by first | assumption | omega) (by first | assumption | omega) hg0 (by first | assumption | omega) (by first | assumption | omega) (by first | assumption | omega) (by first | assumption | omega) (by first | assumption | omega)) gX4_pass_X4_appliedAfter rfl 4 (by decide +kernel) (by decide) 0 4 rfl rfl rfl [0, 1, 2, 3, 4, 5, 6, 7, 8] rfl (by decide) rfl (Nat.le_of_ble_eq_true rfl) ⟨Nat.zero_le _, Nat.zero_le _⟩ ?_
          intro v0 w0 hq
          obtain ⟨rfl, rfl⟩ := hq
          refine ⟨rfl, ?_⟩
          show fSt l G X 0 0 65 [(5, .ref b0), (4, vI 0), (0, .ref s0), (1, vI k), (2, vI c), (3, vI i)] [vI (cg n A r0 q0 g0 dl u0 (t + 1) rt)] [cO s0 4 [.ref a0, .ref b0, .ref d0, .ref e0, vI (t + 1), vI ln, vI tr, vI lc, vI lo, vI ap, vI rt, vI dl], cO a0 1 [vI n, .ref a1, .ref a2, .ref a3, .ref a4, .ref a5], cA a1 G.2.1.1 100 K, cA a2 G.2.1.1 100 T, cA a3 G.2.1.1 100 Y, cA a4 G.2.1.1 100 V, cA a5 G.2.1.1 100 A, cO b0 3 [vI r0, vI u0, vI q0, .ref b1], cA b1 G.2.1.2.1 101 g0, cO d0 3 [vI r1, vI u1, vI q1, .ref d1], cA d1 G.2.1.2.1 101 g1, cA e0 G.2.1.1 3 sl]
          refine s_top (tk1 (tkN f i.toNat) 13) (tk_c0 hu (hI.TI (by omega) |>.n i.toNat (by omega)) (by omega)) ?_
          refine s_istore [(6, vI (tk1 (tkN f i.toNat) 13)), (5, .ref b0), (4, vI 0), (0, .ref s0), (1, vI k), (2, vI c), (3, vI i)] C dX4_pass_65 (by decide) rfl ?_
          refine s_iload_n 2 C dX4_pass_67 rfl 5 rfl ?_
          refine s_iload C dX4_pass_68 0 rfl ?_
          refine s_aload C dX4_pass_70 1 rfl ?_
          refine s_get C dX4_pass_72 3 rfl hinX3 7 rfl 1 (by decide) (by decide +kernel) rfl ?_
          refine s_isub C dX4_pass_75 ?_
          refine s_iadd C dX4_pass_76 ?_
          refine s_istore_n 2 [(2, vI (c + ((tk1 (tkN f i.toNat) 13) - u0))), (6, vI (tk1 (tkN f i.toNat) 13)), (5, .ref b0), (4, vI 0), (0, .ref s0), (1, vI k), (3, vI i)] C dX4_pass_77 rfl (by decide) rfl ?_
          refine s_aload C dX4_pass_78 2 rfl ?_
          refine s_iload C dX4_pass_80 1 rfl ?_
          refine s_put [cO s0 4 [.ref a0, .ref b0, .ref d0, .ref e0, vI (t + 1), vI ln, vI tr, vI lc, vI lo, vI ap, vI rt, vI dl], cO a0 1 [vI n, .ref a1, .ref a2, .ref a3, .ref a4, .ref a5], cA a1 G.2.1.1 100 K, cA a2 G.2.1.1 100 T, cA a3 G.2.1.1 100 Y, cA a4 G.2.1.1 100 V, cA a5 G.2.1.1 100 A, cO b0 3 [vI r0, vI (tk1 (tkN f i.toNat) 13), vI q0, .ref b1], cA b1 G.2.1.2.1 101 g0, cO d0 3 [vI r1, vI u1, vI q1, .ref d1], cA d1 G.2.1.2.1 101 g1, cA e0 G.2.1.1 3 sl] C dX4_pass_82 3 rfl hinX3 tyX3 tyX3_ok nmX3 7 rfl 1 (by decide) (by decide +kernel) rfl rfl rfl (Nat.le_of_ble_eq_true rfl) rfl ?_
          refine s_iinc [(4, vI (0 + 1)), (2, vI (c + ((tk1 (tkN f i.toNat) 13) - u0))), (6, vI (tk1 (tkN f i.toNat) 13)), (5, .ref b0), (0, .ref s0), (1, vI k), (3, vI i)] C dX4_pass_85 3 rfl (by decide) rfl ?_
          refine s_goto 32 C dX4_pass_88 (by decide) ?_
          refine s_iload C dX4_pass_32 0 rfl ?_
          refine s_iconst C dX4_pass_34 ?_
          refine s_icmp_ge 91 C dX4_pass_35 (by decide) (by decide) (by decide) (fun h => absurd h (by decide)) (fun h => ?_)
          refine s_aload_n 0 C dX4_pass_38 rfl 4 rfl ?_
          refine s_iload C dX4_pass_39 0 rfl ?_
          refine s_callV (As := [vI (0 + 1)]) (rest := []) C dX4_pass_41 (c_X4_standby1 l G s0 a0 b0 d0 [.ref e0, vI (t + 1), vI ln, vI tr, vI lc, vI lo, vI ap, vI rt, vI dl] (0 + 1) (by first | assumption | omega)) gX4_pass_X4_standby rfl 1 (by decide +kernel) (by decide) 0 4 rfl rfl rfl [0] rfl (by decide) rfl (Nat.le_of_ble_eq_true rfl) ⟨Nat.zero_le _, Nat.zero_le _⟩ ?_
          intro v0 w0 hq
          obtain ⟨rfl, rfl⟩ := hq
          refine ⟨rfl, ?_⟩
          show fSt l G X 0 0 44 [(4, vI (0 + 1)), (2, vI (c + ((tk1 (tkN f i.toNat) 13) - u0))), (6, vI (tk1 (tkN f i.toNat) 13)), (5, .ref b0), (0, .ref s0), (1, vI k), (3, vI i)] [.ref d0] [cO s0 4 [.ref a0, .ref b0, .ref d0, .ref e0, vI (t + 1), vI ln, vI tr, vI lc, vI lo, vI ap, vI rt, vI dl], cO a0 1 [vI n, .ref a1, .ref a2, .ref a3, .ref a4, .ref a5], cA a1 G.2.1.1 100 K, cA a2 G.2.1.1 100 T, cA a3 G.2.1.1 100 Y, cA a4 G.2.1.1 100 V, cA a5 G.2.1.1 100 A, cO b0 3 [vI r0, vI (tk1 (tkN f i.toNat) 13), vI q0, .ref b1], cA b1 G.2.1.2.1 101 g0, cO d0 3 [vI r1, vI u1, vI q1, .ref d1], cA d1 G.2.1.2.1 101 g1, cA e0 G.2.1.1 3 sl]
          refine s_astore [(5, .ref d0), (4, vI (0 + 1)), (2, vI (c + ((tk1 (tkN f i.toNat) 13) - u0))), (6, vI (tk1 (tkN f i.toNat) 13)), (0, .ref s0), (1, vI k), (3, vI i)] C dX4_pass_44 (by decide) rfl ?_
          refine s_aload_n 0 C dX4_pass_46 rfl 4 rfl ?_
          refine s_aload C dX4_pass_47 0 rfl ?_
          refine s_aload C dX4_pass_49 0 rfl ?_
          refine s_get C dX4_pass_51 3 rfl hinX3 9 rfl 1 (by decide) (by decide +kernel) rfl ?_
          refine s_aload_n 0 C dX4_pass_54 rfl 4 rfl ?_
          refine s_get C dX4_pass_55 4 rfl hinX4 0 rfl 4 (by decide) (by decide +kernel) rfl ?_
          refine s_aload_n 0 C dX4_pass_58 rfl 4 rfl ?_
          refine s_get C dX4_pass_59 4 rfl hinX4 0 rfl 10 (by decide) (by decide +kernel) rfl ?_
          refine s_callV (As := [.ref d0, vI u1, vI (t + 1), vI rt]) (rest := []) C dX4_pass_62 (c_X4_appliedAfter l G s0 a0 a1 a2 a3 a4 a5 d0 d1 (.ref b0) (.ref d0) (.ref e0) (vI (t + 1)) (vI ln) (vI tr) (vI lc) (vI lo) (vI ap) (vI rt) dl n K T Y V A r1 u1 q1 g1 u1 (t + 1) rt (by first | assumption | omega) (by first | assumption | omega) (by first | assumption | omega) hg1 (by first | assumption | omega) (by first | assumption | omega) (by first | assumption | omega) (by first | assumption | omega) (by first | assumption | omega)) gX4_pass_X4_appliedAfter rfl 4 (by decide +kernel) (by decide) 0 4 rfl rfl rfl [0, 1, 2, 3, 4, 5, 6, 9, 10] rfl (by decide) rfl (Nat.le_of_ble_eq_true rfl) ⟨Nat.zero_le _, Nat.zero_le _⟩ ?_
          intro v0 w0 hq
          obtain ⟨rfl, rfl⟩ := hq
          refine ⟨rfl, ?_⟩
          show fSt l G X 0 0 65 [(5, .ref d0), (4, vI (0 + 1)), (2, vI (c + ((tk1 (tkN f i.toNat) 13) - u0))), (6, vI (tk1 (tkN f i.toNat) 13)), (0, .ref s0), (1, vI k), (3, vI i)] [vI (cg n A r1 q1 g1 dl u1 (t + 1) rt)] [cO s0 4 [.ref a0, .ref b0, .ref d0, .ref e0, vI (t + 1), vI ln, vI tr, vI lc, vI lo, vI ap, vI rt, vI dl], cO a0 1 [vI n, .ref a1, .ref a2, .ref a3, .ref a4, .ref a5], cA a1 G.2.1.1 100 K, cA a2 G.2.1.1 100 T, cA a3 G.2.1.1 100 Y, cA a4 G.2.1.1 100 V, cA a5 G.2.1.1 100 A, cO b0 3 [vI r0, vI (tk1 (tkN f i.toNat) 13), vI q0, .ref b1], cA b1 G.2.1.2.1 101 g0, cO d0 3 [vI r1, vI u1, vI q1, .ref d1], cA d1 G.2.1.2.1 101 g1, cA e0 G.2.1.1 3 sl]
          refine s_top (tk1 (tkN f i.toNat) 16) (tk_c1 hu (hI.TI (by omega) |>.n i.toNat (by omega)) (by omega)) ?_
          refine s_istore [(6, vI (tk1 (tkN f i.toNat) 16)), (5, .ref d0), (4, vI (0 + 1)), (2, vI (c + ((tk1 (tkN f i.toNat) 13) - u0))), (0, .ref s0), (1, vI k), (3, vI i)] C dX4_pass_65 (by decide) rfl ?_
          refine s_iload_n 2 C dX4_pass_67 rfl 3 rfl ?_
          refine s_iload C dX4_pass_68 0 rfl ?_
          refine s_aload C dX4_pass_70 1 rfl ?_
          refine s_get C dX4_pass_72 3 rfl hinX3 9 rfl 1 (by decide) (by decide +kernel) rfl ?_
          refine s_isub C dX4_pass_75 ?_
          refine s_iadd C dX4_pass_76 ?_
          refine s_istore_n 2 [(2, vI (c + ((tk1 (tkN f i.toNat) 13) - u0) + ((tk1 (tkN f i.toNat) 16) - u1))), (6, vI (tk1 (tkN f i.toNat) 16)), (5, .ref d0), (4, vI (0 + 1)), (0, .ref s0), (1, vI k), (3, vI i)] C dX4_pass_77 rfl (by decide) rfl ?_
          refine s_aload C dX4_pass_78 2 rfl ?_
          refine s_iload C dX4_pass_80 1 rfl ?_
          refine s_put [cO s0 4 [.ref a0, .ref b0, .ref d0, .ref e0, vI (t + 1), vI ln, vI tr, vI lc, vI lo, vI ap, vI rt, vI dl], cO a0 1 [vI n, .ref a1, .ref a2, .ref a3, .ref a4, .ref a5], cA a1 G.2.1.1 100 K, cA a2 G.2.1.1 100 T, cA a3 G.2.1.1 100 Y, cA a4 G.2.1.1 100 V, cA a5 G.2.1.1 100 A, cO b0 3 [vI r0, vI (tk1 (tkN f i.toNat) 13), vI q0, .ref b1], cA b1 G.2.1.2.1 101 g0, cO d0 3 [vI r1, vI (tk1 (tkN f i.toNat) 16), vI q1, .ref d1], cA d1 G.2.1.2.1 101 g1, cA e0 G.2.1.1 3 sl] C dX4_pass_82 3 rfl hinX3 tyX3 tyX3_ok nmX3 9 rfl 1 (by decide) (by decide +kernel) rfl rfl rfl (Nat.le_of_ble_eq_true rfl) rfl ?_
          refine s_iinc [(4, vI (0 + 1 + 1)), (2, vI (c + ((tk1 (tkN f i.toNat) 13) - u0) + ((tk1 (tkN f i.toNat) 16) - u1))), (6, vI (tk1 (tkN f i.toNat) 16)), (5, .ref d0), (0, .ref s0), (1, vI k), (3, vI i)] C dX4_pass_85 3 rfl (by decide) rfl ?_
          refine s_goto 32 C dX4_pass_88 (by decide) ?_
          refine s_iload C dX4_pass_32 0 rfl ?_
          refine s_iconst C dX4_pass_34 ?_
          refine s_icmp_ge 91 C dX4_pass_35 (by decide) (by decide) (by decide) (fun h => ?_) (fun h => absurd h (by decide))
          refine s_iinc [(3, vI (i + 1)), (4, vI (0 + 1 + 1)), (2, vI (c + ((tk1 (tkN f i.toNat) 13) - u0) + ((tk1 (tkN f i.toNat) 16) - u1))), (6, vI (tk1 (tkN f i.toNat) 16)), (5, .ref d0), (0, .ref s0), (1, vI k)] C dX4_pass_91 6 rfl (by decide) rfl ?_
          refine s_goto 14 C dX4_pass_94 (by decide) ?_
          refine s_lv [(0, .ref s0), (1, vI k), (2, vI (c + ((tk1 (tkN f i.toNat) 13) - u0) + ((tk1 (tkN f i.toNat) 16) - u1))), (3, vI (i + 1))] [5, 6, 2, 0] rfl ?_
          exact ih_14 (i + 1) (c + ((tk1 (tkN f i.toNat) 13) - u0) + ((tk1 (tkN f i.toNat) 16) - u1)) (t + 1) (tk1 (tkN f i.toNat) 13) (tk1 (tkN f i.toNat) 16) (by omega) (by rw [show (i + 1).toNat = i.toNat + 1 by omega, tkN]; exact tk_rel hu) (by omega) (by omega)
    refine s_lv [(0, .ref s0), (1, vI k), (2, vI 0), (3, vI 0)] [2, 3, 1, 0] rfl ?_
    exact loop_14 (k - 0 + 1 : Int).toNat 0 0 tk p0 p1 (by omega) hR (by have e1 := hR.e_p0; have e2 := hR.e_p1; omega) (by omega)
  · have h_4 := bI_f h_4
    refine s_ldc (z := -1000001) C (by decide +kernel) dX4_pass_7 ?_
    exact s_iret C E dX4_pass_9 ⟨(-1000001), f, n, tk, ln, tr, lc, lo, ap, rt, dl, r0, p0, q0, r1, p1, q1, sl, g0, g1, K, T, Y, V, A, rfl, rfl, hR, (by rw [sp_tick, if_neg (by omega)])⟩

set_option maxHeartbeats 4000000 in
set_option maxRecDepth 100000 in
theorem c_X4_promoteTo_0 (l : Launch) (G : fG) (s0 a0 a1 a2 a3 a4 a5 b0 b1 d0 d1 e0 : Nat) (B : Int) (f : Int → Int) (n tk ln tr lc lo ap rt dl r0 p0 q0 r1 p1 q1 : Int) (sl g0 g1 K T Y V A : Int → Int) (hR : RS f n tk ln tr lc lo ap rt dl r0 p0 q0 r1 p1 q1 sl g0 g1 K T Y V A) (hI : Inv B f) (hB : B ≤ 1073000000) : fCt l G yX4_promoteTo wsX4_promoteTo 3 65 0 0 [.ref s0, vI 0] [cO s0 4 [.ref a0, .ref b0, .ref d0, .ref e0, vI tk, vI ln, vI tr, vI lc, vI lo, vI ap, vI rt, vI dl], cO a0 1 [vI n, .ref a1, .ref a2, .ref a3, .ref a4, .ref a5], cA a1 G.2.1.1 100 K, cA a2 G.2.1.1 100 T, cA a3 G.2.1.1 100 Y, cA a4 G.2.1.1 100 V, cA a5 G.2.1.1 100 A, cO b0 3 [vI r0, vI p0, vI q0, .ref b1], cA b1 G.2.1.2.1 101 g0, cO d0 3 [vI r1, vI p1, vI q1, .ref d1], cA d1 G.2.1.2.1 101 g1, cA e0 G.2.1.1 3 sl] (fun (v0 : Option Value) (w0 : va_W) => ∃ (z : Int) (f2 : Int → Int) (n2 tk2 ln2 tr2 lc2 lo2 ap2 rt2 dl2 r02 p02 q02 r12 p12 q12 : Int) (sl2 g02 g12 K2 T2 Y2 V2 A2 : Int → Int), v0 = some (vI z) ∧ w0 = [cO s0 4 [.ref a0, .ref b0, .ref d0, .ref e0, vI tk2, vI ln2, vI tr2, vI lc2, vI lo2, vI ap2, vI rt2, vI dl2], cO a0 1 [vI n2, .ref a1, .ref a2, .ref a3, .ref a4, .ref a5], cA a1 G.2.1.1 100 K2, cA a2 G.2.1.1 100 T2, cA a3 G.2.1.1 100 Y2, cA a4 G.2.1.1 100 V2, cA a5 G.2.1.1 100 A2, cO b0 3 [vI r02, vI p02, vI q02, .ref b1], cA b1 G.2.1.2.1 101 g02, cO d0 3 [vI r12, vI p12, vI q12, .ref d1], cA d1 G.2.1.2.1 101 g12, cA e0 G.2.1.1 3 sl2] ∧ (RS f2 n2 tk2 ln2 tr2 lc2 lo2 ap2 rt2 dl2 r02 p02 q02 r12 p12 q12 sl2 g02 g12 K2 T2 Y2 V2 A2) ∧ ((z, f2) = sp_promote f 0)) := by
  refine fs_met (cc := cX4_promoteTo) (nL := 6) (ret := (some .int)) (by decide) rfl (Nat.le_of_ble_eq_true rfl) ?_
  intro X C E
  show fSt l G X 0 0 0 [(0, .ref s0), (1, vI 0)] [] [cO s0 4 [.ref a0, .ref b0, .ref d0, .ref e0, vI tk, vI ln, vI tr, vI lc, vI lo, vI ap, vI rt, vI dl], cO a0 1 [vI n, .ref a1, .ref a2, .ref a3, .ref a4, .ref a5], cA a1 G.2.1.1 100 K, cA a2 G.2.1.1 100 T, cA a3 G.2.1.1 100 Y, cA a4 G.2.1.1 100 V, cA a5 G.2.1.1 100 A, cO b0 3 [vI r0, vI p0, vI q0, .ref b1], cA b1 G.2.1.2.1 101 g0, cO d0 3 [vI r1, vI p1, vI q1, .ref d1], cA d1 G.2.1.2.1 101 g1, cA e0 G.2.1.1 3 sl]
  have hinX1 : ∀ w ∈ u_ws RX1 TX1 6, w ∈ wsX4_promoteTo := by decide +kernel
  have hinX3 : ∀ w ∈ u_ws RX3 TX3 4, w ∈ wsX4_promoteTo := by decide +kernel
  have hinX4 : ∀ w ∈ u_ws RX4 TX4 12, w ∈ wsX4_promoteTo := by decide +kernel
  obtain ⟨hn, htk, hln, htr, hlc, hlo, hap, hrt, hdl, hS0, hS1⟩ := hR.scal hI
  have hK := hR.hrK
  have hT := hR.hrT
  have hY := hR.hrY
  have hV := hR.hrV
  have hA := hR.hrA
  have hsl := hR.hrs
  have hg0 := hR.hG0
  have hg1 := hR.hG1
  have hb0 := hR.b0
  have hb1 := hR.b1
  refine s_iload_n 1 C dX4_promoteTo_0 rfl 1 rfl ?_
  refine s_callSN (As := [vI 0]) (rest := []) (host := RX6) C dX4_promoteTo_1 (c_X6_isStandby l G 0 (by first | assumption | omega)) gX4_promoteTo_X6_isStandby_n77 (by decide +kernel) (by decide +kernel) (by decide +kernel) rfl 1 (by decide +kernel) (by decide) [] rfl (by decide) rfl (Nat.le_of_ble_eq_true rfl) ⟨Nat.zero_le _, Nat.zero_le _⟩ ?_
  intro v0 w0 hq
  obtain ⟨rfl, rfl⟩ := hq
  refine ⟨rfl, ?_⟩
  show fSt l G X 0 0 4 [(0, .ref s0), (1, vI 0)] [vI (bI (0 ≤ 0 ∧ 0 ≤ 1))] [cO s0 4 [.ref a0, .ref b0, .ref d0, .ref e0, vI tk, vI ln, vI tr, vI lc, vI lo, vI ap, vI rt, vI dl], cO a0 1 [vI n, .ref a1, .ref a2, .ref a3, .ref a4, .ref a5], cA a1 G.2.1.1 100 K, cA a2 G.2.1.1 100 T, cA a3 G.2.1.1 100 Y, cA a4 G.2.1.1 100 V, cA a5 G.2.1.1 100 A, cO b0 3 [vI r0, vI p0, vI q0, .ref b1], cA b1 G.2.1.2.1 101 g0, cO d0 3 [vI r1, vI p1, vI q1, .ref d1], cA d1 G.2.1.2.1 101 g1, cA e0 G.2.1.1 3 sl]
  refine s_if_ne 10 C dX4_promoteTo_4 (by decide) bI_rng (fun h_4 => ?_) (fun h_4 => ?_)
  · have h_4 := bI_t h_4
    refine s_aload_n 0 C dX4_promoteTo_10 rfl 0 rfl ?_
    refine s_iload_n 1 C dX4_promoteTo_11 rfl 1 rfl ?_
    refine s_callV (As := [vI 0]) (rest := []) C dX4_promoteTo_12 (c_X4_standby0 l G s0 a0 b0 d0 [.ref e0, vI tk, vI ln, vI tr, vI lc, vI lo, vI ap, vI rt, vI dl] 0 (by first | assumption | omega)) gX4_promoteTo_X4_standby rfl 1 (by decide +kernel) (by decide) 0 4 rfl rfl rfl [0] rfl (by decide) rfl (Nat.le_of_ble_eq_true rfl) ⟨Nat.zero_le _, Nat.zero_le _⟩ ?_
    intro v0 w0 hq
    obtain ⟨rfl, rfl⟩ := hq
    refine ⟨rfl, ?_⟩
    show fSt l G X 0 0 15 [(0, .ref s0), (1, vI 0)] [.ref b0] [cO s0 4 [.ref a0, .ref b0, .ref d0, .ref e0, vI tk, vI ln, vI tr, vI lc, vI lo, vI ap, vI rt, vI dl], cO a0 1 [vI n, .ref a1, .ref a2, .ref a3, .ref a4, .ref a5], cA a1 G.2.1.1 100 K, cA a2 G.2.1.1 100 T, cA a3 G.2.1.1 100 Y, cA a4 G.2.1.1 100 V, cA a5 G.2.1.1 100 A, cO b0 3 [vI r0, vI p0, vI q0, .ref b1], cA b1 G.2.1.2.1 101 g0, cO d0 3 [vI r1, vI p1, vI q1, .ref d1], cA d1 G.2.1.2.1 101 g1, cA e0 G.2.1.1 3 sl]
    refine s_astore_n 2 [(2, .ref b0), (0, .ref s0), (1, vI 0)] C dX4_promoteTo_15 rfl (by decide) rfl ?_
    refine s_aload_n 2 C dX4_promoteTo_16 rfl 0 rfl ?_
    refine s_get C dX4_promoteTo_17 3 rfl hinX3 7 rfl 2 (by decide) (by decide +kernel) rfl ?_
    refine s_if_eq 26 C dX4_promoteTo_20 (by decide) (by omega) (fun h_20 => ?_) (fun h_20 => ?_)
    · refine s_aload_n 2 C dX4_promoteTo_26 rfl 0 rfl ?_
      refine s_get C dX4_promoteTo_27 3 rfl hinX3 7 rfl 1 (by decide) (by decide +kernel) rfl ?_
      refine s_istore_n 3 [(3, vI p0), (2, .ref b0), (0, .ref s0), (1, vI 0)] C dX4_promoteTo_30 rfl (by decide) rfl ?_
      refine s_aload_n 0 C dX4_promoteTo_31 rfl 2 rfl ?_
      refine s_get C dX4_promoteTo_32 4 rfl hinX4 0 rfl 0 (by decide) (by decide +kernel) rfl ?_
      refine s_iload_n 3 C dX4_promoteTo_35 rfl 0 rfl ?_
      refine s_callV (As := [vI p0]) (rest := []) C dX4_promoteTo_36 (c_X1_commitsBehind l G a0 a1 a2 a3 a4 a5 n K T Y V A p0 (by first | assumption | omega) (by first | assumption | omega) (by first | assumption | omega) (by first | assumption | omega) (by first | assumption | omega) (by first | assumption | omega) (by first | assumption | omega)) gX4_promoteTo_X1_commitsBehind rfl 1 (by decide +kernel) (by decide) 1 1 rfl rfl rfl [1, 2, 3, 4, 5, 6] rfl (by decide) rfl (Nat.le_of_ble_eq_true rfl) ⟨Nat.zero_le _, Nat.zero_le _⟩ ?_
      intro v0 w0 hq
      obtain ⟨rfl, rfl⟩ := hq
      refine ⟨rfl, ?_⟩
      show fSt l G X 0 0 39 [(3, vI p0), (2, .ref b0), (0, .ref s0), (1, vI 0)] [vI (cB n K p0)] [cO s0 4 [.ref a0, .ref b0, .ref d0, .ref e0, vI tk, vI ln, vI tr, vI lc, vI lo, vI ap, vI rt, vI dl], cO a0 1 [vI n, .ref a1, .ref a2, .ref a3, .ref a4, .ref a5], cA a1 G.2.1.1 100 K, cA a2 G.2.1.1 100 T, cA a3 G.2.1.1 100 Y, cA a4 G.2.1.1 100 V, cA a5 G.2.1.1 100 A, cO b0 3 [vI r0, vI p0, vI q0, .ref b1], cA b1 G.2.1.2.1 101 g0, cO d0 3 [vI r1, vI p1, vI q1, .ref d1], cA d1 G.2.1.2.1 101 g1, cA e0 G.2.1.1 3 sl]
      refine s_istore [(4, vI (cB n K p0)), (3, vI p0), (2, .ref b0), (0, .ref s0), (1, vI 0)] C dX4_promoteTo_39 (by decide) rfl ?_
      refine s_aload_n 2 C dX4_promoteTo_41 rfl 2 rfl ?_
      refine s_iload_n 3 C dX4_promoteTo_42 rfl 1 rfl ?_
      refine s_aload_n 0 C dX4_promoteTo_43 rfl 3 rfl ?_
      refine s_get C dX4_promoteTo_44 4 rfl hinX4 0 rfl 0 (by decide) (by decide +kernel) rfl ?_
      refine s_get C dX4_promoteTo_47 1 rfl hinX1 1 rfl 0 (by decide) (by decide +kernel) rfl ?_
      refine s_iload_n 3 C dX4_promoteTo_50 rfl 1 rfl ?_
      refine s_icmp_le 58 C dX4_promoteTo_51 (by decide) (by omega) (by omega) (fun h_51 => ?_) (fun h_51 => ?_)
      · refine s_iconst C dX4_promoteTo_58 ?_
        refine s_callV (As := [vI p0, vI 0]) (rest := []) C dX4_promoteTo_59 (c_X3_standAt l G b0 b1 r0 p0 q0 g0 p0 0 (by first | assumption | omega) (by omega)) gX4_promoteTo_X3_standAt rfl 2 (by decide +kernel) (by decide) 7 3 rfl rfl rfl [7, 8] rfl (by decide) rfl (Nat.le_of_ble_eq_true rfl) ⟨Nat.zero_le _, Nat.zero_le _⟩ ?_
        intro v0 w0 hq
        obtain ⟨rfl, rfl⟩ := hq
        refine ⟨rfl, ?_⟩
        show fSt l G X 0 0 62 [(4, vI (cB n K p0)), (3, vI p0), (2, .ref b0), (0, .ref s0), (1, vI 0)] [] [cO s0 4 [.ref a0, .ref b0, .ref d0, .ref e0, vI tk, vI ln, vI tr, vI lc, vI lo, vI ap, vI rt, vI dl], cO a0 1 [vI n, .ref a1, .ref a2, .ref a3, .ref a4, .ref a5], cA a1 G.2.1.1 100 K, cA a2 G.2.1.1 100 T, cA a3 G.2.1.1 100 Y, cA a4 G.2.1.1 100 V, cA a5 G.2.1.1 100 A, cO b0 3 [vI p0, vI p0, vI 0, .ref b1], cA b1 G.2.1.2.1 101 (dG g0 0), cO d0 3 [vI r1, vI p1, vI q1, .ref d1], cA d1 G.2.1.2.1 101 g1, cA e0 G.2.1.1 3 sl]
        refine s_aload_n 0 C dX4_promoteTo_62 rfl 3 rfl ?_
        refine s_iconst C dX4_promoteTo_63 ?_
        refine s_iload_n 1 C dX4_promoteTo_64 rfl 4 rfl ?_
        refine s_isub C dX4_promoteTo_65 ?_
        refine s_callV (As := [vI (1 - 0)]) (rest := []) C dX4_promoteTo_66 (c_X4_standby1 l G s0 a0 b0 d0 [.ref e0, vI tk, vI ln, vI tr, vI lc, vI lo, vI ap, vI rt, vI dl] (1 - 0) (by first | assumption | omega)) gX4_promoteTo_X4_standby rfl 1 (by decide +kernel) (by decide) 0 4 rfl rfl rfl [0] rfl (by decide) rfl (Nat.le_of_ble_eq_true rfl) ⟨Nat.zero_le _, Nat.zero_le _⟩ ?_
        intro v0 w0 hq
        obtain ⟨rfl, rfl⟩ := hq
        refine ⟨rfl, ?_⟩
        show fSt l G X 0 0 69 [(4, vI (cB n K p0)), (3, vI p0), (2, .ref b0), (0, .ref s0), (1, vI 0)] [.ref d0] [cO s0 4 [.ref a0, .ref b0, .ref d0, .ref e0, vI tk, vI ln, vI tr, vI lc, vI lo, vI ap, vI rt, vI dl], cO a0 1 [vI n, .ref a1, .ref a2, .ref a3, .ref a4, .ref a5], cA a1 G.2.1.1 100 K, cA a2 G.2.1.1 100 T, cA a3 G.2.1.1 100 Y, cA a4 G.2.1.1 100 V, cA a5 G.2.1.1 100 A, cO b0 3 [vI p0, vI p0, vI 0, .ref b1], cA b1 G.2.1.2.1 101 (dG g0 0), cO d0 3 [vI r1, vI p1, vI q1, .ref d1], cA d1 G.2.1.2.1 101 g1, cA e0 G.2.1.1 3 sl]
        refine s_iload_n 3 C dX4_promoteTo_69 rfl 1 rfl ?_
        refine s_callV (As := [vI p0]) (rest := []) C dX4_promoteTo_70 (c_X3_cutTo l G d0 d1 r1 p1 q1 g1 p0 (by first | assumption | omega) (by first | assumption | omega) (by first | assumption | omega) (by first | assumption | omega)) gX4_promoteTo_X3_cutTo rfl 1 (by decide +kernel) (by decide) 9 3 rfl rfl rfl [9, 10] rfl (by decide) rfl (Nat.le_of_ble_eq_true rfl) ⟨Nat.zero_le _, Nat.zero_le _⟩ ?_
        intro v0 w0 hq
        obtain ⟨rfl, rfl⟩ := hq
        refine ⟨rfl, ?_⟩
        show fSt l G X 0 0 73 [(4, vI (cB n K p0)), (3, vI p0), (2, .ref b0), (0, .ref s0), (1, vI 0)] [] [cO s0 4 [.ref a0, .ref b0, .ref d0, .ref e0, vI tk, vI ln, vI tr, vI lc, vI lo, vI ap, vI rt, vI dl], cO a0 1 [vI n, .ref a1, .ref a2, .ref a3, .ref a4, .ref a5], cA a1 G.2.1.1 100 K, cA a2 G.2.1.1 100 T, cA a3 G.2.1.1 100 Y, cA a4 G.2.1.1 100 V, cA a5 G.2.1.1 100 A, cO b0 3 [vI p0, vI p0, vI 0, .ref b1], cA b1 G.2.1.2.1 101 (dG g0 0), cO d0 3 [vI (if p0 < r1 then p0 else r1), vI (if p0 < p1 then p0 else p1), vI (if p0 < p1 then 1 else q1), .ref d1], cA d1 G.2.1.2.1 101 (dG g1 p0), cA e0 G.2.1.1 3 sl]
        refine s_aload_n 0 C dX4_promoteTo_73 rfl 3 rfl ?_
        refine s_get C dX4_promoteTo_74 4 rfl hinX4 0 rfl 0 (by decide) (by decide +kernel) rfl ?_
        refine s_iload_n 3 C dX4_promoteTo_77 rfl 1 rfl ?_
        refine s_put [cO s0 4 [.ref a0, .ref b0, .ref d0, .ref e0, vI tk, vI ln, vI tr, vI lc, vI lo, vI ap, vI rt, vI dl], cO a0 1 [vI p0, .ref a1, .ref a2, .ref a3, .ref a4, .ref a5], cA a1 G.2.1.1 100 K, cA a2 G.2.1.1 100 T, cA a3 G.2.1.1 100 Y, cA a4 G.2.1.1 100 V, cA a5 G.2.1.1 100 A, cO b0 3 [vI p0, vI p0, vI 0, .ref b1], cA b1 G.2.1.2.1 101 (dG g0 0), cO d0 3 [vI (if p0 < r1 then p0 else r1), vI (if p0 < p1 then p0 else p1), vI (if p0 < p1 then 1 else q1), .ref d1], cA d1 G.2.1.2.1 101 (dG g1 p0), cA e0 G.2.1.1 3 sl] C dX4_promoteTo_78 1 rfl hinX1 tyX1 tyX1_ok nmX1 1 rfl 0 (by decide) (by decide +kernel) rfl rfl rfl (Nat.le_of_ble_eq_true rfl) rfl ?_
        refine s_iconst C dX4_promoteTo_81 ?_
        refine s_istore [(5, vI 0), (4, vI (cB n K p0)), (3, vI p0), (2, .ref b0), (0, .ref s0), (1, vI 0)] C dX4_promoteTo_82 (by decide) rfl ?_
        refine s_iload C dX4_promoteTo_84 0 rfl ?_
        refine s_iconst C dX4_promoteTo_86 ?_
        refine s_icmp_ge 104 C dX4_promoteTo_87 (by decide) (by decide) (by decide) (fun h => absurd h (by decide)) (fun h => ?_)
        refine s_aload_n 0 C dX4_promoteTo_90 rfl 4 rfl ?_
        refine s_get C dX4_promoteTo_91 4 rfl hinX4 0 rfl 3 (by decide) (by decide +kernel) rfl ?_
        refine s_iload C dX4_promoteTo_94 0 rfl ?_
        refine s_iconst C dX4_promoteTo_96 ?_
        refine s_iast [cO s0 4 [.ref a0, .ref b0, .ref d0, .ref e0, vI tk, vI ln, vI tr, vI lc, vI lo, vI ap, vI rt, vI dl], cO a0 1 [vI p0, .ref a1, .ref a2, .ref a3, .ref a4, .ref a5], cA a1 G.2.1.1 100 K, cA a2 G.2.1.1 100 T, cA a3 G.2.1.1 100 Y, cA a4 G.2.1.1 100 V, cA a5 G.2.1.1 100 A, cO b0 3 [vI p0, vI p0, vI 0, .ref b1], cA b1 G.2.1.2.1 101 (dG g0 0), cO d0 3 [vI (if p0 < r1 then p0 else r1), vI (if p0 < p1 then p0 else p1), vI (if p0 < p1 then 1 else q1), .ref d1], cA d1 G.2.1.2.1 101 (dG g1 p0), cA e0 G.2.1.1 3 (uZ sl 0 0)] C dX4_promoteTo_97 11 rfl 0 rfl (by omega) (by omega) (by omega) rfl ?_
        refine s_iinc [(5, vI (0 + 1)), (4, vI (cB n K p0)), (3, vI p0), (2, .ref b0), (0, .ref s0), (1, vI 0)] C dX4_promoteTo_98 0 rfl (by decide) rfl ?_
        refine s_goto 84 C dX4_promoteTo_101 (by decide) ?_
        refine s_iload C dX4_promoteTo_84 0 rfl ?_
        refine s_iconst C dX4_promoteTo_86 ?_
        refine s_icmp_ge 104 C dX4_promoteTo_87 (by decide) (by decide) (by decide) (fun h => absurd h (by decide)) (fun h => ?_)
        refine s_aload_n 0 C dX4_promoteTo_90 rfl 4 rfl ?_
        refine s_get C dX4_promoteTo_91 4 rfl hinX4 0 rfl 3 (by decide) (by decide +kernel) rfl ?_
        refine s_iload C dX4_promoteTo_94 0 rfl ?_
        refine s_iconst C dX4_promoteTo_96 ?_
        refine s_iast [cO s0 4 [.ref a0, .ref b0, .ref d0, .ref e0, vI tk, vI ln, vI tr, vI lc, vI lo, vI ap, vI rt, vI dl], cO a0 1 [vI p0, .ref a1, .ref a2, .ref a3, .ref a4, .ref a5], cA a1 G.2.1.1 100 K, cA a2 G.2.1.1 100 T, cA a3 G.2.1.1 100 Y, cA a4 G.2.1.1 100 V, cA a5 G.2.1.1 100 A, cO b0 3 [vI p0, vI p0, vI 0, .ref b1], cA b1 G.2.1.2.1 101 (dG g0 0), cO d0 3 [vI (if p0 < r1 then p0 else r1), vI (if p0 < p1 then p0 else p1), vI (if p0 < p1 then 1 else q1), .ref d1], cA d1 G.2.1.2.1 101 (dG g1 p0), cA e0 G.2.1.1 3 (uZ (uZ sl 0 0) 1 0)] C dX4_promoteTo_97 11 rfl 1 (by omega) (by omega) (by omega) (by omega) rfl ?_
        refine s_iinc [(5, vI (0 + 1 + 1)), (4, vI (cB n K p0)), (3, vI p0), (2, .ref b0), (0, .ref s0), (1, vI 0)] C dX4_promoteTo_98 0 rfl (by decide) rfl ?_
        refine s_goto 84 C dX4_promoteTo_101 (by decide) ?_
        refine s_iload C dX4_promoteTo_84 0 rfl ?_
        refine s_iconst C dX4_promoteTo_86 ?_
        refine s_icmp_ge 104 C dX4_promoteTo_87 (by decide) (by decide) (by decide) (fun h => absurd h (by decide)) (fun h => ?_)
        refine s_aload_n 0 C dX4_promoteTo_90 rfl 4 rfl ?_
        refine s_get C dX4_promoteTo_91 4 rfl hinX4 0 rfl 3 (by decide) (by decide +kernel) rfl ?_
        refine s_iload C dX4_promoteTo_94 0 rfl ?_
        refine s_iconst C dX4_promoteTo_96 ?_
        refine s_iast [cO s0 4 [.ref a0, .ref b0, .ref d0, .ref e0, vI tk, vI ln, vI tr, vI lc, vI lo, vI ap, vI rt, vI dl], cO a0 1 [vI p0, .ref a1, .ref a2, .ref a3, .ref a4, .ref a5], cA a1 G.2.1.1 100 K, cA a2 G.2.1.1 100 T, cA a3 G.2.1.1 100 Y, cA a4 G.2.1.1 100 V, cA a5 G.2.1.1 100 A, cO b0 3 [vI p0, vI p0, vI 0, .ref b1], cA b1 G.2.1.2.1 101 (dG g0 0), cO d0 3 [vI (if p0 < r1 then p0 else r1), vI (if p0 < p1 then p0 else p1), vI (if p0 < p1 then 1 else q1), .ref d1], cA d1 G.2.1.2.1 101 (dG g1 p0), cA e0 G.2.1.1 3 (uZ (uZ (uZ sl 0 0) 1 0) 2 0)] C dX4_promoteTo_97 11 rfl 2 (by omega) (by omega) (by omega) (by omega) rfl ?_
        refine s_iinc [(5, vI (0 + 1 + 1 + 1)), (4, vI (cB n K p0)), (3, vI p0), (2, .ref b0), (0, .ref s0), (1, vI 0)] C dX4_promoteTo_98 0 rfl (by decide) rfl ?_
        refine s_goto 84 C dX4_promoteTo_101 (by decide) ?_
        refine s_iload C dX4_promoteTo_84 0 rfl ?_
        refine s_iconst C dX4_promoteTo_86 ?_
        refine s_icmp_ge 104 C dX4_promoteTo_87 (by decide) (by decide) (by decide) (fun h => ?_) (fun h => absurd h (by decide))
        refine s_aload_n 0 C dX4_promoteTo_104 rfl 4 rfl ?_
        refine s_dup C dX4_promoteTo_105 rfl ?_
        refine s_get C dX4_promoteTo_106 4 rfl hinX4 0 rfl 5 (by decide) (by decide +kernel) rfl ?_
        refine s_iconst C dX4_promoteTo_109 ?_
        refine s_iadd C dX4_promoteTo_110 ?_
        refine s_put [cO s0 4 [.ref a0, .ref b0, .ref d0, .ref e0, vI tk, vI (ln + 1), vI tr, vI lc, vI lo, vI ap, vI rt, vI dl], cO a0 1 [vI p0, .ref a1, .ref a2, .ref a3, .ref a4, .ref a5], cA a1 G.2.1.1 100 K, cA a2 G.2.1.1 100 T, cA a3 G.2.1.1 100 Y, cA a4 G.2.1.1 100 V, cA a5 G.2.1.1 100 A, cO b0 3 [vI p0, vI p0, vI 0, .ref b1], cA b1 G.2.1.2.1 101 (dG g0 0), cO d0 3 [vI (if p0 < r1 then p0 else r1), vI (if p0 < p1 then p0 else p1), vI (if p0 < p1 then 1 else q1), .ref d1], cA d1 G.2.1.2.1 101 (dG g1 p0), cA e0 G.2.1.1 3 (uZ (uZ (uZ sl 0 0) 1 0) 2 0)] C dX4_promoteTo_111 4 rfl hinX4 tyX4 tyX4_ok nmX4 0 rfl 5 (by decide) (by decide +kernel) rfl rfl rfl (Nat.le_of_ble_eq_true rfl) rfl ?_
        refine s_aload_n 0 C dX4_promoteTo_114 rfl 4 rfl ?_
        refine s_dup C dX4_promoteTo_115 rfl ?_
        refine s_get C dX4_promoteTo_116 4 rfl hinX4 0 rfl 7 (by decide) (by decide +kernel) rfl ?_
        refine s_iload C dX4_promoteTo_119 1 rfl ?_
        refine s_iadd C dX4_promoteTo_121 ?_
        refine s_put [cO s0 4 [.ref a0, .ref b0, .ref d0, .ref e0, vI tk, vI (ln + 1), vI tr, vI (lc + (cB n K p0)), vI lo, vI ap, vI rt, vI dl], cO a0 1 [vI p0, .ref a1, .ref a2, .ref a3, .ref a4, .ref a5], cA a1 G.2.1.1 100 K, cA a2 G.2.1.1 100 T, cA a3 G.2.1.1 100 Y, cA a4 G.2.1.1 100 V, cA a5 G.2.1.1 100 A, cO b0 3 [vI p0, vI p0, vI 0, .ref b1], cA b1 G.2.1.2.1 101 (dG g0 0), cO d0 3 [vI (if p0 < r1 then p0 else r1), vI (if p0 < p1 then p0 else p1), vI (if p0 < p1 then 1 else q1), .ref d1], cA d1 G.2.1.2.1 101 (dG g1 p0), cA e0 G.2.1.1 3 (uZ (uZ (uZ sl 0 0) 1 0) 2 0)] C dX4_promoteTo_122 4 rfl hinX4 tyX4 tyX4_ok nmX4 0 rfl 7 (by decide) (by decide +kernel) rfl rfl rfl (Nat.le_of_ble_eq_true rfl) rfl ?_
        refine s_iload C dX4_promoteTo_125 1 rfl ?_
        exact s_iret C E dX4_promoteTo_127 ⟨(cB n K p0), ((sp_promote f 0).2), p0, tk, (ln + 1), tr, (lc + (cB n K p0)), lo, ap, rt, dl, p0, p0, 0, (if p0 < r1 then p0 else r1), (if p0 < p1 then p0 else p1), (if p0 < p1 then 1 else q1), (uZ (uZ (uZ sl 0 0) 1 0) 2 0), (dG g0 0), (dG g1 p0), K, T, Y, V, A, rfl, rfl, (prom_0 hR hI (by omega) (if_neg (by omega)).symm).1, (prom_0 hR hI (by omega) (a := 0) (if_neg (by omega)).symm).2⟩
      · refine s_iconst C dX4_promoteTo_54 ?_
        refine s_goto 59 C dX4_promoteTo_55 (by decide) ?_
        refine s_callV (As := [vI p0, vI 1]) (rest := []) C dX4_promoteTo_59 (c_X3_standAt l G b0 b1 r0 p0 q0 g0 p0 1 (by first | assumption | omega) (by omega)) gX4_promoteTo_X3_standAt rfl 2 (by decide +kernel) (by decide) 7 3 rfl rfl rfl [7, 8] rfl (by decide) rfl (Nat.le_of_ble_eq_true rfl) ⟨Nat.zero_le _, Nat.zero_le _⟩ ?_
        intro v0 w0 hq
        obtain ⟨rfl, rfl⟩ := hq
        refine ⟨rfl, ?_⟩
        show fSt l G X 0 0 62 [(4, vI (cB n K p0)), (3, vI p0), (2, .ref b0), (0, .ref s0), (1, vI 0)] [] [cO s0 4 [.ref a0, .ref b0, .ref d0, .ref e0, vI tk, vI ln, vI tr, vI lc, vI lo, vI ap, vI rt, vI dl], cO a0 1 [vI n, .ref a1, .ref a2, .ref a3, .ref a4, .ref a5], cA a1 G.2.1.1 100 K, cA a2 G.2.1.1 100 T, cA a3 G.2.1.1 100 Y, cA a4 G.2.1.1 100 V, cA a5 G.2.1.1 100 A, cO b0 3 [vI p0, vI p0, vI 1, .ref b1], cA b1 G.2.1.2.1 101 (dG g0 0), cO d0 3 [vI r1, vI p1, vI q1, .ref d1], cA d1 G.2.1.2.1 101 g1, cA e0 G.2.1.1 3 sl]
        refine s_aload_n 0 C dX4_promoteTo_62 rfl 3 rfl ?_
        refine s_iconst C dX4_promoteTo_63 ?_
        refine s_iload_n 1 C dX4_promoteTo_64 rfl 4 rfl ?_
        refine s_isub C dX4_promoteTo_65 ?_
        refine s_callV (As := [vI (1 - 0)]) (rest := []) C dX4_promoteTo_66 (c_X4_standby1 l G s0 a0 b0 d0 [.ref e0, vI tk, vI ln, vI tr, vI lc, vI lo, vI ap, vI rt, vI dl] (1 - 0) (by first | assumption | omega)) gX4_promoteTo_X4_standby rfl 1 (by decide +kernel) (by decide) 0 4 rfl rfl rfl [0] rfl (by decide) rfl (Nat.le_of_ble_eq_true rfl) ⟨Nat.zero_le _, Nat.zero_le _⟩ ?_
        intro v0 w0 hq
        obtain ⟨rfl, rfl⟩ := hq
        refine ⟨rfl, ?_⟩
        show fSt l G X 0 0 69 [(4, vI (cB n K p0)), (3, vI p0), (2, .ref b0), (0, .ref s0), (1, vI 0)] [.ref d0] [cO s0 4 [.ref a0, .ref b0, .ref d0, .ref e0, vI tk, vI ln, vI tr, vI lc, vI lo, vI ap, vI rt, vI dl], cO a0 1 [vI n, .ref a1, .ref a2, .ref a3, .ref a4, .ref a5], cA a1 G.2.1.1 100 K, cA a2 G.2.1.1 100 T, cA a3 G.2.1.1 100 Y, cA a4 G.2.1.1 100 V, cA a5 G.2.1.1 100 A, cO b0 3 [vI p0, vI p0, vI 1, .ref b1], cA b1 G.2.1.2.1 101 (dG g0 0), cO d0 3 [vI r1, vI p1, vI q1, .ref d1], cA d1 G.2.1.2.1 101 g1, cA e0 G.2.1.1 3 sl]
        refine s_iload_n 3 C dX4_promoteTo_69 rfl 1 rfl ?_
        refine s_callV (As := [vI p0]) (rest := []) C dX4_promoteTo_70 (c_X3_cutTo l G d0 d1 r1 p1 q1 g1 p0 (by first | assumption | omega) (by first | assumption | omega) (by first | assumption | omega) (by first | assumption | omega)) gX4_promoteTo_X3_cutTo rfl 1 (by decide +kernel) (by decide) 9 3 rfl rfl rfl [9, 10] rfl (by decide) rfl (Nat.le_of_ble_eq_true rfl) ⟨Nat.zero_le _, Nat.zero_le _⟩ ?_
        intro v0 w0 hq
        obtain ⟨rfl, rfl⟩ := hq
        refine ⟨rfl, ?_⟩
        show fSt l G X 0 0 73 [(4, vI (cB n K p0)), (3, vI p0), (2, .ref b0), (0, .ref s0), (1, vI 0)] [] [cO s0 4 [.ref a0, .ref b0, .ref d0, .ref e0, vI tk, vI ln, vI tr, vI lc, vI lo, vI ap, vI rt, vI dl], cO a0 1 [vI n, .ref a1, .ref a2, .ref a3, .ref a4, .ref a5], cA a1 G.2.1.1 100 K, cA a2 G.2.1.1 100 T, cA a3 G.2.1.1 100 Y, cA a4 G.2.1.1 100 V, cA a5 G.2.1.1 100 A, cO b0 3 [vI p0, vI p0, vI 1, .ref b1], cA b1 G.2.1.2.1 101 (dG g0 0), cO d0 3 [vI (if p0 < r1 then p0 else r1), vI (if p0 < p1 then p0 else p1), vI (if p0 < p1 then 1 else q1), .ref d1], cA d1 G.2.1.2.1 101 (dG g1 p0), cA e0 G.2.1.1 3 sl]
        refine s_aload_n 0 C dX4_promoteTo_73 rfl 3 rfl ?_
        refine s_get C dX4_promoteTo_74 4 rfl hinX4 0 rfl 0 (by decide) (by decide +kernel) rfl ?_
        refine s_iload_n 3 C dX4_promoteTo_77 rfl 1 rfl ?_
        refine s_put [cO s0 4 [.ref a0, .ref b0, .ref d0, .ref e0, vI tk, vI ln, vI tr, vI lc, vI lo, vI ap, vI rt, vI dl], cO a0 1 [vI p0, .ref a1, .ref a2, .ref a3, .ref a4, .ref a5], cA a1 G.2.1.1 100 K, cA a2 G.2.1.1 100 T, cA a3 G.2.1.1 100 Y, cA a4 G.2.1.1 100 V, cA a5 G.2.1.1 100 A, cO b0 3 [vI p0, vI p0, vI 1, .ref b1], cA b1 G.2.1.2.1 101 (dG g0 0), cO d0 3 [vI (if p0 < r1 then p0 else r1), vI (if p0 < p1 then p0 else p1), vI (if p0 < p1 then 1 else q1), .ref d1], cA d1 G.2.1.2.1 101 (dG g1 p0), cA e0 G.2.1.1 3 sl] C dX4_promoteTo_78 1 rfl hinX1 tyX1 tyX1_ok nmX1 1 rfl 0 (by decide) (by decide +kernel) rfl rfl rfl (Nat.le_of_ble_eq_true rfl) rfl ?_
        refine s_iconst C dX4_promoteTo_81 ?_
        refine s_istore [(5, vI 0), (4, vI (cB n K p0)), (3, vI p0), (2, .ref b0), (0, .ref s0), (1, vI 0)] C dX4_promoteTo_82 (by decide) rfl ?_
        refine s_iload C dX4_promoteTo_84 0 rfl ?_
        refine s_iconst C dX4_promoteTo_86 ?_
        refine s_icmp_ge 104 C dX4_promoteTo_87 (by decide) (by decide) (by decide) (fun h => absurd h (by decide)) (fun h => ?_)
        refine s_aload_n 0 C dX4_promoteTo_90 rfl 4 rfl ?_
        refine s_get C dX4_promoteTo_91 4 rfl hinX4 0 rfl 3 (by decide) (by decide +kernel) rfl ?_
        refine s_iload C dX4_promoteTo_94 0 rfl ?_
        refine s_iconst C dX4_promoteTo_96 ?_
        refine s_iast [cO s0 4 [.ref a0, .ref b0, .ref d0, .ref e0, vI tk, vI ln, vI tr, vI lc, vI lo, vI ap, vI rt, vI dl], cO a0 1 [vI p0, .ref a1, .ref a2, .ref a3, .ref a4, .ref a5], cA a1 G.2.1.1 100 K, cA a2 G.2.1.1 100 T, cA a3 G.2.1.1 100 Y, cA a4 G.2.1.1 100 V, cA a5 G.2.1.1 100 A, cO b0 3 [vI p0, vI p0, vI 1, .ref b1], cA b1 G.2.1.2.1 101 (dG g0 0), cO d0 3 [vI (if p0 < r1 then p0 else r1), vI (if p0 < p1 then p0 else p1), vI (if p0 < p1 then 1 else q1), .ref d1], cA d1 G.2.1.2.1 101 (dG g1 p0), cA e0 G.2.1.1 3 (uZ sl 0 0)] C dX4_promoteTo_97 11 rfl 0 rfl (by omega) (by omega) (by omega) rfl ?_
        refine s_iinc [(5, vI (0 + 1)), (4, vI (cB n K p0)), (3, vI p0), (2, .ref b0), (0, .ref s0), (1, vI 0)] C dX4_promoteTo_98 0 rfl (by decide) rfl ?_
        refine s_goto 84 C dX4_promoteTo_101 (by decide) ?_
        refine s_iload C dX4_promoteTo_84 0 rfl ?_
        refine s_iconst C dX4_promoteTo_86 ?_
        refine s_icmp_ge 104 C dX4_promoteTo_87 (by decide) (by decide) (by decide) (fun h => absurd h (by decide)) (fun h => ?_)
        refine s_aload_n 0 C dX4_promoteTo_90 rfl 4 rfl ?_
        refine s_get C dX4_promoteTo_91 4 rfl hinX4 0 rfl 3 (by decide) (by decide +kernel) rfl ?_
        refine s_iload C dX4_promoteTo_94 0 rfl ?_
        refine s_iconst C dX4_promoteTo_96 ?_
        refine s_iast [cO s0 4 [.ref a0, .ref b0, .ref d0, .ref e0, vI tk, vI ln, vI tr, vI lc, vI lo, vI ap, vI rt, vI dl], cO a0 1 [vI p0, .ref a1, .ref a2, .ref a3, .ref a4, .ref a5], cA a1 G.2.1.1 100 K, cA a2 G.2.1.1 100 T, cA a3 G.2.1.1 100 Y, cA a4 G.2.1.1 100 V, cA a5 G.2.1.1 100 A, cO b0 3 [vI p0, vI p0, vI 1, .ref b1], cA b1 G.2.1.2.1 101 (dG g0 0), cO d0 3 [vI (if p0 < r1 then p0 else r1), vI (if p0 < p1 then p0 else p1), vI (if p0 < p1 then 1 else q1), .ref d1], cA d1 G.2.1.2.1 101 (dG g1 p0), cA e0 G.2.1.1 3 (uZ (uZ sl 0 0) 1 0)] C dX4_promoteTo_97 11 rfl 1 (by omega) (by omega) (by omega) (by omega) rfl ?_
        refine s_iinc [(5, vI (0 + 1 + 1)), (4, vI (cB n K p0)), (3, vI p0), (2, .ref b0), (0, .ref s0), (1, vI 0)] C dX4_promoteTo_98 0 rfl (by decide) rfl ?_
        refine s_goto 84 C dX4_promoteTo_101 (by decide) ?_
        refine s_iload C dX4_promoteTo_84 0 rfl ?_
        refine s_iconst C dX4_promoteTo_86 ?_
        refine s_icmp_ge 104 C dX4_promoteTo_87 (by decide) (by decide) (by decide) (fun h => absurd h (by decide)) (fun h => ?_)
        refine s_aload_n 0 C dX4_promoteTo_90 rfl 4 rfl ?_
        refine s_get C dX4_promoteTo_91 4 rfl hinX4 0 rfl 3 (by decide) (by decide +kernel) rfl ?_
        refine s_iload C dX4_promoteTo_94 0 rfl ?_
        refine s_iconst C dX4_promoteTo_96 ?_
        refine s_iast [cO s0 4 [.ref a0, .ref b0, .ref d0, .ref e0, vI tk, vI ln, vI tr, vI lc, vI lo, vI ap, vI rt, vI dl], cO a0 1 [vI p0, .ref a1, .ref a2, .ref a3, .ref a4, .ref a5], cA a1 G.2.1.1 100 K, cA a2 G.2.1.1 100 T, cA a3 G.2.1.1 100 Y, cA a4 G.2.1.1 100 V, cA a5 G.2.1.1 100 A, cO b0 3 [vI p0, vI p0, vI 1, .ref b1], cA b1 G.2.1.2.1 101 (dG g0 0), cO d0 3 [vI (if p0 < r1 then p0 else r1), vI (if p0 < p1 then p0 else p1), vI (if p0 < p1 then 1 else q1), .ref d1], cA d1 G.2.1.2.1 101 (dG g1 p0), cA e0 G.2.1.1 3 (uZ (uZ (uZ sl 0 0) 1 0) 2 0)] C dX4_promoteTo_97 11 rfl 2 (by omega) (by omega) (by omega) (by omega) rfl ?_
        refine s_iinc [(5, vI (0 + 1 + 1 + 1)), (4, vI (cB n K p0)), (3, vI p0), (2, .ref b0), (0, .ref s0), (1, vI 0)] C dX4_promoteTo_98 0 rfl (by decide) rfl ?_
        refine s_goto 84 C dX4_promoteTo_101 (by decide) ?_
        refine s_iload C dX4_promoteTo_84 0 rfl ?_
        refine s_iconst C dX4_promoteTo_86 ?_
        refine s_icmp_ge 104 C dX4_promoteTo_87 (by decide) (by decide) (by decide) (fun h => ?_) (fun h => absurd h (by decide))
        refine s_aload_n 0 C dX4_promoteTo_104 rfl 4 rfl ?_
        refine s_dup C dX4_promoteTo_105 rfl ?_
        refine s_get C dX4_promoteTo_106 4 rfl hinX4 0 rfl 5 (by decide) (by decide +kernel) rfl ?_
        refine s_iconst C dX4_promoteTo_109 ?_
        refine s_iadd C dX4_promoteTo_110 ?_
        refine s_put [cO s0 4 [.ref a0, .ref b0, .ref d0, .ref e0, vI tk, vI (ln + 1), vI tr, vI lc, vI lo, vI ap, vI rt, vI dl], cO a0 1 [vI p0, .ref a1, .ref a2, .ref a3, .ref a4, .ref a5], cA a1 G.2.1.1 100 K, cA a2 G.2.1.1 100 T, cA a3 G.2.1.1 100 Y, cA a4 G.2.1.1 100 V, cA a5 G.2.1.1 100 A, cO b0 3 [vI p0, vI p0, vI 1, .ref b1], cA b1 G.2.1.2.1 101 (dG g0 0), cO d0 3 [vI (if p0 < r1 then p0 else r1), vI (if p0 < p1 then p0 else p1), vI (if p0 < p1 then 1 else q1), .ref d1], cA d1 G.2.1.2.1 101 (dG g1 p0), cA e0 G.2.1.1 3 (uZ (uZ (uZ sl 0 0) 1 0) 2 0)] C dX4_promoteTo_111 4 rfl hinX4 tyX4 tyX4_ok nmX4 0 rfl 5 (by decide) (by decide +kernel) rfl rfl rfl (Nat.le_of_ble_eq_true rfl) rfl ?_
        refine s_aload_n 0 C dX4_promoteTo_114 rfl 4 rfl ?_
        refine s_dup C dX4_promoteTo_115 rfl ?_
        refine s_get C dX4_promoteTo_116 4 rfl hinX4 0 rfl 7 (by decide) (by decide +kernel) rfl ?_
        refine s_iload C dX4_promoteTo_119 1 rfl ?_
        refine s_iadd C dX4_promoteTo_121 ?_
        refine s_put [cO s0 4 [.ref a0, .ref b0, .ref d0, .ref e0, vI tk, vI (ln + 1), vI tr, vI (lc + (cB n K p0)), vI lo, vI ap, vI rt, vI dl], cO a0 1 [vI p0, .ref a1, .ref a2, .ref a3, .ref a4, .ref a5], cA a1 G.2.1.1 100 K, cA a2 G.2.1.1 100 T, cA a3 G.2.1.1 100 Y, cA a4 G.2.1.1 100 V, cA a5 G.2.1.1 100 A, cO b0 3 [vI p0, vI p0, vI 1, .ref b1], cA b1 G.2.1.2.1 101 (dG g0 0), cO d0 3 [vI (if p0 < r1 then p0 else r1), vI (if p0 < p1 then p0 else p1), vI (if p0 < p1 then 1 else q1), .ref d1], cA d1 G.2.1.2.1 101 (dG g1 p0), cA e0 G.2.1.1 3 (uZ (uZ (uZ sl 0 0) 1 0) 2 0)] C dX4_promoteTo_122 4 rfl hinX4 tyX4 tyX4_ok nmX4 0 rfl 7 (by decide) (by decide +kernel) rfl rfl rfl (Nat.le_of_ble_eq_true rfl) rfl ?_
        refine s_iload C dX4_promoteTo_125 1 rfl ?_
        exact s_iret C E dX4_promoteTo_127 ⟨(cB n K p0), ((sp_promote f 0).2), p0, tk, (ln + 1), tr, (lc + (cB n K p0)), lo, ap, rt, dl, p0, p0, 1, (if p0 < r1 then p0 else r1), (if p0 < p1 then p0 else p1), (if p0 < p1 then 1 else q1), (uZ (uZ (uZ sl 0 0) 1 0) 2 0), (dG g0 0), (dG g1 p0), K, T, Y, V, A, rfl, rfl, (prom_0 hR hI (by omega) (if_pos (by omega)).symm).1, (prom_0 hR hI (by omega) (a := 1) (if_pos (by omega)).symm).2⟩
    · refine s_ldc (z := -1000002) C (by decide +kernel) dX4_promoteTo_23 ?_
      exact s_iret C E dX4_promoteTo_25 ⟨(-1000002), f, n, tk, ln, tr, lc, lo, ap, rt, dl, r0, p0, q0, r1, p1, q1, sl, g0, g1, K, T, Y, V, A, rfl, rfl, hR, (by rw [sp_promote, if_pos (by omega), if_pos (by omega)])⟩
  · have h_4 := bI_f h_4
    refine s_ldc (z := -1000001) C (by decide +kernel) dX4_promoteTo_7 ?_
    exact s_iret C E dX4_promoteTo_9 ⟨(-1000001), f, n, tk, ln, tr, lc, lo, ap, rt, dl, r0, p0, q0, r1, p1, q1, sl, g0, g1, K, T, Y, V, A, rfl, rfl, hR, (by rw [sp_promote, if_neg (by omega)])⟩

set_option maxHeartbeats 4000000 in
set_option maxRecDepth 100000 in
theorem c_X4_promoteTo_1 (l : Launch) (G : fG) (s0 a0 a1 a2 a3 a4 a5 b0 b1 d0 d1 e0 : Nat) (B : Int) (f : Int → Int) (n tk ln tr lc lo ap rt dl r0 p0 q0 r1 p1 q1 : Int) (sl g0 g1 K T Y V A : Int → Int) (hR : RS f n tk ln tr lc lo ap rt dl r0 p0 q0 r1 p1 q1 sl g0 g1 K T Y V A) (hI : Inv B f) (hB : B ≤ 1073000000) : fCt l G yX4_promoteTo wsX4_promoteTo 3 65 0 0 [.ref s0, vI 1] [cO s0 4 [.ref a0, .ref b0, .ref d0, .ref e0, vI tk, vI ln, vI tr, vI lc, vI lo, vI ap, vI rt, vI dl], cO a0 1 [vI n, .ref a1, .ref a2, .ref a3, .ref a4, .ref a5], cA a1 G.2.1.1 100 K, cA a2 G.2.1.1 100 T, cA a3 G.2.1.1 100 Y, cA a4 G.2.1.1 100 V, cA a5 G.2.1.1 100 A, cO b0 3 [vI r0, vI p0, vI q0, .ref b1], cA b1 G.2.1.2.1 101 g0, cO d0 3 [vI r1, vI p1, vI q1, .ref d1], cA d1 G.2.1.2.1 101 g1, cA e0 G.2.1.1 3 sl] (fun (v0 : Option Value) (w0 : va_W) => ∃ (z : Int) (f2 : Int → Int) (n2 tk2 ln2 tr2 lc2 lo2 ap2 rt2 dl2 r02 p02 q02 r12 p12 q12 : Int) (sl2 g02 g12 K2 T2 Y2 V2 A2 : Int → Int), v0 = some (vI z) ∧ w0 = [cO s0 4 [.ref a0, .ref b0, .ref d0, .ref e0, vI tk2, vI ln2, vI tr2, vI lc2, vI lo2, vI ap2, vI rt2, vI dl2], cO a0 1 [vI n2, .ref a1, .ref a2, .ref a3, .ref a4, .ref a5], cA a1 G.2.1.1 100 K2, cA a2 G.2.1.1 100 T2, cA a3 G.2.1.1 100 Y2, cA a4 G.2.1.1 100 V2, cA a5 G.2.1.1 100 A2, cO b0 3 [vI r02, vI p02, vI q02, .ref b1], cA b1 G.2.1.2.1 101 g02, cO d0 3 [vI r12, vI p12, vI q12, .ref d1], cA d1 G.2.1.2.1 101 g12, cA e0 G.2.1.1 3 sl2] ∧ (RS f2 n2 tk2 ln2 tr2 lc2 lo2 ap2 rt2 dl2 r02 p02 q02 r12 p12 q12 sl2 g02 g12 K2 T2 Y2 V2 A2) ∧ ((z, f2) = sp_promote f 1)) := by
  refine fs_met (cc := cX4_promoteTo) (nL := 6) (ret := (some .int)) (by decide) rfl (Nat.le_of_ble_eq_true rfl) ?_
  intro X C E
  show fSt l G X 0 0 0 [(0, .ref s0), (1, vI 1)] [] [cO s0 4 [.ref a0, .ref b0, .ref d0, .ref e0, vI tk, vI ln, vI tr, vI lc, vI lo, vI ap, vI rt, vI dl], cO a0 1 [vI n, .ref a1, .ref a2, .ref a3, .ref a4, .ref a5], cA a1 G.2.1.1 100 K, cA a2 G.2.1.1 100 T, cA a3 G.2.1.1 100 Y, cA a4 G.2.1.1 100 V, cA a5 G.2.1.1 100 A, cO b0 3 [vI r0, vI p0, vI q0, .ref b1], cA b1 G.2.1.2.1 101 g0, cO d0 3 [vI r1, vI p1, vI q1, .ref d1], cA d1 G.2.1.2.1 101 g1, cA e0 G.2.1.1 3 sl]
  have hinX1 : ∀ w ∈ u_ws RX1 TX1 6, w ∈ wsX4_promoteTo := by decide +kernel
  have hinX3 : ∀ w ∈ u_ws RX3 TX3 4, w ∈ wsX4_promoteTo := by decide +kernel
  have hinX4 : ∀ w ∈ u_ws RX4 TX4 12, w ∈ wsX4_promoteTo := by decide +kernel
  obtain ⟨hn, htk, hln, htr, hlc, hlo, hap, hrt, hdl, hS0, hS1⟩ := hR.scal hI
  have hK := hR.hrK
  have hT := hR.hrT
  have hY := hR.hrY
  have hV := hR.hrV
  have hA := hR.hrA
  have hsl := hR.hrs
  have hg0 := hR.hG0
  have hg1 := hR.hG1
  have hb0 := hR.b0
  have hb1 := hR.b1
  refine s_iload_n 1 C dX4_promoteTo_0 rfl 1 rfl ?_
  refine s_callSN (As := [vI 1]) (rest := []) (host := RX6) C dX4_promoteTo_1 (c_X6_isStandby l G 1 (by first | assumption | omega)) gX4_promoteTo_X6_isStandby_n77 (by decide +kernel) (by decide +kernel) (by decide +kernel) rfl 1 (by decide +kernel) (by decide) [] rfl (by decide) rfl (Nat.le_of_ble_eq_true rfl) ⟨Nat.zero_le _, Nat.zero_le _⟩ ?_
  intro v0 w0 hq
  obtain ⟨rfl, rfl⟩ := hq
  refine ⟨rfl, ?_⟩
  show fSt l G X 0 0 4 [(0, .ref s0), (1, vI 1)] [vI (bI (0 ≤ 1 ∧ 1 ≤ 1))] [cO s0 4 [.ref a0, .ref b0, .ref d0, .ref e0, vI tk, vI ln, vI tr, vI lc, vI lo, vI ap, vI rt, vI dl], cO a0 1 [vI n, .ref a1, .ref a2, .ref a3, .ref a4, .ref a5], cA a1 G.2.1.1 100 K, cA a2 G.2.1.1 100 T, cA a3 G.2.1.1 100 Y, cA a4 G.2.1.1 100 V, cA a5 G.2.1.1 100 A, cO b0 3 [vI r0, vI p0, vI q0, .ref b1], cA b1 G.2.1.2.1 101 g0, cO d0 3 [vI r1, vI p1, vI q1, .ref d1], cA d1 G.2.1.2.1 101 g1, cA e0 G.2.1.1 3 sl]
  refine s_if_ne 10 C dX4_promoteTo_4 (by decide) bI_rng (fun h_4 => ?_) (fun h_4 => ?_)
  · have h_4 := bI_t h_4
    refine s_aload_n 0 C dX4_promoteTo_10 rfl 0 rfl ?_
    refine s_iload_n 1 C dX4_promoteTo_11 rfl 1 rfl ?_
    refine s_callV (As := [vI 1]) (rest := []) C dX4_promoteTo_12 (c_X4_standby1 l G s0 a0 b0 d0 [.ref e0, vI tk, vI ln, vI tr, vI lc, vI lo, vI ap, vI rt, vI dl] 1 (by first | assumption | omega)) gX4_promoteTo_X4_standby rfl 1 (by decide +kernel) (by decide) 0 4 rfl rfl rfl [0] rfl (by decide) rfl (Nat.le_of_ble_eq_true rfl) ⟨Nat.zero_le _, Nat.zero_le _⟩ ?_
    intro v0 w0 hq
    obtain ⟨rfl, rfl⟩ := hq
    refine ⟨rfl, ?_⟩
    show fSt l G X 0 0 15 [(0, .ref s0), (1, vI 1)] [.ref d0] [cO s0 4 [.ref a0, .ref b0, .ref d0, .ref e0, vI tk, vI ln, vI tr, vI lc, vI lo, vI ap, vI rt, vI dl], cO a0 1 [vI n, .ref a1, .ref a2, .ref a3, .ref a4, .ref a5], cA a1 G.2.1.1 100 K, cA a2 G.2.1.1 100 T, cA a3 G.2.1.1 100 Y, cA a4 G.2.1.1 100 V, cA a5 G.2.1.1 100 A, cO b0 3 [vI r0, vI p0, vI q0, .ref b1], cA b1 G.2.1.2.1 101 g0, cO d0 3 [vI r1, vI p1, vI q1, .ref d1], cA d1 G.2.1.2.1 101 g1, cA e0 G.2.1.1 3 sl]
    refine s_astore_n 2 [(2, .ref d0), (0, .ref s0), (1, vI 1)] C dX4_promoteTo_15 rfl (by decide) rfl ?_
    refine s_aload_n 2 C dX4_promoteTo_16 rfl 0 rfl ?_
    refine s_get C dX4_promoteTo_17 3 rfl hinX3 9 rfl 2 (by decide) (by decide +kernel) rfl ?_
    refine s_if_eq 26 C dX4_promoteTo_20 (by decide) (by omega) (fun h_20 => ?_) (fun h_20 => ?_)
    · refine s_aload_n 2 C dX4_promoteTo_26 rfl 0 rfl ?_
      refine s_get C dX4_promoteTo_27 3 rfl hinX3 9 rfl 1 (by decide) (by decide +kernel) rfl ?_
      refine s_istore_n 3 [(3, vI p1), (2, .ref d0), (0, .ref s0), (1, vI 1)] C dX4_promoteTo_30 rfl (by decide) rfl ?_
      refine s_aload_n 0 C dX4_promoteTo_31 rfl 2 rfl ?_
      refine s_get C dX4_promoteTo_32 4 rfl hinX4 0 rfl 0 (by decide) (by decide +kernel) rfl ?_
      refine s_iload_n 3 C dX4_promoteTo_35 rfl 0 rfl ?_
      refine s_callV (As := [vI p1]) (rest := []) C dX4_promoteTo_36 (c_X1_commitsBehind l G a0 a1 a2 a3 a4 a5 n K T Y V A p1 (by first | assumption | omega) (by first | assumption | omega) (by first | assumption | omega) (by first | assumption | omega) (by first | assumption | omega) (by first | assumption | omega) (by first | assumption | omega)) gX4_promoteTo_X1_commitsBehind rfl 1 (by decide +kernel) (by decide) 1 1 rfl rfl rfl [1, 2, 3, 4, 5, 6] rfl (by decide) rfl (Nat.le_of_ble_eq_true rfl) ⟨Nat.zero_le _, Nat.zero_le _⟩ ?_
      intro v0 w0 hq
      obtain ⟨rfl, rfl⟩ := hq
      refine ⟨rfl, ?_⟩
      show fSt l G X 0 0 39 [(3, vI p1), (2, .ref d0), (0, .ref s0), (1, vI 1)] [vI (cB n K p1)] [cO s0 4 [.ref a0, .ref b0, .ref d0, .ref e0, vI tk, vI ln, vI tr, vI lc, vI lo, vI ap, vI rt, vI dl], cO a0 1 [vI n, .ref a1, .ref a2, .ref a3, .ref a4, .ref a5], cA a1 G.2.1.1 100 K, cA a2 G.2.1.1 100 T, cA a3 G.2.1.1 100 Y, cA a4 G.2.1.1 100 V, cA a5 G.2.1.1 100 A, cO b0 3 [vI r0, vI p0, vI q0, .ref b1], cA b1 G.2.1.2.1 101 g0, cO d0 3 [vI r1, vI p1, vI q1, .ref d1], cA d1 G.2.1.2.1 101 g1, cA e0 G.2.1.1 3 sl]
      refine s_istore [(4, vI (cB n K p1)), (3, vI p1), (2, .ref d0), (0, .ref s0), (1, vI 1)] C dX4_promoteTo_39 (by decide) rfl ?_
      refine s_aload_n 2 C dX4_promoteTo_41 rfl 2 rfl ?_
      refine s_iload_n 3 C dX4_promoteTo_42 rfl 1 rfl ?_
      refine s_aload_n 0 C dX4_promoteTo_43 rfl 3 rfl ?_
      refine s_get C dX4_promoteTo_44 4 rfl hinX4 0 rfl 0 (by decide) (by decide +kernel) rfl ?_
      refine s_get C dX4_promoteTo_47 1 rfl hinX1 1 rfl 0 (by decide) (by decide +kernel) rfl ?_
      refine s_iload_n 3 C dX4_promoteTo_50 rfl 1 rfl ?_
      refine s_icmp_le 58 C dX4_promoteTo_51 (by decide) (by omega) (by omega) (fun h_51 => ?_) (fun h_51 => ?_)
      · refine s_iconst C dX4_promoteTo_58 ?_
        refine s_callV (As := [vI p1, vI 0]) (rest := []) C dX4_promoteTo_59 (c_X3_standAt l G d0 d1 r1 p1 q1 g1 p1 0 (by first | assumption | omega) (by omega)) gX4_promoteTo_X3_standAt rfl 2 (by decide +kernel) (by decide) 9 3 rfl rfl rfl [9, 10] rfl (by decide) rfl (Nat.le_of_ble_eq_true rfl) ⟨Nat.zero_le _, Nat.zero_le _⟩ ?_
        intro v0 w0 hq
        obtain ⟨rfl, rfl⟩ := hq
        refine ⟨rfl, ?_⟩
        show fSt l G X 0 0 62 [(4, vI (cB n K p1)), (3, vI p1), (2, .ref d0), (0, .ref s0), (1, vI 1)] [] [cO s0 4 [.ref a0, .ref b0, .ref d0, .ref e0, vI tk, vI ln, vI tr, vI lc, vI lo, vI ap, vI rt, vI dl], cO a0 1 [vI n, .ref a1, .ref a2, .ref a3, .ref a4, .ref a5], cA a1 G.2.1.1 100 K, cA a2 G.2.1.1 100 T, cA a3 G.2.1.1 100 Y, cA a4 G.2.1.1 100 V, cA a5 G.2.1.1 100 A, cO b0 3 [vI r0, vI p0, vI q0, .ref b1], cA b1 G.2.1.2.1 101 g0, cO d0 3 [vI p1, vI p1, vI 0, .ref d1], cA d1 G.2.1.2.1 101 (dG g1 0), cA e0 G.2.1.1 3 sl]
        refine s_aload_n 0 C dX4_promoteTo_62 rfl 3 rfl ?_
        refine s_iconst C dX4_promoteTo_63 ?_
        refine s_iload_n 1 C dX4_promoteTo_64 rfl 4 rfl ?_
        refine s_isub C dX4_promoteTo_65 ?_
        refine s_callV (As := [vI (1 - 1)]) (rest := []) C dX4_promoteTo_66 (c_X4_standby0 l G s0 a0 b0 d0 [.ref e0, vI tk, vI ln, vI tr, vI lc, vI lo, vI ap, vI rt, vI dl] (1 - 1) (by first | assumption | omega)) gX4_promoteTo_X4_standby rfl 1 (by decide +kernel) (by decide) 0 4 rfl rfl rfl [0] rfl (by decide) rfl (Nat.le_of_ble_eq_true rfl) ⟨Nat.zero_le _, Nat.zero_le _⟩ ?_
        intro v0 w0 hq
        obtain ⟨rfl, rfl⟩ := hq
        refine ⟨rfl, ?_⟩
        show fSt l G X 0 0 69 [(4, vI (cB n K p1)), (3, vI p1), (2, .ref d0), (0, .ref s0), (1, vI 1)] [.ref b0] [cO s0 4 [.ref a0, .ref b0, .ref d0, .ref e0, vI tk, vI ln, vI tr, vI lc, vI lo, vI ap, vI rt, vI dl], cO a0 1 [vI n, .ref a1, .ref a2, .ref a3, .ref a4, .ref a5], cA a1 G.2.1.1 100 K, cA a2 G.2.1.1 100 T, cA a3 G.2.1.1 100 Y, cA a4 G.2.1.1 100 V, cA a5 G.2.1.1 100 A, cO b0 3 [vI r0, vI p0, vI q0, .ref b1], cA b1 G.2.1.2.1 101 g0, cO d0 3 [vI p1, vI p1, vI 0, .ref d1], cA d1 G.2.1.2.1 101 (dG g1 0), cA e0 G.2.1.1 3 sl]
        refine s_iload_n 3 C dX4_promoteTo_69 rfl 1 rfl ?_
        refine s_callV (As := [vI p1]) (rest := []) C dX4_promoteTo_70 (c_X3_cutTo l G b0 b1 r0 p0 q0 g0 p1 (by first | assumption | omega) (by first | assumption | omega) (by first | assumption | omega) (by first | assumption | omega)) gX4_promoteTo_X3_cutTo rfl 1 (by decide +kernel) (by decide) 7 3 rfl rfl rfl [7, 8] rfl (by decide) rfl (Nat.le_of_ble_eq_true rfl) ⟨Nat.zero_le _, Nat.zero_le _⟩ ?_
        intro v0 w0 hq
        obtain ⟨rfl, rfl⟩ := hq
        refine ⟨rfl, ?_⟩
        show fSt l G X 0 0 73 [(4, vI (cB n K p1)), (3, vI p1), (2, .ref d0), (0, .ref s0), (1, vI 1)] [] [cO s0 4 [.ref a0, .ref b0, .ref d0, .ref e0, vI tk, vI ln, vI tr, vI lc, vI lo, vI ap, vI rt, vI dl], cO a0 1 [vI n, .ref a1, .ref a2, .ref a3, .ref a4, .ref a5], cA a1 G.2.1.1 100 K, cA a2 G.2.1.1 100 T, cA a3 G.2.1.1 100 Y, cA a4 G.2.1.1 100 V, cA a5 G.2.1.1 100 A, cO b0 3 [vI (if p1 < r0 then p1 else r0), vI (if p1 < p0 then p1 else p0), vI (if p1 < p0 then 1 else q0), .ref b1], cA b1 G.2.1.2.1 101 (dG g0 p1), cO d0 3 [vI p1, vI p1, vI 0, .ref d1], cA d1 G.2.1.2.1 101 (dG g1 0), cA e0 G.2.1.1 3 sl]
        refine s_aload_n 0 C dX4_promoteTo_73 rfl 3 rfl ?_
        refine s_get C dX4_promoteTo_74 4 rfl hinX4 0 rfl 0 (by decide) (by decide +kernel) rfl ?_
        refine s_iload_n 3 C dX4_promoteTo_77 rfl 1 rfl ?_
        refine s_put [cO s0 4 [.ref a0, .ref b0, .ref d0, .ref e0, vI tk, vI ln, vI tr, vI lc, vI lo, vI ap, vI rt, vI dl], cO a0 1 [vI p1, .ref a1, .ref a2, .ref a3, .ref a4, .ref a5], cA a1 G.2.1.1 100 K, cA a2 G.2.1.1 100 T, cA a3 G.2.1.1 100 Y, cA a4 G.2.1.1 100 V, cA a5 G.2.1.1 100 A, cO b0 3 [vI (if p1 < r0 then p1 else r0), vI (if p1 < p0 then p1 else p0), vI (if p1 < p0 then 1 else q0), .ref b1], cA b1 G.2.1.2.1 101 (dG g0 p1), cO d0 3 [vI p1, vI p1, vI 0, .ref d1], cA d1 G.2.1.2.1 101 (dG g1 0), cA e0 G.2.1.1 3 sl] C dX4_promoteTo_78 1 rfl hinX1 tyX1 tyX1_ok nmX1 1 rfl 0 (by decide) (by decide +kernel) rfl rfl rfl (Nat.le_of_ble_eq_true rfl) rfl ?_
        refine s_iconst C dX4_promoteTo_81 ?_
        refine s_istore [(5, vI 0), (4, vI (cB n K p1)), (3, vI p1), (2, .ref d0), (0, .ref s0), (1, vI 1)] C dX4_promoteTo_82 (by decide) rfl ?_
        refine s_iload C dX4_promoteTo_84 0 rfl ?_
        refine s_iconst C dX4_promoteTo_86 ?_
        refine s_icmp_ge 104 C dX4_promoteTo_87 (by decide) (by decide) (by decide) (fun h => absurd h (by decide)) (fun h => ?_)
        refine s_aload_n 0 C dX4_promoteTo_90 rfl 4 rfl ?_
        refine s_get C dX4_promoteTo_91 4 rfl hinX4 0 rfl 3 (by decide) (by decide +kernel) rfl ?_
        refine s_iload C dX4_promoteTo_94 0 rfl ?_
        refine s_iconst C dX4_promoteTo_96 ?_
        refine s_iast [cO s0 4 [.ref a0, .ref b0, .ref d0, .ref e0, vI tk, vI ln, vI tr, vI lc, vI lo, vI ap, vI rt, vI dl], cO a0 1 [vI p1, .ref a1, .ref a2, .ref a3, .ref a4, .ref a5], cA a1 G.2.1.1 100 K, cA a2 G.2.1.1 100 T, cA a3 G.2.1.1 100 Y, cA a4 G.2.1.1 100 V, cA a5 G.2.1.1 100 A, cO b0 3 [vI (if p1 < r0 then p1 else r0), vI (if p1 < p0 then p1 else p0), vI (if p1 < p0 then 1 else q0), .ref b1], cA b1 G.2.1.2.1 101 (dG g0 p1), cO d0 3 [vI p1, vI p1, vI 0, .ref d1], cA d1 G.2.1.2.1 101 (dG g1 0), cA e0 G.2.1.1 3 (uZ sl 0 0)] C dX4_promoteTo_97 11 rfl 0 rfl (by omega) (by omega) (by omega) rfl ?_
        refine s_iinc [(5, vI (0 + 1)), (4, vI (cB n K p1)), (3, vI p1), (2, .ref d0), (0, .ref s0), (1, vI 1)] C dX4_promoteTo_98 0 rfl (by decide) rfl ?_
        refine s_goto 84 C dX4_promoteTo_101 (by decide) ?_
        refine s_iload C dX4_promoteTo_84 0 rfl ?_
        refine s_iconst C dX4_promoteTo_86 ?_
        refine s_icmp_ge 104 C dX4_promoteTo_87 (by decide) (by decide) (by decide) (fun h => absurd h (by decide)) (fun h => ?_)
        refine s_aload_n 0 C dX4_promoteTo_90 rfl 4 rfl ?_
        refine s_get C dX4_promoteTo_91 4 rfl hinX4 0 rfl 3 (by decide) (by decide +kernel) rfl ?_
        refine s_iload C dX4_promoteTo_94 0 rfl ?_
        refine s_iconst C dX4_promoteTo_96 ?_
        refine s_iast [cO s0 4 [.ref a0, .ref b0, .ref d0, .ref e0, vI tk, vI ln, vI tr, vI lc, vI lo, vI ap, vI rt, vI dl], cO a0 1 [vI p1, .ref a1, .ref a2, .ref a3, .ref a4, .ref a5], cA a1 G.2.1.1 100 K, cA a2 G.2.1.1 100 T, cA a3 G.2.1.1 100 Y, cA a4 G.2.1.1 100 V, cA a5 G.2.1.1 100 A, cO b0 3 [vI (if p1 < r0 then p1 else r0), vI (if p1 < p0 then p1 else p0), vI (if p1 < p0 then 1 else q0), .ref b1], cA b1 G.2.1.2.1 101 (dG g0 p1), cO d0 3 [vI p1, vI p1, vI 0, .ref d1], cA d1 G.2.1.2.1 101 (dG g1 0), cA e0 G.2.1.1 3 (uZ (uZ sl 0 0) 1 0)] C dX4_promoteTo_97 11 rfl 1 (by omega) (by omega) (by omega) (by omega) rfl ?_
        refine s_iinc [(5, vI (0 + 1 + 1)), (4, vI (cB n K p1)), (3, vI p1), (2, .ref d0), (0, .ref s0), (1, vI 1)] C dX4_promoteTo_98 0 rfl (by decide) rfl ?_
        refine s_goto 84 C dX4_promoteTo_101 (by decide) ?_
        refine s_iload C dX4_promoteTo_84 0 rfl ?_
        refine s_iconst C dX4_promoteTo_86 ?_
        refine s_icmp_ge 104 C dX4_promoteTo_87 (by decide) (by decide) (by decide) (fun h => absurd h (by decide)) (fun h => ?_)
        refine s_aload_n 0 C dX4_promoteTo_90 rfl 4 rfl ?_
        refine s_get C dX4_promoteTo_91 4 rfl hinX4 0 rfl 3 (by decide) (by decide +kernel) rfl ?_
        refine s_iload C dX4_promoteTo_94 0 rfl ?_
        refine s_iconst C dX4_promoteTo_96 ?_
        refine s_iast [cO s0 4 [.ref a0, .ref b0, .ref d0, .ref e0, vI tk, vI ln, vI tr, vI lc, vI lo, vI ap, vI rt, vI dl], cO a0 1 [vI p1, .ref a1, .ref a2, .ref a3, .ref a4, .ref a5], cA a1 G.2.1.1 100 K, cA a2 G.2.1.1 100 T, cA a3 G.2.1.1 100 Y, cA a4 G.2.1.1 100 V, cA a5 G.2.1.1 100 A, cO b0 3 [vI (if p1 < r0 then p1 else r0), vI (if p1 < p0 then p1 else p0), vI (if p1 < p0 then 1 else q0), .ref b1], cA b1 G.2.1.2.1 101 (dG g0 p1), cO d0 3 [vI p1, vI p1, vI 0, .ref d1], cA d1 G.2.1.2.1 101 (dG g1 0), cA e0 G.2.1.1 3 (uZ (uZ (uZ sl 0 0) 1 0) 2 0)] C dX4_promoteTo_97 11 rfl 2 (by omega) (by omega) (by omega) (by omega) rfl ?_
        refine s_iinc [(5, vI (0 + 1 + 1 + 1)), (4, vI (cB n K p1)), (3, vI p1), (2, .ref d0), (0, .ref s0), (1, vI 1)] C dX4_promoteTo_98 0 rfl (by decide) rfl ?_
        refine s_goto 84 C dX4_promoteTo_101 (by decide) ?_
        refine s_iload C dX4_promoteTo_84 0 rfl ?_
        refine s_iconst C dX4_promoteTo_86 ?_
        refine s_icmp_ge 104 C dX4_promoteTo_87 (by decide) (by decide) (by decide) (fun h => ?_) (fun h => absurd h (by decide))
        refine s_aload_n 0 C dX4_promoteTo_104 rfl 4 rfl ?_
        refine s_dup C dX4_promoteTo_105 rfl ?_
        refine s_get C dX4_promoteTo_106 4 rfl hinX4 0 rfl 5 (by decide) (by decide +kernel) rfl ?_
        refine s_iconst C dX4_promoteTo_109 ?_
        refine s_iadd C dX4_promoteTo_110 ?_
        refine s_put [cO s0 4 [.ref a0, .ref b0, .ref d0, .ref e0, vI tk, vI (ln + 1), vI tr, vI lc, vI lo, vI ap, vI rt, vI dl], cO a0 1 [vI p1, .ref a1, .ref a2, .ref a3, .ref a4, .ref a5], cA a1 G.2.1.1 100 K, cA a2 G.2.1.1 100 T, cA a3 G.2.1.1 100 Y, cA a4 G.2.1.1 100 V, cA a5 G.2.1.1 100 A, cO b0 3 [vI (if p1 < r0 then p1 else r0), vI (if p1 < p0 then p1 else p0), vI (if p1 < p0 then 1 else q0), .ref b1], cA b1 G.2.1.2.1 101 (dG g0 p1), cO d0 3 [vI p1, vI p1, vI 0, .ref d1], cA d1 G.2.1.2.1 101 (dG g1 0), cA e0 G.2.1.1 3 (uZ (uZ (uZ sl 0 0) 1 0) 2 0)] C dX4_promoteTo_111 4 rfl hinX4 tyX4 tyX4_ok nmX4 0 rfl 5 (by decide) (by decide +kernel) rfl rfl rfl (Nat.le_of_ble_eq_true rfl) rfl ?_
        refine s_aload_n 0 C dX4_promoteTo_114 rfl 4 rfl ?_
        refine s_dup C dX4_promoteTo_115 rfl ?_
        refine s_get C dX4_promoteTo_116 4 rfl hinX4 0 rfl 7 (by decide) (by decide +kernel) rfl ?_
        refine s_iload C dX4_promoteTo_119 1 rfl ?_
        refine s_iadd C dX4_promoteTo_121 ?_
        refine s_put [cO s0 4 [.ref a0, .ref b0, .ref d0, .ref e0, vI tk, vI (ln + 1), vI tr, vI (lc + (cB n K p1)), vI lo, vI ap, vI rt, vI dl], cO a0 1 [vI p1, .ref a1, .ref a2, .ref a3, .ref a4, .ref a5], cA a1 G.2.1.1 100 K, cA a2 G.2.1.1 100 T, cA a3 G.2.1.1 100 Y, cA a4 G.2.1.1 100 V, cA a5 G.2.1.1 100 A, cO b0 3 [vI (if p1 < r0 then p1 else r0), vI (if p1 < p0 then p1 else p0), vI (if p1 < p0 then 1 else q0), .ref b1], cA b1 G.2.1.2.1 101 (dG g0 p1), cO d0 3 [vI p1, vI p1, vI 0, .ref d1], cA d1 G.2.1.2.1 101 (dG g1 0), cA e0 G.2.1.1 3 (uZ (uZ (uZ sl 0 0) 1 0) 2 0)] C dX4_promoteTo_122 4 rfl hinX4 tyX4 tyX4_ok nmX4 0 rfl 7 (by decide) (by decide +kernel) rfl rfl rfl (Nat.le_of_ble_eq_true rfl) rfl ?_
        refine s_iload C dX4_promoteTo_125 1 rfl ?_
        exact s_iret C E dX4_promoteTo_127 ⟨(cB n K p1), ((sp_promote f 1).2), p1, tk, (ln + 1), tr, (lc + (cB n K p1)), lo, ap, rt, dl, (if p1 < r0 then p1 else r0), (if p1 < p0 then p1 else p0), (if p1 < p0 then 1 else q0), p1, p1, 0, (uZ (uZ (uZ sl 0 0) 1 0) 2 0), (dG g0 p1), (dG g1 0), K, T, Y, V, A, rfl, rfl, (prom_1 hR hI (by omega) (if_neg (by omega)).symm).1, (prom_1 hR hI (by omega) (a := 0) (if_neg (by omega)).symm).2⟩
      · refine s_iconst C dX4_promoteTo_54 ?_
        refine s_goto 59 C dX4_promoteTo_55 (by decide) ?_
        refine s_callV (As := [vI p1, vI 1]) (rest := []) C dX4_promoteTo_59 (c_X3_standAt l G d0 d1 r1 p1 q1 g1 p1 1 (by first | assumption | omega) (by omega)) gX4_promoteTo_X3_standAt rfl 2 (by decide +kernel) (by decide) 9 3 rfl rfl rfl [9, 10] rfl (by decide) rfl (Nat.le_of_ble_eq_true rfl) ⟨Nat.zero_le _, Nat.zero_le _⟩ ?_
        intro v0 w0 hq
        obtain ⟨rfl, rfl⟩ := hq
        refine ⟨rfl, ?_⟩
        show fSt l G X 0 0 62 [(4, vI (cB n K p1)), (3, vI p1), (2, .ref d0), (0, .ref s0), (1, vI 1)] [] [cO s0 4 [.ref a0, .ref b0, .ref d0, .ref e0, vI tk, vI ln, vI tr, vI lc, vI lo, vI ap, vI rt, vI dl], cO a0 1 [vI n, .ref a1, .ref a2, .ref a3, .ref a4, .ref a5], cA a1 G.2.1.1 100 K, cA a2 G.2.1.1 100 T, cA a3 G.2.1.1 100 Y, cA a4 G.2.1.1 100 V, cA a5 G.2.1.1 100 A, cO b0 3 [vI r0, vI p0, vI q0, .ref b1], cA b1 G.2.1.2.1 101 g0, cO d0 3 [vI p1, vI p1, vI 1, .ref d1], cA d1 G.2.1.2.1 101 (dG g1 0), cA e0 G.2.1.1 3 sl]
        refine s_aload_n 0 C dX4_promoteTo_62 rfl 3 rfl ?_
        refine s_iconst C dX4_promoteTo_63 ?_
        refine s_iload_n 1 C dX4_promoteTo_64 rfl 4 rfl ?_
        refine s_isub C dX4_promoteTo_65 ?_
        refine s_callV (As := [vI (1 - 1)]) (rest := []) C dX4_promoteTo_66 (c_X4_standby0 l G s0 a0 b0 d0 [.ref e0, vI tk, vI ln, vI tr, vI lc, vI lo, vI ap, vI rt, vI dl] (1 - 1) (by first | assumption | omega)) gX4_promoteTo_X4_standby rfl 1 (by decide +kernel) (by decide) 0 4 rfl rfl rfl [0] rfl (by decide) rfl (Nat.le_of_ble_eq_true rfl) ⟨Nat.zero_le _, Nat.zero_le _⟩ ?_
        intro v0 w0 hq
        obtain ⟨rfl, rfl⟩ := hq
        refine ⟨rfl, ?_⟩
        show fSt l G X 0 0 69 [(4, vI (cB n K p1)), (3, vI p1), (2, .ref d0), (0, .ref s0), (1, vI 1)] [.ref b0] [cO s0 4 [.ref a0, .ref b0, .ref d0, .ref e0, vI tk, vI ln, vI tr, vI lc, vI lo, vI ap, vI rt, vI dl], cO a0 1 [vI n, .ref a1, .ref a2, .ref a3, .ref a4, .ref a5], cA a1 G.2.1.1 100 K, cA a2 G.2.1.1 100 T, cA a3 G.2.1.1 100 Y, cA a4 G.2.1.1 100 V, cA a5 G.2.1.1 100 A, cO b0 3 [vI r0, vI p0, vI q0, .ref b1], cA b1 G.2.1.2.1 101 g0, cO d0 3 [vI p1, vI p1, vI 1, .ref d1], cA d1 G.2.1.2.1 101 (dG g1 0), cA e0 G.2.1.1 3 sl]
        refine s_iload_n 3 C dX4_promoteTo_69 rfl 1 rfl ?_
        refine s_callV (As := [vI p1]) (rest := []) C dX4_promoteTo_70 (c_X3_cutTo l G b0 b1 r0 p0 q0 g0 p1 (by first | assumption | omega) (by first | assumption | omega) (by first | assumption | omega) (by first | assumption | omega)) gX4_promoteTo_X3_cutTo rfl 1 (by decide +kernel) (by decide) 7 3 rfl rfl rfl [7, 8] rfl (by decide) rfl (Nat.le_of_ble_eq_true rfl) ⟨Nat.zero_le _, Nat.zero_le _⟩ ?_
        intro v0 w0 hq
        obtain ⟨rfl, rfl⟩ := hq
        refine ⟨rfl, ?_⟩
        show fSt l G X 0 0 73 [(4, vI (cB n K p1)), (3, vI p1), (2, .ref d0), (0, .ref s0), (1, vI 1)] [] [cO s0 4 [.ref a0, .ref b0, .ref d0, .ref e0, vI tk, vI ln, vI tr, vI lc, vI lo, vI ap, vI rt, vI dl], cO a0 1 [vI n, .ref a1, .ref a2, .ref a3, .ref a4, .ref a5], cA a1 G.2.1.1 100 K, cA a2 G.2.1.1 100 T, cA a3 G.2.1.1 100 Y, cA a4 G.2.1.1 100 V, cA a5 G.2.1.1 100 A, cO b0 3 [vI (if p1 < r0 then p1 else r0), vI (if p1 < p0 then p1 else p0), vI (if p1 < p0 then 1 else q0), .ref b1], cA b1 G.2.1.2.1 101 (dG g0 p1), cO d0 3 [vI p1, vI p1, vI 1, .ref d1], cA d1 G.2.1.2.1 101 (dG g1 0), cA e0 G.2.1.1 3 sl]
        refine s_aload_n 0 C dX4_promoteTo_73 rfl 3 rfl ?_
        refine s_get C dX4_promoteTo_74 4 rfl hinX4 0 rfl 0 (by decide) (by decide +kernel) rfl ?_
        refine s_iload_n 3 C dX4_promoteTo_77 rfl 1 rfl ?_
        refine s_put [cO s0 4 [.ref a0, .ref b0, .ref d0, .ref e0, vI tk, vI ln, vI tr, vI lc, vI lo, vI ap, vI rt, vI dl], cO a0 1 [vI p1, .ref a1, .ref a2, .ref a3, .ref a4, .ref a5], cA a1 G.2.1.1 100 K, cA a2 G.2.1.1 100 T, cA a3 G.2.1.1 100 Y, cA a4 G.2.1.1 100 V, cA a5 G.2.1.1 100 A, cO b0 3 [vI (if p1 < r0 then p1 else r0), vI (if p1 < p0 then p1 else p0), vI (if p1 < p0 then 1 else q0), .ref b1], cA b1 G.2.1.2.1 101 (dG g0 p1), cO d0 3 [vI p1, vI p1, vI 1, .ref d1], cA d1 G.2.1.2.1 101 (dG g1 0), cA e0 G.2.1.1 3 sl] C dX4_promoteTo_78 1 rfl hinX1 tyX1 tyX1_ok nmX1 1 rfl 0 (by decide) (by decide +kernel) rfl rfl rfl (Nat.le_of_ble_eq_true rfl) rfl ?_
        refine s_iconst C dX4_promoteTo_81 ?_
        refine s_istore [(5, vI 0), (4, vI (cB n K p1)), (3, vI p1), (2, .ref d0), (0, .ref s0), (1, vI 1)] C dX4_promoteTo_82 (by decide) rfl ?_
        refine s_iload C dX4_promoteTo_84 0 rfl ?_
        refine s_iconst C dX4_promoteTo_86 ?_
        refine s_icmp_ge 104 C dX4_promoteTo_87 (by decide) (by decide) (by decide) (fun h => absurd h (by decide)) (fun h => ?_)
        refine s_aload_n 0 C dX4_promoteTo_90 rfl 4 rfl ?_
        refine s_get C dX4_promoteTo_91 4 rfl hinX4 0 rfl 3 (by decide) (by decide +kernel) rfl ?_
        refine s_iload C dX4_promoteTo_94 0 rfl ?_
        refine s_iconst C dX4_promoteTo_96 ?_
        refine s_iast [cO s0 4 [.ref a0, .ref b0, .ref d0, .ref e0, vI tk, vI ln, vI tr, vI lc, vI lo, vI ap, vI rt, vI dl], cO a0 1 [vI p1, .ref a1, .ref a2, .ref a3, .ref a4, .ref a5], cA a1 G.2.1.1 100 K, cA a2 G.2.1.1 100 T, cA a3 G.2.1.1 100 Y, cA a4 G.2.1.1 100 V, cA a5 G.2.1.1 100 A, cO b0 3 [vI (if p1 < r0 then p1 else r0), vI (if p1 < p0 then p1 else p0), vI (if p1 < p0 then 1 else q0), .ref b1], cA b1 G.2.1.2.1 101 (dG g0 p1), cO d0 3 [vI p1, vI p1, vI 1, .ref d1], cA d1 G.2.1.2.1 101 (dG g1 0), cA e0 G.2.1.1 3 (uZ sl 0 0)] C dX4_promoteTo_97 11 rfl 0 rfl (by omega) (by omega) (by omega) rfl ?_
        refine s_iinc [(5, vI (0 + 1)), (4, vI (cB n K p1)), (3, vI p1), (2, .ref d0), (0, .ref s0), (1, vI 1)] C dX4_promoteTo_98 0 rfl (by decide) rfl ?_
        refine s_goto 84 C dX4_promoteTo_101 (by decide) ?_
        refine s_iload C dX4_promoteTo_84 0 rfl ?_
        refine s_iconst C dX4_promoteTo_86 ?_
        refine s_icmp_ge 104 C dX4_promoteTo_87 (by decide) (by decide) (by decide) (fun h => absurd h (by decide)) (fun h => ?_)
        refine s_aload_n 0 C dX4_promoteTo_90 rfl 4 rfl ?_
        refine s_get C dX4_promoteTo_91 4 rfl hinX4 0 rfl 3 (by decide) (by decide +kernel) rfl ?_
        refine s_iload C dX4_promoteTo_94 0 rfl ?_
        refine s_iconst C dX4_promoteTo_96 ?_
        refine s_iast [cO s0 4 [.ref a0, .ref b0, .ref d0, .ref e0, vI tk, vI ln, vI tr, vI lc, vI lo, vI ap, vI rt, vI dl], cO a0 1 [vI p1, .ref a1, .ref a2, .ref a3, .ref a4, .ref a5], cA a1 G.2.1.1 100 K, cA a2 G.2.1.1 100 T, cA a3 G.2.1.1 100 Y, cA a4 G.2.1.1 100 V, cA a5 G.2.1.1 100 A, cO b0 3 [vI (if p1 < r0 then p1 else r0), vI (if p1 < p0 then p1 else p0), vI (if p1 < p0 then 1 else q0), .ref b1], cA b1 G.2.1.2.1 101 (dG g0 p1), cO d0 3 [vI p1, vI p1, vI 1, .ref d1], cA d1 G.2.1.2.1 101 (dG g1 0), cA e0 G.2.1.1 3 (uZ (uZ sl 0 0) 1 0)] C dX4_promoteTo_97 11 rfl 1 (by omega) (by omega) (by omega) (by omega) rfl ?_
        refine s_iinc [(5, vI (0 + 1 + 1)), (4, vI (cB n K p1)), (3, vI p1), (2, .ref d0), (0, .ref s0), (1, vI 1)] C dX4_promoteTo_98 0 rfl (by decide) rfl ?_
        refine s_goto 84 C dX4_promoteTo_101 (by decide) ?_
        refine s_iload C dX4_promoteTo_84 0 rfl ?_
        refine s_iconst C dX4_promoteTo_86 ?_
        refine s_icmp_ge 104 C dX4_promoteTo_87 (by decide) (by decide) (by decide) (fun h => absurd h (by decide)) (fun h => ?_)
        refine s_aload_n 0 C dX4_promoteTo_90 rfl 4 rfl ?_
        refine s_get C dX4_promoteTo_91 4 rfl hinX4 0 rfl 3 (by decide) (by decide +kernel) rfl ?_
        refine s_iload C dX4_promoteTo_94 0 rfl ?_
        refine s_iconst C dX4_promoteTo_96 ?_
        refine s_iast [cO s0 4 [.ref a0, .ref b0, .ref d0, .ref e0, vI tk, vI ln, vI tr, vI lc, vI lo, vI ap, vI rt, vI dl], cO a0 1 [vI p1, .ref a1, .ref a2, .ref a3, .ref a4, .ref a5], cA a1 G.2.1.1 100 K, cA a2 G.2.1.1 100 T, cA a3 G.2.1.1 100 Y, cA a4 G.2.1.1 100 V, cA a5 G.2.1.1 100 A, cO b0 3 [vI (if p1 < r0 then p1 else r0), vI (if p1 < p0 then p1 else p0), vI (if p1 < p0 then 1 else q0), .ref b1], cA b1 G.2.1.2.1 101 (dG g0 p1), cO d0 3 [vI p1, vI p1, vI 1, .ref d1], cA d1 G.2.1.2.1 101 (dG g1 0), cA e0 G.2.1.1 3 (uZ (uZ (uZ sl 0 0) 1 0) 2 0)] C dX4_promoteTo_97 11 rfl 2 (by omega) (by omega) (by omega) (by omega) rfl ?_
        refine s_iinc [(5, vI (0 + 1 + 1 + 1)), (4, vI (cB n K p1)), (3, vI p1), (2, .ref d0), (0, .ref s0), (1, vI 1)] C dX4_promoteTo_98 0 rfl (by decide) rfl ?_
        refine s_goto 84 C dX4_promoteTo_101 (by decide) ?_
        refine s_iload C dX4_promoteTo_84 0 rfl ?_
        refine s_iconst C dX4_promoteTo_86 ?_
        refine s_icmp_ge 104 C dX4_promoteTo_87 (by decide) (by decide) (by decide) (fun h => ?_) (fun h => absurd h (by decide))
        refine s_aload_n 0 C dX4_promoteTo_104 rfl 4 rfl ?_
        refine s_dup C dX4_promoteTo_105 rfl ?_
        refine s_get C dX4_promoteTo_106 4 rfl hinX4 0 rfl 5 (by decide) (by decide +kernel) rfl ?_
        refine s_iconst C dX4_promoteTo_109 ?_
        refine s_iadd C dX4_promoteTo_110 ?_
        refine s_put [cO s0 4 [.ref a0, .ref b0, .ref d0, .ref e0, vI tk, vI (ln + 1), vI tr, vI lc, vI lo, vI ap, vI rt, vI dl], cO a0 1 [vI p1, .ref a1, .ref a2, .ref a3, .ref a4, .ref a5], cA a1 G.2.1.1 100 K, cA a2 G.2.1.1 100 T, cA a3 G.2.1.1 100 Y, cA a4 G.2.1.1 100 V, cA a5 G.2.1.1 100 A, cO b0 3 [vI (if p1 < r0 then p1 else r0), vI (if p1 < p0 then p1 else p0), vI (if p1 < p0 then 1 else q0), .ref b1], cA b1 G.2.1.2.1 101 (dG g0 p1), cO d0 3 [vI p1, vI p1, vI 1, .ref d1], cA d1 G.2.1.2.1 101 (dG g1 0), cA e0 G.2.1.1 3 (uZ (uZ (uZ sl 0 0) 1 0) 2 0)] C dX4_promoteTo_111 4 rfl hinX4 tyX4 tyX4_ok nmX4 0 rfl 5 (by decide) (by decide +kernel) rfl rfl rfl (Nat.le_of_ble_eq_true rfl) rfl ?_
        refine s_aload_n 0 C dX4_promoteTo_114 rfl 4 rfl ?_
        refine s_dup C dX4_promoteTo_115 rfl ?_
        refine s_get C dX4_promoteTo_116 4 rfl hinX4 0 rfl 7 (by decide) (by decide +kernel) rfl ?_
        refine s_iload C dX4_promoteTo_119 1 rfl ?_
        refine s_iadd C dX4_promoteTo_121 ?_
        refine s_put [cO s0 4 [.ref a0, .ref b0, .ref d0, .ref e0, vI tk, vI (ln + 1), vI tr, vI (lc + (cB n K p1)), vI lo, vI ap, vI rt, vI dl], cO a0 1 [vI p1, .ref a1, .ref a2, .ref a3, .ref a4, .ref a5], cA a1 G.2.1.1 100 K, cA a2 G.2.1.1 100 T, cA a3 G.2.1.1 100 Y, cA a4 G.2.1.1 100 V, cA a5 G.2.1.1 100 A, cO b0 3 [vI (if p1 < r0 then p1 else r0), vI (if p1 < p0 then p1 else p0), vI (if p1 < p0 then 1 else q0), .ref b1], cA b1 G.2.1.2.1 101 (dG g0 p1), cO d0 3 [vI p1, vI p1, vI 1, .ref d1], cA d1 G.2.1.2.1 101 (dG g1 0), cA e0 G.2.1.1 3 (uZ (uZ (uZ sl 0 0) 1 0) 2 0)] C dX4_promoteTo_122 4 rfl hinX4 tyX4 tyX4_ok nmX4 0 rfl 7 (by decide) (by decide +kernel) rfl rfl rfl (Nat.le_of_ble_eq_true rfl) rfl ?_
        refine s_iload C dX4_promoteTo_125 1 rfl ?_
        exact s_iret C E dX4_promoteTo_127 ⟨(cB n K p1), ((sp_promote f 1).2), p1, tk, (ln + 1), tr, (lc + (cB n K p1)), lo, ap, rt, dl, (if p1 < r0 then p1 else r0), (if p1 < p0 then p1 else p0), (if p1 < p0 then 1 else q0), p1, p1, 1, (uZ (uZ (uZ sl 0 0) 1 0) 2 0), (dG g0 p1), (dG g1 0), K, T, Y, V, A, rfl, rfl, (prom_1 hR hI (by omega) (if_pos (by omega)).symm).1, (prom_1 hR hI (by omega) (a := 1) (if_pos (by omega)).symm).2⟩
    · refine s_ldc (z := -1000002) C (by decide +kernel) dX4_promoteTo_23 ?_
      exact s_iret C E dX4_promoteTo_25 ⟨(-1000002), f, n, tk, ln, tr, lc, lo, ap, rt, dl, r0, p0, q0, r1, p1, q1, sl, g0, g1, K, T, Y, V, A, rfl, rfl, hR, (by rw [sp_promote, if_pos (by omega), if_pos (by omega)])⟩
  · have h_4 := bI_f h_4
    refine s_ldc (z := -1000001) C (by decide +kernel) dX4_promoteTo_7 ?_
    exact s_iret C E dX4_promoteTo_9 ⟨(-1000001), f, n, tk, ln, tr, lc, lo, ap, rt, dl, r0, p0, q0, r1, p1, q1, sl, g0, g1, K, T, Y, V, A, rfl, rfl, hR, (by rw [sp_promote, if_neg (by omega)])⟩

set_option maxHeartbeats 4000000 in
set_option maxRecDepth 100000 in
theorem c_X4_promoteTo_x (l : Launch) (G : fG) (s0 a0 a1 a2 a3 a4 a5 b0 b1 d0 d1 e0 : Nat) (B : Int) (f : Int → Int) (n tk ln tr lc lo ap rt dl r0 p0 q0 r1 p1 q1 : Int) (sl g0 g1 K T Y V A : Int → Int) (b : Int) (hR : RS f n tk ln tr lc lo ap rt dl r0 p0 q0 r1 p1 q1 sl g0 g1 K T Y V A) (hI : Inv B f) (hB : B ≤ 1073000000) (hb : -2147483648 ≤ b ∧ b < 2147483648) (hbx : ¬ (0 ≤ b ∧ b ≤ 1)) : fCt l G yX4_promoteTo wsX4_promoteTo 3 65 0 0 [.ref s0, vI b] [cO s0 4 [.ref a0, .ref b0, .ref d0, .ref e0, vI tk, vI ln, vI tr, vI lc, vI lo, vI ap, vI rt, vI dl], cO a0 1 [vI n, .ref a1, .ref a2, .ref a3, .ref a4, .ref a5], cA a1 G.2.1.1 100 K, cA a2 G.2.1.1 100 T, cA a3 G.2.1.1 100 Y, cA a4 G.2.1.1 100 V, cA a5 G.2.1.1 100 A, cO b0 3 [vI r0, vI p0, vI q0, .ref b1], cA b1 G.2.1.2.1 101 g0, cO d0 3 [vI r1, vI p1, vI q1, .ref d1], cA d1 G.2.1.2.1 101 g1, cA e0 G.2.1.1 3 sl] (fun (v0 : Option Value) (w0 : va_W) => ∃ (z : Int) (f2 : Int → Int) (n2 tk2 ln2 tr2 lc2 lo2 ap2 rt2 dl2 r02 p02 q02 r12 p12 q12 : Int) (sl2 g02 g12 K2 T2 Y2 V2 A2 : Int → Int), v0 = some (vI z) ∧ w0 = [cO s0 4 [.ref a0, .ref b0, .ref d0, .ref e0, vI tk2, vI ln2, vI tr2, vI lc2, vI lo2, vI ap2, vI rt2, vI dl2], cO a0 1 [vI n2, .ref a1, .ref a2, .ref a3, .ref a4, .ref a5], cA a1 G.2.1.1 100 K2, cA a2 G.2.1.1 100 T2, cA a3 G.2.1.1 100 Y2, cA a4 G.2.1.1 100 V2, cA a5 G.2.1.1 100 A2, cO b0 3 [vI r02, vI p02, vI q02, .ref b1], cA b1 G.2.1.2.1 101 g02, cO d0 3 [vI r12, vI p12, vI q12, .ref d1], cA d1 G.2.1.2.1 101 g12, cA e0 G.2.1.1 3 sl2] ∧ (RS f2 n2 tk2 ln2 tr2 lc2 lo2 ap2 rt2 dl2 r02 p02 q02 r12 p12 q12 sl2 g02 g12 K2 T2 Y2 V2 A2) ∧ ((z, f2) = sp_promote f b)) := by
  refine fs_met (cc := cX4_promoteTo) (nL := 6) (ret := (some .int)) (by decide) rfl (Nat.le_of_ble_eq_true rfl) ?_
  intro X C E
  show fSt l G X 0 0 0 [(0, .ref s0), (1, vI b)] [] [cO s0 4 [.ref a0, .ref b0, .ref d0, .ref e0, vI tk, vI ln, vI tr, vI lc, vI lo, vI ap, vI rt, vI dl], cO a0 1 [vI n, .ref a1, .ref a2, .ref a3, .ref a4, .ref a5], cA a1 G.2.1.1 100 K, cA a2 G.2.1.1 100 T, cA a3 G.2.1.1 100 Y, cA a4 G.2.1.1 100 V, cA a5 G.2.1.1 100 A, cO b0 3 [vI r0, vI p0, vI q0, .ref b1], cA b1 G.2.1.2.1 101 g0, cO d0 3 [vI r1, vI p1, vI q1, .ref d1], cA d1 G.2.1.2.1 101 g1, cA e0 G.2.1.1 3 sl]
  obtain ⟨hn, htk, hln, htr, hlc, hlo, hap, hrt, hdl, hS0, hS1⟩ := hR.scal hI
  have hK := hR.hrK
  have hT := hR.hrT
  have hY := hR.hrY
  have hV := hR.hrV
  have hA := hR.hrA
  have hsl := hR.hrs
  have hg0 := hR.hG0
  have hg1 := hR.hG1
  have hb0 := hR.b0
  have hb1 := hR.b1
  refine s_iload_n 1 C dX4_promoteTo_0 rfl 1 rfl ?_
  refine s_callSN (As := [vI b]) (rest := []) (host := RX6) C dX4_promoteTo_1 (c_X6_isStandby l G b (by first | assumption | omega)) gX4_promoteTo_X6_isStandby_n77 (by decide +kernel) (by decide +kernel) (by decide +kernel) rfl 1 (by decide +kernel) (by decide) [] rfl (by decide) rfl (Nat.le_of_ble_eq_true rfl) ⟨Nat.zero_le _, Nat.zero_le _⟩ ?_
  intro v0 w0 hq
  obtain ⟨rfl, rfl⟩ := hq
  refine ⟨rfl, ?_⟩
  show fSt l G X 0 0 4 [(0, .ref s0), (1, vI b)] [vI (bI (0 ≤ b ∧ b ≤ 1))] [cO s0 4 [.ref a0, .ref b0, .ref d0, .ref e0, vI tk, vI ln, vI tr, vI lc, vI lo, vI ap, vI rt, vI dl], cO a0 1 [vI n, .ref a1, .ref a2, .ref a3, .ref a4, .ref a5], cA a1 G.2.1.1 100 K, cA a2 G.2.1.1 100 T, cA a3 G.2.1.1 100 Y, cA a4 G.2.1.1 100 V, cA a5 G.2.1.1 100 A, cO b0 3 [vI r0, vI p0, vI q0, .ref b1], cA b1 G.2.1.2.1 101 g0, cO d0 3 [vI r1, vI p1, vI q1, .ref d1], cA d1 G.2.1.2.1 101 g1, cA e0 G.2.1.1 3 sl]
  refine s_if_ne 10 C dX4_promoteTo_4 (by decide) bI_rng (fun h_4 => ?_) (fun h_4 => ?_)
  · have h_4 := bI_t h_4
    exfalso
    omega
  · have h_4 := bI_f h_4
    refine s_ldc (z := -1000001) C (by decide +kernel) dX4_promoteTo_7 ?_
    exact s_iret C E dX4_promoteTo_9 ⟨(-1000001), f, n, tk, ln, tr, lc, lo, ap, rt, dl, r0, p0, q0, r1, p1, q1, sl, g0, g1, K, T, Y, V, A, rfl, rfl, hR, (by rw [sp_promote, if_neg (by omega)])⟩

set_option maxHeartbeats 4000000 in
set_option maxRecDepth 100000 in
theorem c_X4_rebuildOf_0 (l : Launch) (G : fG) (s0 a0 a1 a2 a3 a4 a5 b0 b1 d0 d1 e0 : Nat) (B : Int) (f : Int → Int) (n tk ln tr lc lo ap rt dl r0 p0 q0 r1 p1 q1 : Int) (sl g0 g1 K T Y V A : Int → Int) (hR : RS f n tk ln tr lc lo ap rt dl r0 p0 q0 r1 p1 q1 sl g0 g1 K T Y V A) (hI : Inv B f) (hB : B ≤ 1073000000) : fCt l G yX4_rebuildOf wsX4_rebuildOf 3 57 0 0 [.ref s0, vI 0] [cO s0 4 [.ref a0, .ref b0, .ref d0, .ref e0, vI tk, vI ln, vI tr, vI lc, vI lo, vI ap, vI rt, vI dl], cO a0 1 [vI n, .ref a1, .ref a2, .ref a3, .ref a4, .ref a5], cA a1 G.2.1.1 100 K, cA a2 G.2.1.1 100 T, cA a3 G.2.1.1 100 Y, cA a4 G.2.1.1 100 V, cA a5 G.2.1.1 100 A, cO b0 3 [vI r0, vI p0, vI q0, .ref b1], cA b1 G.2.1.2.1 101 g0, cO d0 3 [vI r1, vI p1, vI q1, .ref d1], cA d1 G.2.1.2.1 101 g1, cA e0 G.2.1.1 3 sl] (fun (v0 : Option Value) (w0 : va_W) => ∃ (z : Int) (f2 : Int → Int) (n2 tk2 ln2 tr2 lc2 lo2 ap2 rt2 dl2 r02 p02 q02 r12 p12 q12 : Int) (sl2 g02 g12 K2 T2 Y2 V2 A2 : Int → Int), v0 = some (vI z) ∧ w0 = [cO s0 4 [.ref a0, .ref b0, .ref d0, .ref e0, vI tk2, vI ln2, vI tr2, vI lc2, vI lo2, vI ap2, vI rt2, vI dl2], cO a0 1 [vI n2, .ref a1, .ref a2, .ref a3, .ref a4, .ref a5], cA a1 G.2.1.1 100 K2, cA a2 G.2.1.1 100 T2, cA a3 G.2.1.1 100 Y2, cA a4 G.2.1.1 100 V2, cA a5 G.2.1.1 100 A2, cO b0 3 [vI r02, vI p02, vI q02, .ref b1], cA b1 G.2.1.2.1 101 g02, cO d0 3 [vI r12, vI p12, vI q12, .ref d1], cA d1 G.2.1.2.1 101 g12, cA e0 G.2.1.1 3 sl2] ∧ (RS f2 n2 tk2 ln2 tr2 lc2 lo2 ap2 rt2 dl2 r02 p02 q02 r12 p12 q12 sl2 g02 g12 K2 T2 Y2 V2 A2) ∧ ((z, f2) = sp_rebuild f 0)) := by
  refine fs_met (cc := cX4_rebuildOf) (nL := 2) (ret := (some .int)) (by decide) rfl (Nat.le_of_ble_eq_true rfl) ?_
  intro X C E
  show fSt l G X 0 0 0 [(0, .ref s0), (1, vI 0)] [] [cO s0 4 [.ref a0, .ref b0, .ref d0, .ref e0, vI tk, vI ln, vI tr, vI lc, vI lo, vI ap, vI rt, vI dl], cO a0 1 [vI n, .ref a1, .ref a2, .ref a3, .ref a4, .ref a5], cA a1 G.2.1.1 100 K, cA a2 G.2.1.1 100 T, cA a3 G.2.1.1 100 Y, cA a4 G.2.1.1 100 V, cA a5 G.2.1.1 100 A, cO b0 3 [vI r0, vI p0, vI q0, .ref b1], cA b1 G.2.1.2.1 101 g0, cO d0 3 [vI r1, vI p1, vI q1, .ref d1], cA d1 G.2.1.2.1 101 g1, cA e0 G.2.1.1 3 sl]
  have hinX1 : ∀ w ∈ u_ws RX1 TX1 6, w ∈ wsX4_rebuildOf := by decide +kernel
  have hinX4 : ∀ w ∈ u_ws RX4 TX4 12, w ∈ wsX4_rebuildOf := by decide +kernel
  obtain ⟨hn, htk, hln, htr, hlc, hlo, hap, hrt, hdl, hS0, hS1⟩ := hR.scal hI
  have hK := hR.hrK
  have hT := hR.hrT
  have hY := hR.hrY
  have hV := hR.hrV
  have hA := hR.hrA
  have hsl := hR.hrs
  have hg0 := hR.hG0
  have hg1 := hR.hG1
  have hb0 := hR.b0
  have hb1 := hR.b1
  refine s_iload_n 1 C dX4_rebuildOf_0 rfl 1 rfl ?_
  refine s_callSN (As := [vI 0]) (rest := []) (host := RX6) C dX4_rebuildOf_1 (c_X6_isStandby l G 0 (by first | assumption | omega)) gX4_rebuildOf_X6_isStandby_n77 (by decide +kernel) (by decide +kernel) (by decide +kernel) rfl 1 (by decide +kernel) (by decide) [] rfl (by decide) rfl (Nat.le_of_ble_eq_true rfl) ⟨Nat.zero_le _, Nat.zero_le _⟩ ?_
  intro v0 w0 hq
  obtain ⟨rfl, rfl⟩ := hq
  refine ⟨rfl, ?_⟩
  show fSt l G X 0 0 4 [(0, .ref s0), (1, vI 0)] [vI (bI (0 ≤ 0 ∧ 0 ≤ 1))] [cO s0 4 [.ref a0, .ref b0, .ref d0, .ref e0, vI tk, vI ln, vI tr, vI lc, vI lo, vI ap, vI rt, vI dl], cO a0 1 [vI n, .ref a1, .ref a2, .ref a3, .ref a4, .ref a5], cA a1 G.2.1.1 100 K, cA a2 G.2.1.1 100 T, cA a3 G.2.1.1 100 Y, cA a4 G.2.1.1 100 V, cA a5 G.2.1.1 100 A, cO b0 3 [vI r0, vI p0, vI q0, .ref b1], cA b1 G.2.1.2.1 101 g0, cO d0 3 [vI r1, vI p1, vI q1, .ref d1], cA d1 G.2.1.2.1 101 g1, cA e0 G.2.1.1 3 sl]
  refine s_if_ne 10 C dX4_rebuildOf_4 (by decide) bI_rng (fun h_4 => ?_) (fun h_4 => ?_)
  · have h_4 := bI_t h_4
    refine s_aload_n 0 C dX4_rebuildOf_10 rfl 0 rfl ?_
    refine s_iload_n 1 C dX4_rebuildOf_11 rfl 1 rfl ?_
    refine s_callV (As := [vI 0]) (rest := []) C dX4_rebuildOf_12 (c_X4_standby0 l G s0 a0 b0 d0 [.ref e0, vI tk, vI ln, vI tr, vI lc, vI lo, vI ap, vI rt, vI dl] 0 (by first | assumption | omega)) gX4_rebuildOf_X4_standby rfl 1 (by decide +kernel) (by decide) 0 4 rfl rfl rfl [0] rfl (by decide) rfl (Nat.le_of_ble_eq_true rfl) ⟨Nat.zero_le _, Nat.zero_le _⟩ ?_
    intro v0 w0 hq
    obtain ⟨rfl, rfl⟩ := hq
    refine ⟨rfl, ?_⟩
    show fSt l G X 0 0 15 [(0, .ref s0), (1, vI 0)] [.ref b0] [cO s0 4 [.ref a0, .ref b0, .ref d0, .ref e0, vI tk, vI ln, vI tr, vI lc, vI lo, vI ap, vI rt, vI dl], cO a0 1 [vI n, .ref a1, .ref a2, .ref a3, .ref a4, .ref a5], cA a1 G.2.1.1 100 K, cA a2 G.2.1.1 100 T, cA a3 G.2.1.1 100 Y, cA a4 G.2.1.1 100 V, cA a5 G.2.1.1 100 A, cO b0 3 [vI r0, vI p0, vI q0, .ref b1], cA b1 G.2.1.2.1 101 g0, cO d0 3 [vI r1, vI p1, vI q1, .ref d1], cA d1 G.2.1.2.1 101 g1, cA e0 G.2.1.1 3 sl]
    refine s_aload_n 0 C dX4_rebuildOf_15 rfl 0 rfl ?_
    refine s_get C dX4_rebuildOf_16 4 rfl hinX4 0 rfl 0 (by decide) (by decide +kernel) rfl ?_
    refine s_get C dX4_rebuildOf_19 1 rfl hinX1 1 rfl 0 (by decide) (by decide +kernel) rfl ?_
    refine s_iconst C dX4_rebuildOf_22 ?_
    refine s_callV (As := [vI n, vI 0]) (rest := []) C dX4_rebuildOf_23 (c_X3_standAt l G b0 b1 r0 p0 q0 g0 n 0 (by first | assumption | omega) (by first | assumption | omega)) gX4_rebuildOf_X3_standAt rfl 2 (by decide +kernel) (by decide) 7 3 rfl rfl rfl [7, 8] rfl (by decide) rfl (Nat.le_of_ble_eq_true rfl) ⟨Nat.zero_le _, Nat.zero_le _⟩ ?_
    intro v0 w0 hq
    obtain ⟨rfl, rfl⟩ := hq
    refine ⟨rfl, ?_⟩
    show fSt l G X 0 0 26 [(0, .ref s0), (1, vI 0)] [] [cO s0 4 [.ref a0, .ref b0, .ref d0, .ref e0, vI tk, vI ln, vI tr, vI lc, vI lo, vI ap, vI rt, vI dl], cO a0 1 [vI n, .ref a1, .ref a2, .ref a3, .ref a4, .ref a5], cA a1 G.2.1.1 100 K, cA a2 G.2.1.1 100 T, cA a3 G.2.1.1 100 Y, cA a4 G.2.1.1 100 V, cA a5 G.2.1.1 100 A, cO b0 3 [vI n, vI n, vI 0, .ref b1], cA b1 G.2.1.2.1 101 (dG g0 0), cO d0 3 [vI r1, vI p1, vI q1, .ref d1], cA d1 G.2.1.2.1 101 g1, cA e0 G.2.1.1 3 sl]
    refine s_aload_n 0 C dX4_rebuildOf_26 rfl 0 rfl ?_
    refine s_get C dX4_rebuildOf_27 4 rfl hinX4 0 rfl 0 (by decide) (by decide +kernel) rfl ?_
    refine s_get C dX4_rebuildOf_30 1 rfl hinX1 1 rfl 0 (by decide) (by decide +kernel) rfl ?_
    exact s_iret C E dX4_rebuildOf_33 ⟨n, (sp_lay f 0 n 0), n, tk, ln, tr, lc, lo, ap, rt, dl, n, n, 0, r1, p1, q1, sl, (dG g0 0), g1, K, T, Y, V, A, rfl, rfl, (reb_0 hR hI), (by rw [sp_rebuild, if_pos (by omega), ← hR.e_n])⟩
  · have h_4 := bI_f h_4
    refine s_ldc (z := -1000001) C (by decide +kernel) dX4_rebuildOf_7 ?_
    exact s_iret C E dX4_rebuildOf_9 ⟨(-1000001), f, n, tk, ln, tr, lc, lo, ap, rt, dl, r0, p0, q0, r1, p1, q1, sl, g0, g1, K, T, Y, V, A, rfl, rfl, hR, (by rw [sp_rebuild, if_neg (by omega)])⟩

set_option maxHeartbeats 4000000 in
set_option maxRecDepth 100000 in
theorem c_X4_rebuildOf_1 (l : Launch) (G : fG) (s0 a0 a1 a2 a3 a4 a5 b0 b1 d0 d1 e0 : Nat) (B : Int) (f : Int → Int) (n tk ln tr lc lo ap rt dl r0 p0 q0 r1 p1 q1 : Int) (sl g0 g1 K T Y V A : Int → Int) (hR : RS f n tk ln tr lc lo ap rt dl r0 p0 q0 r1 p1 q1 sl g0 g1 K T Y V A) (hI : Inv B f) (hB : B ≤ 1073000000) : fCt l G yX4_rebuildOf wsX4_rebuildOf 3 57 0 0 [.ref s0, vI 1] [cO s0 4 [.ref a0, .ref b0, .ref d0, .ref e0, vI tk, vI ln, vI tr, vI lc, vI lo, vI ap, vI rt, vI dl], cO a0 1 [vI n, .ref a1, .ref a2, .ref a3, .ref a4, .ref a5], cA a1 G.2.1.1 100 K, cA a2 G.2.1.1 100 T, cA a3 G.2.1.1 100 Y, cA a4 G.2.1.1 100 V, cA a5 G.2.1.1 100 A, cO b0 3 [vI r0, vI p0, vI q0, .ref b1], cA b1 G.2.1.2.1 101 g0, cO d0 3 [vI r1, vI p1, vI q1, .ref d1], cA d1 G.2.1.2.1 101 g1, cA e0 G.2.1.1 3 sl] (fun (v0 : Option Value) (w0 : va_W) => ∃ (z : Int) (f2 : Int → Int) (n2 tk2 ln2 tr2 lc2 lo2 ap2 rt2 dl2 r02 p02 q02 r12 p12 q12 : Int) (sl2 g02 g12 K2 T2 Y2 V2 A2 : Int → Int), v0 = some (vI z) ∧ w0 = [cO s0 4 [.ref a0, .ref b0, .ref d0, .ref e0, vI tk2, vI ln2, vI tr2, vI lc2, vI lo2, vI ap2, vI rt2, vI dl2], cO a0 1 [vI n2, .ref a1, .ref a2, .ref a3, .ref a4, .ref a5], cA a1 G.2.1.1 100 K2, cA a2 G.2.1.1 100 T2, cA a3 G.2.1.1 100 Y2, cA a4 G.2.1.1 100 V2, cA a5 G.2.1.1 100 A2, cO b0 3 [vI r02, vI p02, vI q02, .ref b1], cA b1 G.2.1.2.1 101 g02, cO d0 3 [vI r12, vI p12, vI q12, .ref d1], cA d1 G.2.1.2.1 101 g12, cA e0 G.2.1.1 3 sl2] ∧ (RS f2 n2 tk2 ln2 tr2 lc2 lo2 ap2 rt2 dl2 r02 p02 q02 r12 p12 q12 sl2 g02 g12 K2 T2 Y2 V2 A2) ∧ ((z, f2) = sp_rebuild f 1)) := by
  refine fs_met (cc := cX4_rebuildOf) (nL := 2) (ret := (some .int)) (by decide) rfl (Nat.le_of_ble_eq_true rfl) ?_
  intro X C E
  show fSt l G X 0 0 0 [(0, .ref s0), (1, vI 1)] [] [cO s0 4 [.ref a0, .ref b0, .ref d0, .ref e0, vI tk, vI ln, vI tr, vI lc, vI lo, vI ap, vI rt, vI dl], cO a0 1 [vI n, .ref a1, .ref a2, .ref a3, .ref a4, .ref a5], cA a1 G.2.1.1 100 K, cA a2 G.2.1.1 100 T, cA a3 G.2.1.1 100 Y, cA a4 G.2.1.1 100 V, cA a5 G.2.1.1 100 A, cO b0 3 [vI r0, vI p0, vI q0, .ref b1], cA b1 G.2.1.2.1 101 g0, cO d0 3 [vI r1, vI p1, vI q1, .ref d1], cA d1 G.2.1.2.1 101 g1, cA e0 G.2.1.1 3 sl]
  have hinX1 : ∀ w ∈ u_ws RX1 TX1 6, w ∈ wsX4_rebuildOf := by decide +kernel
  have hinX4 : ∀ w ∈ u_ws RX4 TX4 12, w ∈ wsX4_rebuildOf := by decide +kernel
  obtain ⟨hn, htk, hln, htr, hlc, hlo, hap, hrt, hdl, hS0, hS1⟩ := hR.scal hI
  have hK := hR.hrK
  have hT := hR.hrT
  have hY := hR.hrY
  have hV := hR.hrV
  have hA := hR.hrA
  have hsl := hR.hrs
  have hg0 := hR.hG0
  have hg1 := hR.hG1
  have hb0 := hR.b0
  have hb1 := hR.b1
  refine s_iload_n 1 C dX4_rebuildOf_0 rfl 1 rfl ?_
  refine s_callSN (As := [vI 1]) (rest := []) (host := RX6) C dX4_rebuildOf_1 (c_X6_isStandby l G 1 (by first | assumption | omega)) gX4_rebuildOf_X6_isStandby_n77 (by decide +kernel) (by decide +kernel) (by decide +kernel) rfl 1 (by decide +kernel) (by decide) [] rfl (by decide) rfl (Nat.le_of_ble_eq_true rfl) ⟨Nat.zero_le _, Nat.zero_le _⟩ ?_
  intro v0 w0 hq
  obtain ⟨rfl, rfl⟩ := hq
  refine ⟨rfl, ?_⟩
  show fSt l G X 0 0 4 [(0, .ref s0), (1, vI 1)] [vI (bI (0 ≤ 1 ∧ 1 ≤ 1))] [cO s0 4 [.ref a0, .ref b0, .ref d0, .ref e0, vI tk, vI ln, vI tr, vI lc, vI lo, vI ap, vI rt, vI dl], cO a0 1 [vI n, .ref a1, .ref a2, .ref a3, .ref a4, .ref a5], cA a1 G.2.1.1 100 K, cA a2 G.2.1.1 100 T, cA a3 G.2.1.1 100 Y, cA a4 G.2.1.1 100 V, cA a5 G.2.1.1 100 A, cO b0 3 [vI r0, vI p0, vI q0, .ref b1], cA b1 G.2.1.2.1 101 g0, cO d0 3 [vI r1, vI p1, vI q1, .ref d1], cA d1 G.2.1.2.1 101 g1, cA e0 G.2.1.1 3 sl]
  refine s_if_ne 10 C dX4_rebuildOf_4 (by decide) bI_rng (fun h_4 => ?_) (fun h_4 => ?_)
  · have h_4 := bI_t h_4
    refine s_aload_n 0 C dX4_rebuildOf_10 rfl 0 rfl ?_
    refine s_iload_n 1 C dX4_rebuildOf_11 rfl 1 rfl ?_
    refine s_callV (As := [vI 1]) (rest := []) C dX4_rebuildOf_12 (c_X4_standby1 l G s0 a0 b0 d0 [.ref e0, vI tk, vI ln, vI tr, vI lc, vI lo, vI ap, vI rt, vI dl] 1 (by first | assumption | omega)) gX4_rebuildOf_X4_standby rfl 1 (by decide +kernel) (by decide) 0 4 rfl rfl rfl [0] rfl (by decide) rfl (Nat.le_of_ble_eq_true rfl) ⟨Nat.zero_le _, Nat.zero_le _⟩ ?_
    intro v0 w0 hq
    obtain ⟨rfl, rfl⟩ := hq
    refine ⟨rfl, ?_⟩
    show fSt l G X 0 0 15 [(0, .ref s0), (1, vI 1)] [.ref d0] [cO s0 4 [.ref a0, .ref b0, .ref d0, .ref e0, vI tk, vI ln, vI tr, vI lc, vI lo, vI ap, vI rt, vI dl], cO a0 1 [vI n, .ref a1, .ref a2, .ref a3, .ref a4, .ref a5], cA a1 G.2.1.1 100 K, cA a2 G.2.1.1 100 T, cA a3 G.2.1.1 100 Y, cA a4 G.2.1.1 100 V, cA a5 G.2.1.1 100 A, cO b0 3 [vI r0, vI p0, vI q0, .ref b1], cA b1 G.2.1.2.1 101 g0, cO d0 3 [vI r1, vI p1, vI q1, .ref d1], cA d1 G.2.1.2.1 101 g1, cA e0 G.2.1.1 3 sl]
    refine s_aload_n 0 C dX4_rebuildOf_15 rfl 0 rfl ?_
    refine s_get C dX4_rebuildOf_16 4 rfl hinX4 0 rfl 0 (by decide) (by decide +kernel) rfl ?_
    refine s_get C dX4_rebuildOf_19 1 rfl hinX1 1 rfl 0 (by decide) (by decide +kernel) rfl ?_
    refine s_iconst C dX4_rebuildOf_22 ?_
    refine s_callV (As := [vI n, vI 0]) (rest := []) C dX4_rebuildOf_23 (c_X3_standAt l G d0 d1 r1 p1 q1 g1 n 0 (by first | assumption | omega) (by first | assumption | omega)) gX4_rebuildOf_X3_standAt rfl 2 (by decide +kernel) (by decide) 9 3 rfl rfl rfl [9, 10] rfl (by decide) rfl (Nat.le_of_ble_eq_true rfl) ⟨Nat.zero_le _, Nat.zero_le _⟩ ?_
    intro v0 w0 hq
    obtain ⟨rfl, rfl⟩ := hq
    refine ⟨rfl, ?_⟩
    show fSt l G X 0 0 26 [(0, .ref s0), (1, vI 1)] [] [cO s0 4 [.ref a0, .ref b0, .ref d0, .ref e0, vI tk, vI ln, vI tr, vI lc, vI lo, vI ap, vI rt, vI dl], cO a0 1 [vI n, .ref a1, .ref a2, .ref a3, .ref a4, .ref a5], cA a1 G.2.1.1 100 K, cA a2 G.2.1.1 100 T, cA a3 G.2.1.1 100 Y, cA a4 G.2.1.1 100 V, cA a5 G.2.1.1 100 A, cO b0 3 [vI r0, vI p0, vI q0, .ref b1], cA b1 G.2.1.2.1 101 g0, cO d0 3 [vI n, vI n, vI 0, .ref d1], cA d1 G.2.1.2.1 101 (dG g1 0), cA e0 G.2.1.1 3 sl]
    refine s_aload_n 0 C dX4_rebuildOf_26 rfl 0 rfl ?_
    refine s_get C dX4_rebuildOf_27 4 rfl hinX4 0 rfl 0 (by decide) (by decide +kernel) rfl ?_
    refine s_get C dX4_rebuildOf_30 1 rfl hinX1 1 rfl 0 (by decide) (by decide +kernel) rfl ?_
    exact s_iret C E dX4_rebuildOf_33 ⟨n, (sp_lay f 1 n 0), n, tk, ln, tr, lc, lo, ap, rt, dl, r0, p0, q0, n, n, 0, sl, g0, (dG g1 0), K, T, Y, V, A, rfl, rfl, (reb_1 hR hI), (by rw [sp_rebuild, if_pos (by omega), ← hR.e_n])⟩
  · have h_4 := bI_f h_4
    refine s_ldc (z := -1000001) C (by decide +kernel) dX4_rebuildOf_7 ?_
    exact s_iret C E dX4_rebuildOf_9 ⟨(-1000001), f, n, tk, ln, tr, lc, lo, ap, rt, dl, r0, p0, q0, r1, p1, q1, sl, g0, g1, K, T, Y, V, A, rfl, rfl, hR, (by rw [sp_rebuild, if_neg (by omega)])⟩

set_option maxHeartbeats 4000000 in
set_option maxRecDepth 100000 in
theorem c_X4_rebuildOf_x (l : Launch) (G : fG) (s0 a0 a1 a2 a3 a4 a5 b0 b1 d0 d1 e0 : Nat) (B : Int) (f : Int → Int) (n tk ln tr lc lo ap rt dl r0 p0 q0 r1 p1 q1 : Int) (sl g0 g1 K T Y V A : Int → Int) (b : Int) (hR : RS f n tk ln tr lc lo ap rt dl r0 p0 q0 r1 p1 q1 sl g0 g1 K T Y V A) (hI : Inv B f) (hB : B ≤ 1073000000) (hb : -2147483648 ≤ b ∧ b < 2147483648) (hbx : ¬ (0 ≤ b ∧ b ≤ 1)) : fCt l G yX4_rebuildOf wsX4_rebuildOf 3 57 0 0 [.ref s0, vI b] [cO s0 4 [.ref a0, .ref b0, .ref d0, .ref e0, vI tk, vI ln, vI tr, vI lc, vI lo, vI ap, vI rt, vI dl], cO a0 1 [vI n, .ref a1, .ref a2, .ref a3, .ref a4, .ref a5], cA a1 G.2.1.1 100 K, cA a2 G.2.1.1 100 T, cA a3 G.2.1.1 100 Y, cA a4 G.2.1.1 100 V, cA a5 G.2.1.1 100 A, cO b0 3 [vI r0, vI p0, vI q0, .ref b1], cA b1 G.2.1.2.1 101 g0, cO d0 3 [vI r1, vI p1, vI q1, .ref d1], cA d1 G.2.1.2.1 101 g1, cA e0 G.2.1.1 3 sl] (fun (v0 : Option Value) (w0 : va_W) => ∃ (z : Int) (f2 : Int → Int) (n2 tk2 ln2 tr2 lc2 lo2 ap2 rt2 dl2 r02 p02 q02 r12 p12 q12 : Int) (sl2 g02 g12 K2 T2 Y2 V2 A2 : Int → Int), v0 = some (vI z) ∧ w0 = [cO s0 4 [.ref a0, .ref b0, .ref d0, .ref e0, vI tk2, vI ln2, vI tr2, vI lc2, vI lo2, vI ap2, vI rt2, vI dl2], cO a0 1 [vI n2, .ref a1, .ref a2, .ref a3, .ref a4, .ref a5], cA a1 G.2.1.1 100 K2, cA a2 G.2.1.1 100 T2, cA a3 G.2.1.1 100 Y2, cA a4 G.2.1.1 100 V2, cA a5 G.2.1.1 100 A2, cO b0 3 [vI r02, vI p02, vI q02, .ref b1], cA b1 G.2.1.2.1 101 g02, cO d0 3 [vI r12, vI p12, vI q12, .ref d1], cA d1 G.2.1.2.1 101 g12, cA e0 G.2.1.1 3 sl2] ∧ (RS f2 n2 tk2 ln2 tr2 lc2 lo2 ap2 rt2 dl2 r02 p02 q02 r12 p12 q12 sl2 g02 g12 K2 T2 Y2 V2 A2) ∧ ((z, f2) = sp_rebuild f b)) := by
  refine fs_met (cc := cX4_rebuildOf) (nL := 2) (ret := (some .int)) (by decide) rfl (Nat.le_of_ble_eq_true rfl) ?_
  intro X C E
  show fSt l G X 0 0 0 [(0, .ref s0), (1, vI b)] [] [cO s0 4 [.ref a0, .ref b0, .ref d0, .ref e0, vI tk, vI ln, vI tr, vI lc, vI lo, vI ap, vI rt, vI dl], cO a0 1 [vI n, .ref a1, .ref a2, .ref a3, .ref a4, .ref a5], cA a1 G.2.1.1 100 K, cA a2 G.2.1.1 100 T, cA a3 G.2.1.1 100 Y, cA a4 G.2.1.1 100 V, cA a5 G.2.1.1 100 A, cO b0 3 [vI r0, vI p0, vI q0, .ref b1], cA b1 G.2.1.2.1 101 g0, cO d0 3 [vI r1, vI p1, vI q1, .ref d1], cA d1 G.2.1.2.1 101 g1, cA e0 G.2.1.1 3 sl]
  obtain ⟨hn, htk, hln, htr, hlc, hlo, hap, hrt, hdl, hS0, hS1⟩ := hR.scal hI
  have hK := hR.hrK
  have hT := hR.hrT
  have hY := hR.hrY
  have hV := hR.hrV
  have hA := hR.hrA
  have hsl := hR.hrs
  have hg0 := hR.hG0
  have hg1 := hR.hG1
  have hb0 := hR.b0
  have hb1 := hR.b1
  refine s_iload_n 1 C dX4_rebuildOf_0 rfl 1 rfl ?_
  refine s_callSN (As := [vI b]) (rest := []) (host := RX6) C dX4_rebuildOf_1 (c_X6_isStandby l G b (by first | assumption | omega)) gX4_rebuildOf_X6_isStandby_n77 (by decide +kernel) (by decide +kernel) (by decide +kernel) rfl 1 (by decide +kernel) (by decide) [] rfl (by decide) rfl (Nat.le_of_ble_eq_true rfl) ⟨Nat.zero_le _, Nat.zero_le _⟩ ?_
  intro v0 w0 hq
  obtain ⟨rfl, rfl⟩ := hq
  refine ⟨rfl, ?_⟩
  show fSt l G X 0 0 4 [(0, .ref s0), (1, vI b)] [vI (bI (0 ≤ b ∧ b ≤ 1))] [cO s0 4 [.ref a0, .ref b0, .ref d0, .ref e0, vI tk, vI ln, vI tr, vI lc, vI lo, vI ap, vI rt, vI dl], cO a0 1 [vI n, .ref a1, .ref a2, .ref a3, .ref a4, .ref a5], cA a1 G.2.1.1 100 K, cA a2 G.2.1.1 100 T, cA a3 G.2.1.1 100 Y, cA a4 G.2.1.1 100 V, cA a5 G.2.1.1 100 A, cO b0 3 [vI r0, vI p0, vI q0, .ref b1], cA b1 G.2.1.2.1 101 g0, cO d0 3 [vI r1, vI p1, vI q1, .ref d1], cA d1 G.2.1.2.1 101 g1, cA e0 G.2.1.1 3 sl]
  refine s_if_ne 10 C dX4_rebuildOf_4 (by decide) bI_rng (fun h_4 => ?_) (fun h_4 => ?_)
  · have h_4 := bI_t h_4
    exfalso
    omega
  · have h_4 := bI_f h_4
    refine s_ldc (z := -1000001) C (by decide +kernel) dX4_rebuildOf_7 ?_
    exact s_iret C E dX4_rebuildOf_9 ⟨(-1000001), f, n, tk, ln, tr, lc, lo, ap, rt, dl, r0, p0, q0, r1, p1, q1, sl, g0, g1, K, T, Y, V, A, rfl, rfl, hR, (by rw [sp_rebuild, if_neg (by omega)])⟩

set_option maxHeartbeats 4000000 in
set_option maxRecDepth 100000 in
theorem c_X4_setTo (l : Launch) (G : fG) (s0 a0 a1 a2 a3 a4 a5 b0 b1 d0 d1 e0 : Nat) (B : Int) (f : Int → Int) (n tk ln tr lc lo ap rt dl r0 p0 q0 r1 p1 q1 : Int) (sl g0 g1 K T Y V A : Int → Int) (wh x : Int) (hR : RS f n tk ln tr lc lo ap rt dl r0 p0 q0 r1 p1 q1 sl g0 g1 K T Y V A) (hI : Inv B f) (hB : B ≤ 1073000000) (hwh : -2147483648 ≤ wh ∧ wh < 2147483648) (hx : -2147483648 ≤ x ∧ x < 2147483648) : fCt l G yX4_setTo wsX4_setTo 0 0 0 0 [.ref s0, vI wh, vI x] [cO s0 4 [.ref a0, .ref b0, .ref d0, .ref e0, vI tk, vI ln, vI tr, vI lc, vI lo, vI ap, vI rt, vI dl], cO a0 1 [vI n, .ref a1, .ref a2, .ref a3, .ref a4, .ref a5], cA a1 G.2.1.1 100 K, cA a2 G.2.1.1 100 T, cA a3 G.2.1.1 100 Y, cA a4 G.2.1.1 100 V, cA a5 G.2.1.1 100 A, cO b0 3 [vI r0, vI p0, vI q0, .ref b1], cA b1 G.2.1.2.1 101 g0, cO d0 3 [vI r1, vI p1, vI q1, .ref d1], cA d1 G.2.1.2.1 101 g1, cA e0 G.2.1.1 3 sl] (fun (v0 : Option Value) (w0 : va_W) => ∃ (z : Int) (f2 : Int → Int) (n2 tk2 ln2 tr2 lc2 lo2 ap2 rt2 dl2 r02 p02 q02 r12 p12 q12 : Int) (sl2 g02 g12 K2 T2 Y2 V2 A2 : Int → Int), v0 = some (vI z) ∧ w0 = [cO s0 4 [.ref a0, .ref b0, .ref d0, .ref e0, vI tk2, vI ln2, vI tr2, vI lc2, vI lo2, vI ap2, vI rt2, vI dl2], cO a0 1 [vI n2, .ref a1, .ref a2, .ref a3, .ref a4, .ref a5], cA a1 G.2.1.1 100 K2, cA a2 G.2.1.1 100 T2, cA a3 G.2.1.1 100 Y2, cA a4 G.2.1.1 100 V2, cA a5 G.2.1.1 100 A2, cO b0 3 [vI r02, vI p02, vI q02, .ref b1], cA b1 G.2.1.2.1 101 g02, cO d0 3 [vI r12, vI p12, vI q12, .ref d1], cA d1 G.2.1.2.1 101 g12, cA e0 G.2.1.1 3 sl2] ∧ (RS f2 n2 tk2 ln2 tr2 lc2 lo2 ap2 rt2 dl2 r02 p02 q02 r12 p12 q12 sl2 g02 g12 K2 T2 Y2 V2 A2) ∧ ((z, f2) = sp_set f wh x)) := by
  refine fs_met (cc := cX4_setTo) (nL := 4) (ret := (some .int)) (by decide) rfl (Nat.le_of_ble_eq_true rfl) ?_
  intro X C E
  show fSt l G X 0 0 0 [(0, .ref s0), (1, vI wh), (2, vI x)] [] [cO s0 4 [.ref a0, .ref b0, .ref d0, .ref e0, vI tk, vI ln, vI tr, vI lc, vI lo, vI ap, vI rt, vI dl], cO a0 1 [vI n, .ref a1, .ref a2, .ref a3, .ref a4, .ref a5], cA a1 G.2.1.1 100 K, cA a2 G.2.1.1 100 T, cA a3 G.2.1.1 100 Y, cA a4 G.2.1.1 100 V, cA a5 G.2.1.1 100 A, cO b0 3 [vI r0, vI p0, vI q0, .ref b1], cA b1 G.2.1.2.1 101 g0, cO d0 3 [vI r1, vI p1, vI q1, .ref d1], cA d1 G.2.1.2.1 101 g1, cA e0 G.2.1.1 3 sl]
  have hinX4 : ∀ w ∈ u_ws RX4 TX4 12, w ∈ wsX4_setTo := by decide +kernel
  obtain ⟨hn, htk, hln, htr, hlc, hlo, hap, hrt, hdl, hS0, hS1⟩ := hR.scal hI
  have hK := hR.hrK
  have hT := hR.hrT
  have hY := hR.hrY
  have hV := hR.hrV
  have hA := hR.hrA
  have hsl := hR.hrs
  have hg0 := hR.hG0
  have hg1 := hR.hG1
  have hb0 := hR.b0
  have hb1 := hR.b1
  refine s_iload_n 1 C dX4_setTo_0 rfl 1 rfl ?_
  refine s_if_ne 27 C dX4_setTo_1 (by decide) (by omega) (fun h_1 => ?_) (fun h_1 => ?_)
  · refine s_iload_n 1 C dX4_setTo_27 rfl 1 rfl ?_
    refine s_iconst C dX4_setTo_28 ?_
    refine s_icmp_ne 54 C dX4_setTo_29 (by decide) (by omega) (by omega) (fun h_29 => ?_) (fun h_29 => ?_)
    · refine s_ldc (z := -1000001) C (by decide +kernel) dX4_setTo_54 ?_
      exact s_iret C E dX4_setTo_56 ⟨(-1000001), f, n, tk, ln, tr, lc, lo, ap, rt, dl, r0, p0, q0, r1, p1, q1, sl, g0, g1, K, T, Y, V, A, rfl, rfl, hR, (by rw [sp_set, if_neg (by omega)])⟩
    · refine s_iload_n 2 C dX4_setTo_32 rfl 2 rfl ?_
      refine s_if_lt 54 C dX4_setTo_33 (by decide) (by omega) (fun h_33 => ?_) (fun h_33 => ?_)
      · refine s_ldc (z := -1000001) C (by decide +kernel) dX4_setTo_54 ?_
        exact s_iret C E dX4_setTo_56 ⟨(-1000001), f, n, tk, ln, tr, lc, lo, ap, rt, dl, r0, p0, q0, r1, p1, q1, sl, g0, g1, K, T, Y, V, A, rfl, rfl, hR, (by rw [sp_set, if_neg (by omega)])⟩
      · refine s_iload_n 2 C dX4_setTo_36 rfl 2 rfl ?_
        refine s_bipush (z := 20) C dX4_setTo_37 rfl ?_
        refine s_icmp_gt 54 C dX4_setTo_39 (by decide) (by omega) (by omega) (fun h_39 => ?_) (fun h_39 => ?_)
        · refine s_ldc (z := -1000001) C (by decide +kernel) dX4_setTo_54 ?_
          exact s_iret C E dX4_setTo_56 ⟨(-1000001), f, n, tk, ln, tr, lc, lo, ap, rt, dl, r0, p0, q0, r1, p1, q1, sl, g0, g1, K, T, Y, V, A, rfl, rfl, hR, (by rw [sp_set, if_neg (by omega)])⟩
        · refine s_aload_n 0 C dX4_setTo_42 rfl 0 rfl ?_
          refine s_get C dX4_setTo_43 4 rfl hinX4 0 rfl 11 (by decide) (by decide +kernel) rfl ?_
          refine s_istore_n 3 [(3, vI dl), (0, .ref s0), (1, vI wh), (2, vI x)] C dX4_setTo_46 rfl (by decide) rfl ?_
          refine s_aload_n 0 C dX4_setTo_47 rfl 1 rfl ?_
          refine s_iload_n 2 C dX4_setTo_48 rfl 3 rfl ?_
          refine s_put [cO s0 4 [.ref a0, .ref b0, .ref d0, .ref e0, vI tk, vI ln, vI tr, vI lc, vI lo, vI ap, vI rt, vI x], cO a0 1 [vI n, .ref a1, .ref a2, .ref a3, .ref a4, .ref a5], cA a1 G.2.1.1 100 K, cA a2 G.2.1.1 100 T, cA a3 G.2.1.1 100 Y, cA a4 G.2.1.1 100 V, cA a5 G.2.1.1 100 A, cO b0 3 [vI r0, vI p0, vI q0, .ref b1], cA b1 G.2.1.2.1 101 g0, cO d0 3 [vI r1, vI p1, vI q1, .ref d1], cA d1 G.2.1.2.1 101 g1, cA e0 G.2.1.1 3 sl] C dX4_setTo_49 4 rfl hinX4 tyX4 tyX4_ok nmX4 0 rfl 11 (by decide) (by decide +kernel) rfl rfl rfl (Nat.le_of_ble_eq_true rfl) rfl ?_
          refine s_iload_n 3 C dX4_setTo_52 rfl 0 rfl ?_
          exact s_iret C E dX4_setTo_53 ⟨dl, (uZ f 8 x), n, tk, ln, tr, lc, lo, ap, rt, x, r0, p0, q0, r1, p1, q1, sl, g0, g1, K, T, Y, V, A, rfl, rfl, (hR.s_dl), (by rw [sp_set, if_pos (by omega), show wh = 1 by omega, hR.e_dl]; first | done | rfl)⟩
  · refine s_iload_n 2 C dX4_setTo_4 rfl 2 rfl ?_
    refine s_iconst C dX4_setTo_5 ?_
    refine s_icmp_lt 27 C dX4_setTo_6 (by decide) (by omega) (by omega) (fun h_6 => ?_) (fun h_6 => ?_)
    · refine s_iload_n 1 C dX4_setTo_27 rfl 1 rfl ?_
      refine s_iconst C dX4_setTo_28 ?_
      refine s_icmp_ne 54 C dX4_setTo_29 (by decide) (by omega) (by omega) (fun h_29 => ?_) (fun h_29 => ?_)
      · refine s_ldc (z := -1000001) C (by decide +kernel) dX4_setTo_54 ?_
        exact s_iret C E dX4_setTo_56 ⟨(-1000001), f, n, tk, ln, tr, lc, lo, ap, rt, dl, r0, p0, q0, r1, p1, q1, sl, g0, g1, K, T, Y, V, A, rfl, rfl, hR, (by rw [sp_set, if_neg (by omega)])⟩
      · refine s_iload_n 2 C dX4_setTo_32 rfl 2 rfl ?_
        refine s_if_lt 54 C dX4_setTo_33 (by decide) (by omega) (fun h_33 => ?_) (fun h_33 => ?_)
        · refine s_ldc (z := -1000001) C (by decide +kernel) dX4_setTo_54 ?_
          exact s_iret C E dX4_setTo_56 ⟨(-1000001), f, n, tk, ln, tr, lc, lo, ap, rt, dl, r0, p0, q0, r1, p1, q1, sl, g0, g1, K, T, Y, V, A, rfl, rfl, hR, (by rw [sp_set, if_neg (by omega)])⟩
        · refine s_iload_n 2 C dX4_setTo_36 rfl 2 rfl ?_
          refine s_bipush (z := 20) C dX4_setTo_37 rfl ?_
          refine s_icmp_gt 54 C dX4_setTo_39 (by decide) (by omega) (by omega) (fun h_39 => ?_) (fun h_39 => ?_)
          · refine s_ldc (z := -1000001) C (by decide +kernel) dX4_setTo_54 ?_
            exact s_iret C E dX4_setTo_56 ⟨(-1000001), f, n, tk, ln, tr, lc, lo, ap, rt, dl, r0, p0, q0, r1, p1, q1, sl, g0, g1, K, T, Y, V, A, rfl, rfl, hR, (by rw [sp_set, if_neg (by omega)])⟩
          · refine s_aload_n 0 C dX4_setTo_42 rfl 0 rfl ?_
            refine s_get C dX4_setTo_43 4 rfl hinX4 0 rfl 11 (by decide) (by decide +kernel) rfl ?_
            refine s_istore_n 3 [(3, vI dl), (0, .ref s0), (1, vI wh), (2, vI x)] C dX4_setTo_46 rfl (by decide) rfl ?_
            refine s_aload_n 0 C dX4_setTo_47 rfl 1 rfl ?_
            refine s_iload_n 2 C dX4_setTo_48 rfl 3 rfl ?_
            refine s_put [cO s0 4 [.ref a0, .ref b0, .ref d0, .ref e0, vI tk, vI ln, vI tr, vI lc, vI lo, vI ap, vI rt, vI x], cO a0 1 [vI n, .ref a1, .ref a2, .ref a3, .ref a4, .ref a5], cA a1 G.2.1.1 100 K, cA a2 G.2.1.1 100 T, cA a3 G.2.1.1 100 Y, cA a4 G.2.1.1 100 V, cA a5 G.2.1.1 100 A, cO b0 3 [vI r0, vI p0, vI q0, .ref b1], cA b1 G.2.1.2.1 101 g0, cO d0 3 [vI r1, vI p1, vI q1, .ref d1], cA d1 G.2.1.2.1 101 g1, cA e0 G.2.1.1 3 sl] C dX4_setTo_49 4 rfl hinX4 tyX4 tyX4_ok nmX4 0 rfl 11 (by decide) (by decide +kernel) rfl rfl rfl (Nat.le_of_ble_eq_true rfl) rfl ?_
            refine s_iload_n 3 C dX4_setTo_52 rfl 0 rfl ?_
            exact s_iret C E dX4_setTo_53 ⟨dl, (uZ f 8 x), n, tk, ln, tr, lc, lo, ap, rt, x, r0, p0, q0, r1, p1, q1, sl, g0, g1, K, T, Y, V, A, rfl, rfl, (hR.s_dl), (by rw [sp_set, if_pos (by omega), show wh = 1 by omega, hR.e_dl]; first | done | rfl)⟩
    · refine s_iload_n 2 C dX4_setTo_9 rfl 2 rfl ?_
      refine s_bipush (z := 20) C dX4_setTo_10 rfl ?_
      refine s_icmp_gt 27 C dX4_setTo_12 (by decide) (by omega) (by omega) (fun h_12 => ?_) (fun h_12 => ?_)
      · refine s_iload_n 1 C dX4_setTo_27 rfl 1 rfl ?_
        refine s_iconst C dX4_setTo_28 ?_
        refine s_icmp_ne 54 C dX4_setTo_29 (by decide) (by omega) (by omega) (fun h_29 => ?_) (fun h_29 => ?_)
        · refine s_ldc (z := -1000001) C (by decide +kernel) dX4_setTo_54 ?_
          exact s_iret C E dX4_setTo_56 ⟨(-1000001), f, n, tk, ln, tr, lc, lo, ap, rt, dl, r0, p0, q0, r1, p1, q1, sl, g0, g1, K, T, Y, V, A, rfl, rfl, hR, (by rw [sp_set, if_neg (by omega)])⟩
        · refine s_iload_n 2 C dX4_setTo_32 rfl 2 rfl ?_
          refine s_if_lt 54 C dX4_setTo_33 (by decide) (by omega) (fun h_33 => ?_) (fun h_33 => ?_)
          · refine s_ldc (z := -1000001) C (by decide +kernel) dX4_setTo_54 ?_
            exact s_iret C E dX4_setTo_56 ⟨(-1000001), f, n, tk, ln, tr, lc, lo, ap, rt, dl, r0, p0, q0, r1, p1, q1, sl, g0, g1, K, T, Y, V, A, rfl, rfl, hR, (by rw [sp_set, if_neg (by omega)])⟩
          · refine s_iload_n 2 C dX4_setTo_36 rfl 2 rfl ?_
            refine s_bipush (z := 20) C dX4_setTo_37 rfl ?_
            refine s_icmp_gt 54 C dX4_setTo_39 (by decide) (by omega) (by omega) (fun h_39 => ?_) (fun h_39 => ?_)
            · refine s_ldc (z := -1000001) C (by decide +kernel) dX4_setTo_54 ?_
              exact s_iret C E dX4_setTo_56 ⟨(-1000001), f, n, tk, ln, tr, lc, lo, ap, rt, dl, r0, p0, q0, r1, p1, q1, sl, g0, g1, K, T, Y, V, A, rfl, rfl, hR, (by rw [sp_set, if_neg (by omega)])⟩
            · refine s_aload_n 0 C dX4_setTo_42 rfl 0 rfl ?_
              refine s_get C dX4_setTo_43 4 rfl hinX4 0 rfl 11 (by decide) (by decide +kernel) rfl ?_
              refine s_istore_n 3 [(3, vI dl), (0, .ref s0), (1, vI wh), (2, vI x)] C dX4_setTo_46 rfl (by decide) rfl ?_
              refine s_aload_n 0 C dX4_setTo_47 rfl 1 rfl ?_
              refine s_iload_n 2 C dX4_setTo_48 rfl 3 rfl ?_
              refine s_put [cO s0 4 [.ref a0, .ref b0, .ref d0, .ref e0, vI tk, vI ln, vI tr, vI lc, vI lo, vI ap, vI rt, vI x], cO a0 1 [vI n, .ref a1, .ref a2, .ref a3, .ref a4, .ref a5], cA a1 G.2.1.1 100 K, cA a2 G.2.1.1 100 T, cA a3 G.2.1.1 100 Y, cA a4 G.2.1.1 100 V, cA a5 G.2.1.1 100 A, cO b0 3 [vI r0, vI p0, vI q0, .ref b1], cA b1 G.2.1.2.1 101 g0, cO d0 3 [vI r1, vI p1, vI q1, .ref d1], cA d1 G.2.1.2.1 101 g1, cA e0 G.2.1.1 3 sl] C dX4_setTo_49 4 rfl hinX4 tyX4 tyX4_ok nmX4 0 rfl 11 (by decide) (by decide +kernel) rfl rfl rfl (Nat.le_of_ble_eq_true rfl) rfl ?_
              refine s_iload_n 3 C dX4_setTo_52 rfl 0 rfl ?_
              exact s_iret C E dX4_setTo_53 ⟨dl, (uZ f 8 x), n, tk, ln, tr, lc, lo, ap, rt, x, r0, p0, q0, r1, p1, q1, sl, g0, g1, K, T, Y, V, A, rfl, rfl, (hR.s_dl), (by rw [sp_set, if_pos (by omega), show wh = 1 by omega, hR.e_dl]; first | done | rfl)⟩
      · refine s_aload_n 0 C dX4_setTo_15 rfl 0 rfl ?_
        refine s_get C dX4_setTo_16 4 rfl hinX4 0 rfl 10 (by decide) (by decide +kernel) rfl ?_
        refine s_istore_n 3 [(3, vI rt), (0, .ref s0), (1, vI wh), (2, vI x)] C dX4_setTo_19 rfl (by decide) rfl ?_
        refine s_aload_n 0 C dX4_setTo_20 rfl 1 rfl ?_
        refine s_iload_n 2 C dX4_setTo_21 rfl 3 rfl ?_
        refine s_put [cO s0 4 [.ref a0, .ref b0, .ref d0, .ref e0, vI tk, vI ln, vI tr, vI lc, vI lo, vI ap, vI x, vI dl], cO a0 1 [vI n, .ref a1, .ref a2, .ref a3, .ref a4, .ref a5], cA a1 G.2.1.1 100 K, cA a2 G.2.1.1 100 T, cA a3 G.2.1.1 100 Y, cA a4 G.2.1.1 100 V, cA a5 G.2.1.1 100 A, cO b0 3 [vI r0, vI p0, vI q0, .ref b1], cA b1 G.2.1.2.1 101 g0, cO d0 3 [vI r1, vI p1, vI q1, .ref d1], cA d1 G.2.1.2.1 101 g1, cA e0 G.2.1.1 3 sl] C dX4_setTo_22 4 rfl hinX4 tyX4 tyX4_ok nmX4 0 rfl 10 (by decide) (by decide +kernel) rfl rfl rfl (Nat.le_of_ble_eq_true rfl) rfl ?_
        refine s_iload_n 3 C dX4_setTo_25 rfl 0 rfl ?_
        exact s_iret C E dX4_setTo_26 ⟨rt, (uZ f 7 x), n, tk, ln, tr, lc, lo, ap, x, dl, r0, p0, q0, r1, p1, q1, sl, g0, g1, K, T, Y, V, A, rfl, rfl, (hR.s_rt), (by rw [sp_set, if_pos (by omega), show wh = 0 by omega, hR.e_rt]; first | done | rfl)⟩

set_option maxHeartbeats 4000000 in
set_option maxRecDepth 100000 in
theorem c_X4_copyFrom (l : Launch) (G : fG) (s0 a0 a1 a2 a3 a4 a5 b0 b1 d0 d1 e0 os0 oa0 oa1 oa2 oa3 oa4 oa5 ob0 ob1 od0 od1 oe0 : Nat) (B : Int) (f : Int → Int) (n tk ln tr lc lo ap rt dl r0 p0 q0 r1 p1 q1 nj tkj lnj trj lcj loj apj rtj dlj r0j p0j q0j r1j p1j q1j : Int) (sl g0 g1 K T Y V A slj g0j g1j Kj Tj Yj Vj Aj : Int → Int) (hR : RS f n tk ln tr lc lo ap rt dl r0 p0 q0 r1 p1 q1 sl g0 g1 K T Y V A) (hI : Inv B f) (hB : B ≤ 1073000000) (hslj : rF slj) (hKj : rF Kj) (hTj : rF Tj) (hYj : rF Yj) (hVj : rF Vj) (hAj : rF Aj) : fCt l G yX4_copyFrom wsX4_copyFrom 2 62 0 0 [.ref s0, .ref os0] [cO s0 4 [.ref a0, .ref b0, .ref d0, .ref e0, vI tkj, vI lnj, vI trj, vI lcj, vI loj, vI apj, vI rtj, vI dlj], cO a0 1 [vI nj, .ref a1, .ref a2, .ref a3, .ref a4, .ref a5], cA a1 G.2.1.1 100 Kj, cA a2 G.2.1.1 100 Tj, cA a3 G.2.1.1 100 Yj, cA a4 G.2.1.1 100 Vj, cA a5 G.2.1.1 100 Aj, cO b0 3 [vI r0j, vI p0j, vI q0j, .ref b1], cA b1 G.2.1.2.1 101 g0j, cO d0 3 [vI r1j, vI p1j, vI q1j, .ref d1], cA d1 G.2.1.2.1 101 g1j, cA e0 G.2.1.1 3 slj, cO os0 4 [.ref oa0, .ref ob0, .ref od0, .ref oe0, vI tk, vI ln, vI tr, vI lc, vI lo, vI ap, vI rt, vI dl], cO oa0 1 [vI n, .ref oa1, .ref oa2, .ref oa3, .ref oa4, .ref oa5], cA oa1 G.2.1.1 100 K, cA oa2 G.2.1.1 100 T, cA oa3 G.2.1.1 100 Y, cA oa4 G.2.1.1 100 V, cA oa5 G.2.1.1 100 A, cO ob0 3 [vI r0, vI p0, vI q0, .ref ob1], cA ob1 G.2.1.2.1 101 g0, cO od0 3 [vI r1, vI p1, vI q1, .ref od1], cA od1 G.2.1.2.1 101 g1, cA oe0 G.2.1.1 3 sl] (fun (v0 : Option Value) (w0 : va_W) => v0 = none ∧ w0 = [cO s0 4 [.ref a0, .ref b0, .ref d0, .ref e0, vI tk, vI ln, vI tr, vI lc, vI lo, vI ap, vI rt, vI dl], cO a0 1 [vI n, .ref a1, .ref a2, .ref a3, .ref a4, .ref a5], cA a1 G.2.1.1 100 (cpZ K Kj n), cA a2 G.2.1.1 100 (cpZ T Tj n), cA a3 G.2.1.1 100 (cpZ Y Yj n), cA a4 G.2.1.1 100 (cpZ V Vj n), cA a5 G.2.1.1 100 (cpZ A Aj n), cO b0 3 [vI r0, vI p0, vI q0, .ref b1], cA b1 G.2.1.2.1 101 g0, cO d0 3 [vI r1, vI p1, vI q1, .ref d1], cA d1 G.2.1.2.1 101 g1, cA e0 G.2.1.1 3 (cpZ sl slj 3), cO os0 4 [.ref oa0, .ref ob0, .ref od0, .ref oe0, vI tk, vI ln, vI tr, vI lc, vI lo, vI ap, vI rt, vI dl], cO oa0 1 [vI n, .ref oa1, .ref oa2, .ref oa3, .ref oa4, .ref oa5], cA oa1 G.2.1.1 100 K, cA oa2 G.2.1.1 100 T, cA oa3 G.2.1.1 100 Y, cA oa4 G.2.1.1 100 V, cA oa5 G.2.1.1 100 A, cO ob0 3 [vI r0, vI p0, vI q0, .ref ob1], cA ob1 G.2.1.2.1 101 g0, cO od0 3 [vI r1, vI p1, vI q1, .ref od1], cA od1 G.2.1.2.1 101 g1, cA oe0 G.2.1.1 3 sl]) := by
  refine fs_met (cc := cX4_copyFrom) (nL := 2) (ret := none) (by decide) rfl (Nat.le_of_ble_eq_true rfl) ?_
  intro X C E
  show fSt l G X 0 0 0 [(0, .ref s0), (1, .ref os0)] [] [cO s0 4 [.ref a0, .ref b0, .ref d0, .ref e0, vI tkj, vI lnj, vI trj, vI lcj, vI loj, vI apj, vI rtj, vI dlj], cO a0 1 [vI nj, .ref a1, .ref a2, .ref a3, .ref a4, .ref a5], cA a1 G.2.1.1 100 Kj, cA a2 G.2.1.1 100 Tj, cA a3 G.2.1.1 100 Yj, cA a4 G.2.1.1 100 Vj, cA a5 G.2.1.1 100 Aj, cO b0 3 [vI r0j, vI p0j, vI q0j, .ref b1], cA b1 G.2.1.2.1 101 g0j, cO d0 3 [vI r1j, vI p1j, vI q1j, .ref d1], cA d1 G.2.1.2.1 101 g1j, cA e0 G.2.1.1 3 slj, cO os0 4 [.ref oa0, .ref ob0, .ref od0, .ref oe0, vI tk, vI ln, vI tr, vI lc, vI lo, vI ap, vI rt, vI dl], cO oa0 1 [vI n, .ref oa1, .ref oa2, .ref oa3, .ref oa4, .ref oa5], cA oa1 G.2.1.1 100 K, cA oa2 G.2.1.1 100 T, cA oa3 G.2.1.1 100 Y, cA oa4 G.2.1.1 100 V, cA oa5 G.2.1.1 100 A, cO ob0 3 [vI r0, vI p0, vI q0, .ref ob1], cA ob1 G.2.1.2.1 101 g0, cO od0 3 [vI r1, vI p1, vI q1, .ref od1], cA od1 G.2.1.2.1 101 g1, cA oe0 G.2.1.1 3 sl]
  have hinX4 : ∀ w ∈ u_ws RX4 TX4 12, w ∈ wsX4_copyFrom := by decide +kernel
  obtain ⟨hn, htk, hln, htr, hlc, hlo, hap, hrt, hdl, hS0, hS1⟩ := hR.scal hI
  have hK := hR.hrK
  have hT := hR.hrT
  have hY := hR.hrY
  have hV := hR.hrV
  have hA := hR.hrA
  have hsl := hR.hrs
  have hg0 := hR.hG0
  have hg1 := hR.hG1
  have hb0 := hR.b0
  have hb1 := hR.b1
  refine s_aload_n 0 C dX4_copyFrom_0 rfl 0 rfl ?_
  refine s_get C dX4_copyFrom_1 4 rfl hinX4 0 rfl 0 (by decide) (by decide +kernel) rfl ?_
  refine s_aload_n 1 C dX4_copyFrom_4 rfl 1 rfl ?_
  refine s_get C dX4_copyFrom_5 4 rfl hinX4 12 rfl 0 (by decide) (by decide +kernel) rfl ?_
  refine s_callV (As := [.ref oa0]) (rest := []) C dX4_copyFrom_8 (c_X1_copyFrom l G a0 a1 a2 a3 a4 a5 nj Kj Tj Yj Vj Aj oa0 oa1 oa2 oa3 oa4 oa5 n K T Y V A (by first | assumption | omega)) gX4_copyFrom_X1_copyFrom rfl 1 (by decide +kernel) (by decide) 1 1 rfl rfl rfl [1, 2, 3, 4, 5, 6, 13, 14, 15, 16, 17, 18] rfl (by decide) rfl (Nat.le_of_ble_eq_true rfl) ⟨Nat.zero_le _, Nat.zero_le _⟩ ?_
  intro v0 w0 hq
  obtain ⟨rfl, rfl⟩ := hq
  refine ⟨rfl, ?_⟩
  show fSt l G X 0 0 11 [(0, .ref s0), (1, .ref os0)] [] [cO s0 4 [.ref a0, .ref b0, .ref d0, .ref e0, vI tkj, vI lnj, vI trj, vI lcj, vI loj, vI apj, vI rtj, vI dlj], cO a0 1 [vI n, .ref a1, .ref a2, .ref a3, .ref a4, .ref a5], cA a1 G.2.1.1 100 (cpZ K Kj n), cA a2 G.2.1.1 100 (cpZ T Tj n), cA a3 G.2.1.1 100 (cpZ Y Yj n), cA a4 G.2.1.1 100 (cpZ V Vj n), cA a5 G.2.1.1 100 (cpZ A Aj n), cO b0 3 [vI r0j, vI p0j, vI q0j, .ref b1], cA b1 G.2.1.2.1 101 g0j, cO d0 3 [vI r1j, vI p1j, vI q1j, .ref d1], cA d1 G.2.1.2.1 101 g1j, cA e0 G.2.1.1 3 slj, cO os0 4 [.ref oa0, .ref ob0, .ref od0, .ref oe0, vI tk, vI ln, vI tr, vI lc, vI lo, vI ap, vI rt, vI dl], cO oa0 1 [vI n, .ref oa1, .ref oa2, .ref oa3, .ref oa4, .ref oa5], cA oa1 G.2.1.1 100 K, cA oa2 G.2.1.1 100 T, cA oa3 G.2.1.1 100 Y, cA oa4 G.2.1.1 100 V, cA oa5 G.2.1.1 100 A, cO ob0 3 [vI r0, vI p0, vI q0, .ref ob1], cA ob1 G.2.1.2.1 101 g0, cO od0 3 [vI r1, vI p1, vI q1, .ref od1], cA od1 G.2.1.2.1 101 g1, cA oe0 G.2.1.1 3 sl]
  refine s_aload_n 0 C dX4_copyFrom_11 rfl 0 rfl ?_
  refine s_get C dX4_copyFrom_12 4 rfl hinX4 0 rfl 1 (by decide) (by decide +kernel) rfl ?_
  refine s_aload_n 1 C dX4_copyFrom_15 rfl 1 rfl ?_
  refine s_get C dX4_copyFrom_16 4 rfl hinX4 12 rfl 1 (by decide) (by decide +kernel) rfl ?_
  refine s_callV (As := [.ref ob0]) (rest := []) C dX4_copyFrom_19 (c_X3_copyFrom l G b0 b1 r0j p0j q0j g0j ob0 ob1 r0 p0 q0 g0 (by first | assumption | omega) hg0) gX4_copyFrom_X3_copyFrom rfl 1 (by decide +kernel) (by decide) 7 3 rfl rfl rfl [7, 8, 19, 20] rfl (by decide) rfl (Nat.le_of_ble_eq_true rfl) ⟨Nat.zero_le _, Nat.zero_le _⟩ ?_
  intro v0 w0 hq
  obtain ⟨rfl, rfl⟩ := hq
  refine ⟨rfl, ?_⟩
  show fSt l G X 0 0 22 [(0, .ref s0), (1, .ref os0)] [] [cO s0 4 [.ref a0, .ref b0, .ref d0, .ref e0, vI tkj, vI lnj, vI trj, vI lcj, vI loj, vI apj, vI rtj, vI dlj], cO a0 1 [vI n, .ref a1, .ref a2, .ref a3, .ref a4, .ref a5], cA a1 G.2.1.1 100 (cpZ K Kj n), cA a2 G.2.1.1 100 (cpZ T Tj n), cA a3 G.2.1.1 100 (cpZ Y Yj n), cA a4 G.2.1.1 100 (cpZ V Vj n), cA a5 G.2.1.1 100 (cpZ A Aj n), cO b0 3 [vI r0, vI p0, vI q0, .ref b1], cA b1 G.2.1.2.1 101 g0, cO d0 3 [vI r1j, vI p1j, vI q1j, .ref d1], cA d1 G.2.1.2.1 101 g1j, cA e0 G.2.1.1 3 slj, cO os0 4 [.ref oa0, .ref ob0, .ref od0, .ref oe0, vI tk, vI ln, vI tr, vI lc, vI lo, vI ap, vI rt, vI dl], cO oa0 1 [vI n, .ref oa1, .ref oa2, .ref oa3, .ref oa4, .ref oa5], cA oa1 G.2.1.1 100 K, cA oa2 G.2.1.1 100 T, cA oa3 G.2.1.1 100 Y, cA oa4 G.2.1.1 100 V, cA oa5 G.2.1.1 100 A, cO ob0 3 [vI r0, vI p0, vI q0, .ref ob1], cA ob1 G.2.1.2.1 101 g0, cO od0 3 [vI r1, vI p1, vI q1, .ref od1], cA od1 G.2.1.2.1 101 g1, cA oe0 G.2.1.1 3 sl]
  refine s_aload_n 0 C dX4_copyFrom_22 rfl 0 rfl ?_
  refine s_get C dX4_copyFrom_23 4 rfl hinX4 0 rfl 2 (by decide) (by decide +kernel) rfl ?_
  refine s_aload_n 1 C dX4_copyFrom_26 rfl 1 rfl ?_
  refine s_get C dX4_copyFrom_27 4 rfl hinX4 12 rfl 2 (by decide) (by decide +kernel) rfl ?_
  refine s_callV (As := [.ref od0]) (rest := []) C dX4_copyFrom_30 (c_X3_copyFrom l G d0 d1 r1j p1j q1j g1j od0 od1 r1 p1 q1 g1 (by first | assumption | omega) hg1) gX4_copyFrom_X3_copyFrom rfl 1 (by decide +kernel) (by decide) 9 3 rfl rfl rfl [9, 10, 21, 22] rfl (by decide) rfl (Nat.le_of_ble_eq_true rfl) ⟨Nat.zero_le _, Nat.zero_le _⟩ ?_
  intro v0 w0 hq
  obtain ⟨rfl, rfl⟩ := hq
  refine ⟨rfl, ?_⟩
  show fSt l G X 0 0 33 [(0, .ref s0), (1, .ref os0)] [] [cO s0 4 [.ref a0, .ref b0, .ref d0, .ref e0, vI tkj, vI lnj, vI trj, vI lcj, vI loj, vI apj, vI rtj, vI dlj], cO a0 1 [vI n, .ref a1, .ref a2, .ref a3, .ref a4, .ref a5], cA a1 G.2.1.1 100 (cpZ K Kj n), cA a2 G.2.1.1 100 (cpZ T Tj n), cA a3 G.2.1.1 100 (cpZ Y Yj n), cA a4 G.2.1.1 100 (cpZ V Vj n), cA a5 G.2.1.1 100 (cpZ A Aj n), cO b0 3 [vI r0, vI p0, vI q0, .ref b1], cA b1 G.2.1.2.1 101 g0, cO d0 3 [vI r1, vI p1, vI q1, .ref d1], cA d1 G.2.1.2.1 101 g1, cA e0 G.2.1.1 3 slj, cO os0 4 [.ref oa0, .ref ob0, .ref od0, .ref oe0, vI tk, vI ln, vI tr, vI lc, vI lo, vI ap, vI rt, vI dl], cO oa0 1 [vI n, .ref oa1, .ref oa2, .ref oa3, .ref oa4, .ref oa5], cA oa1 G.2.1.1 100 K, cA oa2 G.2.1.1 100 T, cA oa3 G.2.1.1 100 Y, cA oa4 G.2.1.1 100 V, cA oa5 G.2.1.1 100 A, cO ob0 3 [vI r0, vI p0, vI q0, .ref ob1], cA ob1 G.2.1.2.1 101 g0, cO od0 3 [vI r1, vI p1, vI q1, .ref od1], cA od1 G.2.1.2.1 101 g1, cA oe0 G.2.1.1 3 sl]
  refine s_aload_n 1 C dX4_copyFrom_33 rfl 1 rfl ?_
  refine s_get C dX4_copyFrom_34 4 rfl hinX4 12 rfl 3 (by decide) (by decide +kernel) rfl ?_
  refine s_iconst C dX4_copyFrom_37 ?_
  refine s_aload_n 0 C dX4_copyFrom_38 rfl 0 rfl ?_
  refine s_get C dX4_copyFrom_39 4 rfl hinX4 0 rfl 3 (by decide) (by decide +kernel) rfl ?_
  refine s_iconst C dX4_copyFrom_42 ?_
  refine s_iconst C dX4_copyFrom_43 ?_
  refine s_acopy (ty := .int) [cO s0 4 [.ref a0, .ref b0, .ref d0, .ref e0, vI tkj, vI lnj, vI trj, vI lcj, vI loj, vI apj, vI rtj, vI dlj], cO a0 1 [vI n, .ref a1, .ref a2, .ref a3, .ref a4, .ref a5], cA a1 G.2.1.1 100 (cpZ K Kj n), cA a2 G.2.1.1 100 (cpZ T Tj n), cA a3 G.2.1.1 100 (cpZ Y Yj n), cA a4 G.2.1.1 100 (cpZ V Vj n), cA a5 G.2.1.1 100 (cpZ A Aj n), cO b0 3 [vI r0, vI p0, vI q0, .ref b1], cA b1 G.2.1.2.1 101 g0, cO d0 3 [vI r1, vI p1, vI q1, .ref d1], cA d1 G.2.1.2.1 101 g1, cA e0 G.2.1.1 3 (cpZ sl slj 3), cO os0 4 [.ref oa0, .ref ob0, .ref od0, .ref oe0, vI tk, vI ln, vI tr, vI lc, vI lo, vI ap, vI rt, vI dl], cO oa0 1 [vI n, .ref oa1, .ref oa2, .ref oa3, .ref oa4, .ref oa5], cA oa1 G.2.1.1 100 K, cA oa2 G.2.1.1 100 T, cA oa3 G.2.1.1 100 Y, cA oa4 G.2.1.1 100 V, cA oa5 G.2.1.1 100 A, cO ob0 3 [vI r0, vI p0, vI q0, .ref ob1], cA ob1 G.2.1.2.1 101 g0, cO od0 3 [vI r1, vI p1, vI q1, .ref od1], cA od1 G.2.1.2.1 101 g1, cA oe0 G.2.1.1 3 sl] C dX4_copyFrom_44 (by decide +kernel) (by decide +kernel) (by decide +kernel) (by decide +kernel) 23 11 0 rfl rfl rfl rfl (by omega) (by omega) (by omega) (fun _ _ => rfl) (by decide) (Nat.le_of_ble_eq_true rfl) rfl ?_
  refine s_aload_n 0 C dX4_copyFrom_47 rfl 0 rfl ?_
  refine s_aload_n 1 C dX4_copyFrom_48 rfl 1 rfl ?_
  refine s_get C dX4_copyFrom_49 4 rfl hinX4 12 rfl 4 (by decide) (by decide +kernel) rfl ?_
  refine s_put [cO s0 4 [.ref a0, .ref b0, .ref d0, .ref e0, vI tk, vI lnj, vI trj, vI lcj, vI loj, vI apj, vI rtj, vI dlj], cO a0 1 [vI n, .ref a1, .ref a2, .ref a3, .ref a4, .ref a5], cA a1 G.2.1.1 100 (cpZ K Kj n), cA a2 G.2.1.1 100 (cpZ T Tj n), cA a3 G.2.1.1 100 (cpZ Y Yj n), cA a4 G.2.1.1 100 (cpZ V Vj n), cA a5 G.2.1.1 100 (cpZ A Aj n), cO b0 3 [vI r0, vI p0, vI q0, .ref b1], cA b1 G.2.1.2.1 101 g0, cO d0 3 [vI r1, vI p1, vI q1, .ref d1], cA d1 G.2.1.2.1 101 g1, cA e0 G.2.1.1 3 (cpZ sl slj 3), cO os0 4 [.ref oa0, .ref ob0, .ref od0, .ref oe0, vI tk, vI ln, vI tr, vI lc, vI lo, vI ap, vI rt, vI dl], cO oa0 1 [vI n, .ref oa1, .ref oa2, .ref oa3, .ref oa4, .ref oa5], cA oa1 G.2.1.1 100 K, cA oa2 G.2.1.1 100 T, cA oa3 G.2.1.1 100 Y, cA oa4 G.2.1.1 100 V, cA oa5 G.2.1.1 100 A, cO ob0 3 [vI r0, vI p0, vI q0, .ref ob1], cA ob1 G.2.1.2.1 101 g0, cO od0 3 [vI r1, vI p1, vI q1, .ref od1], cA od1 G.2.1.2.1 101 g1, cA oe0 G.2.1.1 3 sl] C dX4_copyFrom_52 4 rfl hinX4 tyX4 tyX4_ok nmX4 0 rfl 4 (by decide) (by decide +kernel) rfl rfl rfl (Nat.le_of_ble_eq_true rfl) rfl ?_
  refine s_aload_n 0 C dX4_copyFrom_55 rfl 0 rfl ?_
  refine s_aload_n 1 C dX4_copyFrom_56 rfl 1 rfl ?_
  refine s_get C dX4_copyFrom_57 4 rfl hinX4 12 rfl 5 (by decide) (by decide +kernel) rfl ?_
  refine s_put [cO s0 4 [.ref a0, .ref b0, .ref d0, .ref e0, vI tk, vI ln, vI trj, vI lcj, vI loj, vI apj, vI rtj, vI dlj], cO a0 1 [vI n, .ref a1, .ref a2, .ref a3, .ref a4, .ref a5], cA a1 G.2.1.1 100 (cpZ K Kj n), cA a2 G.2.1.1 100 (cpZ T Tj n), cA a3 G.2.1.1 100 (cpZ Y Yj n), cA a4 G.2.1.1 100 (cpZ V Vj n), cA a5 G.2.1.1 100 (cpZ A Aj n), cO b0 3 [vI r0, vI p0, vI q0, .ref b1], cA b1 G.2.1.2.1 101 g0, cO d0 3 [vI r1, vI p1, vI q1, .ref d1], cA d1 G.2.1.2.1 101 g1, cA e0 G.2.1.1 3 (cpZ sl slj 3), cO os0 4 [.ref oa0, .ref ob0, .ref od0, .ref oe0, vI tk, vI ln, vI tr, vI lc, vI lo, vI ap, vI rt, vI dl], cO oa0 1 [vI n, .ref oa1, .ref oa2, .ref oa3, .ref oa4, .ref oa5], cA oa1 G.2.1.1 100 K, cA oa2 G.2.1.1 100 T, cA oa3 G.2.1.1 100 Y, cA oa4 G.2.1.1 100 V, cA oa5 G.2.1.1 100 A, cO ob0 3 [vI r0, vI p0, vI q0, .ref ob1], cA ob1 G.2.1.2.1 101 g0, cO od0 3 [vI r1, vI p1, vI q1, .ref od1], cA od1 G.2.1.2.1 101 g1, cA oe0 G.2.1.1 3 sl] C dX4_copyFrom_60 4 rfl hinX4 tyX4 tyX4_ok nmX4 0 rfl 5 (by decide) (by decide +kernel) rfl rfl rfl (Nat.le_of_ble_eq_true rfl) rfl ?_
  refine s_aload_n 0 C dX4_copyFrom_63 rfl 0 rfl ?_
  refine s_aload_n 1 C dX4_copyFrom_64 rfl 1 rfl ?_
  refine s_get C dX4_copyFrom_65 4 rfl hinX4 12 rfl 6 (by decide) (by decide +kernel) rfl ?_
  refine s_put [cO s0 4 [.ref a0, .ref b0, .ref d0, .ref e0, vI tk, vI ln, vI tr, vI lcj, vI loj, vI apj, vI rtj, vI dlj], cO a0 1 [vI n, .ref a1, .ref a2, .ref a3, .ref a4, .ref a5], cA a1 G.2.1.1 100 (cpZ K Kj n), cA a2 G.2.1.1 100 (cpZ T Tj n), cA a3 G.2.1.1 100 (cpZ Y Yj n), cA a4 G.2.1.1 100 (cpZ V Vj n), cA a5 G.2.1.1 100 (cpZ A Aj n), cO b0 3 [vI r0, vI p0, vI q0, .ref b1], cA b1 G.2.1.2.1 101 g0, cO d0 3 [vI r1, vI p1, vI q1, .ref d1], cA d1 G.2.1.2.1 101 g1, cA e0 G.2.1.1 3 (cpZ sl slj 3), cO os0 4 [.ref oa0, .ref ob0, .ref od0, .ref oe0, vI tk, vI ln, vI tr, vI lc, vI lo, vI ap, vI rt, vI dl], cO oa0 1 [vI n, .ref oa1, .ref oa2, .ref oa3, .ref oa4, .ref oa5], cA oa1 G.2.1.1 100 K, cA oa2 G.2.1.1 100 T, cA oa3 G.2.1.1 100 Y, cA oa4 G.2.1.1 100 V, cA oa5 G.2.1.1 100 A, cO ob0 3 [vI r0, vI p0, vI q0, .ref ob1], cA ob1 G.2.1.2.1 101 g0, cO od0 3 [vI r1, vI p1, vI q1, .ref od1], cA od1 G.2.1.2.1 101 g1, cA oe0 G.2.1.1 3 sl] C dX4_copyFrom_68 4 rfl hinX4 tyX4 tyX4_ok nmX4 0 rfl 6 (by decide) (by decide +kernel) rfl rfl rfl (Nat.le_of_ble_eq_true rfl) rfl ?_
  refine s_aload_n 0 C dX4_copyFrom_71 rfl 0 rfl ?_
  refine s_aload_n 1 C dX4_copyFrom_72 rfl 1 rfl ?_
  refine s_get C dX4_copyFrom_73 4 rfl hinX4 12 rfl 7 (by decide) (by decide +kernel) rfl ?_
  refine s_put [cO s0 4 [.ref a0, .ref b0, .ref d0, .ref e0, vI tk, vI ln, vI tr, vI lc, vI loj, vI apj, vI rtj, vI dlj], cO a0 1 [vI n, .ref a1, .ref a2, .ref a3, .ref a4, .ref a5], cA a1 G.2.1.1 100 (cpZ K Kj n), cA a2 G.2.1.1 100 (cpZ T Tj n), cA a3 G.2.1.1 100 (cpZ Y Yj n), cA a4 G.2.1.1 100 (cpZ V Vj n), cA a5 G.2.1.1 100 (cpZ A Aj n), cO b0 3 [vI r0, vI p0, vI q0, .ref b1], cA b1 G.2.1.2.1 101 g0, cO d0 3 [vI r1, vI p1, vI q1, .ref d1], cA d1 G.2.1.2.1 101 g1, cA e0 G.2.1.1 3 (cpZ sl slj 3), cO os0 4 [.ref oa0, .ref ob0, .ref od0, .ref oe0, vI tk, vI ln, vI tr, vI lc, vI lo, vI ap, vI rt, vI dl], cO oa0 1 [vI n, .ref oa1, .ref oa2, .ref oa3, .ref oa4, .ref oa5], cA oa1 G.2.1.1 100 K, cA oa2 G.2.1.1 100 T, cA oa3 G.2.1.1 100 Y, cA oa4 G.2.1.1 100 V, cA oa5 G.2.1.1 100 A, cO ob0 3 [vI r0, vI p0, vI q0, .ref ob1], cA ob1 G.2.1.2.1 101 g0, cO od0 3 [vI r1, vI p1, vI q1, .ref od1], cA od1 G.2.1.2.1 101 g1, cA oe0 G.2.1.1 3 sl] C dX4_copyFrom_76 4 rfl hinX4 tyX4 tyX4_ok nmX4 0 rfl 7 (by decide) (by decide +kernel) rfl rfl rfl (Nat.le_of_ble_eq_true rfl) rfl ?_
  refine s_aload_n 0 C dX4_copyFrom_79 rfl 0 rfl ?_
  refine s_aload_n 1 C dX4_copyFrom_80 rfl 1 rfl ?_
  refine s_get C dX4_copyFrom_81 4 rfl hinX4 12 rfl 8 (by decide) (by decide +kernel) rfl ?_
  refine s_put [cO s0 4 [.ref a0, .ref b0, .ref d0, .ref e0, vI tk, vI ln, vI tr, vI lc, vI lo, vI apj, vI rtj, vI dlj], cO a0 1 [vI n, .ref a1, .ref a2, .ref a3, .ref a4, .ref a5], cA a1 G.2.1.1 100 (cpZ K Kj n), cA a2 G.2.1.1 100 (cpZ T Tj n), cA a3 G.2.1.1 100 (cpZ Y Yj n), cA a4 G.2.1.1 100 (cpZ V Vj n), cA a5 G.2.1.1 100 (cpZ A Aj n), cO b0 3 [vI r0, vI p0, vI q0, .ref b1], cA b1 G.2.1.2.1 101 g0, cO d0 3 [vI r1, vI p1, vI q1, .ref d1], cA d1 G.2.1.2.1 101 g1, cA e0 G.2.1.1 3 (cpZ sl slj 3), cO os0 4 [.ref oa0, .ref ob0, .ref od0, .ref oe0, vI tk, vI ln, vI tr, vI lc, vI lo, vI ap, vI rt, vI dl], cO oa0 1 [vI n, .ref oa1, .ref oa2, .ref oa3, .ref oa4, .ref oa5], cA oa1 G.2.1.1 100 K, cA oa2 G.2.1.1 100 T, cA oa3 G.2.1.1 100 Y, cA oa4 G.2.1.1 100 V, cA oa5 G.2.1.1 100 A, cO ob0 3 [vI r0, vI p0, vI q0, .ref ob1], cA ob1 G.2.1.2.1 101 g0, cO od0 3 [vI r1, vI p1, vI q1, .ref od1], cA od1 G.2.1.2.1 101 g1, cA oe0 G.2.1.1 3 sl] C dX4_copyFrom_84 4 rfl hinX4 tyX4 tyX4_ok nmX4 0 rfl 8 (by decide) (by decide +kernel) rfl rfl rfl (Nat.le_of_ble_eq_true rfl) rfl ?_
  refine s_aload_n 0 C dX4_copyFrom_87 rfl 0 rfl ?_
  refine s_aload_n 1 C dX4_copyFrom_88 rfl 1 rfl ?_
  refine s_get C dX4_copyFrom_89 4 rfl hinX4 12 rfl 9 (by decide) (by decide +kernel) rfl ?_
  refine s_put [cO s0 4 [.ref a0, .ref b0, .ref d0, .ref e0, vI tk, vI ln, vI tr, vI lc, vI lo, vI ap, vI rtj, vI dlj], cO a0 1 [vI n, .ref a1, .ref a2, .ref a3, .ref a4, .ref a5], cA a1 G.2.1.1 100 (cpZ K Kj n), cA a2 G.2.1.1 100 (cpZ T Tj n), cA a3 G.2.1.1 100 (cpZ Y Yj n), cA a4 G.2.1.1 100 (cpZ V Vj n), cA a5 G.2.1.1 100 (cpZ A Aj n), cO b0 3 [vI r0, vI p0, vI q0, .ref b1], cA b1 G.2.1.2.1 101 g0, cO d0 3 [vI r1, vI p1, vI q1, .ref d1], cA d1 G.2.1.2.1 101 g1, cA e0 G.2.1.1 3 (cpZ sl slj 3), cO os0 4 [.ref oa0, .ref ob0, .ref od0, .ref oe0, vI tk, vI ln, vI tr, vI lc, vI lo, vI ap, vI rt, vI dl], cO oa0 1 [vI n, .ref oa1, .ref oa2, .ref oa3, .ref oa4, .ref oa5], cA oa1 G.2.1.1 100 K, cA oa2 G.2.1.1 100 T, cA oa3 G.2.1.1 100 Y, cA oa4 G.2.1.1 100 V, cA oa5 G.2.1.1 100 A, cO ob0 3 [vI r0, vI p0, vI q0, .ref ob1], cA ob1 G.2.1.2.1 101 g0, cO od0 3 [vI r1, vI p1, vI q1, .ref od1], cA od1 G.2.1.2.1 101 g1, cA oe0 G.2.1.1 3 sl] C dX4_copyFrom_92 4 rfl hinX4 tyX4 tyX4_ok nmX4 0 rfl 9 (by decide) (by decide +kernel) rfl rfl rfl (Nat.le_of_ble_eq_true rfl) rfl ?_
  refine s_aload_n 0 C dX4_copyFrom_95 rfl 0 rfl ?_
  refine s_aload_n 1 C dX4_copyFrom_96 rfl 1 rfl ?_
  refine s_get C dX4_copyFrom_97 4 rfl hinX4 12 rfl 10 (by decide) (by decide +kernel) rfl ?_
  refine s_put [cO s0 4 [.ref a0, .ref b0, .ref d0, .ref e0, vI tk, vI ln, vI tr, vI lc, vI lo, vI ap, vI rt, vI dlj], cO a0 1 [vI n, .ref a1, .ref a2, .ref a3, .ref a4, .ref a5], cA a1 G.2.1.1 100 (cpZ K Kj n), cA a2 G.2.1.1 100 (cpZ T Tj n), cA a3 G.2.1.1 100 (cpZ Y Yj n), cA a4 G.2.1.1 100 (cpZ V Vj n), cA a5 G.2.1.1 100 (cpZ A Aj n), cO b0 3 [vI r0, vI p0, vI q0, .ref b1], cA b1 G.2.1.2.1 101 g0, cO d0 3 [vI r1, vI p1, vI q1, .ref d1], cA d1 G.2.1.2.1 101 g1, cA e0 G.2.1.1 3 (cpZ sl slj 3), cO os0 4 [.ref oa0, .ref ob0, .ref od0, .ref oe0, vI tk, vI ln, vI tr, vI lc, vI lo, vI ap, vI rt, vI dl], cO oa0 1 [vI n, .ref oa1, .ref oa2, .ref oa3, .ref oa4, .ref oa5], cA oa1 G.2.1.1 100 K, cA oa2 G.2.1.1 100 T, cA oa3 G.2.1.1 100 Y, cA oa4 G.2.1.1 100 V, cA oa5 G.2.1.1 100 A, cO ob0 3 [vI r0, vI p0, vI q0, .ref ob1], cA ob1 G.2.1.2.1 101 g0, cO od0 3 [vI r1, vI p1, vI q1, .ref od1], cA od1 G.2.1.2.1 101 g1, cA oe0 G.2.1.1 3 sl] C dX4_copyFrom_100 4 rfl hinX4 tyX4 tyX4_ok nmX4 0 rfl 10 (by decide) (by decide +kernel) rfl rfl rfl (Nat.le_of_ble_eq_true rfl) rfl ?_
  refine s_aload_n 0 C dX4_copyFrom_103 rfl 0 rfl ?_
  refine s_aload_n 1 C dX4_copyFrom_104 rfl 1 rfl ?_
  refine s_get C dX4_copyFrom_105 4 rfl hinX4 12 rfl 11 (by decide) (by decide +kernel) rfl ?_
  refine s_put [cO s0 4 [.ref a0, .ref b0, .ref d0, .ref e0, vI tk, vI ln, vI tr, vI lc, vI lo, vI ap, vI rt, vI dl], cO a0 1 [vI n, .ref a1, .ref a2, .ref a3, .ref a4, .ref a5], cA a1 G.2.1.1 100 (cpZ K Kj n), cA a2 G.2.1.1 100 (cpZ T Tj n), cA a3 G.2.1.1 100 (cpZ Y Yj n), cA a4 G.2.1.1 100 (cpZ V Vj n), cA a5 G.2.1.1 100 (cpZ A Aj n), cO b0 3 [vI r0, vI p0, vI q0, .ref b1], cA b1 G.2.1.2.1 101 g0, cO d0 3 [vI r1, vI p1, vI q1, .ref d1], cA d1 G.2.1.2.1 101 g1, cA e0 G.2.1.1 3 (cpZ sl slj 3), cO os0 4 [.ref oa0, .ref ob0, .ref od0, .ref oe0, vI tk, vI ln, vI tr, vI lc, vI lo, vI ap, vI rt, vI dl], cO oa0 1 [vI n, .ref oa1, .ref oa2, .ref oa3, .ref oa4, .ref oa5], cA oa1 G.2.1.1 100 K, cA oa2 G.2.1.1 100 T, cA oa3 G.2.1.1 100 Y, cA oa4 G.2.1.1 100 V, cA oa5 G.2.1.1 100 A, cO ob0 3 [vI r0, vI p0, vI q0, .ref ob1], cA ob1 G.2.1.2.1 101 g0, cO od0 3 [vI r1, vI p1, vI q1, .ref od1], cA od1 G.2.1.2.1 101 g1, cA oe0 G.2.1.1 3 sl] C dX4_copyFrom_108 4 rfl hinX4 tyX4 tyX4_ok nmX4 0 rfl 11 (by decide) (by decide +kernel) rfl rfl rfl (Nat.le_of_ble_eq_true rfl) rfl ?_
  exact s_vret C E dX4_copyFrom_111 ⟨rfl, rfl⟩

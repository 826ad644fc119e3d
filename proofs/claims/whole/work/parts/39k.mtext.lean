set_option maxHeartbeats 4000000 in
set_option maxRecDepth 100000 in
theorem c_X7_isAt (l : Launch) (G : fG) (m0 m4 m5 : Nat) (x1 x2 x3 x4 x5 : Value) (n i fr rs ca os od : Int) (tx : Int → Int) (a z : Int) (hn : 0 ≤ n ∧ n ≤ 60) (hX : rX tx) (hi : 0 ≤ i ∧ i ≤ 60) (haz : 1 ≤ a ∧ a ≤ 126 ∧ 0 ≤ z ∧ z ≤ 126) : fCt l G yX7_isAt wsX7_isAt 1 22 0 0 [.ref m0, vI a, vI z] [cO m0 7 [x1, x2, x3, x4, x5, .ref m4, vI n, vI i, vI fr, vI rs, vI ca, vI os, vI od, .ref m5], cA m4 G.2.1.1 60 tx] (fun (v0 : Option Value) (w0 : va_W) => v0 = some (vI (bI (a ≤ chA tx n i ∧ chA tx n i ≤ z))) ∧ w0 = [cO m0 7 [x1, x2, x3, x4, x5, .ref m4, vI n, vI i, vI fr, vI rs, vI ca, vI os, vI od, .ref m5], cA m4 G.2.1.1 60 tx]) := by
  refine fs_met (cc := cX7_isAt) (nL := 3) (ret := (some .boolean)) (by decide) rfl (Nat.le_of_ble_eq_true rfl) ?_
  intro X C E
  show fSt l G X 0 0 0 [(0, .ref m0), (1, vI a), (2, vI z)] [] [cO m0 7 [x1, x2, x3, x4, x5, .ref m4, vI n, vI i, vI fr, vI rs, vI ca, vI os, vI od, .ref m5], cA m4 G.2.1.1 60 tx]
  have hinX7 : ∀ w ∈ u_ws RX7 TX7 14, w ∈ wsX7_isAt := by decide +kernel
  have hc := chA_rg (X := tx) (n := n) (i := i) hX
  have hxi := hX i
  refine s_aload_n 0 C dX7_isAt_0 rfl 0 rfl ?_
  refine s_get C dX7_isAt_1 7 rfl hinX7 0 rfl 7 (by decide) (by decide +kernel) rfl ?_
  refine s_aload_n 0 C dX7_isAt_4 rfl 0 rfl ?_
  refine s_get C dX7_isAt_5 7 rfl hinX7 0 rfl 6 (by decide) (by decide +kernel) rfl ?_
  refine s_icmp_ge 32 C dX7_isAt_8 (by decide) (by omega) (by omega) (fun h_8 => ?_) (fun h_8 => ?_)
  · have hco := chA_out (X := tx) (n := n) (i := i) (by omega)
    refine s_iconst C dX7_isAt_32 ?_
    exact s_zret C E dX7_isAt_33 rfl ⟨congrArg (fun z => some (vI z)) (bI_0 (by omega)), rfl⟩
  · have hci := chA_in (X := tx) (n := n) (i := i) (by omega)
    refine s_aload_n 0 C dX7_isAt_11 rfl 0 rfl ?_
    refine s_get C dX7_isAt_12 7 rfl hinX7 0 rfl 5 (by decide) (by decide +kernel) rfl ?_
    refine s_aload_n 0 C dX7_isAt_15 rfl 0 rfl ?_
    refine s_get C dX7_isAt_16 7 rfl hinX7 0 rfl 7 (by decide) (by decide +kernel) rfl ?_
    refine s_iald C dX7_isAt_19 1 rfl i rfl (by omega) (by omega) (by omega) ?_
    refine s_iload_n 1 C dX7_isAt_20 rfl 1 rfl ?_
    refine s_iload_n 2 C dX7_isAt_21 rfl 2 rfl ?_
    refine s_callS (As := [vI (tx i), vI a, vI z]) (rest := []) C dX7_isAt_22 (c_X7_in l G (tx i) a z (by first | assumption | omega) (by first | assumption | omega) (by first | assumption | omega)) gX7_isAt_X7_in rfl 3 (by decide +kernel) (by decide) [] rfl (by decide) rfl (Nat.le_of_ble_eq_true rfl) ⟨Nat.zero_le _, Nat.zero_le _⟩ ?_
    intro v0 w0 hq
    obtain ⟨rfl, rfl⟩ := hq
    refine ⟨rfl, ?_⟩
    show fSt l G X 0 0 25 [(0, .ref m0), (1, vI a), (2, vI z)] [vI (bI (a ≤ (tx i) ∧ (tx i) ≤ z))] [cO m0 7 [x1, x2, x3, x4, x5, .ref m4, vI n, vI i, vI fr, vI rs, vI ca, vI os, vI od, .ref m5], cA m4 G.2.1.1 60 tx]
    refine s_if_eq 32 C dX7_isAt_25 (by decide) bI_rng (fun h_25 => ?_) (fun h_25 => ?_)
    · have h_25 := bI_f h_25
      refine s_iconst C dX7_isAt_32 ?_
      exact s_zret C E dX7_isAt_33 rfl ⟨congrArg (fun z => some (vI z)) (bI_0 (by omega)), rfl⟩
    · have h_25 := bI_t h_25
      refine s_iconst C dX7_isAt_28 ?_
      refine s_goto 33 C dX7_isAt_29 (by decide) ?_
      exact s_zret C E dX7_isAt_33 rfl ⟨congrArg (fun z => some (vI z)) (bI_1 (by omega)), rfl⟩

set_option maxHeartbeats 4000000 in
set_option maxRecDepth 100000 in
theorem c_X7_sign (l : Launch) (G : fG) (m0 m4 m5 : Nat) (x1 x2 x3 x4 x5 : Value) (n i fr rs ca os od : Int) (tx : Int → Int) (c : Int) (hn : 0 ≤ n ∧ n ≤ 60) (hX : rX tx) (hi : 0 ≤ i ∧ i ≤ 60) (hcc : 1 ≤ c ∧ c ≤ 126) : fCt l G yX7_sign wsX7_sign 2 44 0 0 [.ref m0, vI c] [cO m0 7 [x1, x2, x3, x4, x5, .ref m4, vI n, vI i, vI fr, vI rs, vI ca, vI os, vI od, .ref m5], cA m4 G.2.1.1 60 tx] (fun (v0 : Option Value) (w0 : va_W) => ∃ (z q : Int), v0 = some (vI z) ∧ w0 = [cO m0 7 [x1, x2, x3, x4, x5, .ref m4, vI n, vI q, vI fr, vI rs, vI ca, vI os, vI od, .ref m5], cA m4 G.2.1.1 60 tx] ∧ ((chA tx n i = c ∧ z = 1 ∧ q = i + 1) ∨ (chA tx n i ≠ c ∧ z = 0 ∧ q = i))) := by
  refine fs_met (cc := cX7_sign) (nL := 3) (ret := (some .boolean)) (by decide) rfl (Nat.le_of_ble_eq_true rfl) ?_
  intro X C E
  show fSt l G X 0 0 0 [(0, .ref m0), (1, vI c)] [] [cO m0 7 [x1, x2, x3, x4, x5, .ref m4, vI n, vI i, vI fr, vI rs, vI ca, vI os, vI od, .ref m5], cA m4 G.2.1.1 60 tx]
  have hinX7 : ∀ w ∈ u_ws RX7 TX7 14, w ∈ wsX7_sign := by decide +kernel
  refine s_aload_n 0 C dX7_sign_0 rfl 0 rfl ?_
  refine s_iload_n 1 C dX7_sign_1 rfl 1 rfl ?_
  refine s_iload_n 1 C dX7_sign_2 rfl 1 rfl ?_
  refine s_callV (As := [vI c, vI c]) (rest := []) C dX7_sign_3 (c_X7_isAt l G m0 m4 m5 (x1) (x2) (x3) (x4) (x5) n i fr rs ca os od tx c c (by first | assumption | omega) (by first | assumption | omega) (by first | assumption | omega) (by first | assumption | omega)) gX7_sign_X7_isAt rfl 2 (by decide +kernel) (by decide) 0 7 rfl rfl rfl [0, 1] rfl (by decide) rfl (Nat.le_of_ble_eq_true rfl) ⟨Nat.zero_le _, Nat.zero_le _⟩ ?_
  intro v0 w0 hq
  obtain ⟨rfl, rfl⟩ := hq
  refine ⟨rfl, ?_⟩
  show fSt l G X 0 0 6 [(0, .ref m0), (1, vI c)] [vI (bI (c ≤ chA tx n i ∧ chA tx n i ≤ c))] [cO m0 7 [x1, x2, x3, x4, x5, .ref m4, vI n, vI i, vI fr, vI rs, vI ca, vI os, vI od, .ref m5], cA m4 G.2.1.1 60 tx]
  refine s_istore_n 2 [(2, vI (bI (c ≤ chA tx n i ∧ chA tx n i ≤ c))), (0, .ref m0), (1, vI c)] C dX7_sign_6 rfl (by decide) rfl ?_
  refine s_aload_n 0 C dX7_sign_7 rfl 1 rfl ?_
  refine s_dup C dX7_sign_8 rfl ?_
  refine s_get C dX7_sign_9 7 rfl hinX7 0 rfl 7 (by decide) (by decide +kernel) rfl ?_
  refine s_iload_n 2 C dX7_sign_12 rfl 0 rfl ?_
  refine s_if_eq 20 C dX7_sign_13 (by decide) bI_rng (fun h_13 => ?_) (fun h_13 => ?_)
  · have h_13 := bI_f h_13
    refine s_iconst C dX7_sign_20 ?_
    refine s_iadd C dX7_sign_21 ?_
    refine s_put [cO m0 7 [x1, x2, x3, x4, x5, .ref m4, vI n, vI (i + 0), vI fr, vI rs, vI ca, vI os, vI od, .ref m5], cA m4 G.2.1.1 60 tx] C dX7_sign_22 7 rfl hinX7 tyX7 tyX7_ok nmX7 0 rfl 7 (by decide) (by decide +kernel) rfl rfl rfl (Nat.le_of_ble_eq_true rfl) rfl ?_
    refine s_iload_n 2 C dX7_sign_25 rfl 0 rfl ?_
    exact s_zret C E dX7_sign_26 (narB bI_01) ⟨(bI (c ≤ chA tx n i ∧ chA tx n i ≤ c)), (i + 0), rfl, rfl, (Or.inr ⟨by omega, if_neg (by omega), by omega⟩)⟩
  · have h_13 := bI_t h_13
    refine s_iconst C dX7_sign_16 ?_
    refine s_goto 21 C dX7_sign_17 (by decide) ?_
    refine s_iadd C dX7_sign_21 ?_
    refine s_put [cO m0 7 [x1, x2, x3, x4, x5, .ref m4, vI n, vI (i + 1), vI fr, vI rs, vI ca, vI os, vI od, .ref m5], cA m4 G.2.1.1 60 tx] C dX7_sign_22 7 rfl hinX7 tyX7 tyX7_ok nmX7 0 rfl 7 (by decide) (by decide +kernel) rfl rfl rfl (Nat.le_of_ble_eq_true rfl) rfl ?_
    refine s_iload_n 2 C dX7_sign_25 rfl 0 rfl ?_
    exact s_zret C E dX7_sign_26 (narB bI_01) ⟨(bI (c ≤ chA tx n i ∧ chA tx n i ≤ c)), (i + 1), rfl, rfl, (Or.inl ⟨by omega, if_pos (by omega), rfl⟩)⟩

set_option maxHeartbeats 4000000 in
set_option maxRecDepth 100000 in
theorem c_X7_number (l : Launch) (G : fG) (m0 m4 m5 : Nat) (x1 x2 x3 x4 x5 : Value) (n i fr rs ca os od : Int) (tx W : Int → Int) (w : Int) (hn : 0 ≤ n ∧ n ≤ 60) (hX : rX tx) (hi : 0 ≤ i ∧ i ≤ n) (hw : 0 ≤ w ∧ w ≤ 2) (hW : rF W) : fCt l G yX7_number wsX7_number 2 44 0 0 [.ref m0, vI w] [cO m0 7 [x1, x2, x3, x4, x5, .ref m4, vI n, vI i, vI fr, vI rs, vI ca, vI os, vI od, .ref m5], cA m4 G.2.1.1 60 tx, cA m5 G.2.1.1 3 W] (fun (v0 : Option Value) (w0 : va_W) => ∃ (z q : Int) (W2 : Int → Int), v0 = some (vI z) ∧ w0 = [cO m0 7 [x1, x2, x3, x4, x5, .ref m4, vI n, vI q, vI fr, vI rs, vI ca, vI os, vI od, .ref m5], cA m4 G.2.1.1 60 tx, cA m5 G.2.1.1 3 W2] ∧ (q = nE tx n i) ∧ ((i < q ∧ z = 1 ∧ W2 = uZ W w (nV tx n i)) ∨ (q = i ∧ z = 0)) ∧ (rF W2) ∧ (i ≤ q ∧ q ≤ n) ∧ (∀ j, j ≠ w → W2 j = W j)) := by
  refine fs_met (cc := cX7_number) (nL := 3) (ret := (some .boolean)) (by decide) rfl (Nat.le_of_ble_eq_true rfl) ?_
  intro X C E
  show fSt l G X 0 0 0 [(0, .ref m0), (1, vI w)] [] [cO m0 7 [x1, x2, x3, x4, x5, .ref m4, vI n, vI i, vI fr, vI rs, vI ca, vI os, vI od, .ref m5], cA m4 G.2.1.1 60 tx, cA m5 G.2.1.1 3 W]
  have hinX7 : ∀ w ∈ u_ws RX7 TX7 14, w ∈ wsX7_number := by decide +kernel
  refine s_aload_n 0 C dX7_number_0 rfl 0 rfl ?_
  refine s_get C dX7_number_1 7 rfl hinX7 0 rfl 7 (by decide) (by decide +kernel) rfl ?_
  refine s_istore_n 2 [(2, vI i), (0, .ref m0), (1, vI w)] C dX7_number_4 rfl (by decide) rfl ?_
  refine s_aload_n 0 C dX7_number_5 rfl 1 rfl ?_
  refine s_get C dX7_number_6 7 rfl hinX7 0 rfl 13 (by decide) (by decide +kernel) rfl ?_
  refine s_iload_n 1 C dX7_number_9 rfl 2 rfl ?_
  refine s_iconst C dX7_number_10 ?_
  refine s_iast [cO m0 7 [x1, x2, x3, x4, x5, .ref m4, vI n, vI i, vI fr, vI rs, vI ca, vI os, vI od, .ref m5], cA m4 G.2.1.1 60 tx, cA m5 G.2.1.1 3 (uZ W w 0)] C dX7_number_11 2 rfl w rfl (by omega) (by omega) (by omega) rfl ?_
  have loop_12 : ∀ (fuel : Nat) (p : Int) (U : Int → Int), (0 ≤ p - i ∧ p - i ≤ 3) → (adv (dgP tx n) i (p - i).toNat = p) → (p ≤ n) → (∀ j, U j = uZ W w (nv tx i (p - i).toNat) j) → (3 - (p - i) < (fuel : Int)) → fSt l G X 0 0 12 [(0, .ref m0), (1, vI w), (2, vI i)] [] [cO m0 7 [x1, x2, x3, x4, x5, .ref m4, vI n, vI p, vI fr, vI rs, vI ca, vI os, vI od, .ref m5], cA m4 G.2.1.1 60 tx, cA m5 G.2.1.1 3 U] := by
    intro fuel
    induction fuel with
    | zero =>
      intro p U hp ha hpn hU hm
      exfalso
      omega
    | succ fuel ih_12 =>
      intro p U hp ha hpn hU hm
      refine s_aload_n 0 C dX7_number_12 rfl 0 rfl ?_
      refine s_bipush (z := 48) C dX7_number_13 rfl ?_
      refine s_bipush (z := 57) C dX7_number_15 rfl ?_
      have hcp := chA_rg (X := tx) (n := n) (i := p) hX
      have hUw : U w = nv tx i (p - i).toNat := (hU w).trans uZ_s
      have hvr := nv_rg hp ha
      have hxp := hX p
      refine s_callV (As := [vI 48, vI 57]) (rest := []) C dX7_number_17 (c_X7_isAt l G m0 m4 m5 (x1) (x2) (x3) (x4) (x5) n p fr rs ca os od tx 48 57 (by first | assumption | omega) (by first | assumption | omega) (by first | assumption | omega) (by first | assumption | omega)) gX7_number_X7_isAt rfl 2 (by decide +kernel) (by decide) 0 7 rfl rfl rfl [0, 1] rfl (by decide) rfl (Nat.le_of_ble_eq_true rfl) ⟨Nat.zero_le _, Nat.zero_le _⟩ ?_
      intro v0 w0 hq
      obtain ⟨rfl, rfl⟩ := hq
      refine ⟨rfl, ?_⟩
      show fSt l G X 0 0 20 [(0, .ref m0), (1, vI w), (2, vI i)] [vI (bI (48 ≤ chA tx n p ∧ chA tx n p ≤ 57))] [cO m0 7 [x1, x2, x3, x4, x5, .ref m4, vI n, vI p, vI fr, vI rs, vI ca, vI os, vI od, .ref m5], cA m4 G.2.1.1 60 tx, cA m5 G.2.1.1 3 U]
      refine s_if_eq 74 C dX7_number_20 (by decide) bI_rng (fun h_20 => ?_) (fun h_20 => ?_)
      · have h_20 := bI_f h_20
        have hE := nE_stop (n := n) hp ha (by omega)
        have hU2 : U = uZ W w (nV tx n i) := by funext j; rw [hU j, nV, ← hE]
        have hvi := nV_in (X := tx) (n := n) (i := i) (by omega)
        refine s_aload_n 0 C dX7_number_74 rfl 0 rfl ?_
        refine s_get C dX7_number_75 7 rfl hinX7 0 rfl 7 (by decide) (by decide +kernel) rfl ?_
        refine s_iload_n 2 C dX7_number_78 rfl 2 rfl ?_
        refine s_icmp_le 86 C dX7_number_79 (by decide) (by omega) (by omega) (fun h_79 => ?_) (fun h_79 => ?_)
        · refine s_iconst C dX7_number_86 ?_
          exact s_zret C E dX7_number_87 rfl ⟨0, p, U, rfl, rfl, hE, (Or.inr ⟨by omega, rfl⟩), (by rw [hU2]; exact hW.up (by omega)), (by omega), (fun j hj => by rw [hU2]; exact uZ_n hj)⟩
        · refine s_iconst C dX7_number_82 ?_
          refine s_goto 87 C dX7_number_83 (by decide) ?_
          exact s_zret C E dX7_number_87 rfl ⟨1, p, U, rfl, rfl, hE, (Or.inl ⟨by omega, rfl, hU2⟩), (by rw [hU2]; exact hW.up (by omega)), (by omega), (fun j hj => by rw [hU2]; exact uZ_n hj)⟩
      · have h_20 := bI_t h_20
        refine s_aload_n 0 C dX7_number_23 rfl 0 rfl ?_
        refine s_get C dX7_number_24 7 rfl hinX7 0 rfl 7 (by decide) (by decide +kernel) rfl ?_
        refine s_iload_n 2 C dX7_number_27 rfl 2 rfl ?_
        refine s_isub C dX7_number_28 ?_
        refine s_iconst C dX7_number_29 ?_
        refine s_icmp_ge 74 C dX7_number_30 (by decide) (by omega) (by omega) (fun h_30 => ?_) (fun h_30 => ?_)
        · have hE := nE_stop (n := n) hp ha (by omega)
          have hU2 : U = uZ W w (nV tx n i) := by funext j; rw [hU j, nV, ← hE]
          have hvi := nV_in (X := tx) (n := n) (i := i) (by omega)
          refine s_aload_n 0 C dX7_number_74 rfl 0 rfl ?_
          refine s_get C dX7_number_75 7 rfl hinX7 0 rfl 7 (by decide) (by decide +kernel) rfl ?_
          refine s_iload_n 2 C dX7_number_78 rfl 2 rfl ?_
          refine s_icmp_le 86 C dX7_number_79 (by decide) (by omega) (by omega) (fun h_79 => ?_) (fun h_79 => ?_)
          · refine s_iconst C dX7_number_86 ?_
            exact s_zret C E dX7_number_87 rfl ⟨0, p, U, rfl, rfl, hE, (Or.inr ⟨by omega, rfl⟩), (by rw [hU2]; exact hW.up (by omega)), (by omega), (fun j hj => by rw [hU2]; exact uZ_n hj)⟩
          · refine s_iconst C dX7_number_82 ?_
            refine s_goto 87 C dX7_number_83 (by decide) ?_
            exact s_zret C E dX7_number_87 rfl ⟨1, p, U, rfl, rfl, hE, (Or.inl ⟨by omega, rfl, hU2⟩), (by rw [hU2]; exact hW.up (by omega)), (by omega), (fun j hj => by rw [hU2]; exact uZ_n hj)⟩
        · have hl := chA_lt (X := tx) (n := n) (i := p) (by omega)
          have hci := chA_in (X := tx) hl
          refine s_aload_n 0 C dX7_number_33 rfl 0 rfl ?_
          refine s_get C dX7_number_34 7 rfl hinX7 0 rfl 13 (by decide) (by decide +kernel) rfl ?_
          refine s_iload_n 1 C dX7_number_37 rfl 1 rfl ?_
          refine s_bipush (z := 10) C dX7_number_38 rfl ?_
          refine s_aload_n 0 C dX7_number_40 rfl 0 rfl ?_
          refine s_get C dX7_number_41 7 rfl hinX7 0 rfl 13 (by decide) (by decide +kernel) rfl ?_
          refine s_iload_n 1 C dX7_number_44 rfl 1 rfl ?_
          refine s_iald C dX7_number_45 2 rfl w rfl (by omega) (by omega) (by omega) ?_
          refine s_imul C dX7_number_46 ?_
          refine s_aload_n 0 C dX7_number_47 rfl 0 rfl ?_
          refine s_get C dX7_number_48 7 rfl hinX7 0 rfl 5 (by decide) (by decide +kernel) rfl ?_
          refine s_aload_n 0 C dX7_number_51 rfl 0 rfl ?_
          refine s_get C dX7_number_52 7 rfl hinX7 0 rfl 7 (by decide) (by decide +kernel) rfl ?_
          refine s_iald C dX7_number_55 1 rfl p rfl (by omega) (by omega) (by omega) ?_
          refine s_iadd C dX7_number_56 ?_
          refine s_bipush (z := 48) C dX7_number_57 rfl ?_
          refine s_isub C dX7_number_59 ?_
          refine s_iast [cO m0 7 [x1, x2, x3, x4, x5, .ref m4, vI n, vI p, vI fr, vI rs, vI ca, vI os, vI od, .ref m5], cA m4 G.2.1.1 60 tx, cA m5 G.2.1.1 3 (uZ U w (10 * (U w) + (tx p) - 48))] C dX7_number_60 2 rfl w rfl (by omega) (by omega) (by omega) rfl ?_
          refine s_aload_n 0 C dX7_number_61 rfl 0 rfl ?_
          refine s_dup C dX7_number_62 rfl ?_
          refine s_get C dX7_number_63 7 rfl hinX7 0 rfl 7 (by decide) (by decide +kernel) rfl ?_
          refine s_iconst C dX7_number_66 ?_
          refine s_iadd C dX7_number_67 ?_
          refine s_put [cO m0 7 [x1, x2, x3, x4, x5, .ref m4, vI n, vI (p + 1), vI fr, vI rs, vI ca, vI os, vI od, .ref m5], cA m4 G.2.1.1 60 tx, cA m5 G.2.1.1 3 (uZ U w (10 * (U w) + (tx p) - 48))] C dX7_number_68 7 rfl hinX7 tyX7 tyX7_ok nmX7 0 rfl 7 (by decide) (by decide +kernel) rfl rfl rfl (Nat.le_of_ble_eq_true rfl) rfl ?_
          refine s_goto 12 C dX7_number_71 (by decide) ?_
          exact ih_12 (p + 1) (uZ U w (10 * (U w) + (tx p) - 48)) (by omega) (nE_step hp ha (by omega)) (by omega) (fun j => by rw [nv_step (X := tx) (n := n) (i := i) (p := p) (by omega) (by omega), ← hUw, hci]; simp only [uZ]; by_cases h1 : j = w; (· rw [if_pos h1, if_pos h1]); (· rw [if_neg h1, if_neg h1, hU j, uZ_n h1])) (by omega)
  refine s_lv [(0, .ref m0), (1, vI w), (2, vI i)] [1, 2, 0] rfl ?_
  exact loop_12 (3 - (i - i) + 1 : Int).toNat i (uZ W w 0) (by omega) (by rw [show (i - i).toNat = 0 by omega]; rfl) (by omega) (fun j => by rw [show (i - i).toNat = 0 by omega]; rfl) (by omega)

set_option maxHeartbeats 4000000 in
set_option maxRecDepth 100000 in
theorem c_X7_reads_1 (l : Launch) (G : fG) (m0 m4 m5 : Nat) (x1 x2 x3 x4 x5 : Value) (n i fr rs ca os od : Int) (tx W : Int → Int) (hn : 0 ≤ n ∧ n ≤ 60) (hX : rX tx) (hi : 0 ≤ i ∧ i < n) (hW : rF W) (hk : chA tx n i = 111 ∨ chA tx n i = 99 ∨ chA tx n i = 97 ∨ chA tx n i = 116) : fCt l G yX7_reads wsX7_reads 3 66 0 0 [.ref m0] [cO m0 7 [x1, x2, x3, x4, x5, .ref m4, vI n, vI i, vI fr, vI rs, vI ca, vI os, vI od, .ref m5], cA m4 G.2.1.1 60 tx, cA m5 G.2.1.1 3 W] (fun (v0 : Option Value) (w0 : va_W) => ∃ (z q od2 : Int) (W2 : Int → Int), v0 = some (vI z) ∧ w0 = [cO m0 7 [x1, x2, x3, x4, x5, .ref m4, vI n, vI q, vI fr, vI rs, vI ca, vI os, vI od2, .ref m5], cA m4 G.2.1.1 60 tx, cA m5 G.2.1.1 3 W2] ∧ (RO tx n i z q 3 W2) ∧ (rdO tx n i = true → od2 = chA tx n i)) := by
  refine fs_met (cc := cX7_reads) (nL := 3) (ret := (some .boolean)) (by decide) rfl (Nat.le_of_ble_eq_true rfl) ?_
  intro X C E
  show fSt l G X 0 0 0 [(0, .ref m0)] [] [cO m0 7 [x1, x2, x3, x4, x5, .ref m4, vI n, vI i, vI fr, vI rs, vI ca, vI os, vI od, .ref m5], cA m4 G.2.1.1 60 tx, cA m5 G.2.1.1 3 W]
  have hinX7 : ∀ w ∈ u_ws RX7 TX7 14, w ∈ wsX7_reads := by decide +kernel
  have hcp := chA_rg (X := tx) (n := n) (i := i) hX
  have hfm := fmN_1 hk
  have hxi : tx i = chA tx n i := (chA_in (by omega)).symm
  refine s_aload_n 0 C dX7_reads_0 rfl 0 rfl ?_
  refine s_aload_n 0 C dX7_reads_1 rfl 0 rfl ?_
  refine s_bipush (z := 33) C dX7_reads_2 rfl ?_
  refine s_bipush (z := 126) C dX7_reads_4 rfl ?_
  refine s_callV (As := [vI 33, vI 126]) (rest := [.ref m0]) C dX7_reads_6 (c_X7_isAt l G m0 m4 m5 (x1) (x2) (x3) (x4) (x5) n i fr rs ca os od tx 33 126 (by first | assumption | omega) hX (by first | assumption | omega) (by first | assumption | omega)) gX7_reads_X7_isAt rfl 2 (by decide +kernel) (by decide) 0 7 rfl rfl rfl [0, 1] rfl (by decide) rfl (Nat.le_of_ble_eq_true rfl) ⟨Nat.zero_le _, Nat.zero_le _⟩ ?_
  intro v0 w0 hq
  obtain ⟨rfl, rfl⟩ := hq
  refine ⟨rfl, ?_⟩
  show fSt l G X 0 0 9 [(0, .ref m0)] [vI (bI (33 ≤ chA tx n i ∧ chA tx n i ≤ 126)), .ref m0] [cO m0 7 [x1, x2, x3, x4, x5, .ref m4, vI n, vI i, vI fr, vI rs, vI ca, vI os, vI od, .ref m5], cA m4 G.2.1.1 60 tx, cA m5 G.2.1.1 3 W]
  refine s_if_eq 24 C dX7_reads_9 (by decide) bI_rng (fun h_9 => ?_) (fun h_9 => ?_)
  · have h_9 := bI_f h_9
    exfalso
    omega
  · have h_9 := bI_t h_9
    refine s_aload_n 0 C dX7_reads_12 rfl 0 rfl ?_
    refine s_get C dX7_reads_13 7 rfl hinX7 0 rfl 5 (by decide) (by decide +kernel) rfl ?_
    refine s_aload_n 0 C dX7_reads_16 rfl 0 rfl ?_
    refine s_get C dX7_reads_17 7 rfl hinX7 0 rfl 7 (by decide) (by decide +kernel) rfl ?_
    refine s_iald C dX7_reads_20 1 rfl i rfl (by omega) (by omega) (by omega) ?_
    refine s_goto 25 C dX7_reads_21 (by decide) ?_
    refine s_put [cO m0 7 [x1, x2, x3, x4, x5, .ref m4, vI n, vI i, vI fr, vI rs, vI ca, vI os, vI (tx i), .ref m5], cA m4 G.2.1.1 60 tx, cA m5 G.2.1.1 3 W] C dX7_reads_25 7 rfl hinX7 tyX7 tyX7_ok nmX7 0 rfl 12 (by decide) (by decide +kernel) rfl rfl rfl (Nat.le_of_ble_eq_true rfl) rfl ?_
    refine s_aload_n 0 C dX7_reads_28 rfl 0 rfl ?_
    refine s_get C dX7_reads_29 7 rfl hinX7 0 rfl 12 (by decide) (by decide +kernel) rfl ?_
    refine s_bipush (z := 111) C dX7_reads_32 rfl ?_
    refine s_icmp_eq 64 C dX7_reads_34 (by decide) (by omega) (by omega) (fun h_34 => ?_) (fun h_34 => ?_)
    · refine s_iconst C dX7_reads_64 ?_
      refine s_goto 69 C dX7_reads_65 (by decide) ?_
      refine s_istore_n 1 [(1, vI 1), (0, .ref m0)] C dX7_reads_69 rfl (by decide) rfl ?_
      refine s_iload_n 1 C dX7_reads_70 rfl 0 rfl ?_
      refine s_if_ne 94 C dX7_reads_71 (by decide) (by decide) (fun h => ?_) (fun h => absurd h (by decide))
      refine s_aload_n 0 C dX7_reads_94 rfl 1 rfl ?_
      refine s_dup C dX7_reads_95 rfl ?_
      refine s_get C dX7_reads_96 7 rfl hinX7 0 rfl 7 (by decide) (by decide +kernel) rfl ?_
      refine s_iconst C dX7_reads_99 ?_
      refine s_iadd C dX7_reads_100 ?_
      refine s_put [cO m0 7 [x1, x2, x3, x4, x5, .ref m4, vI n, vI (i + 1), vI fr, vI rs, vI ca, vI os, vI (tx i), .ref m5], cA m4 G.2.1.1 60 tx, cA m5 G.2.1.1 3 W] C dX7_reads_101 7 rfl hinX7 tyX7 tyX7_ok nmX7 0 rfl 7 (by decide) (by decide +kernel) rfl rfl rfl (Nat.le_of_ble_eq_true rfl) rfl ?_
      refine s_aload_n 0 C dX7_reads_104 rfl 1 rfl ?_
      refine s_iconst C dX7_reads_105 ?_
      refine s_callV (As := [vI 0]) (rest := []) C dX7_reads_106 (c_X7_number l G m0 m4 m5 (x1) (x2) (x3) (x4) (x5) n (i + 1) fr rs ca os (tx i) tx W 0 (by first | assumption | omega) hX (by first | assumption | omega) (by first | assumption | omega) hW) gX7_reads_X7_number rfl 1 (by decide +kernel) (by decide) 0 7 rfl rfl rfl [0, 1, 2] rfl (by decide) rfl (Nat.le_of_ble_eq_true rfl) ⟨Nat.zero_le _, Nat.zero_le _⟩ ?_
      intro v0 w0 hq
      obtain ⟨z_106_0, q_106_0, W2_106_0, rfl, rfl, hq0_106_0, hq1_106_0, hq2_106_0, hq3_106_0, hq4_106_0⟩ := hq
      refine ⟨(fst_k (fst_k (fst_k rfl))), ?_⟩
      show fSt l G X 0 0 109 [(1, vI 1), (0, .ref m0)] [vI z_106_0] [cO m0 7 [x1, x2, x3, x4, x5, .ref m4, vI n, vI q_106_0, vI fr, vI rs, vI ca, vI os, vI (tx i), .ref m5], cA m4 G.2.1.1 60 tx, cA m5 G.2.1.1 3 W2_106_0]
      refine s_if_eq 137 C dX7_reads_109 (by decide) (by omega) (fun h_109 => ?_) (fun h_109 => ?_)
      · refine s_iconst C dX7_reads_137 ?_
        refine s_istore_n 2 [(2, vI 0), (1, vI 1), (0, .ref m0)] C dX7_reads_138 rfl (by decide) rfl ?_
        refine s_iload_n 2 C dX7_reads_139 rfl 0 rfl ?_
        refine s_if_eq 182 C dX7_reads_140 (by decide) (by decide) (fun h => ?_) (fun h => absurd h (by decide))
        refine s_iconst C dX7_reads_182 ?_
        exact s_zret C E dX7_reads_183 rfl ⟨0, q_106_0, (tx i), W2_106_0, rfl, rfl, (rd1_f hfm (nr := 3) (by omega) hq2_106_0 hq0_106_0 (by omega)), (fun _ => hxi)⟩
      · have hx0 : i + 1 < q_106_0 ∧ W2_106_0 = uZ W 0 (nV tx n (i + 1)) := by rcases hq1_106_0 with ⟨g1, g2, g3⟩ | ⟨g1, g2⟩; (· exact ⟨g1, g3⟩); (· exfalso; omega)
        have hV0 : W2_106_0 0 = nV tx n (i + 1) := (by rw [hx0.2]; exact uZ_s)
        refine s_iload_n 1 C dX7_reads_112 rfl 0 rfl ?_
        refine s_if_ne 133 C dX7_reads_113 (by decide) (by decide) (fun h => ?_) (fun h => absurd h (by decide))
        refine s_iconst C dX7_reads_133 ?_
        refine s_goto 138 C dX7_reads_134 (by decide) ?_
        refine s_istore_n 2 [(2, vI 1), (1, vI 1), (0, .ref m0)] C dX7_reads_138 rfl (by decide) rfl ?_
        refine s_iload_n 2 C dX7_reads_139 rfl 0 rfl ?_
        refine s_if_eq 182 C dX7_reads_140 (by decide) (by decide) (fun h => absurd h (by decide)) (fun h => ?_)
        refine s_aload_n 0 C dX7_reads_143 rfl 2 rfl ?_
        refine s_get C dX7_reads_144 7 rfl hinX7 0 rfl 12 (by decide) (by decide +kernel) rfl ?_
        refine s_bipush (z := 112) C dX7_reads_147 rfl ?_
        refine s_icmp_ne 169 C dX7_reads_149 (by decide) (by omega) (by omega) (fun h_149 => ?_) (fun h_149 => ?_)
        · refine s_aload_n 0 C dX7_reads_169 rfl 2 rfl ?_
          refine s_bipush (z := 59) C dX7_reads_170 rfl ?_
          refine s_callV (As := [vI 59]) (rest := []) C dX7_reads_172 (c_X7_sign l G m0 m4 m5 (x1) (x2) (x3) (x4) (x5) n q_106_0 fr rs ca os (tx i) tx 59 (by first | assumption | omega) hX (by first | assumption | omega) (by first | assumption | omega)) gX7_reads_X7_sign rfl 1 (by decide +kernel) (by decide) 0 7 rfl rfl rfl [0, 1] rfl (by decide) rfl (Nat.le_of_ble_eq_true rfl) ⟨Nat.zero_le _, Nat.zero_le _⟩ ?_
          intro v0 w0 hq
          obtain ⟨z_172_1, q_172_1, rfl, rfl, hq0_172_1⟩ := hq
          refine ⟨(fst_k rfl), ?_⟩
          show fSt l G X 0 0 175 [(2, vI 1), (1, vI 1), (0, .ref m0)] [vI z_172_1] [cO m0 7 [x1, x2, x3, x4, x5, .ref m4, vI n, vI q_172_1, vI fr, vI rs, vI ca, vI os, vI (tx i), .ref m5], cA m4 G.2.1.1 60 tx, cA m5 G.2.1.1 3 W2_106_0]
          refine s_if_eq 182 C dX7_reads_175 (by decide) (by omega) (fun h_175 => ?_) (fun h_175 => ?_)
          · refine s_iconst C dX7_reads_182 ?_
            exact s_zret C E dX7_reads_183 rfl ⟨0, q_172_1, (tx i), W2_106_0, rfl, rfl, (by have hf : q_172_1 = q_106_0 ∧ chA tx n q_106_0 ≠ 59 := (by rcases hq0_172_1 with ⟨g1, g2, g3⟩ | ⟨g1, g2, g3⟩; (· exfalso; omega); (· exact ⟨g3, g1⟩)); rw [hf.1]; exact (rd1_f hfm (nr := 3) (by omega) hq2_106_0 hq0_106_0 (by omega))), (fun _ => hxi)⟩
          · have hs2 : chA tx n q_106_0 = 59 ∧ q_172_1 = q_106_0 + 1 := by rcases hq0_172_1 with ⟨g1, g2, g3⟩ | ⟨g1, g2, g3⟩; (· exact ⟨g1, g3⟩); (· exfalso; omega)
            have hl2 := chA_lt (X := tx) (n := n) (i := q_106_0) (by omega)
            refine s_iconst C dX7_reads_178 ?_
            refine s_goto 183 C dX7_reads_179 (by decide) ?_
            exact s_zret C E dX7_reads_183 rfl ⟨1, q_172_1, (tx i), W2_106_0, rfl, rfl, (by rw [hs2.2]; exact (rd1_t hfm (nr := 3) (by omega) hq2_106_0 hq0_106_0 (by omega) (by omega) hV0)), (fun _ => hxi)⟩
        · exfalso
          omega
    · refine s_aload_n 0 C dX7_reads_37 rfl 0 rfl ?_
      refine s_get C dX7_reads_38 7 rfl hinX7 0 rfl 12 (by decide) (by decide +kernel) rfl ?_
      refine s_bipush (z := 99) C dX7_reads_41 rfl ?_
      refine s_icmp_eq 64 C dX7_reads_43 (by decide) (by omega) (by omega) (fun h_43 => ?_) (fun h_43 => ?_)
      · refine s_iconst C dX7_reads_64 ?_
        refine s_goto 69 C dX7_reads_65 (by decide) ?_
        refine s_istore_n 1 [(1, vI 1), (0, .ref m0)] C dX7_reads_69 rfl (by decide) rfl ?_
        refine s_iload_n 1 C dX7_reads_70 rfl 0 rfl ?_
        refine s_if_ne 94 C dX7_reads_71 (by decide) (by decide) (fun h => ?_) (fun h => absurd h (by decide))
        refine s_aload_n 0 C dX7_reads_94 rfl 1 rfl ?_
        refine s_dup C dX7_reads_95 rfl ?_
        refine s_get C dX7_reads_96 7 rfl hinX7 0 rfl 7 (by decide) (by decide +kernel) rfl ?_
        refine s_iconst C dX7_reads_99 ?_
        refine s_iadd C dX7_reads_100 ?_
        refine s_put [cO m0 7 [x1, x2, x3, x4, x5, .ref m4, vI n, vI (i + 1), vI fr, vI rs, vI ca, vI os, vI (tx i), .ref m5], cA m4 G.2.1.1 60 tx, cA m5 G.2.1.1 3 W] C dX7_reads_101 7 rfl hinX7 tyX7 tyX7_ok nmX7 0 rfl 7 (by decide) (by decide +kernel) rfl rfl rfl (Nat.le_of_ble_eq_true rfl) rfl ?_
        refine s_aload_n 0 C dX7_reads_104 rfl 1 rfl ?_
        refine s_iconst C dX7_reads_105 ?_
        refine s_callV (As := [vI 0]) (rest := []) C dX7_reads_106 (c_X7_number l G m0 m4 m5 (x1) (x2) (x3) (x4) (x5) n (i + 1) fr rs ca os (tx i) tx W 0 (by first | assumption | omega) hX (by first | assumption | omega) (by first | assumption | omega) hW) gX7_reads_X7_number rfl 1 (by decide +kernel) (by decide) 0 7 rfl rfl rfl [0, 1, 2] rfl (by decide) rfl (Nat.le_of_ble_eq_true rfl) ⟨Nat.zero_le _, Nat.zero_le _⟩ ?_
        intro v0 w0 hq
        obtain ⟨z_106_2, q_106_2, W2_106_2, rfl, rfl, hq0_106_2, hq1_106_2, hq2_106_2, hq3_106_2, hq4_106_2⟩ := hq
        refine ⟨(fst_k (fst_k (fst_k rfl))), ?_⟩
        show fSt l G X 0 0 109 [(1, vI 1), (0, .ref m0)] [vI z_106_2] [cO m0 7 [x1, x2, x3, x4, x5, .ref m4, vI n, vI q_106_2, vI fr, vI rs, vI ca, vI os, vI (tx i), .ref m5], cA m4 G.2.1.1 60 tx, cA m5 G.2.1.1 3 W2_106_2]
        refine s_if_eq 137 C dX7_reads_109 (by decide) (by omega) (fun h_109 => ?_) (fun h_109 => ?_)
        · refine s_iconst C dX7_reads_137 ?_
          refine s_istore_n 2 [(2, vI 0), (1, vI 1), (0, .ref m0)] C dX7_reads_138 rfl (by decide) rfl ?_
          refine s_iload_n 2 C dX7_reads_139 rfl 0 rfl ?_
          refine s_if_eq 182 C dX7_reads_140 (by decide) (by decide) (fun h => ?_) (fun h => absurd h (by decide))
          refine s_iconst C dX7_reads_182 ?_
          exact s_zret C E dX7_reads_183 rfl ⟨0, q_106_2, (tx i), W2_106_2, rfl, rfl, (rd1_f hfm (nr := 3) (by omega) hq2_106_2 hq0_106_2 (by omega)), (fun _ => hxi)⟩
        · have hx0 : i + 1 < q_106_2 ∧ W2_106_2 = uZ W 0 (nV tx n (i + 1)) := by rcases hq1_106_2 with ⟨g1, g2, g3⟩ | ⟨g1, g2⟩; (· exact ⟨g1, g3⟩); (· exfalso; omega)
          have hV0 : W2_106_2 0 = nV tx n (i + 1) := (by rw [hx0.2]; exact uZ_s)
          refine s_iload_n 1 C dX7_reads_112 rfl 0 rfl ?_
          refine s_if_ne 133 C dX7_reads_113 (by decide) (by decide) (fun h => ?_) (fun h => absurd h (by decide))
          refine s_iconst C dX7_reads_133 ?_
          refine s_goto 138 C dX7_reads_134 (by decide) ?_
          refine s_istore_n 2 [(2, vI 1), (1, vI 1), (0, .ref m0)] C dX7_reads_138 rfl (by decide) rfl ?_
          refine s_iload_n 2 C dX7_reads_139 rfl 0 rfl ?_
          refine s_if_eq 182 C dX7_reads_140 (by decide) (by decide) (fun h => absurd h (by decide)) (fun h => ?_)
          refine s_aload_n 0 C dX7_reads_143 rfl 2 rfl ?_
          refine s_get C dX7_reads_144 7 rfl hinX7 0 rfl 12 (by decide) (by decide +kernel) rfl ?_
          refine s_bipush (z := 112) C dX7_reads_147 rfl ?_
          refine s_icmp_ne 169 C dX7_reads_149 (by decide) (by omega) (by omega) (fun h_149 => ?_) (fun h_149 => ?_)
          · refine s_aload_n 0 C dX7_reads_169 rfl 2 rfl ?_
            refine s_bipush (z := 59) C dX7_reads_170 rfl ?_
            refine s_callV (As := [vI 59]) (rest := []) C dX7_reads_172 (c_X7_sign l G m0 m4 m5 (x1) (x2) (x3) (x4) (x5) n q_106_2 fr rs ca os (tx i) tx 59 (by first | assumption | omega) hX (by first | assumption | omega) (by first | assumption | omega)) gX7_reads_X7_sign rfl 1 (by decide +kernel) (by decide) 0 7 rfl rfl rfl [0, 1] rfl (by decide) rfl (Nat.le_of_ble_eq_true rfl) ⟨Nat.zero_le _, Nat.zero_le _⟩ ?_
            intro v0 w0 hq
            obtain ⟨z_172_3, q_172_3, rfl, rfl, hq0_172_3⟩ := hq
            refine ⟨(fst_k rfl), ?_⟩
            show fSt l G X 0 0 175 [(2, vI 1), (1, vI 1), (0, .ref m0)] [vI z_172_3] [cO m0 7 [x1, x2, x3, x4, x5, .ref m4, vI n, vI q_172_3, vI fr, vI rs, vI ca, vI os, vI (tx i), .ref m5], cA m4 G.2.1.1 60 tx, cA m5 G.2.1.1 3 W2_106_2]
            refine s_if_eq 182 C dX7_reads_175 (by decide) (by omega) (fun h_175 => ?_) (fun h_175 => ?_)
            · refine s_iconst C dX7_reads_182 ?_
              exact s_zret C E dX7_reads_183 rfl ⟨0, q_172_3, (tx i), W2_106_2, rfl, rfl, (by have hf : q_172_3 = q_106_2 ∧ chA tx n q_106_2 ≠ 59 := (by rcases hq0_172_3 with ⟨g1, g2, g3⟩ | ⟨g1, g2, g3⟩; (· exfalso; omega); (· exact ⟨g3, g1⟩)); rw [hf.1]; exact (rd1_f hfm (nr := 3) (by omega) hq2_106_2 hq0_106_2 (by omega))), (fun _ => hxi)⟩
            · have hs2 : chA tx n q_106_2 = 59 ∧ q_172_3 = q_106_2 + 1 := by rcases hq0_172_3 with ⟨g1, g2, g3⟩ | ⟨g1, g2, g3⟩; (· exact ⟨g1, g3⟩); (· exfalso; omega)
              have hl2 := chA_lt (X := tx) (n := n) (i := q_106_2) (by omega)
              refine s_iconst C dX7_reads_178 ?_
              refine s_goto 183 C dX7_reads_179 (by decide) ?_
              exact s_zret C E dX7_reads_183 rfl ⟨1, q_172_3, (tx i), W2_106_2, rfl, rfl, (by rw [hs2.2]; exact (rd1_t hfm (nr := 3) (by omega) hq2_106_2 hq0_106_2 (by omega) (by omega) hV0)), (fun _ => hxi)⟩
          · exfalso
            omega
      · refine s_aload_n 0 C dX7_reads_46 rfl 0 rfl ?_
        refine s_get C dX7_reads_47 7 rfl hinX7 0 rfl 12 (by decide) (by decide +kernel) rfl ?_
        refine s_bipush (z := 97) C dX7_reads_50 rfl ?_
        refine s_icmp_eq 64 C dX7_reads_52 (by decide) (by omega) (by omega) (fun h_52 => ?_) (fun h_52 => ?_)
        · refine s_iconst C dX7_reads_64 ?_
          refine s_goto 69 C dX7_reads_65 (by decide) ?_
          refine s_istore_n 1 [(1, vI 1), (0, .ref m0)] C dX7_reads_69 rfl (by decide) rfl ?_
          refine s_iload_n 1 C dX7_reads_70 rfl 0 rfl ?_
          refine s_if_ne 94 C dX7_reads_71 (by decide) (by decide) (fun h => ?_) (fun h => absurd h (by decide))
          refine s_aload_n 0 C dX7_reads_94 rfl 1 rfl ?_
          refine s_dup C dX7_reads_95 rfl ?_
          refine s_get C dX7_reads_96 7 rfl hinX7 0 rfl 7 (by decide) (by decide +kernel) rfl ?_
          refine s_iconst C dX7_reads_99 ?_
          refine s_iadd C dX7_reads_100 ?_
          refine s_put [cO m0 7 [x1, x2, x3, x4, x5, .ref m4, vI n, vI (i + 1), vI fr, vI rs, vI ca, vI os, vI (tx i), .ref m5], cA m4 G.2.1.1 60 tx, cA m5 G.2.1.1 3 W] C dX7_reads_101 7 rfl hinX7 tyX7 tyX7_ok nmX7 0 rfl 7 (by decide) (by decide +kernel) rfl rfl rfl (Nat.le_of_ble_eq_true rfl) rfl ?_
          refine s_aload_n 0 C dX7_reads_104 rfl 1 rfl ?_
          refine s_iconst C dX7_reads_105 ?_
          refine s_callV (As := [vI 0]) (rest := []) C dX7_reads_106 (c_X7_number l G m0 m4 m5 (x1) (x2) (x3) (x4) (x5) n (i + 1) fr rs ca os (tx i) tx W 0 (by first | assumption | omega) hX (by first | assumption | omega) (by first | assumption | omega) hW) gX7_reads_X7_number rfl 1 (by decide +kernel) (by decide) 0 7 rfl rfl rfl [0, 1, 2] rfl (by decide) rfl (Nat.le_of_ble_eq_true rfl) ⟨Nat.zero_le _, Nat.zero_le _⟩ ?_
          intro v0 w0 hq
          obtain ⟨z_106_4, q_106_4, W2_106_4, rfl, rfl, hq0_106_4, hq1_106_4, hq2_106_4, hq3_106_4, hq4_106_4⟩ := hq
          refine ⟨(fst_k (fst_k (fst_k rfl))), ?_⟩
          show fSt l G X 0 0 109 [(1, vI 1), (0, .ref m0)] [vI z_106_4] [cO m0 7 [x1, x2, x3, x4, x5, .ref m4, vI n, vI q_106_4, vI fr, vI rs, vI ca, vI os, vI (tx i), .ref m5], cA m4 G.2.1.1 60 tx, cA m5 G.2.1.1 3 W2_106_4]
          refine s_if_eq 137 C dX7_reads_109 (by decide) (by omega) (fun h_109 => ?_) (fun h_109 => ?_)
          · refine s_iconst C dX7_reads_137 ?_
            refine s_istore_n 2 [(2, vI 0), (1, vI 1), (0, .ref m0)] C dX7_reads_138 rfl (by decide) rfl ?_
            refine s_iload_n 2 C dX7_reads_139 rfl 0 rfl ?_
            refine s_if_eq 182 C dX7_reads_140 (by decide) (by decide) (fun h => ?_) (fun h => absurd h (by decide))
            refine s_iconst C dX7_reads_182 ?_
            exact s_zret C E dX7_reads_183 rfl ⟨0, q_106_4, (tx i), W2_106_4, rfl, rfl, (rd1_f hfm (nr := 3) (by omega) hq2_106_4 hq0_106_4 (by omega)), (fun _ => hxi)⟩
          · have hx0 : i + 1 < q_106_4 ∧ W2_106_4 = uZ W 0 (nV tx n (i + 1)) := by rcases hq1_106_4 with ⟨g1, g2, g3⟩ | ⟨g1, g2⟩; (· exact ⟨g1, g3⟩); (· exfalso; omega)
            have hV0 : W2_106_4 0 = nV tx n (i + 1) := (by rw [hx0.2]; exact uZ_s)
            refine s_iload_n 1 C dX7_reads_112 rfl 0 rfl ?_
            refine s_if_ne 133 C dX7_reads_113 (by decide) (by decide) (fun h => ?_) (fun h => absurd h (by decide))
            refine s_iconst C dX7_reads_133 ?_
            refine s_goto 138 C dX7_reads_134 (by decide) ?_
            refine s_istore_n 2 [(2, vI 1), (1, vI 1), (0, .ref m0)] C dX7_reads_138 rfl (by decide) rfl ?_
            refine s_iload_n 2 C dX7_reads_139 rfl 0 rfl ?_
            refine s_if_eq 182 C dX7_reads_140 (by decide) (by decide) (fun h => absurd h (by decide)) (fun h => ?_)
            refine s_aload_n 0 C dX7_reads_143 rfl 2 rfl ?_
            refine s_get C dX7_reads_144 7 rfl hinX7 0 rfl 12 (by decide) (by decide +kernel) rfl ?_
            refine s_bipush (z := 112) C dX7_reads_147 rfl ?_
            refine s_icmp_ne 169 C dX7_reads_149 (by decide) (by omega) (by omega) (fun h_149 => ?_) (fun h_149 => ?_)
            · refine s_aload_n 0 C dX7_reads_169 rfl 2 rfl ?_
              refine s_bipush (z := 59) C dX7_reads_170 rfl ?_
              refine s_callV (As := [vI 59]) (rest := []) C dX7_reads_172 (c_X7_sign l G m0 m4 m5 (x1) (x2) (x3) (x4) (x5) n q_106_4 fr rs ca os (tx i) tx 59 (by first | assumption | omega) hX (by first | assumption | omega) (by first | assumption | omega)) gX7_reads_X7_sign rfl 1 (by decide +kernel) (by decide) 0 7 rfl rfl rfl [0, 1] rfl (by decide) rfl (Nat.le_of_ble_eq_true rfl) ⟨Nat.zero_le _, Nat.zero_le _⟩ ?_
              intro v0 w0 hq
              obtain ⟨z_172_5, q_172_5, rfl, rfl, hq0_172_5⟩ := hq
              refine ⟨(fst_k rfl), ?_⟩
              show fSt l G X 0 0 175 [(2, vI 1), (1, vI 1), (0, .ref m0)] [vI z_172_5] [cO m0 7 [x1, x2, x3, x4, x5, .ref m4, vI n, vI q_172_5, vI fr, vI rs, vI ca, vI os, vI (tx i), .ref m5], cA m4 G.2.1.1 60 tx, cA m5 G.2.1.1 3 W2_106_4]
              refine s_if_eq 182 C dX7_reads_175 (by decide) (by omega) (fun h_175 => ?_) (fun h_175 => ?_)
              · refine s_iconst C dX7_reads_182 ?_
                exact s_zret C E dX7_reads_183 rfl ⟨0, q_172_5, (tx i), W2_106_4, rfl, rfl, (by have hf : q_172_5 = q_106_4 ∧ chA tx n q_106_4 ≠ 59 := (by rcases hq0_172_5 with ⟨g1, g2, g3⟩ | ⟨g1, g2, g3⟩; (· exfalso; omega); (· exact ⟨g3, g1⟩)); rw [hf.1]; exact (rd1_f hfm (nr := 3) (by omega) hq2_106_4 hq0_106_4 (by omega))), (fun _ => hxi)⟩
              · have hs2 : chA tx n q_106_4 = 59 ∧ q_172_5 = q_106_4 + 1 := by rcases hq0_172_5 with ⟨g1, g2, g3⟩ | ⟨g1, g2, g3⟩; (· exact ⟨g1, g3⟩); (· exfalso; omega)
                have hl2 := chA_lt (X := tx) (n := n) (i := q_106_4) (by omega)
                refine s_iconst C dX7_reads_178 ?_
                refine s_goto 183 C dX7_reads_179 (by decide) ?_
                exact s_zret C E dX7_reads_183 rfl ⟨1, q_172_5, (tx i), W2_106_4, rfl, rfl, (by rw [hs2.2]; exact (rd1_t hfm (nr := 3) (by omega) hq2_106_4 hq0_106_4 (by omega) (by omega) hV0)), (fun _ => hxi)⟩
            · exfalso
              omega
        · refine s_aload_n 0 C dX7_reads_55 rfl 0 rfl ?_
          refine s_get C dX7_reads_56 7 rfl hinX7 0 rfl 12 (by decide) (by decide +kernel) rfl ?_
          refine s_bipush (z := 116) C dX7_reads_59 rfl ?_
          refine s_icmp_ne 68 C dX7_reads_61 (by decide) (by omega) (by omega) (fun h_61 => ?_) (fun h_61 => ?_)
          · exfalso
            omega
          · refine s_iconst C dX7_reads_64 ?_
            refine s_goto 69 C dX7_reads_65 (by decide) ?_
            refine s_istore_n 1 [(1, vI 1), (0, .ref m0)] C dX7_reads_69 rfl (by decide) rfl ?_
            refine s_iload_n 1 C dX7_reads_70 rfl 0 rfl ?_
            refine s_if_ne 94 C dX7_reads_71 (by decide) (by decide) (fun h => ?_) (fun h => absurd h (by decide))
            refine s_aload_n 0 C dX7_reads_94 rfl 1 rfl ?_
            refine s_dup C dX7_reads_95 rfl ?_
            refine s_get C dX7_reads_96 7 rfl hinX7 0 rfl 7 (by decide) (by decide +kernel) rfl ?_
            refine s_iconst C dX7_reads_99 ?_
            refine s_iadd C dX7_reads_100 ?_
            refine s_put [cO m0 7 [x1, x2, x3, x4, x5, .ref m4, vI n, vI (i + 1), vI fr, vI rs, vI ca, vI os, vI (tx i), .ref m5], cA m4 G.2.1.1 60 tx, cA m5 G.2.1.1 3 W] C dX7_reads_101 7 rfl hinX7 tyX7 tyX7_ok nmX7 0 rfl 7 (by decide) (by decide +kernel) rfl rfl rfl (Nat.le_of_ble_eq_true rfl) rfl ?_
            refine s_aload_n 0 C dX7_reads_104 rfl 1 rfl ?_
            refine s_iconst C dX7_reads_105 ?_
            refine s_callV (As := [vI 0]) (rest := []) C dX7_reads_106 (c_X7_number l G m0 m4 m5 (x1) (x2) (x3) (x4) (x5) n (i + 1) fr rs ca os (tx i) tx W 0 (by first | assumption | omega) hX (by first | assumption | omega) (by first | assumption | omega) hW) gX7_reads_X7_number rfl 1 (by decide +kernel) (by decide) 0 7 rfl rfl rfl [0, 1, 2] rfl (by decide) rfl (Nat.le_of_ble_eq_true rfl) ⟨Nat.zero_le _, Nat.zero_le _⟩ ?_
            intro v0 w0 hq
            obtain ⟨z_106_6, q_106_6, W2_106_6, rfl, rfl, hq0_106_6, hq1_106_6, hq2_106_6, hq3_106_6, hq4_106_6⟩ := hq
            refine ⟨(fst_k (fst_k (fst_k rfl))), ?_⟩
            show fSt l G X 0 0 109 [(1, vI 1), (0, .ref m0)] [vI z_106_6] [cO m0 7 [x1, x2, x3, x4, x5, .ref m4, vI n, vI q_106_6, vI fr, vI rs, vI ca, vI os, vI (tx i), .ref m5], cA m4 G.2.1.1 60 tx, cA m5 G.2.1.1 3 W2_106_6]
            refine s_if_eq 137 C dX7_reads_109 (by decide) (by omega) (fun h_109 => ?_) (fun h_109 => ?_)
            · refine s_iconst C dX7_reads_137 ?_
              refine s_istore_n 2 [(2, vI 0), (1, vI 1), (0, .ref m0)] C dX7_reads_138 rfl (by decide) rfl ?_
              refine s_iload_n 2 C dX7_reads_139 rfl 0 rfl ?_
              refine s_if_eq 182 C dX7_reads_140 (by decide) (by decide) (fun h => ?_) (fun h => absurd h (by decide))
              refine s_iconst C dX7_reads_182 ?_
              exact s_zret C E dX7_reads_183 rfl ⟨0, q_106_6, (tx i), W2_106_6, rfl, rfl, (rd1_f hfm (nr := 3) (by omega) hq2_106_6 hq0_106_6 (by omega)), (fun _ => hxi)⟩
            · have hx0 : i + 1 < q_106_6 ∧ W2_106_6 = uZ W 0 (nV tx n (i + 1)) := by rcases hq1_106_6 with ⟨g1, g2, g3⟩ | ⟨g1, g2⟩; (· exact ⟨g1, g3⟩); (· exfalso; omega)
              have hV0 : W2_106_6 0 = nV tx n (i + 1) := (by rw [hx0.2]; exact uZ_s)
              refine s_iload_n 1 C dX7_reads_112 rfl 0 rfl ?_
              refine s_if_ne 133 C dX7_reads_113 (by decide) (by decide) (fun h => ?_) (fun h => absurd h (by decide))
              refine s_iconst C dX7_reads_133 ?_
              refine s_goto 138 C dX7_reads_134 (by decide) ?_
              refine s_istore_n 2 [(2, vI 1), (1, vI 1), (0, .ref m0)] C dX7_reads_138 rfl (by decide) rfl ?_
              refine s_iload_n 2 C dX7_reads_139 rfl 0 rfl ?_
              refine s_if_eq 182 C dX7_reads_140 (by decide) (by decide) (fun h => absurd h (by decide)) (fun h => ?_)
              refine s_aload_n 0 C dX7_reads_143 rfl 2 rfl ?_
              refine s_get C dX7_reads_144 7 rfl hinX7 0 rfl 12 (by decide) (by decide +kernel) rfl ?_
              refine s_bipush (z := 112) C dX7_reads_147 rfl ?_
              refine s_icmp_ne 169 C dX7_reads_149 (by decide) (by omega) (by omega) (fun h_149 => ?_) (fun h_149 => ?_)
              · refine s_aload_n 0 C dX7_reads_169 rfl 2 rfl ?_
                refine s_bipush (z := 59) C dX7_reads_170 rfl ?_
                refine s_callV (As := [vI 59]) (rest := []) C dX7_reads_172 (c_X7_sign l G m0 m4 m5 (x1) (x2) (x3) (x4) (x5) n q_106_6 fr rs ca os (tx i) tx 59 (by first | assumption | omega) hX (by first | assumption | omega) (by first | assumption | omega)) gX7_reads_X7_sign rfl 1 (by decide +kernel) (by decide) 0 7 rfl rfl rfl [0, 1] rfl (by decide) rfl (Nat.le_of_ble_eq_true rfl) ⟨Nat.zero_le _, Nat.zero_le _⟩ ?_
                intro v0 w0 hq
                obtain ⟨z_172_7, q_172_7, rfl, rfl, hq0_172_7⟩ := hq
                refine ⟨(fst_k rfl), ?_⟩
                show fSt l G X 0 0 175 [(2, vI 1), (1, vI 1), (0, .ref m0)] [vI z_172_7] [cO m0 7 [x1, x2, x3, x4, x5, .ref m4, vI n, vI q_172_7, vI fr, vI rs, vI ca, vI os, vI (tx i), .ref m5], cA m4 G.2.1.1 60 tx, cA m5 G.2.1.1 3 W2_106_6]
                refine s_if_eq 182 C dX7_reads_175 (by decide) (by omega) (fun h_175 => ?_) (fun h_175 => ?_)
                · refine s_iconst C dX7_reads_182 ?_
                  exact s_zret C E dX7_reads_183 rfl ⟨0, q_172_7, (tx i), W2_106_6, rfl, rfl, (by have hf : q_172_7 = q_106_6 ∧ chA tx n q_106_6 ≠ 59 := (by rcases hq0_172_7 with ⟨g1, g2, g3⟩ | ⟨g1, g2, g3⟩; (· exfalso; omega); (· exact ⟨g3, g1⟩)); rw [hf.1]; exact (rd1_f hfm (nr := 3) (by omega) hq2_106_6 hq0_106_6 (by omega))), (fun _ => hxi)⟩
                · have hs2 : chA tx n q_106_6 = 59 ∧ q_172_7 = q_106_6 + 1 := by rcases hq0_172_7 with ⟨g1, g2, g3⟩ | ⟨g1, g2, g3⟩; (· exact ⟨g1, g3⟩); (· exfalso; omega)
                  have hl2 := chA_lt (X := tx) (n := n) (i := q_106_6) (by omega)
                  refine s_iconst C dX7_reads_178 ?_
                  refine s_goto 183 C dX7_reads_179 (by decide) ?_
                  exact s_zret C E dX7_reads_183 rfl ⟨1, q_172_7, (tx i), W2_106_6, rfl, rfl, (by rw [hs2.2]; exact (rd1_t hfm (nr := 3) (by omega) hq2_106_6 hq0_106_6 (by omega) (by omega) hV0)), (fun _ => hxi)⟩
              · exfalso
                omega

set_option maxHeartbeats 4000000 in
set_option maxRecDepth 100000 in
theorem c_X7_reads_2 (l : Launch) (G : fG) (m0 m4 m5 : Nat) (x1 x2 x3 x4 x5 : Value) (n i fr rs ca os od : Int) (tx W : Int → Int) (hn : 0 ≤ n ∧ n ≤ 60) (hX : rX tx) (hi : 0 ≤ i ∧ i < n) (hW : rF W) (hk : chA tx n i = 115) : fCt l G yX7_reads wsX7_reads 3 66 0 0 [.ref m0] [cO m0 7 [x1, x2, x3, x4, x5, .ref m4, vI n, vI i, vI fr, vI rs, vI ca, vI os, vI od, .ref m5], cA m4 G.2.1.1 60 tx, cA m5 G.2.1.1 3 W] (fun (v0 : Option Value) (w0 : va_W) => ∃ (z q od2 : Int) (W2 : Int → Int), v0 = some (vI z) ∧ w0 = [cO m0 7 [x1, x2, x3, x4, x5, .ref m4, vI n, vI q, vI fr, vI rs, vI ca, vI os, vI od2, .ref m5], cA m4 G.2.1.1 60 tx, cA m5 G.2.1.1 3 W2] ∧ (RO tx n i z q 3 W2) ∧ (rdO tx n i = true → od2 = chA tx n i)) := by
  refine fs_met (cc := cX7_reads) (nL := 3) (ret := (some .boolean)) (by decide) rfl (Nat.le_of_ble_eq_true rfl) ?_
  intro X C E
  show fSt l G X 0 0 0 [(0, .ref m0)] [] [cO m0 7 [x1, x2, x3, x4, x5, .ref m4, vI n, vI i, vI fr, vI rs, vI ca, vI os, vI od, .ref m5], cA m4 G.2.1.1 60 tx, cA m5 G.2.1.1 3 W]
  have hinX7 : ∀ w ∈ u_ws RX7 TX7 14, w ∈ wsX7_reads := by decide +kernel
  have hcp := chA_rg (X := tx) (n := n) (i := i) hX
  have hfm := fmN_2 hk
  have hxi : tx i = chA tx n i := (chA_in (by omega)).symm
  refine s_aload_n 0 C dX7_reads_0 rfl 0 rfl ?_
  refine s_aload_n 0 C dX7_reads_1 rfl 0 rfl ?_
  refine s_bipush (z := 33) C dX7_reads_2 rfl ?_
  refine s_bipush (z := 126) C dX7_reads_4 rfl ?_
  refine s_callV (As := [vI 33, vI 126]) (rest := [.ref m0]) C dX7_reads_6 (c_X7_isAt l G m0 m4 m5 (x1) (x2) (x3) (x4) (x5) n i fr rs ca os od tx 33 126 (by first | assumption | omega) hX (by first | assumption | omega) (by first | assumption | omega)) gX7_reads_X7_isAt rfl 2 (by decide +kernel) (by decide) 0 7 rfl rfl rfl [0, 1] rfl (by decide) rfl (Nat.le_of_ble_eq_true rfl) ⟨Nat.zero_le _, Nat.zero_le _⟩ ?_
  intro v0 w0 hq
  obtain ⟨rfl, rfl⟩ := hq
  refine ⟨rfl, ?_⟩
  show fSt l G X 0 0 9 [(0, .ref m0)] [vI (bI (33 ≤ chA tx n i ∧ chA tx n i ≤ 126)), .ref m0] [cO m0 7 [x1, x2, x3, x4, x5, .ref m4, vI n, vI i, vI fr, vI rs, vI ca, vI os, vI od, .ref m5], cA m4 G.2.1.1 60 tx, cA m5 G.2.1.1 3 W]
  refine s_if_eq 24 C dX7_reads_9 (by decide) bI_rng (fun h_9 => ?_) (fun h_9 => ?_)
  · have h_9 := bI_f h_9
    exfalso
    omega
  · have h_9 := bI_t h_9
    refine s_aload_n 0 C dX7_reads_12 rfl 0 rfl ?_
    refine s_get C dX7_reads_13 7 rfl hinX7 0 rfl 5 (by decide) (by decide +kernel) rfl ?_
    refine s_aload_n 0 C dX7_reads_16 rfl 0 rfl ?_
    refine s_get C dX7_reads_17 7 rfl hinX7 0 rfl 7 (by decide) (by decide +kernel) rfl ?_
    refine s_iald C dX7_reads_20 1 rfl i rfl (by omega) (by omega) (by omega) ?_
    refine s_goto 25 C dX7_reads_21 (by decide) ?_
    refine s_put [cO m0 7 [x1, x2, x3, x4, x5, .ref m4, vI n, vI i, vI fr, vI rs, vI ca, vI os, vI (tx i), .ref m5], cA m4 G.2.1.1 60 tx, cA m5 G.2.1.1 3 W] C dX7_reads_25 7 rfl hinX7 tyX7 tyX7_ok nmX7 0 rfl 12 (by decide) (by decide +kernel) rfl rfl rfl (Nat.le_of_ble_eq_true rfl) rfl ?_
    refine s_aload_n 0 C dX7_reads_28 rfl 0 rfl ?_
    refine s_get C dX7_reads_29 7 rfl hinX7 0 rfl 12 (by decide) (by decide +kernel) rfl ?_
    refine s_bipush (z := 111) C dX7_reads_32 rfl ?_
    refine s_icmp_eq 64 C dX7_reads_34 (by decide) (by omega) (by omega) (fun h_34 => ?_) (fun h_34 => ?_)
    · exfalso
      omega
    · refine s_aload_n 0 C dX7_reads_37 rfl 0 rfl ?_
      refine s_get C dX7_reads_38 7 rfl hinX7 0 rfl 12 (by decide) (by decide +kernel) rfl ?_
      refine s_bipush (z := 99) C dX7_reads_41 rfl ?_
      refine s_icmp_eq 64 C dX7_reads_43 (by decide) (by omega) (by omega) (fun h_43 => ?_) (fun h_43 => ?_)
      · exfalso
        omega
      · refine s_aload_n 0 C dX7_reads_46 rfl 0 rfl ?_
        refine s_get C dX7_reads_47 7 rfl hinX7 0 rfl 12 (by decide) (by decide +kernel) rfl ?_
        refine s_bipush (z := 97) C dX7_reads_50 rfl ?_
        refine s_icmp_eq 64 C dX7_reads_52 (by decide) (by omega) (by omega) (fun h_52 => ?_) (fun h_52 => ?_)
        · exfalso
          omega
        · refine s_aload_n 0 C dX7_reads_55 rfl 0 rfl ?_
          refine s_get C dX7_reads_56 7 rfl hinX7 0 rfl 12 (by decide) (by decide +kernel) rfl ?_
          refine s_bipush (z := 116) C dX7_reads_59 rfl ?_
          refine s_icmp_ne 68 C dX7_reads_61 (by decide) (by omega) (by omega) (fun h_61 => ?_) (fun h_61 => ?_)
          · refine s_iconst C dX7_reads_68 ?_
            refine s_istore_n 1 [(1, vI 0), (0, .ref m0)] C dX7_reads_69 rfl (by decide) rfl ?_
            refine s_iload_n 1 C dX7_reads_70 rfl 0 rfl ?_
            refine s_if_ne 94 C dX7_reads_71 (by decide) (by decide) (fun h => absurd h (by decide)) (fun h => ?_)
            refine s_aload_n 0 C dX7_reads_74 rfl 1 rfl ?_
            refine s_get C dX7_reads_75 7 rfl hinX7 0 rfl 12 (by decide) (by decide +kernel) rfl ?_
            refine s_bipush (z := 112) C dX7_reads_78 rfl ?_
            refine s_icmp_eq 94 C dX7_reads_80 (by decide) (by omega) (by omega) (fun h_80 => ?_) (fun h_80 => ?_)
            · exfalso
              omega
            · refine s_aload_n 0 C dX7_reads_83 rfl 1 rfl ?_
              refine s_get C dX7_reads_84 7 rfl hinX7 0 rfl 12 (by decide) (by decide +kernel) rfl ?_
              refine s_bipush (z := 115) C dX7_reads_87 rfl ?_
              refine s_icmp_eq 94 C dX7_reads_89 (by decide) (by omega) (by omega) (fun h_89 => ?_) (fun h_89 => ?_)
              · refine s_aload_n 0 C dX7_reads_94 rfl 1 rfl ?_
                refine s_dup C dX7_reads_95 rfl ?_
                refine s_get C dX7_reads_96 7 rfl hinX7 0 rfl 7 (by decide) (by decide +kernel) rfl ?_
                refine s_iconst C dX7_reads_99 ?_
                refine s_iadd C dX7_reads_100 ?_
                refine s_put [cO m0 7 [x1, x2, x3, x4, x5, .ref m4, vI n, vI (i + 1), vI fr, vI rs, vI ca, vI os, vI (tx i), .ref m5], cA m4 G.2.1.1 60 tx, cA m5 G.2.1.1 3 W] C dX7_reads_101 7 rfl hinX7 tyX7 tyX7_ok nmX7 0 rfl 7 (by decide) (by decide +kernel) rfl rfl rfl (Nat.le_of_ble_eq_true rfl) rfl ?_
                refine s_aload_n 0 C dX7_reads_104 rfl 1 rfl ?_
                refine s_iconst C dX7_reads_105 ?_
                refine s_callV (As := [vI 0]) (rest := []) C dX7_reads_106 (c_X7_number l G m0 m4 m5 (x1) (x2) (x3) (x4) (x5) n (i + 1) fr rs ca os (tx i) tx W 0 (by first | assumption | omega) hX (by first | assumption | omega) (by first | assumption | omega) hW) gX7_reads_X7_number rfl 1 (by decide +kernel) (by decide) 0 7 rfl rfl rfl [0, 1, 2] rfl (by decide) rfl (Nat.le_of_ble_eq_true rfl) ⟨Nat.zero_le _, Nat.zero_le _⟩ ?_
                intro v0 w0 hq
                obtain ⟨z_106_0, q_106_0, W2_106_0, rfl, rfl, hq0_106_0, hq1_106_0, hq2_106_0, hq3_106_0, hq4_106_0⟩ := hq
                refine ⟨(fst_k (fst_k (fst_k rfl))), ?_⟩
                show fSt l G X 0 0 109 [(1, vI 0), (0, .ref m0)] [vI z_106_0] [cO m0 7 [x1, x2, x3, x4, x5, .ref m4, vI n, vI q_106_0, vI fr, vI rs, vI ca, vI os, vI (tx i), .ref m5], cA m4 G.2.1.1 60 tx, cA m5 G.2.1.1 3 W2_106_0]
                refine s_if_eq 137 C dX7_reads_109 (by decide) (by omega) (fun h_109 => ?_) (fun h_109 => ?_)
                · refine s_iconst C dX7_reads_137 ?_
                  refine s_istore_n 2 [(2, vI 0), (1, vI 0), (0, .ref m0)] C dX7_reads_138 rfl (by decide) rfl ?_
                  refine s_iload_n 2 C dX7_reads_139 rfl 0 rfl ?_
                  refine s_if_eq 182 C dX7_reads_140 (by decide) (by decide) (fun h => ?_) (fun h => absurd h (by decide))
                  refine s_iconst C dX7_reads_182 ?_
                  exact s_zret C E dX7_reads_183 rfl ⟨0, q_106_0, (tx i), W2_106_0, rfl, rfl, (rd23_a (Or.inl hfm) (nr := 3) (by omega) hq2_106_0 hq0_106_0 (by omega)), (fun _ => hxi)⟩
                · have hx0 : i + 1 < q_106_0 ∧ W2_106_0 = uZ W 0 (nV tx n (i + 1)) := by rcases hq1_106_0 with ⟨g1, g2, g3⟩ | ⟨g1, g2⟩; (· exact ⟨g1, g3⟩); (· exfalso; omega)
                  have hV0 : W2_106_0 0 = nV tx n (i + 1) := (by rw [hx0.2]; exact uZ_s)
                  refine s_iload_n 1 C dX7_reads_112 rfl 0 rfl ?_
                  refine s_if_ne 133 C dX7_reads_113 (by decide) (by decide) (fun h => absurd h (by decide)) (fun h => ?_)
                  refine s_aload_n 0 C dX7_reads_116 rfl 1 rfl ?_
                  refine s_bipush (z := 44) C dX7_reads_117 rfl ?_
                  refine s_callV (As := [vI 44]) (rest := []) C dX7_reads_119 (c_X7_sign l G m0 m4 m5 (x1) (x2) (x3) (x4) (x5) n q_106_0 fr rs ca os (tx i) tx 44 (by first | assumption | omega) hX (by first | assumption | omega) (by first | assumption | omega)) gX7_reads_X7_sign rfl 1 (by decide +kernel) (by decide) 0 7 rfl rfl rfl [0, 1] rfl (by decide) rfl (Nat.le_of_ble_eq_true rfl) ⟨Nat.zero_le _, Nat.zero_le _⟩ ?_
                  intro v0 w0 hq
                  obtain ⟨z_119_1, q_119_1, rfl, rfl, hq0_119_1⟩ := hq
                  refine ⟨(fst_k rfl), ?_⟩
                  show fSt l G X 0 0 122 [(1, vI 0), (0, .ref m0)] [vI z_119_1] [cO m0 7 [x1, x2, x3, x4, x5, .ref m4, vI n, vI q_119_1, vI fr, vI rs, vI ca, vI os, vI (tx i), .ref m5], cA m4 G.2.1.1 60 tx, cA m5 G.2.1.1 3 W2_106_0]
                  refine s_if_eq 137 C dX7_reads_122 (by decide) (by omega) (fun h_122 => ?_) (fun h_122 => ?_)
                  · refine s_iconst C dX7_reads_137 ?_
                    refine s_istore_n 2 [(2, vI 0), (1, vI 0), (0, .ref m0)] C dX7_reads_138 rfl (by decide) rfl ?_
                    refine s_iload_n 2 C dX7_reads_139 rfl 0 rfl ?_
                    refine s_if_eq 182 C dX7_reads_140 (by decide) (by decide) (fun h => ?_) (fun h => absurd h (by decide))
                    refine s_iconst C dX7_reads_182 ?_
                    exact s_zret C E dX7_reads_183 rfl ⟨0, q_119_1, (tx i), W2_106_0, rfl, rfl, (by have hf : q_119_1 = q_106_0 ∧ chA tx n q_106_0 ≠ 44 := (by rcases hq0_119_1 with ⟨g1, g2, g3⟩ | ⟨g1, g2, g3⟩; (· exfalso; omega); (· exact ⟨g3, g1⟩)); rw [hf.1]; exact (rd23_a (Or.inl hfm) (nr := 3) (by omega) hq2_106_0 hq0_106_0 (by omega))), (fun _ => hxi)⟩
                  · have hs0 : chA tx n q_106_0 = 44 ∧ q_119_1 = q_106_0 + 1 := by rcases hq0_119_1 with ⟨g1, g2, g3⟩ | ⟨g1, g2, g3⟩; (· exact ⟨g1, g3⟩); (· exfalso; omega)
                    have hl0 := chA_lt (X := tx) (n := n) (i := q_106_0) (by omega)
                    refine s_aload_n 0 C dX7_reads_125 rfl 1 rfl ?_
                    refine s_iconst C dX7_reads_126 ?_
                    refine s_callV (As := [vI 1]) (rest := []) C dX7_reads_127 (c_X7_number l G m0 m4 m5 (x1) (x2) (x3) (x4) (x5) n q_119_1 fr rs ca os (tx i) tx W2_106_0 1 (by first | assumption | omega) hX (by first | assumption | omega) (by first | assumption | omega) hq2_106_0) gX7_reads_X7_number rfl 1 (by decide +kernel) (by decide) 0 7 rfl rfl rfl [0, 1, 2] rfl (by decide) rfl (Nat.le_of_ble_eq_true rfl) ⟨Nat.zero_le _, Nat.zero_le _⟩ ?_
                    intro v0 w0 hq
                    obtain ⟨z_127_2, q_127_2, W2_127_2, rfl, rfl, hq0_127_2, hq1_127_2, hq2_127_2, hq3_127_2, hq4_127_2⟩ := hq
                    refine ⟨(fst_k (fst_k (fst_k rfl))), ?_⟩
                    show fSt l G X 0 0 130 [(1, vI 0), (0, .ref m0)] [vI z_127_2] [cO m0 7 [x1, x2, x3, x4, x5, .ref m4, vI n, vI q_127_2, vI fr, vI rs, vI ca, vI os, vI (tx i), .ref m5], cA m4 G.2.1.1 60 tx, cA m5 G.2.1.1 3 W2_127_2]
                    refine s_if_eq 137 C dX7_reads_130 (by decide) (by omega) (fun h_130 => ?_) (fun h_130 => ?_)
                    · refine s_iconst C dX7_reads_137 ?_
                      refine s_istore_n 2 [(2, vI 0), (1, vI 0), (0, .ref m0)] C dX7_reads_138 rfl (by decide) rfl ?_
                      refine s_iload_n 2 C dX7_reads_139 rfl 0 rfl ?_
                      refine s_if_eq 182 C dX7_reads_140 (by decide) (by decide) (fun h => ?_) (fun h => absurd h (by decide))
                      refine s_iconst C dX7_reads_182 ?_
                      exact s_zret C E dX7_reads_183 rfl ⟨0, q_127_2, (tx i), W2_127_2, rfl, rfl, (rd2_f hfm (nr := 3) (by omega) hq2_127_2 hq0_106_0 (by omega) (by omega) hs0.2 hq0_127_2 (by omega)), (fun _ => hxi)⟩
                    · have hx1 : q_119_1 < q_127_2 ∧ W2_127_2 = uZ W2_106_0 1 (nV tx n q_119_1) := by rcases hq1_127_2 with ⟨g1, g2, g3⟩ | ⟨g1, g2⟩; (· exact ⟨g1, g3⟩); (· exfalso; omega)
                      have hV0 : W2_127_2 0 = nV tx n (i + 1) := ((hq4_127_2 0 (by omega)).trans hV0)
                      have hV1 : W2_127_2 1 = nV tx n q_119_1 := (by rw [hx1.2]; exact uZ_s)
                      refine s_iconst C dX7_reads_133 ?_
                      refine s_goto 138 C dX7_reads_134 (by decide) ?_
                      refine s_istore_n 2 [(2, vI 1), (1, vI 0), (0, .ref m0)] C dX7_reads_138 rfl (by decide) rfl ?_
                      refine s_iload_n 2 C dX7_reads_139 rfl 0 rfl ?_
                      refine s_if_eq 182 C dX7_reads_140 (by decide) (by decide) (fun h => absurd h (by decide)) (fun h => ?_)
                      refine s_aload_n 0 C dX7_reads_143 rfl 2 rfl ?_
                      refine s_get C dX7_reads_144 7 rfl hinX7 0 rfl 12 (by decide) (by decide +kernel) rfl ?_
                      refine s_bipush (z := 112) C dX7_reads_147 rfl ?_
                      refine s_icmp_ne 169 C dX7_reads_149 (by decide) (by omega) (by omega) (fun h_149 => ?_) (fun h_149 => ?_)
                      · refine s_aload_n 0 C dX7_reads_169 rfl 2 rfl ?_
                        refine s_bipush (z := 59) C dX7_reads_170 rfl ?_
                        refine s_callV (As := [vI 59]) (rest := []) C dX7_reads_172 (c_X7_sign l G m0 m4 m5 (x1) (x2) (x3) (x4) (x5) n q_127_2 fr rs ca os (tx i) tx 59 (by first | assumption | omega) hX (by first | assumption | omega) (by first | assumption | omega)) gX7_reads_X7_sign rfl 1 (by decide +kernel) (by decide) 0 7 rfl rfl rfl [0, 1] rfl (by decide) rfl (Nat.le_of_ble_eq_true rfl) ⟨Nat.zero_le _, Nat.zero_le _⟩ ?_
                        intro v0 w0 hq
                        obtain ⟨z_172_3, q_172_3, rfl, rfl, hq0_172_3⟩ := hq
                        refine ⟨(fst_k rfl), ?_⟩
                        show fSt l G X 0 0 175 [(2, vI 1), (1, vI 0), (0, .ref m0)] [vI z_172_3] [cO m0 7 [x1, x2, x3, x4, x5, .ref m4, vI n, vI q_172_3, vI fr, vI rs, vI ca, vI os, vI (tx i), .ref m5], cA m4 G.2.1.1 60 tx, cA m5 G.2.1.1 3 W2_127_2]
                        refine s_if_eq 182 C dX7_reads_175 (by decide) (by omega) (fun h_175 => ?_) (fun h_175 => ?_)
                        · refine s_iconst C dX7_reads_182 ?_
                          exact s_zret C E dX7_reads_183 rfl ⟨0, q_172_3, (tx i), W2_127_2, rfl, rfl, (by have hf : q_172_3 = q_127_2 ∧ chA tx n q_127_2 ≠ 59 := (by rcases hq0_172_3 with ⟨g1, g2, g3⟩ | ⟨g1, g2, g3⟩; (· exfalso; omega); (· exact ⟨g3, g1⟩)); rw [hf.1]; exact (rd2_f hfm (nr := 3) (by omega) hq2_127_2 hq0_106_0 (by omega) (by omega) hs0.2 hq0_127_2 (by omega))), (fun _ => hxi)⟩
                        · have hs2 : chA tx n q_127_2 = 59 ∧ q_172_3 = q_127_2 + 1 := by rcases hq0_172_3 with ⟨g1, g2, g3⟩ | ⟨g1, g2, g3⟩; (· exact ⟨g1, g3⟩); (· exfalso; omega)
                          have hl2 := chA_lt (X := tx) (n := n) (i := q_127_2) (by omega)
                          refine s_iconst C dX7_reads_178 ?_
                          refine s_goto 183 C dX7_reads_179 (by decide) ?_
                          exact s_zret C E dX7_reads_183 rfl ⟨1, q_172_3, (tx i), W2_127_2, rfl, rfl, (by rw [hs2.2]; exact (rd2_t hfm (nr := 3) (by omega) hq2_127_2 hq0_106_0 (by omega) (by omega) hs0.2 hq0_127_2 (by omega) (by omega) hV0 hV1)), (fun _ => hxi)⟩
                      · exfalso
                        omega
              · exfalso
                omega
          · exfalso
            omega

set_option maxHeartbeats 4000000 in
set_option maxRecDepth 100000 in
theorem c_X7_reads_3 (l : Launch) (G : fG) (m0 m4 m5 : Nat) (x1 x2 x3 x4 x5 : Value) (n i fr rs ca os od : Int) (tx W : Int → Int) (hn : 0 ≤ n ∧ n ≤ 60) (hX : rX tx) (hi : 0 ≤ i ∧ i < n) (hW : rF W) (hk : chA tx n i = 112) : fCt l G yX7_reads wsX7_reads 3 66 0 0 [.ref m0] [cO m0 7 [x1, x2, x3, x4, x5, .ref m4, vI n, vI i, vI fr, vI rs, vI ca, vI os, vI od, .ref m5], cA m4 G.2.1.1 60 tx, cA m5 G.2.1.1 3 W] (fun (v0 : Option Value) (w0 : va_W) => ∃ (z q od2 : Int) (W2 : Int → Int), v0 = some (vI z) ∧ w0 = [cO m0 7 [x1, x2, x3, x4, x5, .ref m4, vI n, vI q, vI fr, vI rs, vI ca, vI os, vI od2, .ref m5], cA m4 G.2.1.1 60 tx, cA m5 G.2.1.1 3 W2] ∧ (RO tx n i z q 3 W2) ∧ (rdO tx n i = true → od2 = chA tx n i)) := by
  refine fs_met (cc := cX7_reads) (nL := 3) (ret := (some .boolean)) (by decide) rfl (Nat.le_of_ble_eq_true rfl) ?_
  intro X C E
  show fSt l G X 0 0 0 [(0, .ref m0)] [] [cO m0 7 [x1, x2, x3, x4, x5, .ref m4, vI n, vI i, vI fr, vI rs, vI ca, vI os, vI od, .ref m5], cA m4 G.2.1.1 60 tx, cA m5 G.2.1.1 3 W]
  have hinX7 : ∀ w ∈ u_ws RX7 TX7 14, w ∈ wsX7_reads := by decide +kernel
  have hcp := chA_rg (X := tx) (n := n) (i := i) hX
  have hfm := fmN_3 hk
  have hxi : tx i = chA tx n i := (chA_in (by omega)).symm
  refine s_aload_n 0 C dX7_reads_0 rfl 0 rfl ?_
  refine s_aload_n 0 C dX7_reads_1 rfl 0 rfl ?_
  refine s_bipush (z := 33) C dX7_reads_2 rfl ?_
  refine s_bipush (z := 126) C dX7_reads_4 rfl ?_
  refine s_callV (As := [vI 33, vI 126]) (rest := [.ref m0]) C dX7_reads_6 (c_X7_isAt l G m0 m4 m5 (x1) (x2) (x3) (x4) (x5) n i fr rs ca os od tx 33 126 (by first | assumption | omega) hX (by first | assumption | omega) (by first | assumption | omega)) gX7_reads_X7_isAt rfl 2 (by decide +kernel) (by decide) 0 7 rfl rfl rfl [0, 1] rfl (by decide) rfl (Nat.le_of_ble_eq_true rfl) ⟨Nat.zero_le _, Nat.zero_le _⟩ ?_
  intro v0 w0 hq
  obtain ⟨rfl, rfl⟩ := hq
  refine ⟨rfl, ?_⟩
  show fSt l G X 0 0 9 [(0, .ref m0)] [vI (bI (33 ≤ chA tx n i ∧ chA tx n i ≤ 126)), .ref m0] [cO m0 7 [x1, x2, x3, x4, x5, .ref m4, vI n, vI i, vI fr, vI rs, vI ca, vI os, vI od, .ref m5], cA m4 G.2.1.1 60 tx, cA m5 G.2.1.1 3 W]
  refine s_if_eq 24 C dX7_reads_9 (by decide) bI_rng (fun h_9 => ?_) (fun h_9 => ?_)
  · have h_9 := bI_f h_9
    exfalso
    omega
  · have h_9 := bI_t h_9
    refine s_aload_n 0 C dX7_reads_12 rfl 0 rfl ?_
    refine s_get C dX7_reads_13 7 rfl hinX7 0 rfl 5 (by decide) (by decide +kernel) rfl ?_
    refine s_aload_n 0 C dX7_reads_16 rfl 0 rfl ?_
    refine s_get C dX7_reads_17 7 rfl hinX7 0 rfl 7 (by decide) (by decide +kernel) rfl ?_
    refine s_iald C dX7_reads_20 1 rfl i rfl (by omega) (by omega) (by omega) ?_
    refine s_goto 25 C dX7_reads_21 (by decide) ?_
    refine s_put [cO m0 7 [x1, x2, x3, x4, x5, .ref m4, vI n, vI i, vI fr, vI rs, vI ca, vI os, vI (tx i), .ref m5], cA m4 G.2.1.1 60 tx, cA m5 G.2.1.1 3 W] C dX7_reads_25 7 rfl hinX7 tyX7 tyX7_ok nmX7 0 rfl 12 (by decide) (by decide +kernel) rfl rfl rfl (Nat.le_of_ble_eq_true rfl) rfl ?_
    refine s_aload_n 0 C dX7_reads_28 rfl 0 rfl ?_
    refine s_get C dX7_reads_29 7 rfl hinX7 0 rfl 12 (by decide) (by decide +kernel) rfl ?_
    refine s_bipush (z := 111) C dX7_reads_32 rfl ?_
    refine s_icmp_eq 64 C dX7_reads_34 (by decide) (by omega) (by omega) (fun h_34 => ?_) (fun h_34 => ?_)
    · exfalso
      omega
    · refine s_aload_n 0 C dX7_reads_37 rfl 0 rfl ?_
      refine s_get C dX7_reads_38 7 rfl hinX7 0 rfl 12 (by decide) (by decide +kernel) rfl ?_
      refine s_bipush (z := 99) C dX7_reads_41 rfl ?_
      refine s_icmp_eq 64 C dX7_reads_43 (by decide) (by omega) (by omega) (fun h_43 => ?_) (fun h_43 => ?_)
      · exfalso
        omega
      · refine s_aload_n 0 C dX7_reads_46 rfl 0 rfl ?_
        refine s_get C dX7_reads_47 7 rfl hinX7 0 rfl 12 (by decide) (by decide +kernel) rfl ?_
        refine s_bipush (z := 97) C dX7_reads_50 rfl ?_
        refine s_icmp_eq 64 C dX7_reads_52 (by decide) (by omega) (by omega) (fun h_52 => ?_) (fun h_52 => ?_)
        · exfalso
          omega
        · refine s_aload_n 0 C dX7_reads_55 rfl 0 rfl ?_
          refine s_get C dX7_reads_56 7 rfl hinX7 0 rfl 12 (by decide) (by decide +kernel) rfl ?_
          refine s_bipush (z := 116) C dX7_reads_59 rfl ?_
          refine s_icmp_ne 68 C dX7_reads_61 (by decide) (by omega) (by omega) (fun h_61 => ?_) (fun h_61 => ?_)
          · refine s_iconst C dX7_reads_68 ?_
            refine s_istore_n 1 [(1, vI 0), (0, .ref m0)] C dX7_reads_69 rfl (by decide) rfl ?_
            refine s_iload_n 1 C dX7_reads_70 rfl 0 rfl ?_
            refine s_if_ne 94 C dX7_reads_71 (by decide) (by decide) (fun h => absurd h (by decide)) (fun h => ?_)
            refine s_aload_n 0 C dX7_reads_74 rfl 1 rfl ?_
            refine s_get C dX7_reads_75 7 rfl hinX7 0 rfl 12 (by decide) (by decide +kernel) rfl ?_
            refine s_bipush (z := 112) C dX7_reads_78 rfl ?_
            refine s_icmp_eq 94 C dX7_reads_80 (by decide) (by omega) (by omega) (fun h_80 => ?_) (fun h_80 => ?_)
            · refine s_aload_n 0 C dX7_reads_94 rfl 1 rfl ?_
              refine s_dup C dX7_reads_95 rfl ?_
              refine s_get C dX7_reads_96 7 rfl hinX7 0 rfl 7 (by decide) (by decide +kernel) rfl ?_
              refine s_iconst C dX7_reads_99 ?_
              refine s_iadd C dX7_reads_100 ?_
              refine s_put [cO m0 7 [x1, x2, x3, x4, x5, .ref m4, vI n, vI (i + 1), vI fr, vI rs, vI ca, vI os, vI (tx i), .ref m5], cA m4 G.2.1.1 60 tx, cA m5 G.2.1.1 3 W] C dX7_reads_101 7 rfl hinX7 tyX7 tyX7_ok nmX7 0 rfl 7 (by decide) (by decide +kernel) rfl rfl rfl (Nat.le_of_ble_eq_true rfl) rfl ?_
              refine s_aload_n 0 C dX7_reads_104 rfl 1 rfl ?_
              refine s_iconst C dX7_reads_105 ?_
              refine s_callV (As := [vI 0]) (rest := []) C dX7_reads_106 (c_X7_number l G m0 m4 m5 (x1) (x2) (x3) (x4) (x5) n (i + 1) fr rs ca os (tx i) tx W 0 (by first | assumption | omega) hX (by first | assumption | omega) (by first | assumption | omega) hW) gX7_reads_X7_number rfl 1 (by decide +kernel) (by decide) 0 7 rfl rfl rfl [0, 1, 2] rfl (by decide) rfl (Nat.le_of_ble_eq_true rfl) ⟨Nat.zero_le _, Nat.zero_le _⟩ ?_
              intro v0 w0 hq
              obtain ⟨z_106_0, q_106_0, W2_106_0, rfl, rfl, hq0_106_0, hq1_106_0, hq2_106_0, hq3_106_0, hq4_106_0⟩ := hq
              refine ⟨(fst_k (fst_k (fst_k rfl))), ?_⟩
              show fSt l G X 0 0 109 [(1, vI 0), (0, .ref m0)] [vI z_106_0] [cO m0 7 [x1, x2, x3, x4, x5, .ref m4, vI n, vI q_106_0, vI fr, vI rs, vI ca, vI os, vI (tx i), .ref m5], cA m4 G.2.1.1 60 tx, cA m5 G.2.1.1 3 W2_106_0]
              refine s_if_eq 137 C dX7_reads_109 (by decide) (by omega) (fun h_109 => ?_) (fun h_109 => ?_)
              · refine s_iconst C dX7_reads_137 ?_
                refine s_istore_n 2 [(2, vI 0), (1, vI 0), (0, .ref m0)] C dX7_reads_138 rfl (by decide) rfl ?_
                refine s_iload_n 2 C dX7_reads_139 rfl 0 rfl ?_
                refine s_if_eq 182 C dX7_reads_140 (by decide) (by decide) (fun h => ?_) (fun h => absurd h (by decide))
                refine s_iconst C dX7_reads_182 ?_
                exact s_zret C E dX7_reads_183 rfl ⟨0, q_106_0, (tx i), W2_106_0, rfl, rfl, (rd23_a (Or.inr hfm) (nr := 3) (by omega) hq2_106_0 hq0_106_0 (by omega)), (fun _ => hxi)⟩
              · have hx0 : i + 1 < q_106_0 ∧ W2_106_0 = uZ W 0 (nV tx n (i + 1)) := by rcases hq1_106_0 with ⟨g1, g2, g3⟩ | ⟨g1, g2⟩; (· exact ⟨g1, g3⟩); (· exfalso; omega)
                have hV0 : W2_106_0 0 = nV tx n (i + 1) := (by rw [hx0.2]; exact uZ_s)
                refine s_iload_n 1 C dX7_reads_112 rfl 0 rfl ?_
                refine s_if_ne 133 C dX7_reads_113 (by decide) (by decide) (fun h => absurd h (by decide)) (fun h => ?_)
                refine s_aload_n 0 C dX7_reads_116 rfl 1 rfl ?_
                refine s_bipush (z := 44) C dX7_reads_117 rfl ?_
                refine s_callV (As := [vI 44]) (rest := []) C dX7_reads_119 (c_X7_sign l G m0 m4 m5 (x1) (x2) (x3) (x4) (x5) n q_106_0 fr rs ca os (tx i) tx 44 (by first | assumption | omega) hX (by first | assumption | omega) (by first | assumption | omega)) gX7_reads_X7_sign rfl 1 (by decide +kernel) (by decide) 0 7 rfl rfl rfl [0, 1] rfl (by decide) rfl (Nat.le_of_ble_eq_true rfl) ⟨Nat.zero_le _, Nat.zero_le _⟩ ?_
                intro v0 w0 hq
                obtain ⟨z_119_1, q_119_1, rfl, rfl, hq0_119_1⟩ := hq
                refine ⟨(fst_k rfl), ?_⟩
                show fSt l G X 0 0 122 [(1, vI 0), (0, .ref m0)] [vI z_119_1] [cO m0 7 [x1, x2, x3, x4, x5, .ref m4, vI n, vI q_119_1, vI fr, vI rs, vI ca, vI os, vI (tx i), .ref m5], cA m4 G.2.1.1 60 tx, cA m5 G.2.1.1 3 W2_106_0]
                refine s_if_eq 137 C dX7_reads_122 (by decide) (by omega) (fun h_122 => ?_) (fun h_122 => ?_)
                · refine s_iconst C dX7_reads_137 ?_
                  refine s_istore_n 2 [(2, vI 0), (1, vI 0), (0, .ref m0)] C dX7_reads_138 rfl (by decide) rfl ?_
                  refine s_iload_n 2 C dX7_reads_139 rfl 0 rfl ?_
                  refine s_if_eq 182 C dX7_reads_140 (by decide) (by decide) (fun h => ?_) (fun h => absurd h (by decide))
                  refine s_iconst C dX7_reads_182 ?_
                  exact s_zret C E dX7_reads_183 rfl ⟨0, q_119_1, (tx i), W2_106_0, rfl, rfl, (by have hf : q_119_1 = q_106_0 ∧ chA tx n q_106_0 ≠ 44 := (by rcases hq0_119_1 with ⟨g1, g2, g3⟩ | ⟨g1, g2, g3⟩; (· exfalso; omega); (· exact ⟨g3, g1⟩)); rw [hf.1]; exact (rd23_a (Or.inr hfm) (nr := 3) (by omega) hq2_106_0 hq0_106_0 (by omega))), (fun _ => hxi)⟩
                · have hs0 : chA tx n q_106_0 = 44 ∧ q_119_1 = q_106_0 + 1 := by rcases hq0_119_1 with ⟨g1, g2, g3⟩ | ⟨g1, g2, g3⟩; (· exact ⟨g1, g3⟩); (· exfalso; omega)
                  have hl0 := chA_lt (X := tx) (n := n) (i := q_106_0) (by omega)
                  refine s_aload_n 0 C dX7_reads_125 rfl 1 rfl ?_
                  refine s_iconst C dX7_reads_126 ?_
                  refine s_callV (As := [vI 1]) (rest := []) C dX7_reads_127 (c_X7_number l G m0 m4 m5 (x1) (x2) (x3) (x4) (x5) n q_119_1 fr rs ca os (tx i) tx W2_106_0 1 (by first | assumption | omega) hX (by first | assumption | omega) (by first | assumption | omega) hq2_106_0) gX7_reads_X7_number rfl 1 (by decide +kernel) (by decide) 0 7 rfl rfl rfl [0, 1, 2] rfl (by decide) rfl (Nat.le_of_ble_eq_true rfl) ⟨Nat.zero_le _, Nat.zero_le _⟩ ?_
                  intro v0 w0 hq
                  obtain ⟨z_127_2, q_127_2, W2_127_2, rfl, rfl, hq0_127_2, hq1_127_2, hq2_127_2, hq3_127_2, hq4_127_2⟩ := hq
                  refine ⟨(fst_k (fst_k (fst_k rfl))), ?_⟩
                  show fSt l G X 0 0 130 [(1, vI 0), (0, .ref m0)] [vI z_127_2] [cO m0 7 [x1, x2, x3, x4, x5, .ref m4, vI n, vI q_127_2, vI fr, vI rs, vI ca, vI os, vI (tx i), .ref m5], cA m4 G.2.1.1 60 tx, cA m5 G.2.1.1 3 W2_127_2]
                  refine s_if_eq 137 C dX7_reads_130 (by decide) (by omega) (fun h_130 => ?_) (fun h_130 => ?_)
                  · refine s_iconst C dX7_reads_137 ?_
                    refine s_istore_n 2 [(2, vI 0), (1, vI 0), (0, .ref m0)] C dX7_reads_138 rfl (by decide) rfl ?_
                    refine s_iload_n 2 C dX7_reads_139 rfl 0 rfl ?_
                    refine s_if_eq 182 C dX7_reads_140 (by decide) (by decide) (fun h => ?_) (fun h => absurd h (by decide))
                    refine s_iconst C dX7_reads_182 ?_
                    exact s_zret C E dX7_reads_183 rfl ⟨0, q_127_2, (tx i), W2_127_2, rfl, rfl, (rd3_b hfm (nr := 3) (by omega) hq2_127_2 hq0_106_0 (by omega) (by omega) hs0.2 hq0_127_2 (by omega)), (fun _ => hxi)⟩
                  · have hx1 : q_119_1 < q_127_2 ∧ W2_127_2 = uZ W2_106_0 1 (nV tx n q_119_1) := by rcases hq1_127_2 with ⟨g1, g2, g3⟩ | ⟨g1, g2⟩; (· exact ⟨g1, g3⟩); (· exfalso; omega)
                    have hV0 : W2_127_2 0 = nV tx n (i + 1) := ((hq4_127_2 0 (by omega)).trans hV0)
                    have hV1 : W2_127_2 1 = nV tx n q_119_1 := (by rw [hx1.2]; exact uZ_s)
                    refine s_iconst C dX7_reads_133 ?_
                    refine s_goto 138 C dX7_reads_134 (by decide) ?_
                    refine s_istore_n 2 [(2, vI 1), (1, vI 0), (0, .ref m0)] C dX7_reads_138 rfl (by decide) rfl ?_
                    refine s_iload_n 2 C dX7_reads_139 rfl 0 rfl ?_
                    refine s_if_eq 182 C dX7_reads_140 (by decide) (by decide) (fun h => absurd h (by decide)) (fun h => ?_)
                    refine s_aload_n 0 C dX7_reads_143 rfl 2 rfl ?_
                    refine s_get C dX7_reads_144 7 rfl hinX7 0 rfl 12 (by decide) (by decide +kernel) rfl ?_
                    refine s_bipush (z := 112) C dX7_reads_147 rfl ?_
                    refine s_icmp_ne 169 C dX7_reads_149 (by decide) (by omega) (by omega) (fun h_149 => ?_) (fun h_149 => ?_)
                    · exfalso
                      omega
                    · refine s_aload_n 0 C dX7_reads_152 rfl 2 rfl ?_
                      refine s_bipush (z := 61) C dX7_reads_153 rfl ?_
                      refine s_callV (As := [vI 61]) (rest := []) C dX7_reads_155 (c_X7_sign l G m0 m4 m5 (x1) (x2) (x3) (x4) (x5) n q_127_2 fr rs ca os (tx i) tx 61 (by first | assumption | omega) hX (by first | assumption | omega) (by first | assumption | omega)) gX7_reads_X7_sign rfl 1 (by decide +kernel) (by decide) 0 7 rfl rfl rfl [0, 1] rfl (by decide) rfl (Nat.le_of_ble_eq_true rfl) ⟨Nat.zero_le _, Nat.zero_le _⟩ ?_
                      intro v0 w0 hq
                      obtain ⟨z_155_3, q_155_3, rfl, rfl, hq0_155_3⟩ := hq
                      refine ⟨(fst_k rfl), ?_⟩
                      show fSt l G X 0 0 158 [(2, vI 1), (1, vI 0), (0, .ref m0)] [vI z_155_3] [cO m0 7 [x1, x2, x3, x4, x5, .ref m4, vI n, vI q_155_3, vI fr, vI rs, vI ca, vI os, vI (tx i), .ref m5], cA m4 G.2.1.1 60 tx, cA m5 G.2.1.1 3 W2_127_2]
                      refine s_if_eq 182 C dX7_reads_158 (by decide) (by omega) (fun h_158 => ?_) (fun h_158 => ?_)
                      · refine s_iconst C dX7_reads_182 ?_
                        exact s_zret C E dX7_reads_183 rfl ⟨0, q_155_3, (tx i), W2_127_2, rfl, rfl, (by have hf : q_155_3 = q_127_2 ∧ chA tx n q_127_2 ≠ 61 := (by rcases hq0_155_3 with ⟨g1, g2, g3⟩ | ⟨g1, g2, g3⟩; (· exfalso; omega); (· exact ⟨g3, g1⟩)); rw [hf.1]; exact (rd3_b hfm (nr := 3) (by omega) hq2_127_2 hq0_106_0 (by omega) (by omega) hs0.2 hq0_127_2 (by omega))), (fun _ => hxi)⟩
                      · have hs1 : chA tx n q_127_2 = 61 ∧ q_155_3 = q_127_2 + 1 := by rcases hq0_155_3 with ⟨g1, g2, g3⟩ | ⟨g1, g2, g3⟩; (· exact ⟨g1, g3⟩); (· exfalso; omega)
                        have hl1 := chA_lt (X := tx) (n := n) (i := q_127_2) (by omega)
                        refine s_aload_n 0 C dX7_reads_161 rfl 2 rfl ?_
                        refine s_iconst C dX7_reads_162 ?_
                        refine s_callV (As := [vI 2]) (rest := []) C dX7_reads_163 (c_X7_number l G m0 m4 m5 (x1) (x2) (x3) (x4) (x5) n q_155_3 fr rs ca os (tx i) tx W2_127_2 2 (by first | assumption | omega) hX (by first | assumption | omega) (by first | assumption | omega) hq2_127_2) gX7_reads_X7_number rfl 1 (by decide +kernel) (by decide) 0 7 rfl rfl rfl [0, 1, 2] rfl (by decide) rfl (Nat.le_of_ble_eq_true rfl) ⟨Nat.zero_le _, Nat.zero_le _⟩ ?_
                        intro v0 w0 hq
                        obtain ⟨z_163_4, q_163_4, W2_163_4, rfl, rfl, hq0_163_4, hq1_163_4, hq2_163_4, hq3_163_4, hq4_163_4⟩ := hq
                        refine ⟨(fst_k (fst_k (fst_k rfl))), ?_⟩
                        show fSt l G X 0 0 166 [(2, vI 1), (1, vI 0), (0, .ref m0)] [vI z_163_4] [cO m0 7 [x1, x2, x3, x4, x5, .ref m4, vI n, vI q_163_4, vI fr, vI rs, vI ca, vI os, vI (tx i), .ref m5], cA m4 G.2.1.1 60 tx, cA m5 G.2.1.1 3 W2_163_4]
                        refine s_if_eq 182 C dX7_reads_166 (by decide) (by omega) (fun h_166 => ?_) (fun h_166 => ?_)
                        · refine s_iconst C dX7_reads_182 ?_
                          exact s_zret C E dX7_reads_183 rfl ⟨0, q_163_4, (tx i), W2_163_4, rfl, rfl, (rd3_f hfm (nr := 3) (by omega) hq2_163_4 hq0_106_0 (by omega) (by omega) hs0.2 hq0_127_2 (by omega) (by omega) hs1.2 hq0_163_4 (by omega)), (fun _ => hxi)⟩
                        · have hx2 : q_155_3 < q_163_4 ∧ W2_163_4 = uZ W2_127_2 2 (nV tx n q_155_3) := by rcases hq1_163_4 with ⟨g1, g2, g3⟩ | ⟨g1, g2⟩; (· exact ⟨g1, g3⟩); (· exfalso; omega)
                          have hV0 : W2_163_4 0 = nV tx n (i + 1) := ((hq4_163_4 0 (by omega)).trans hV0)
                          have hV1 : W2_163_4 1 = nV tx n q_119_1 := ((hq4_163_4 1 (by omega)).trans hV1)
                          have hV2 : W2_163_4 2 = nV tx n q_155_3 := (by rw [hx2.2]; exact uZ_s)
                          refine s_aload_n 0 C dX7_reads_169 rfl 2 rfl ?_
                          refine s_bipush (z := 59) C dX7_reads_170 rfl ?_
                          refine s_callV (As := [vI 59]) (rest := []) C dX7_reads_172 (c_X7_sign l G m0 m4 m5 (x1) (x2) (x3) (x4) (x5) n q_163_4 fr rs ca os (tx i) tx 59 (by first | assumption | omega) hX (by first | assumption | omega) (by first | assumption | omega)) gX7_reads_X7_sign rfl 1 (by decide +kernel) (by decide) 0 7 rfl rfl rfl [0, 1] rfl (by decide) rfl (Nat.le_of_ble_eq_true rfl) ⟨Nat.zero_le _, Nat.zero_le _⟩ ?_
                          intro v0 w0 hq
                          obtain ⟨z_172_5, q_172_5, rfl, rfl, hq0_172_5⟩ := hq
                          refine ⟨(fst_k rfl), ?_⟩
                          show fSt l G X 0 0 175 [(2, vI 1), (1, vI 0), (0, .ref m0)] [vI z_172_5] [cO m0 7 [x1, x2, x3, x4, x5, .ref m4, vI n, vI q_172_5, vI fr, vI rs, vI ca, vI os, vI (tx i), .ref m5], cA m4 G.2.1.1 60 tx, cA m5 G.2.1.1 3 W2_163_4]
                          refine s_if_eq 182 C dX7_reads_175 (by decide) (by omega) (fun h_175 => ?_) (fun h_175 => ?_)
                          · refine s_iconst C dX7_reads_182 ?_
                            exact s_zret C E dX7_reads_183 rfl ⟨0, q_172_5, (tx i), W2_163_4, rfl, rfl, (by have hf : q_172_5 = q_163_4 ∧ chA tx n q_163_4 ≠ 59 := (by rcases hq0_172_5 with ⟨g1, g2, g3⟩ | ⟨g1, g2, g3⟩; (· exfalso; omega); (· exact ⟨g3, g1⟩)); rw [hf.1]; exact (rd3_f hfm (nr := 3) (by omega) hq2_163_4 hq0_106_0 (by omega) (by omega) hs0.2 hq0_127_2 (by omega) (by omega) hs1.2 hq0_163_4 (by omega))), (fun _ => hxi)⟩
                          · have hs2 : chA tx n q_163_4 = 59 ∧ q_172_5 = q_163_4 + 1 := by rcases hq0_172_5 with ⟨g1, g2, g3⟩ | ⟨g1, g2, g3⟩; (· exact ⟨g1, g3⟩); (· exfalso; omega)
                            have hl2 := chA_lt (X := tx) (n := n) (i := q_163_4) (by omega)
                            refine s_iconst C dX7_reads_178 ?_
                            refine s_goto 183 C dX7_reads_179 (by decide) ?_
                            exact s_zret C E dX7_reads_183 rfl ⟨1, q_172_5, (tx i), W2_163_4, rfl, rfl, (by rw [hs2.2]; exact (rd3_t hfm (nr := 3) rfl hq2_163_4 hq0_106_0 (by omega) (by omega) hs0.2 hq0_127_2 (by omega) (by omega) hs1.2 hq0_163_4 (by omega) (by omega) hV0 hV1 hV2)), (fun _ => hxi)⟩
            · exfalso
              omega
          · exfalso
            omega

set_option maxHeartbeats 4000000 in
set_option maxRecDepth 100000 in
theorem c_X7_reads_0 (l : Launch) (G : fG) (m0 m4 m5 : Nat) (x1 x2 x3 x4 x5 : Value) (n i fr rs ca os od : Int) (tx W : Int → Int) (hn : 0 ≤ n ∧ n ≤ 60) (hX : rX tx) (hi : 0 ≤ i ∧ i < n) (hW : rF W) (hk : ¬ (chA tx n i = 111 ∨ chA tx n i = 99 ∨ chA tx n i = 97 ∨ chA tx n i = 116) ∧ chA tx n i ≠ 115 ∧ chA tx n i ≠ 112) : fCt l G yX7_reads wsX7_reads 3 66 0 0 [.ref m0] [cO m0 7 [x1, x2, x3, x4, x5, .ref m4, vI n, vI i, vI fr, vI rs, vI ca, vI os, vI od, .ref m5], cA m4 G.2.1.1 60 tx, cA m5 G.2.1.1 3 W] (fun (v0 : Option Value) (w0 : va_W) => ∃ (z q od2 : Int) (W2 : Int → Int), v0 = some (vI z) ∧ w0 = [cO m0 7 [x1, x2, x3, x4, x5, .ref m4, vI n, vI q, vI fr, vI rs, vI ca, vI os, vI od2, .ref m5], cA m4 G.2.1.1 60 tx, cA m5 G.2.1.1 3 W2] ∧ (RO tx n i z q 3 W2) ∧ (rdO tx n i = true → od2 = chA tx n i)) := by
  refine fs_met (cc := cX7_reads) (nL := 3) (ret := (some .boolean)) (by decide) rfl (Nat.le_of_ble_eq_true rfl) ?_
  intro X C E
  show fSt l G X 0 0 0 [(0, .ref m0)] [] [cO m0 7 [x1, x2, x3, x4, x5, .ref m4, vI n, vI i, vI fr, vI rs, vI ca, vI os, vI od, .ref m5], cA m4 G.2.1.1 60 tx, cA m5 G.2.1.1 3 W]
  have hinX7 : ∀ w ∈ u_ws RX7 TX7 14, w ∈ wsX7_reads := by decide +kernel
  have hcp := chA_rg (X := tx) (n := n) (i := i) hX
  have hfm := fmN_0 hk
  have hxi : tx i = chA tx n i := (chA_in (by omega)).symm
  refine s_aload_n 0 C dX7_reads_0 rfl 0 rfl ?_
  refine s_aload_n 0 C dX7_reads_1 rfl 0 rfl ?_
  refine s_bipush (z := 33) C dX7_reads_2 rfl ?_
  refine s_bipush (z := 126) C dX7_reads_4 rfl ?_
  refine s_callV (As := [vI 33, vI 126]) (rest := [.ref m0]) C dX7_reads_6 (c_X7_isAt l G m0 m4 m5 (x1) (x2) (x3) (x4) (x5) n i fr rs ca os od tx 33 126 (by first | assumption | omega) hX (by first | assumption | omega) (by first | assumption | omega)) gX7_reads_X7_isAt rfl 2 (by decide +kernel) (by decide) 0 7 rfl rfl rfl [0, 1] rfl (by decide) rfl (Nat.le_of_ble_eq_true rfl) ⟨Nat.zero_le _, Nat.zero_le _⟩ ?_
  intro v0 w0 hq
  obtain ⟨rfl, rfl⟩ := hq
  refine ⟨rfl, ?_⟩
  show fSt l G X 0 0 9 [(0, .ref m0)] [vI (bI (33 ≤ chA tx n i ∧ chA tx n i ≤ 126)), .ref m0] [cO m0 7 [x1, x2, x3, x4, x5, .ref m4, vI n, vI i, vI fr, vI rs, vI ca, vI os, vI od, .ref m5], cA m4 G.2.1.1 60 tx, cA m5 G.2.1.1 3 W]
  refine s_if_eq 24 C dX7_reads_9 (by decide) bI_rng (fun h_9 => ?_) (fun h_9 => ?_)
  · have h_9 := bI_f h_9
    refine s_iconst C dX7_reads_24 ?_
    refine s_put [cO m0 7 [x1, x2, x3, x4, x5, .ref m4, vI n, vI i, vI fr, vI rs, vI ca, vI os, vI 0, .ref m5], cA m4 G.2.1.1 60 tx, cA m5 G.2.1.1 3 W] C dX7_reads_25 7 rfl hinX7 tyX7 tyX7_ok nmX7 0 rfl 12 (by decide) (by decide +kernel) rfl rfl rfl (Nat.le_of_ble_eq_true rfl) rfl ?_
    refine s_aload_n 0 C dX7_reads_28 rfl 0 rfl ?_
    refine s_get C dX7_reads_29 7 rfl hinX7 0 rfl 12 (by decide) (by decide +kernel) rfl ?_
    refine s_bipush (z := 111) C dX7_reads_32 rfl ?_
    refine s_icmp_eq 64 C dX7_reads_34 (by decide) (by decide) (by decide) (fun h => absurd h (by decide)) (fun h => ?_)
    refine s_aload_n 0 C dX7_reads_37 rfl 0 rfl ?_
    refine s_get C dX7_reads_38 7 rfl hinX7 0 rfl 12 (by decide) (by decide +kernel) rfl ?_
    refine s_bipush (z := 99) C dX7_reads_41 rfl ?_
    refine s_icmp_eq 64 C dX7_reads_43 (by decide) (by decide) (by decide) (fun h => absurd h (by decide)) (fun h => ?_)
    refine s_aload_n 0 C dX7_reads_46 rfl 0 rfl ?_
    refine s_get C dX7_reads_47 7 rfl hinX7 0 rfl 12 (by decide) (by decide +kernel) rfl ?_
    refine s_bipush (z := 97) C dX7_reads_50 rfl ?_
    refine s_icmp_eq 64 C dX7_reads_52 (by decide) (by decide) (by decide) (fun h => absurd h (by decide)) (fun h => ?_)
    refine s_aload_n 0 C dX7_reads_55 rfl 0 rfl ?_
    refine s_get C dX7_reads_56 7 rfl hinX7 0 rfl 12 (by decide) (by decide +kernel) rfl ?_
    refine s_bipush (z := 116) C dX7_reads_59 rfl ?_
    refine s_icmp_ne 68 C dX7_reads_61 (by decide) (by decide) (by decide) (fun h => ?_) (fun h => absurd h (by decide))
    refine s_iconst C dX7_reads_68 ?_
    refine s_istore_n 1 [(1, vI 0), (0, .ref m0)] C dX7_reads_69 rfl (by decide) rfl ?_
    refine s_iload_n 1 C dX7_reads_70 rfl 0 rfl ?_
    refine s_if_ne 94 C dX7_reads_71 (by decide) (by decide) (fun h => absurd h (by decide)) (fun h => ?_)
    refine s_aload_n 0 C dX7_reads_74 rfl 1 rfl ?_
    refine s_get C dX7_reads_75 7 rfl hinX7 0 rfl 12 (by decide) (by decide +kernel) rfl ?_
    refine s_bipush (z := 112) C dX7_reads_78 rfl ?_
    refine s_icmp_eq 94 C dX7_reads_80 (by decide) (by decide) (by decide) (fun h => absurd h (by decide)) (fun h => ?_)
    refine s_aload_n 0 C dX7_reads_83 rfl 1 rfl ?_
    refine s_get C dX7_reads_84 7 rfl hinX7 0 rfl 12 (by decide) (by decide +kernel) rfl ?_
    refine s_bipush (z := 115) C dX7_reads_87 rfl ?_
    refine s_icmp_eq 94 C dX7_reads_89 (by decide) (by decide) (by decide) (fun h => absurd h (by decide)) (fun h => ?_)
    refine s_iconst C dX7_reads_92 ?_
    exact s_zret C E dX7_reads_93 rfl ⟨0, i, 0, W, rfl, rfl, (rd0 hfm (by omega) hW), (fun q => by rw [rdO, hfm] at q; cases q)⟩
  · have h_9 := bI_t h_9
    refine s_aload_n 0 C dX7_reads_12 rfl 0 rfl ?_
    refine s_get C dX7_reads_13 7 rfl hinX7 0 rfl 5 (by decide) (by decide +kernel) rfl ?_
    refine s_aload_n 0 C dX7_reads_16 rfl 0 rfl ?_
    refine s_get C dX7_reads_17 7 rfl hinX7 0 rfl 7 (by decide) (by decide +kernel) rfl ?_
    refine s_iald C dX7_reads_20 1 rfl i rfl (by omega) (by omega) (by omega) ?_
    refine s_goto 25 C dX7_reads_21 (by decide) ?_
    refine s_put [cO m0 7 [x1, x2, x3, x4, x5, .ref m4, vI n, vI i, vI fr, vI rs, vI ca, vI os, vI (tx i), .ref m5], cA m4 G.2.1.1 60 tx, cA m5 G.2.1.1 3 W] C dX7_reads_25 7 rfl hinX7 tyX7 tyX7_ok nmX7 0 rfl 12 (by decide) (by decide +kernel) rfl rfl rfl (Nat.le_of_ble_eq_true rfl) rfl ?_
    refine s_aload_n 0 C dX7_reads_28 rfl 0 rfl ?_
    refine s_get C dX7_reads_29 7 rfl hinX7 0 rfl 12 (by decide) (by decide +kernel) rfl ?_
    refine s_bipush (z := 111) C dX7_reads_32 rfl ?_
    refine s_icmp_eq 64 C dX7_reads_34 (by decide) (by omega) (by omega) (fun h_34 => ?_) (fun h_34 => ?_)
    · exfalso
      omega
    · refine s_aload_n 0 C dX7_reads_37 rfl 0 rfl ?_
      refine s_get C dX7_reads_38 7 rfl hinX7 0 rfl 12 (by decide) (by decide +kernel) rfl ?_
      refine s_bipush (z := 99) C dX7_reads_41 rfl ?_
      refine s_icmp_eq 64 C dX7_reads_43 (by decide) (by omega) (by omega) (fun h_43 => ?_) (fun h_43 => ?_)
      · exfalso
        omega
      · refine s_aload_n 0 C dX7_reads_46 rfl 0 rfl ?_
        refine s_get C dX7_reads_47 7 rfl hinX7 0 rfl 12 (by decide) (by decide +kernel) rfl ?_
        refine s_bipush (z := 97) C dX7_reads_50 rfl ?_
        refine s_icmp_eq 64 C dX7_reads_52 (by decide) (by omega) (by omega) (fun h_52 => ?_) (fun h_52 => ?_)
        · exfalso
          omega
        · refine s_aload_n 0 C dX7_reads_55 rfl 0 rfl ?_
          refine s_get C dX7_reads_56 7 rfl hinX7 0 rfl 12 (by decide) (by decide +kernel) rfl ?_
          refine s_bipush (z := 116) C dX7_reads_59 rfl ?_
          refine s_icmp_ne 68 C dX7_reads_61 (by decide) (by omega) (by omega) (fun h_61 => ?_) (fun h_61 => ?_)
          · refine s_iconst C dX7_reads_68 ?_
            refine s_istore_n 1 [(1, vI 0), (0, .ref m0)] C dX7_reads_69 rfl (by decide) rfl ?_
            refine s_iload_n 1 C dX7_reads_70 rfl 0 rfl ?_
            refine s_if_ne 94 C dX7_reads_71 (by decide) (by decide) (fun h => absurd h (by decide)) (fun h => ?_)
            refine s_aload_n 0 C dX7_reads_74 rfl 1 rfl ?_
            refine s_get C dX7_reads_75 7 rfl hinX7 0 rfl 12 (by decide) (by decide +kernel) rfl ?_
            refine s_bipush (z := 112) C dX7_reads_78 rfl ?_
            refine s_icmp_eq 94 C dX7_reads_80 (by decide) (by omega) (by omega) (fun h_80 => ?_) (fun h_80 => ?_)
            · exfalso
              omega
            · refine s_aload_n 0 C dX7_reads_83 rfl 1 rfl ?_
              refine s_get C dX7_reads_84 7 rfl hinX7 0 rfl 12 (by decide) (by decide +kernel) rfl ?_
              refine s_bipush (z := 115) C dX7_reads_87 rfl ?_
              refine s_icmp_eq 94 C dX7_reads_89 (by decide) (by omega) (by omega) (fun h_89 => ?_) (fun h_89 => ?_)
              · exfalso
                omega
              · refine s_iconst C dX7_reads_92 ?_
                exact s_zret C E dX7_reads_93 rfl ⟨0, i, (tx i), W, rfl, rfl, (rd0 hfm (by omega) hW), (fun q => by rw [rdO, hfm] at q; cases q)⟩
          · exfalso
            omega

theorem w_X7_reads (l : Launch) (G : fG) (m0 m4 m5 : Nat) (x1 x2 x3 x4 x5 : Value) (n i fr rs ca os od : Int) (tx W : Int → Int) (hn : 0 ≤ n ∧ n ≤ 60) (hX : rX tx) (hi : 0 ≤ i ∧ i < n) (hW : rF W) : fCt l G yX7_reads wsX7_reads 3 66 0 0 [.ref m0] [cO m0 7 [x1, x2, x3, x4, x5, .ref m4, vI n, vI i, vI fr, vI rs, vI ca, vI os, vI od, .ref m5], cA m4 G.2.1.1 60 tx, cA m5 G.2.1.1 3 W] (fun (v0 : Option Value) (w0 : va_W) => ∃ (z q od2 : Int) (W2 : Int → Int), v0 = some (vI z) ∧ w0 = [cO m0 7 [x1, x2, x3, x4, x5, .ref m4, vI n, vI q, vI fr, vI rs, vI ca, vI os, vI od2, .ref m5], cA m4 G.2.1.1 60 tx, cA m5 G.2.1.1 3 W2] ∧ (RO tx n i z q 3 W2) ∧ (rdO tx n i = true → od2 = chA tx n i)) := by
  have hcp := chA_rg (X := tx) (n := n) (i := i) hX
  rcases (by omega : (chA tx n i = 111 ∨ chA tx n i = 99 ∨ chA tx n i = 97 ∨ chA tx n i = 116) ∨ chA tx n i = 112 ∨ chA tx n i = 115 ∨ (¬ (chA tx n i = 111 ∨ chA tx n i = 99 ∨ chA tx n i = 97 ∨ chA tx n i = 116) ∧ chA tx n i ≠ 115 ∧ chA tx n i ≠ 112)) with hk | hk | hk | hk
  · exact c_X7_reads_1 l G m0 m4 m5 x1 x2 x3 x4 x5 n i fr rs ca os od tx W hn hX hi hW hk
  · exact c_X7_reads_3 l G m0 m4 m5 x1 x2 x3 x4 x5 n i fr rs ca os od tx W hn hX hi hW hk
  · exact c_X7_reads_2 l G m0 m4 m5 x1 x2 x3 x4 x5 n i fr rs ca os od tx W hn hX hi hW hk
  · exact c_X7_reads_0 l G m0 m4 m5 x1 x2 x3 x4 x5 n i fr rs ca os od tx W hn hX hi hW hk

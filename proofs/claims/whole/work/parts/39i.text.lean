set_option maxHeartbeats 4000000 in
set_option maxRecDepth 100000 in
theorem c_X2_isDigit (l : Launch) (G : fG) (c : Int) (hc : -2147483648 ≤ c ∧ c < 2147483648) : fCt l G yX2_isDigit wsX2_isDigit 0 0 0 0 [vI c] [] (fun (v0 : Option Value) (w0 : va_W) => v0 = some (vI (bI (48 ≤ c ∧ c ≤ 57))) ∧ w0 = []) := by
  refine fs_met (cc := cX2_isDigit) (nL := 1) (ret := (some .boolean)) (by decide) rfl (Nat.le_of_ble_eq_true rfl) ?_
  intro X C E
  show fSt l G X 0 0 0 [(0, vI c)] [] []
  refine s_iload_n 0 C dX2_isDigit_0 rfl 0 rfl ?_
  refine s_bipush (z := 48) C dX2_isDigit_1 rfl ?_
  refine s_icmp_lt 16 C dX2_isDigit_3 (by decide) (by omega) (by omega) (fun h_3 => ?_) (fun h_3 => ?_)
  · refine s_iconst C dX2_isDigit_16 ?_
    exact s_zret C E dX2_isDigit_17 rfl ⟨congrArg (fun z => some (vI z)) (bI_0 (by omega)), rfl⟩
  · refine s_iload_n 0 C dX2_isDigit_6 rfl 0 rfl ?_
    refine s_bipush (z := 57) C dX2_isDigit_7 rfl ?_
    refine s_icmp_gt 16 C dX2_isDigit_9 (by decide) (by omega) (by omega) (fun h_9 => ?_) (fun h_9 => ?_)
    · refine s_iconst C dX2_isDigit_16 ?_
      exact s_zret C E dX2_isDigit_17 rfl ⟨congrArg (fun z => some (vI z)) (bI_0 (by omega)), rfl⟩
    · refine s_iconst C dX2_isDigit_12 ?_
      refine s_goto 17 C dX2_isDigit_13 (by decide) ?_
      exact s_zret C E dX2_isDigit_17 rfl ⟨congrArg (fun z => some (vI z)) (bI_1 (by omega)), rfl⟩

set_option maxHeartbeats 4000000 in
set_option maxRecDepth 100000 in
theorem c_X2_characterAt (l : Launch) (G : fG) (o0 o1 o2 : Nat) (n i kd nr : Int) (tx : Int → Int) (p : Int) (hn : 0 ≤ n ∧ n ≤ 60) (hX : rX tx) (hp : -2147483648 ≤ p ∧ p < 2147483648) : fCt l G yX2_characterAt wsX2_characterAt 0 0 0 0 [.ref o0, vI p] [cO o0 2 [.ref o1, vI n, vI i, vI kd, .ref o2, vI nr], cA o1 G.2.1.2.2.1 60 tx] (fun (v0 : Option Value) (w0 : va_W) => v0 = some (vI (chA tx n p)) ∧ w0 = [cO o0 2 [.ref o1, vI n, vI i, vI kd, .ref o2, vI nr], cA o1 G.2.1.2.2.1 60 tx]) := by
  refine fs_met (cc := cX2_characterAt) (nL := 2) (ret := (some .char)) (by decide) rfl (Nat.le_of_ble_eq_true rfl) ?_
  intro X C E
  show fSt l G X 0 0 0 [(0, .ref o0), (1, vI p)] [] [cO o0 2 [.ref o1, vI n, vI i, vI kd, .ref o2, vI nr], cA o1 G.2.1.2.2.1 60 tx]
  have hinX2 : ∀ w ∈ u_ws RX2 TX2 6, w ∈ wsX2_characterAt := by decide +kernel
  have hc := chA_rg (X := tx) (n := n) (i := p) hX
  refine s_iload_n 1 C dX2_characterAt_0 rfl 1 rfl ?_
  refine s_if_lt 27 C dX2_characterAt_1 (by decide) (by omega) (fun h_1 => ?_) (fun h_1 => ?_)
  · refine s_iconst C dX2_characterAt_27 ?_
    exact s_zret C E dX2_characterAt_28 (narC (by have h9 := hX p; omega) (by have h9 := hX p; omega)) ⟨congrArg (fun z => some (vI z)) ((chA_out (by omega)).symm), rfl⟩
  · refine s_iload_n 1 C dX2_characterAt_4 rfl 1 rfl ?_
    refine s_aload_n 0 C dX2_characterAt_5 rfl 0 rfl ?_
    refine s_get C dX2_characterAt_6 2 rfl hinX2 0 rfl 1 (by decide) (by decide +kernel) rfl ?_
    refine s_icmp_ge 27 C dX2_characterAt_9 (by decide) (by omega) (by omega) (fun h_9 => ?_) (fun h_9 => ?_)
    · refine s_iconst C dX2_characterAt_27 ?_
      exact s_zret C E dX2_characterAt_28 (narC (by have h9 := hX p; omega) (by have h9 := hX p; omega)) ⟨congrArg (fun z => some (vI z)) ((chA_out (by omega)).symm), rfl⟩
    · refine s_iload_n 1 C dX2_characterAt_12 rfl 1 rfl ?_
      refine s_bipush (z := 60) C dX2_characterAt_13 rfl ?_
      refine s_icmp_ge 27 C dX2_characterAt_15 (by decide) (by omega) (by omega) (fun h_15 => ?_) (fun h_15 => ?_)
      · refine s_iconst C dX2_characterAt_27 ?_
        exact s_zret C E dX2_characterAt_28 (narC (by have h9 := hX p; omega) (by have h9 := hX p; omega)) ⟨congrArg (fun z => some (vI z)) ((chA_out (by omega)).symm), rfl⟩
      · refine s_aload_n 0 C dX2_characterAt_18 rfl 0 rfl ?_
        refine s_get C dX2_characterAt_19 2 rfl hinX2 0 rfl 0 (by decide) (by decide +kernel) rfl ?_
        refine s_iload_n 1 C dX2_characterAt_22 rfl 1 rfl ?_
        refine s_cald C dX2_characterAt_23 1 rfl p rfl (by omega) (by omega) (by omega) ?_
        refine s_goto 28 C dX2_characterAt_24 (by decide) ?_
        exact s_zret C E dX2_characterAt_28 (narC (by have h9 := hX p; omega) (by have h9 := hX p; omega)) ⟨congrArg (fun z => some (vI z)) ((chA_in (by omega)).symm), rfl⟩

set_option maxHeartbeats 4000000 in
set_option maxRecDepth 100000 in
theorem c_X2_number (l : Launch) (G : fG) (o0 o1 o2 : Nat) (n i kd nr : Int) (W : Int → Int) (w : Int) (hnr : 0 ≤ nr ∧ nr ≤ 3) (hw : -2147483648 ≤ w ∧ w < 2147483648) : fCt l G yX2_number wsX2_number 0 0 0 0 [.ref o0, vI w] [cO o0 2 [.ref o1, vI n, vI i, vI kd, .ref o2, vI nr], cA o2 G.2.1.1 3 W] (fun (v0 : Option Value) (w0 : va_W) => v0 = some (vI (nU W nr w)) ∧ w0 = [cO o0 2 [.ref o1, vI n, vI i, vI kd, .ref o2, vI nr], cA o2 G.2.1.1 3 W]) := by
  refine fs_met (cc := cX2_number) (nL := 2) (ret := (some .int)) (by decide) rfl (Nat.le_of_ble_eq_true rfl) ?_
  intro X C E
  show fSt l G X 0 0 0 [(0, .ref o0), (1, vI w)] [] [cO o0 2 [.ref o1, vI n, vI i, vI kd, .ref o2, vI nr], cA o2 G.2.1.1 3 W]
  have hinX2 : ∀ w ∈ u_ws RX2 TX2 6, w ∈ wsX2_number := by decide +kernel
  refine s_iload_n 1 C dX2_number_0 rfl 1 rfl ?_
  refine s_if_lt 26 C dX2_number_1 (by decide) (by omega) (fun h_1 => ?_) (fun h_1 => ?_)
  · refine s_iconst C dX2_number_26 ?_
    exact s_iret C E dX2_number_27 ⟨congrArg (fun z => some (vI z)) ((if_neg (by omega)).symm), rfl⟩
  · refine s_iload_n 1 C dX2_number_4 rfl 1 rfl ?_
    refine s_aload_n 0 C dX2_number_5 rfl 0 rfl ?_
    refine s_get C dX2_number_6 2 rfl hinX2 0 rfl 5 (by decide) (by decide +kernel) rfl ?_
    refine s_icmp_ge 26 C dX2_number_9 (by decide) (by omega) (by omega) (fun h_9 => ?_) (fun h_9 => ?_)
    · refine s_iconst C dX2_number_26 ?_
      exact s_iret C E dX2_number_27 ⟨congrArg (fun z => some (vI z)) ((if_neg (by omega)).symm), rfl⟩
    · refine s_iload_n 1 C dX2_number_12 rfl 1 rfl ?_
      refine s_iconst C dX2_number_13 ?_
      refine s_icmp_ge 26 C dX2_number_14 (by decide) (by omega) (by omega) (fun h_14 => ?_) (fun h_14 => ?_)
      · refine s_iconst C dX2_number_26 ?_
        exact s_iret C E dX2_number_27 ⟨congrArg (fun z => some (vI z)) ((if_neg (by omega)).symm), rfl⟩
      · refine s_aload_n 0 C dX2_number_17 rfl 0 rfl ?_
        refine s_get C dX2_number_18 2 rfl hinX2 0 rfl 4 (by decide) (by decide +kernel) rfl ?_
        refine s_iload_n 1 C dX2_number_21 rfl 1 rfl ?_
        refine s_iald C dX2_number_22 1 rfl w rfl (by omega) (by omega) (by omega) ?_
        refine s_goto 27 C dX2_number_23 (by decide) ?_
        exact s_iret C E dX2_number_27 ⟨congrArg (fun z => some (vI z)) ((nU_in (by omega)).symm), rfl⟩

set_option maxHeartbeats 4000000 in
set_option maxRecDepth 100000 in
theorem c_X2_append (l : Launch) (G : fG) (o0 o1 o2 : Nat) (n i kd nr : Int) (tx : Int → Int) (c : Int) (hn : 0 ≤ n ∧ n ≤ 60) (hX : rX tx) (hc : 0 ≤ c ∧ c ≤ 126) : fCt l G yX2_append wsX2_append 0 0 0 0 [.ref o0, vI c] [cO o0 2 [.ref o1, vI n, vI i, vI kd, .ref o2, vI nr], cA o1 G.2.1.2.2.1 60 tx] (fun (v0 : Option Value) (w0 : va_W) => ∃ (z n2 : Int) (X2 : Int → Int), v0 = some (vI z) ∧ w0 = [cO o0 2 [.ref o1, vI n2, vI i, vI kd, .ref o2, vI nr], cA o1 G.2.1.2.2.1 60 X2] ∧ ((n = 60 ∧ z = 0 ∧ X2 = tx ∧ n2 = n) ∨ (n < 60 ∧ z = 1 ∧ X2 = uZ tx n c ∧ n2 = n + 1))) := by
  refine fs_met (cc := cX2_append) (nL := 2) (ret := (some .boolean)) (by decide) rfl (Nat.le_of_ble_eq_true rfl) ?_
  intro X C E
  show fSt l G X 0 0 0 [(0, .ref o0), (1, vI c)] [] [cO o0 2 [.ref o1, vI n, vI i, vI kd, .ref o2, vI nr], cA o1 G.2.1.2.2.1 60 tx]
  have hinX2 : ∀ w ∈ u_ws RX2 TX2 6, w ∈ wsX2_append := by decide +kernel
  refine s_aload_n 0 C dX2_append_0 rfl 0 rfl ?_
  refine s_get C dX2_append_1 2 rfl hinX2 0 rfl 1 (by decide) (by decide +kernel) rfl ?_
  refine s_if_lt 16 C dX2_append_4 (by decide) (by omega) (fun h_4 => ?_) (fun h_4 => ?_)
  · refine s_iconst C dX2_append_16 ?_
    exact s_zret C E dX2_append_17 rfl ⟨0, n, tx, rfl, rfl, Or.inl ⟨by omega, rfl, rfl, rfl⟩⟩
  · refine s_aload_n 0 C dX2_append_7 rfl 0 rfl ?_
    refine s_get C dX2_append_8 2 rfl hinX2 0 rfl 1 (by decide) (by decide +kernel) rfl ?_
    refine s_bipush (z := 60) C dX2_append_11 rfl ?_
    refine s_icmp_lt 18 C dX2_append_13 (by decide) (by omega) (by omega) (fun h_13 => ?_) (fun h_13 => ?_)
    · refine s_aload_n 0 C dX2_append_18 rfl 0 rfl ?_
      refine s_get C dX2_append_19 2 rfl hinX2 0 rfl 0 (by decide) (by decide +kernel) rfl ?_
      refine s_aload_n 0 C dX2_append_22 rfl 0 rfl ?_
      refine s_get C dX2_append_23 2 rfl hinX2 0 rfl 1 (by decide) (by decide +kernel) rfl ?_
      refine s_iload_n 1 C dX2_append_26 rfl 1 rfl ?_
      refine s_cast [cO o0 2 [.ref o1, vI n, vI i, vI kd, .ref o2, vI nr], cA o1 G.2.1.2.2.1 60 (uZ tx n c)] C dX2_append_27 1 rfl n rfl (by omega) (by omega) (by omega) (by omega) (by omega) rfl ?_
      refine s_aload_n 0 C dX2_append_28 rfl 0 rfl ?_
      refine s_dup C dX2_append_29 rfl ?_
      refine s_get C dX2_append_30 2 rfl hinX2 0 rfl 1 (by decide) (by decide +kernel) rfl ?_
      refine s_iconst C dX2_append_33 ?_
      refine s_iadd C dX2_append_34 ?_
      refine s_put [cO o0 2 [.ref o1, vI (n + 1), vI i, vI kd, .ref o2, vI nr], cA o1 G.2.1.2.2.1 60 (uZ tx n c)] C dX2_append_35 2 rfl hinX2 tyX2 tyX2_ok nmX2 0 rfl 1 (by decide) (by decide +kernel) rfl rfl rfl (Nat.le_of_ble_eq_true rfl) rfl ?_
      refine s_iconst C dX2_append_38 ?_
      exact s_zret C E dX2_append_39 rfl ⟨1, (n + 1), (uZ tx n c), rfl, rfl, Or.inr ⟨by omega, rfl, rfl, rfl⟩⟩
    · refine s_iconst C dX2_append_16 ?_
      exact s_zret C E dX2_append_17 rfl ⟨0, n, tx, rfl, rfl, Or.inl ⟨by omega, rfl, rfl, rfl⟩⟩

set_option maxHeartbeats 4000000 in
set_option maxRecDepth 100000 in
theorem c_X2_formBehind_0 (l : Launch) (G : fG) (kd : Int) (hkd : 0 ≤ kd ∧ kd ≤ 126) (hks : kd = 111 ∨ kd = 99 ∨ kd = 97 ∨ kd = 116) : fCt l G yX2_formBehind wsX2_formBehind 0 0 0 0 [vI kd] [] (fun (v0 : Option Value) (w0 : va_W) => v0 = some (.ref (G.2.2.1 0)) ∧ w0 = []) := by
  refine fs_met (cc := cX2_formBehind) (nL := 1) (ret := (some (.object "java/lang/String"))) (by decide) rfl (Nat.le_of_ble_eq_true rfl) ?_
  intro X C E
  show fSt l G X 0 0 0 [(0, vI kd)] [] []
  refine s_iload_n 0 C dX2_formBehind_0 rfl 0 rfl ?_
  rcases (by omega : kd = 97 ∨ kd = 99 ∨ kd = 111 ∨ kd = 116) with h_1 | h_1 | h_1 | h_1
  · refine s_tabIn 96 (off := 95) C dX2_formBehind_1 (by omega) (by omega) (by omega) (by rw [h_1]; rfl) (by decide) ?_
    refine s_ldcS C dX2_formBehind_96 (fun A U H h => h.2.2.1.1) ?_
    exact s_aret C E (Or.inl ⟨_, rfl⟩) dX2_formBehind_98 ⟨rfl, rfl⟩
  · refine s_tabIn 96 (off := 95) C dX2_formBehind_1 (by omega) (by omega) (by omega) (by rw [h_1]; rfl) (by decide) ?_
    refine s_ldcS C dX2_formBehind_96 (fun A U H h => h.2.2.1.1) ?_
    exact s_aret C E (Or.inl ⟨_, rfl⟩) dX2_formBehind_98 ⟨rfl, rfl⟩
  · refine s_tabIn 96 (off := 95) C dX2_formBehind_1 (by omega) (by omega) (by omega) (by rw [h_1]; rfl) (by decide) ?_
    refine s_ldcS C dX2_formBehind_96 (fun A U H h => h.2.2.1.1) ?_
    exact s_aret C E (Or.inl ⟨_, rfl⟩) dX2_formBehind_98 ⟨rfl, rfl⟩
  · refine s_tabIn 96 (off := 95) C dX2_formBehind_1 (by omega) (by omega) (by omega) (by rw [h_1]; rfl) (by decide) ?_
    refine s_ldcS C dX2_formBehind_96 (fun A U H h => h.2.2.1.1) ?_
    exact s_aret C E (Or.inl ⟨_, rfl⟩) dX2_formBehind_98 ⟨rfl, rfl⟩

set_option maxHeartbeats 4000000 in
set_option maxRecDepth 100000 in
theorem c_X2_formBehind_1 (l : Launch) (G : fG) (kd : Int) (hkd : 0 ≤ kd ∧ kd ≤ 126) (hks : kd = 112) : fCt l G yX2_formBehind wsX2_formBehind 0 0 0 0 [vI kd] [] (fun (v0 : Option Value) (w0 : va_W) => v0 = some (.ref (G.2.2.1 1)) ∧ w0 = []) := by
  refine fs_met (cc := cX2_formBehind) (nL := 1) (ret := (some (.object "java/lang/String"))) (by decide) rfl (Nat.le_of_ble_eq_true rfl) ?_
  intro X C E
  show fSt l G X 0 0 0 [(0, vI kd)] [] []
  refine s_iload_n 0 C dX2_formBehind_0 rfl 0 rfl ?_
  have h_1 : kd = 112 := by omega
  refine s_tabIn 99 (off := 98) C dX2_formBehind_1 (by omega) (by omega) (by omega) (by rw [h_1]; rfl) (by decide) ?_
  refine s_ldcS C dX2_formBehind_99 (fun A U H h => h.2.2.1.2.1) ?_
  exact s_aret C E (Or.inl ⟨_, rfl⟩) dX2_formBehind_101 ⟨rfl, rfl⟩

set_option maxHeartbeats 4000000 in
set_option maxRecDepth 100000 in
theorem c_X2_formBehind_2 (l : Launch) (G : fG) (kd : Int) (hkd : 0 ≤ kd ∧ kd ≤ 126) (hks : kd = 115) : fCt l G yX2_formBehind wsX2_formBehind 0 0 0 0 [vI kd] [] (fun (v0 : Option Value) (w0 : va_W) => v0 = some (.ref (G.2.2.1 2)) ∧ w0 = []) := by
  refine fs_met (cc := cX2_formBehind) (nL := 1) (ret := (some (.object "java/lang/String"))) (by decide) rfl (Nat.le_of_ble_eq_true rfl) ?_
  intro X C E
  show fSt l G X 0 0 0 [(0, vI kd)] [] []
  refine s_iload_n 0 C dX2_formBehind_0 rfl 0 rfl ?_
  have h_1 : kd = 115 := by omega
  refine s_tabIn 102 (off := 101) C dX2_formBehind_1 (by omega) (by omega) (by omega) (by rw [h_1]; rfl) (by decide) ?_
  refine s_ldcS C dX2_formBehind_102 (fun A U H h => h.2.2.1.2.2.1) ?_
  exact s_aret C E (Or.inl ⟨_, rfl⟩) dX2_formBehind_104 ⟨rfl, rfl⟩

set_option maxHeartbeats 4000000 in
set_option maxRecDepth 100000 in
theorem c_X2_formBehind_3 (l : Launch) (G : fG) (kd : Int) (hkd : 0 ≤ kd ∧ kd ≤ 126) (hks : ¬ (kd = 111 ∨ kd = 99 ∨ kd = 97 ∨ kd = 116) ∧ kd ≠ 115 ∧ kd ≠ 112) : fCt l G yX2_formBehind wsX2_formBehind 0 0 0 0 [vI kd] [] (fun (v0 : Option Value) (w0 : va_W) => v0 = some (.ref (G.2.2.1 3)) ∧ w0 = []) := by
  refine fs_met (cc := cX2_formBehind) (nL := 1) (ret := (some (.object "java/lang/String"))) (by decide) rfl (Nat.le_of_ble_eq_true rfl) ?_
  intro X C E
  show fSt l G X 0 0 0 [(0, vI kd)] [] []
  refine s_iload_n 0 C dX2_formBehind_0 rfl 0 rfl ?_
  rcases (by omega : kd = 98 ∨ kd = 100 ∨ kd = 101 ∨ kd = 102 ∨ kd = 103 ∨ kd = 104 ∨ kd = 105 ∨ kd = 106 ∨ kd = 107 ∨ kd = 108 ∨ kd = 109 ∨ kd = 110 ∨ kd = 113 ∨ kd = 114 ∨ (kd < 97 ∨ 116 < kd)) with h_1 | h_1 | h_1 | h_1 | h_1 | h_1 | h_1 | h_1 | h_1 | h_1 | h_1 | h_1 | h_1 | h_1 | h_1
  · refine s_tabIn 105 (off := 104) C dX2_formBehind_1 (by omega) (by omega) (by omega) (by rw [h_1]; rfl) (by decide) ?_
    refine s_ldcS C dX2_formBehind_105 (fun A U H h => h.2.2.1.2.2.2) ?_
    exact s_aret C E (Or.inl ⟨_, rfl⟩) dX2_formBehind_107 ⟨rfl, rfl⟩
  · refine s_tabIn 105 (off := 104) C dX2_formBehind_1 (by omega) (by omega) (by omega) (by rw [h_1]; rfl) (by decide) ?_
    refine s_ldcS C dX2_formBehind_105 (fun A U H h => h.2.2.1.2.2.2) ?_
    exact s_aret C E (Or.inl ⟨_, rfl⟩) dX2_formBehind_107 ⟨rfl, rfl⟩
  · refine s_tabIn 105 (off := 104) C dX2_formBehind_1 (by omega) (by omega) (by omega) (by rw [h_1]; rfl) (by decide) ?_
    refine s_ldcS C dX2_formBehind_105 (fun A U H h => h.2.2.1.2.2.2) ?_
    exact s_aret C E (Or.inl ⟨_, rfl⟩) dX2_formBehind_107 ⟨rfl, rfl⟩
  · refine s_tabIn 105 (off := 104) C dX2_formBehind_1 (by omega) (by omega) (by omega) (by rw [h_1]; rfl) (by decide) ?_
    refine s_ldcS C dX2_formBehind_105 (fun A U H h => h.2.2.1.2.2.2) ?_
    exact s_aret C E (Or.inl ⟨_, rfl⟩) dX2_formBehind_107 ⟨rfl, rfl⟩
  · refine s_tabIn 105 (off := 104) C dX2_formBehind_1 (by omega) (by omega) (by omega) (by rw [h_1]; rfl) (by decide) ?_
    refine s_ldcS C dX2_formBehind_105 (fun A U H h => h.2.2.1.2.2.2) ?_
    exact s_aret C E (Or.inl ⟨_, rfl⟩) dX2_formBehind_107 ⟨rfl, rfl⟩
  · refine s_tabIn 105 (off := 104) C dX2_formBehind_1 (by omega) (by omega) (by omega) (by rw [h_1]; rfl) (by decide) ?_
    refine s_ldcS C dX2_formBehind_105 (fun A U H h => h.2.2.1.2.2.2) ?_
    exact s_aret C E (Or.inl ⟨_, rfl⟩) dX2_formBehind_107 ⟨rfl, rfl⟩
  · refine s_tabIn 105 (off := 104) C dX2_formBehind_1 (by omega) (by omega) (by omega) (by rw [h_1]; rfl) (by decide) ?_
    refine s_ldcS C dX2_formBehind_105 (fun A U H h => h.2.2.1.2.2.2) ?_
    exact s_aret C E (Or.inl ⟨_, rfl⟩) dX2_formBehind_107 ⟨rfl, rfl⟩
  · refine s_tabIn 105 (off := 104) C dX2_formBehind_1 (by omega) (by omega) (by omega) (by rw [h_1]; rfl) (by decide) ?_
    refine s_ldcS C dX2_formBehind_105 (fun A U H h => h.2.2.1.2.2.2) ?_
    exact s_aret C E (Or.inl ⟨_, rfl⟩) dX2_formBehind_107 ⟨rfl, rfl⟩
  · refine s_tabIn 105 (off := 104) C dX2_formBehind_1 (by omega) (by omega) (by omega) (by rw [h_1]; rfl) (by decide) ?_
    refine s_ldcS C dX2_formBehind_105 (fun A U H h => h.2.2.1.2.2.2) ?_
    exact s_aret C E (Or.inl ⟨_, rfl⟩) dX2_formBehind_107 ⟨rfl, rfl⟩
  · refine s_tabIn 105 (off := 104) C dX2_formBehind_1 (by omega) (by omega) (by omega) (by rw [h_1]; rfl) (by decide) ?_
    refine s_ldcS C dX2_formBehind_105 (fun A U H h => h.2.2.1.2.2.2) ?_
    exact s_aret C E (Or.inl ⟨_, rfl⟩) dX2_formBehind_107 ⟨rfl, rfl⟩
  · refine s_tabIn 105 (off := 104) C dX2_formBehind_1 (by omega) (by omega) (by omega) (by rw [h_1]; rfl) (by decide) ?_
    refine s_ldcS C dX2_formBehind_105 (fun A U H h => h.2.2.1.2.2.2) ?_
    exact s_aret C E (Or.inl ⟨_, rfl⟩) dX2_formBehind_107 ⟨rfl, rfl⟩
  · refine s_tabIn 105 (off := 104) C dX2_formBehind_1 (by omega) (by omega) (by omega) (by rw [h_1]; rfl) (by decide) ?_
    refine s_ldcS C dX2_formBehind_105 (fun A U H h => h.2.2.1.2.2.2) ?_
    exact s_aret C E (Or.inl ⟨_, rfl⟩) dX2_formBehind_107 ⟨rfl, rfl⟩
  · refine s_tabIn 105 (off := 104) C dX2_formBehind_1 (by omega) (by omega) (by omega) (by rw [h_1]; rfl) (by decide) ?_
    refine s_ldcS C dX2_formBehind_105 (fun A U H h => h.2.2.1.2.2.2) ?_
    exact s_aret C E (Or.inl ⟨_, rfl⟩) dX2_formBehind_107 ⟨rfl, rfl⟩
  · refine s_tabIn 105 (off := 104) C dX2_formBehind_1 (by omega) (by omega) (by omega) (by rw [h_1]; rfl) (by decide) ?_
    refine s_ldcS C dX2_formBehind_105 (fun A U H h => h.2.2.1.2.2.2) ?_
    exact s_aret C E (Or.inl ⟨_, rfl⟩) dX2_formBehind_107 ⟨rfl, rfl⟩
  · refine s_tabOut 105 C dX2_formBehind_1 (by omega) h_1 (by decide) ?_
    refine s_ldcS C dX2_formBehind_105 (fun A U H h => h.2.2.1.2.2.2) ?_
    exact s_aret C E (Or.inl ⟨_, rfl⟩) dX2_formBehind_107 ⟨rfl, rfl⟩

set_option maxHeartbeats 4000000 in
set_option maxRecDepth 100000 in
theorem c_X2_readNumber (l : Launch) (G : fG) (o0 o1 o2 : Nat) (n i kd nr : Int) (tx W : Int → Int) (hn : 0 ≤ n ∧ n ≤ 60) (hX : rX tx) (hi : 0 ≤ i ∧ i ≤ n) (hnr : 0 ≤ nr ∧ nr ≤ 2) (hW : rF W) : fCt l G yX2_readNumber wsX2_readNumber 1 21 0 0 [.ref o0] [cO o0 2 [.ref o1, vI n, vI i, vI kd, .ref o2, vI nr], cA o1 G.2.1.2.2.1 60 tx, cA o2 G.2.1.1 3 W] (fun (v0 : Option Value) (w0 : va_W) => ∃ (z q nr2 : Int) (W2 : Int → Int), v0 = some (vI z) ∧ w0 = [cO o0 2 [.ref o1, vI n, vI q, vI kd, .ref o2, vI nr2], cA o1 G.2.1.2.2.1 60 tx, cA o2 G.2.1.1 3 W2] ∧ (q = nE tx n i) ∧ ((i < q ∧ z = 1 ∧ nr2 = nr + 1 ∧ W2 = uZ W nr (nV tx n i)) ∨ (q = i ∧ z = 0 ∧ nr2 = nr ∧ W2 = W)) ∧ (rF W2) ∧ (i ≤ q ∧ q ≤ n)) := by
  refine fs_met (cc := cX2_readNumber) (nL := 3) (ret := (some .boolean)) (by decide) rfl (Nat.le_of_ble_eq_true rfl) ?_
  intro X C E
  show fSt l G X 0 0 0 [(0, .ref o0)] [] [cO o0 2 [.ref o1, vI n, vI i, vI kd, .ref o2, vI nr], cA o1 G.2.1.2.2.1 60 tx, cA o2 G.2.1.1 3 W]
  have hinX2 : ∀ w ∈ u_ws RX2 TX2 6, w ∈ wsX2_readNumber := by decide +kernel
  refine s_iconst C dX2_readNumber_0 ?_
  refine s_istore_n 1 [(1, vI 0), (0, .ref o0)] C dX2_readNumber_1 rfl (by decide) rfl ?_
  refine s_iconst C dX2_readNumber_2 ?_
  refine s_istore_n 2 [(2, vI 0), (1, vI 0), (0, .ref o0)] C dX2_readNumber_3 rfl (by decide) rfl ?_
  have loop_4 : ∀ (fuel : Nat) (v d p : Int), (0 ≤ p - i ∧ p - i ≤ 3) → (d = p - i) → (v = nv tx i (p - i).toNat) → (adv (dgP tx n) i (p - i).toNat = p) → (p ≤ n) → (3 - d < (fuel : Int)) → fSt l G X 0 0 4 [(0, .ref o0), (1, vI v), (2, vI d)] [] [cO o0 2 [.ref o1, vI n, vI p, vI kd, .ref o2, vI nr], cA o1 G.2.1.2.2.1 60 tx, cA o2 G.2.1.1 3 W] := by
    intro fuel
    induction fuel with
    | zero =>
      intro v d p hp hd hv ha hpn hm
      exfalso
      omega
    | succ fuel ih_4 =>
      intro v d p hp hd hv ha hpn hm
      refine s_iload_n 2 C dX2_readNumber_4 rfl 2 rfl ?_
      refine s_iconst C dX2_readNumber_5 ?_
      have hcp := chA_rg (X := tx) (n := n) (i := p) hX
      have hvr := nv_rg hp ha
      refine s_icmp_ge 56 C dX2_readNumber_6 (by decide) (by omega) (by omega) (fun h_6 => ?_) (fun h_6 => ?_)
      · have hE := nE_stop (n := n) hp ha (by omega)
        refine s_iload_n 2 C dX2_readNumber_56 rfl 2 rfl ?_
        refine s_if_eq 75 C dX2_readNumber_57 (by decide) (by omega) (fun h_57 => ?_) (fun h_57 => ?_)
        · refine s_iconst C dX2_readNumber_75 ?_
          exact s_zret C E dX2_readNumber_76 rfl ⟨0, p, nr, W, rfl, rfl, hE, (Or.inr ⟨by omega, rfl, rfl, rfl⟩), hW, (by omega)⟩
        · refine s_aload_n 0 C dX2_readNumber_60 rfl 0 rfl ?_
          refine s_get C dX2_readNumber_61 2 rfl hinX2 0 rfl 5 (by decide) (by decide +kernel) rfl ?_
          refine s_if_lt 75 C dX2_readNumber_64 (by decide) (by omega) (fun h_64 => ?_) (fun h_64 => ?_)
          · refine s_iconst C dX2_readNumber_75 ?_
            exact s_zret C E dX2_readNumber_76 rfl ⟨0, p, nr, W, rfl, rfl, hE, (Or.inr ⟨by omega, rfl, rfl, rfl⟩), hW, (by omega)⟩
          · refine s_aload_n 0 C dX2_readNumber_67 rfl 0 rfl ?_
            refine s_get C dX2_readNumber_68 2 rfl hinX2 0 rfl 5 (by decide) (by decide +kernel) rfl ?_
            refine s_iconst C dX2_readNumber_71 ?_
            refine s_icmp_lt 77 C dX2_readNumber_72 (by decide) (by omega) (by omega) (fun h_72 => ?_) (fun h_72 => ?_)
            · refine s_aload_n 0 C dX2_readNumber_77 rfl 0 rfl ?_
              refine s_get C dX2_readNumber_78 2 rfl hinX2 0 rfl 4 (by decide) (by decide +kernel) rfl ?_
              refine s_aload_n 0 C dX2_readNumber_81 rfl 0 rfl ?_
              refine s_get C dX2_readNumber_82 2 rfl hinX2 0 rfl 5 (by decide) (by decide +kernel) rfl ?_
              refine s_iload_n 1 C dX2_readNumber_85 rfl 1 rfl ?_
              refine s_iast [cO o0 2 [.ref o1, vI n, vI p, vI kd, .ref o2, vI nr], cA o1 G.2.1.2.2.1 60 tx, cA o2 G.2.1.1 3 (uZ W nr v)] C dX2_readNumber_86 2 rfl nr rfl (by omega) (by omega) (by omega) rfl ?_
              refine s_aload_n 0 C dX2_readNumber_87 rfl 0 rfl ?_
              refine s_dup C dX2_readNumber_88 rfl ?_
              refine s_get C dX2_readNumber_89 2 rfl hinX2 0 rfl 5 (by decide) (by decide +kernel) rfl ?_
              refine s_iconst C dX2_readNumber_92 ?_
              refine s_iadd C dX2_readNumber_93 ?_
              refine s_put [cO o0 2 [.ref o1, vI n, vI p, vI kd, .ref o2, vI (nr + 1)], cA o1 G.2.1.2.2.1 60 tx, cA o2 G.2.1.1 3 (uZ W nr v)] C dX2_readNumber_94 2 rfl hinX2 tyX2 tyX2_ok nmX2 0 rfl 5 (by decide) (by decide +kernel) rfl rfl rfl (Nat.le_of_ble_eq_true rfl) rfl ?_
              refine s_iconst C dX2_readNumber_97 ?_
              exact s_zret C E dX2_readNumber_98 rfl ⟨1, p, (nr + 1), (uZ W nr v), rfl, rfl, hE, (Or.inl ⟨by omega, rfl, rfl, by rw [nV, ← hE, hv]⟩), (hW.up (by omega)), (by omega)⟩
            · refine s_iconst C dX2_readNumber_75 ?_
              exact s_zret C E dX2_readNumber_76 rfl ⟨0, p, nr, W, rfl, rfl, hE, (Or.inr ⟨by omega, rfl, rfl, rfl⟩), hW, (by omega)⟩
      · refine s_aload_n 0 C dX2_readNumber_9 rfl 0 rfl ?_
        refine s_aload_n 0 C dX2_readNumber_10 rfl 0 rfl ?_
        refine s_get C dX2_readNumber_11 2 rfl hinX2 0 rfl 2 (by decide) (by decide +kernel) rfl ?_
        refine s_callV (As := [vI p]) (rest := []) C dX2_readNumber_14 (c_X2_characterAt l G o0 o1 o2 n p kd nr tx p (by first | assumption | omega) (by first | assumption | omega) (by first | assumption | omega)) gX2_readNumber_X2_characterAt rfl 1 (by decide +kernel) (by decide) 0 2 rfl rfl rfl [0, 1] rfl (by decide) rfl (Nat.le_of_ble_eq_true rfl) ⟨Nat.zero_le _, Nat.zero_le _⟩ ?_
        intro v0 w0 hq
        obtain ⟨rfl, rfl⟩ := hq
        refine ⟨rfl, ?_⟩
        show fSt l G X 0 0 17 [(0, .ref o0), (1, vI v), (2, vI d)] [vI (chA tx n p)] [cO o0 2 [.ref o1, vI n, vI p, vI kd, .ref o2, vI nr], cA o1 G.2.1.2.2.1 60 tx, cA o2 G.2.1.1 3 W]
        refine s_callS (As := [vI (chA tx n p)]) (rest := []) C dX2_readNumber_17 (c_X2_isDigit l G (chA tx n p) (by first | assumption | omega)) gX2_readNumber_X2_isDigit rfl 1 (by decide +kernel) (by decide) [] rfl (by decide) rfl (Nat.le_of_ble_eq_true rfl) ⟨Nat.zero_le _, Nat.zero_le _⟩ ?_
        intro v0 w0 hq
        obtain ⟨rfl, rfl⟩ := hq
        refine ⟨rfl, ?_⟩
        show fSt l G X 0 0 20 [(0, .ref o0), (1, vI v), (2, vI d)] [vI (bI (48 ≤ (chA tx n p) ∧ (chA tx n p) ≤ 57))] [cO o0 2 [.ref o1, vI n, vI p, vI kd, .ref o2, vI nr], cA o1 G.2.1.2.2.1 60 tx, cA o2 G.2.1.1 3 W]
        refine s_if_eq 56 C dX2_readNumber_20 (by decide) bI_rng (fun h_20 => ?_) (fun h_20 => ?_)
        · have h_20 := bI_f h_20
          have hE := nE_stop (n := n) hp ha (by omega)
          refine s_iload_n 2 C dX2_readNumber_56 rfl 2 rfl ?_
          refine s_if_eq 75 C dX2_readNumber_57 (by decide) (by omega) (fun h_57 => ?_) (fun h_57 => ?_)
          · refine s_iconst C dX2_readNumber_75 ?_
            exact s_zret C E dX2_readNumber_76 rfl ⟨0, p, nr, W, rfl, rfl, hE, (Or.inr ⟨by omega, rfl, rfl, rfl⟩), hW, (by omega)⟩
          · refine s_aload_n 0 C dX2_readNumber_60 rfl 0 rfl ?_
            refine s_get C dX2_readNumber_61 2 rfl hinX2 0 rfl 5 (by decide) (by decide +kernel) rfl ?_
            refine s_if_lt 75 C dX2_readNumber_64 (by decide) (by omega) (fun h_64 => ?_) (fun h_64 => ?_)
            · refine s_iconst C dX2_readNumber_75 ?_
              exact s_zret C E dX2_readNumber_76 rfl ⟨0, p, nr, W, rfl, rfl, hE, (Or.inr ⟨by omega, rfl, rfl, rfl⟩), hW, (by omega)⟩
            · refine s_aload_n 0 C dX2_readNumber_67 rfl 0 rfl ?_
              refine s_get C dX2_readNumber_68 2 rfl hinX2 0 rfl 5 (by decide) (by decide +kernel) rfl ?_
              refine s_iconst C dX2_readNumber_71 ?_
              refine s_icmp_lt 77 C dX2_readNumber_72 (by decide) (by omega) (by omega) (fun h_72 => ?_) (fun h_72 => ?_)
              · refine s_aload_n 0 C dX2_readNumber_77 rfl 0 rfl ?_
                refine s_get C dX2_readNumber_78 2 rfl hinX2 0 rfl 4 (by decide) (by decide +kernel) rfl ?_
                refine s_aload_n 0 C dX2_readNumber_81 rfl 0 rfl ?_
                refine s_get C dX2_readNumber_82 2 rfl hinX2 0 rfl 5 (by decide) (by decide +kernel) rfl ?_
                refine s_iload_n 1 C dX2_readNumber_85 rfl 1 rfl ?_
                refine s_iast [cO o0 2 [.ref o1, vI n, vI p, vI kd, .ref o2, vI nr], cA o1 G.2.1.2.2.1 60 tx, cA o2 G.2.1.1 3 (uZ W nr v)] C dX2_readNumber_86 2 rfl nr rfl (by omega) (by omega) (by omega) rfl ?_
                refine s_aload_n 0 C dX2_readNumber_87 rfl 0 rfl ?_
                refine s_dup C dX2_readNumber_88 rfl ?_
                refine s_get C dX2_readNumber_89 2 rfl hinX2 0 rfl 5 (by decide) (by decide +kernel) rfl ?_
                refine s_iconst C dX2_readNumber_92 ?_
                refine s_iadd C dX2_readNumber_93 ?_
                refine s_put [cO o0 2 [.ref o1, vI n, vI p, vI kd, .ref o2, vI (nr + 1)], cA o1 G.2.1.2.2.1 60 tx, cA o2 G.2.1.1 3 (uZ W nr v)] C dX2_readNumber_94 2 rfl hinX2 tyX2 tyX2_ok nmX2 0 rfl 5 (by decide) (by decide +kernel) rfl rfl rfl (Nat.le_of_ble_eq_true rfl) rfl ?_
                refine s_iconst C dX2_readNumber_97 ?_
                exact s_zret C E dX2_readNumber_98 rfl ⟨1, p, (nr + 1), (uZ W nr v), rfl, rfl, hE, (Or.inl ⟨by omega, rfl, rfl, by rw [nV, ← hE, hv]⟩), (hW.up (by omega)), (by omega)⟩
              · refine s_iconst C dX2_readNumber_75 ?_
                exact s_zret C E dX2_readNumber_76 rfl ⟨0, p, nr, W, rfl, rfl, hE, (Or.inr ⟨by omega, rfl, rfl, rfl⟩), hW, (by omega)⟩
        · have h_20 := bI_t h_20
          refine s_iload_n 1 C dX2_readNumber_23 rfl 1 rfl ?_
          refine s_bipush (z := 10) C dX2_readNumber_24 rfl ?_
          refine s_imul C dX2_readNumber_26 ?_
          refine s_aload_n 0 C dX2_readNumber_27 rfl 0 rfl ?_
          refine s_aload_n 0 C dX2_readNumber_28 rfl 0 rfl ?_
          refine s_get C dX2_readNumber_29 2 rfl hinX2 0 rfl 2 (by decide) (by decide +kernel) rfl ?_
          refine s_callV (As := [vI p]) (rest := [vI (v * 10)]) C dX2_readNumber_32 (c_X2_characterAt l G o0 o1 o2 n p kd nr tx p (by first | assumption | omega) (by first | assumption | omega) (by first | assumption | omega)) gX2_readNumber_X2_characterAt rfl 1 (by decide +kernel) (by decide) 0 2 rfl rfl rfl [0, 1] rfl (by decide) rfl (Nat.le_of_ble_eq_true rfl) ⟨Nat.zero_le _, Nat.zero_le _⟩ ?_
          intro v0 w0 hq
          obtain ⟨rfl, rfl⟩ := hq
          refine ⟨rfl, ?_⟩
          show fSt l G X 0 0 35 [(0, .ref o0), (1, vI v), (2, vI d)] [vI (chA tx n p), vI (v * 10)] [cO o0 2 [.ref o1, vI n, vI p, vI kd, .ref o2, vI nr], cA o1 G.2.1.2.2.1 60 tx, cA o2 G.2.1.1 3 W]
          refine s_bipush (z := 48) C dX2_readNumber_35 rfl ?_
          refine s_isub C dX2_readNumber_37 ?_
          refine s_iadd C dX2_readNumber_38 ?_
          refine s_istore_n 1 [(1, vI (v * 10 + ((chA tx n p) - 48))), (0, .ref o0), (2, vI d)] C dX2_readNumber_39 rfl (by decide) rfl ?_
          refine s_iinc [(2, vI (d + 1)), (1, vI (v * 10 + ((chA tx n p) - 48))), (0, .ref o0)] C dX2_readNumber_40 2 rfl (by decide) rfl ?_
          refine s_aload_n 0 C dX2_readNumber_43 rfl 2 rfl ?_
          refine s_dup C dX2_readNumber_44 rfl ?_
          refine s_get C dX2_readNumber_45 2 rfl hinX2 0 rfl 2 (by decide) (by decide +kernel) rfl ?_
          refine s_iconst C dX2_readNumber_48 ?_
          refine s_iadd C dX2_readNumber_49 ?_
          refine s_put [cO o0 2 [.ref o1, vI n, vI (p + 1), vI kd, .ref o2, vI nr], cA o1 G.2.1.2.2.1 60 tx, cA o2 G.2.1.1 3 W] C dX2_readNumber_50 2 rfl hinX2 tyX2 tyX2_ok nmX2 0 rfl 2 (by decide) (by decide +kernel) rfl rfl rfl (Nat.le_of_ble_eq_true rfl) rfl ?_
          refine s_goto 4 C dX2_readNumber_53 (by decide) ?_
          refine s_lv [(0, .ref o0), (1, vI (v * 10 + ((chA tx n p) - 48))), (2, vI (d + 1))] [2, 1, 0] rfl ?_
          exact ih_4 (v * 10 + ((chA tx n p) - 48)) (d + 1) (p + 1) (by omega) (by omega) (by rw [nv_step (X := tx) (n := n) (i := i) (p := p) (by omega) (chA_lt (X := tx) (n := n) (i := p) (by omega)), ← hv]; omega) (nE_step hp ha (by omega)) (by have h9 := chA_lt (X := tx) (n := n) (i := p) (by omega); omega) (by omega)
  refine s_lv [(0, .ref o0), (1, vI 0), (2, vI 0)] [2, 1, 0] rfl ?_
  exact loop_4 (3 - 0 + 1 : Int).toNat 0 0 i (by omega) (by omega) (by rw [show (i - i).toNat = 0 by omega]; rfl) (by rw [show (i - i).toNat = 0 by omega]; rfl) (by omega) (by omega)

set_option maxHeartbeats 4000000 in
set_option maxRecDepth 100000 in
theorem c_X2_readPart_n (l : Launch) (G : fG) (o0 o1 o2 : Nat) (n i kd nr : Int) (tx W : Int → Int) (hn : 0 ≤ n ∧ n ≤ 60) (hX : rX tx) (hi : 0 ≤ i ∧ i ≤ n) (hnr : 0 ≤ nr ∧ nr ≤ 2) (hW : rF W) : fCt l G yX2_readPart wsX2_readPart 2 43 0 0 [.ref o0, vI 35] [cO o0 2 [.ref o1, vI n, vI i, vI kd, .ref o2, vI nr], cA o1 G.2.1.2.2.1 60 tx, cA o2 G.2.1.1 3 W] (fun (v0 : Option Value) (w0 : va_W) => ∃ (z q nr2 : Int) (W2 : Int → Int), v0 = some (vI z) ∧ w0 = [cO o0 2 [.ref o1, vI n, vI q, vI kd, .ref o2, vI nr2], cA o1 G.2.1.2.2.1 60 tx, cA o2 G.2.1.1 3 W2] ∧ (q = nE tx n i) ∧ ((i < q ∧ z = 1 ∧ nr2 = nr + 1 ∧ W2 = uZ W nr (nV tx n i)) ∨ (q = i ∧ z = 0 ∧ nr2 = nr ∧ W2 = W)) ∧ (rF W2) ∧ (i ≤ q ∧ q ≤ n)) := by
  refine fs_met (cc := cX2_readPart) (nL := 2) (ret := (some .boolean)) (by decide) rfl (Nat.le_of_ble_eq_true rfl) ?_
  intro X C E
  show fSt l G X 0 0 0 [(0, .ref o0), (1, vI 35)] [] [cO o0 2 [.ref o1, vI n, vI i, vI kd, .ref o2, vI nr], cA o1 G.2.1.2.2.1 60 tx, cA o2 G.2.1.1 3 W]
  refine s_iload_n 1 C dX2_readPart_0 rfl 1 rfl ?_
  refine s_bipush (z := 35) C dX2_readPart_1 rfl ?_
  refine s_icmp_ne 11 C dX2_readPart_3 (by decide) (by decide) (by decide) (fun h => absurd h (by decide)) (fun h => ?_)
  refine s_aload_n 0 C dX2_readPart_6 rfl 0 rfl ?_
  refine s_callV (As := []) (rest := []) C dX2_readPart_7 (c_X2_readNumber l G o0 o1 o2 n i kd nr tx W (by first | assumption | omega) (by first | assumption | omega) (by first | assumption | omega) (by first | assumption | omega) (by first | assumption | omega)) gX2_readPart_X2_readNumber rfl 0 (by decide +kernel) (by decide) 0 2 rfl rfl rfl [0, 1, 2] rfl (by decide) rfl (Nat.le_of_ble_eq_true rfl) ⟨Nat.zero_le _, Nat.zero_le _⟩ ?_
  intro v0 w0 hq
  obtain ⟨z_7, q_7, nr2_7, W2_7, rfl, rfl, hq0_7, hq1_7, hq2_7, hq3_7⟩ := hq
  refine ⟨(fst_k (fst_k (fst_k rfl))), ?_⟩
  show fSt l G X 0 0 10 [(0, .ref o0), (1, vI 35)] [vI z_7] [cO o0 2 [.ref o1, vI n, vI q_7, vI kd, .ref o2, vI nr2_7], cA o1 G.2.1.2.2.1 60 tx, cA o2 G.2.1.1 3 W2_7]
  exact s_zret C E dX2_readPart_10 (narB (by rcases hq1_7 with h | h <;> omega)) ⟨z_7, q_7, nr2_7, W2_7, rfl, rfl, hq0_7, hq1_7, hq2_7, hq3_7⟩

set_option maxHeartbeats 4000000 in
set_option maxRecDepth 100000 in
theorem c_X2_readPart_c (l : Launch) (G : fG) (o0 o1 o2 : Nat) (n i kd nr : Int) (tx : Int → Int) (c : Int) (hn : 0 ≤ n ∧ n ≤ 60) (hX : rX tx) (hi : -2147483648 ≤ i ∧ i < 2147483648) (hc : c ≠ 35 ∧ 0 ≤ c ∧ c ≤ 126) : fCt l G yX2_readPart wsX2_readPart 1 21 0 0 [.ref o0, vI c] [cO o0 2 [.ref o1, vI n, vI i, vI kd, .ref o2, vI nr], cA o1 G.2.1.2.2.1 60 tx] (fun (v0 : Option Value) (w0 : va_W) => ∃ (z q : Int), v0 = some (vI z) ∧ w0 = [cO o0 2 [.ref o1, vI n, vI q, vI kd, .ref o2, vI nr], cA o1 G.2.1.2.2.1 60 tx] ∧ ((chA tx n i = c ∧ z = 1 ∧ q = i + 1) ∨ (chA tx n i ≠ c ∧ z = 0 ∧ q = i))) := by
  refine fs_met (cc := cX2_readPart) (nL := 2) (ret := (some .boolean)) (by decide) rfl (Nat.le_of_ble_eq_true rfl) ?_
  intro X C E
  show fSt l G X 0 0 0 [(0, .ref o0), (1, vI c)] [] [cO o0 2 [.ref o1, vI n, vI i, vI kd, .ref o2, vI nr], cA o1 G.2.1.2.2.1 60 tx]
  have hinX2 : ∀ w ∈ u_ws RX2 TX2 6, w ∈ wsX2_readPart := by decide +kernel
  have hcp := chA_rg (X := tx) (n := n) (i := i) hX
  refine s_iload_n 1 C dX2_readPart_0 rfl 1 rfl ?_
  refine s_bipush (z := 35) C dX2_readPart_1 rfl ?_
  refine s_icmp_ne 11 C dX2_readPart_3 (by decide) (by omega) (by omega) (fun h_3 => ?_) (fun h_3 => ?_)
  · refine s_aload_n 0 C dX2_readPart_11 rfl 0 rfl ?_
    refine s_aload_n 0 C dX2_readPart_12 rfl 0 rfl ?_
    refine s_get C dX2_readPart_13 2 rfl hinX2 0 rfl 2 (by decide) (by decide +kernel) rfl ?_
    refine s_callV (As := [vI i]) (rest := []) C dX2_readPart_16 (c_X2_characterAt l G o0 o1 o2 n i kd nr tx i (by first | assumption | omega) (by first | assumption | omega) (by first | assumption | omega)) gX2_readPart_X2_characterAt rfl 1 (by decide +kernel) (by decide) 0 2 rfl rfl rfl [0, 1] rfl (by decide) rfl (Nat.le_of_ble_eq_true rfl) ⟨Nat.zero_le _, Nat.zero_le _⟩ ?_
    intro v0 w0 hq
    obtain ⟨rfl, rfl⟩ := hq
    refine ⟨rfl, ?_⟩
    show fSt l G X 0 0 19 [(0, .ref o0), (1, vI c)] [vI (chA tx n i)] [cO o0 2 [.ref o1, vI n, vI i, vI kd, .ref o2, vI nr], cA o1 G.2.1.2.2.1 60 tx]
    refine s_iload_n 1 C dX2_readPart_19 rfl 1 rfl ?_
    refine s_icmp_eq 25 C dX2_readPart_20 (by decide) (by omega) (by omega) (fun h_20 => ?_) (fun h_20 => ?_)
    · refine s_aload_n 0 C dX2_readPart_25 rfl 0 rfl ?_
      refine s_dup C dX2_readPart_26 rfl ?_
      refine s_get C dX2_readPart_27 2 rfl hinX2 0 rfl 2 (by decide) (by decide +kernel) rfl ?_
      refine s_iconst C dX2_readPart_30 ?_
      refine s_iadd C dX2_readPart_31 ?_
      refine s_put [cO o0 2 [.ref o1, vI n, vI (i + 1), vI kd, .ref o2, vI nr], cA o1 G.2.1.2.2.1 60 tx] C dX2_readPart_32 2 rfl hinX2 tyX2 tyX2_ok nmX2 0 rfl 2 (by decide) (by decide +kernel) rfl rfl rfl (Nat.le_of_ble_eq_true rfl) rfl ?_
      refine s_iconst C dX2_readPart_35 ?_
      exact s_zret C E dX2_readPart_36 rfl ⟨1, (i + 1), rfl, rfl, Or.inl ⟨by omega, rfl, rfl⟩⟩
    · refine s_iconst C dX2_readPart_23 ?_
      exact s_zret C E dX2_readPart_24 rfl ⟨0, i, rfl, rfl, Or.inr ⟨by omega, rfl, rfl⟩⟩
  · exfalso
    omega

set_option maxHeartbeats 4000000 in
set_option maxRecDepth 100000 in
theorem c_X2_readOrder_0 (l : Launch) (G : fG) (o0 o1 o2 : Nat) (n i : Int) (tx W : Int → Int) (a0 k0 r0 : Int) (hn : 0 ≤ n ∧ n ≤ 60) (hX : rX tx) (hi : 0 ≤ i ∧ i < n) (hW : rF W) (hk : chA tx n i = 111 ∨ chA tx n i = 99 ∨ chA tx n i = 97 ∨ chA tx n i = 116) : fCt l G yX2_readOrder wsX2_readOrder 4 85 0 0 [.ref o0, vI i] [cO o0 2 [.ref o1, vI n, vI a0, vI k0, .ref o2, vI r0], cA o1 G.2.1.2.2.1 60 tx, cA o2 G.2.1.1 3 W] (fun (v0 : Option Value) (w0 : va_W) => ∃ (z q nr2 : Int) (W2 : Int → Int), v0 = some (vI z) ∧ w0 = [cO o0 2 [.ref o1, vI n, vI q, vI (chA tx n i), .ref o2, vI nr2], cA o1 G.2.1.2.2.1 60 tx, cA o2 G.2.1.1 3 W2] ∧ (RO tx n i z q nr2 W2)) := by
  refine fs_met (cc := cX2_readOrder) (nL := 4) (ret := (some .boolean)) (by decide) rfl (Nat.le_of_ble_eq_true rfl) ?_
  intro X C E
  show fSt l G X 0 0 0 [(0, .ref o0), (1, vI i)] [] [cO o0 2 [.ref o1, vI n, vI a0, vI k0, .ref o2, vI r0], cA o1 G.2.1.2.2.1 60 tx, cA o2 G.2.1.1 3 W]
  have hinX2 : ∀ w ∈ u_ws RX2 TX2 6, w ∈ wsX2_readOrder := by decide +kernel
  have hcp := chA_rg (X := tx) (n := n) (i := i) hX
  have hfm := fmN_1 hk
  refine s_aload_n 0 C dX2_readOrder_0 rfl 0 rfl ?_
  refine s_iload_n 1 C dX2_readOrder_1 rfl 1 rfl ?_
  refine s_put [cO o0 2 [.ref o1, vI n, vI i, vI k0, .ref o2, vI r0], cA o1 G.2.1.2.2.1 60 tx, cA o2 G.2.1.1 3 W] C dX2_readOrder_2 2 rfl hinX2 tyX2 tyX2_ok nmX2 0 rfl 2 (by decide) (by decide +kernel) rfl rfl rfl (Nat.le_of_ble_eq_true rfl) rfl ?_
  refine s_aload_n 0 C dX2_readOrder_5 rfl 0 rfl ?_
  refine s_iconst C dX2_readOrder_6 ?_
  refine s_put [cO o0 2 [.ref o1, vI n, vI i, vI k0, .ref o2, vI 0], cA o1 G.2.1.2.2.1 60 tx, cA o2 G.2.1.1 3 W] C dX2_readOrder_7 2 rfl hinX2 tyX2 tyX2_ok nmX2 0 rfl 5 (by decide) (by decide +kernel) rfl rfl rfl (Nat.le_of_ble_eq_true rfl) rfl ?_
  refine s_aload_n 0 C dX2_readOrder_10 rfl 0 rfl ?_
  refine s_aload_n 0 C dX2_readOrder_11 rfl 0 rfl ?_
  refine s_iload_n 1 C dX2_readOrder_12 rfl 1 rfl ?_
  refine s_callV (As := [vI i]) (rest := [.ref o0]) C dX2_readOrder_13 (c_X2_characterAt l G o0 o1 o2 n i k0 0 tx i (by first | assumption | omega) (by first | assumption | omega) (by first | assumption | omega)) gX2_readOrder_X2_characterAt rfl 1 (by decide +kernel) (by decide) 0 2 rfl rfl rfl [0, 1] rfl (by decide) rfl (Nat.le_of_ble_eq_true rfl) ⟨Nat.zero_le _, Nat.zero_le _⟩ ?_
  intro v0 w0 hq
  obtain ⟨rfl, rfl⟩ := hq
  refine ⟨rfl, ?_⟩
  show fSt l G X 0 0 16 [(0, .ref o0), (1, vI i)] [vI (chA tx n i), .ref o0] [cO o0 2 [.ref o1, vI n, vI i, vI k0, .ref o2, vI 0], cA o1 G.2.1.2.2.1 60 tx, cA o2 G.2.1.1 3 W]
  refine s_put [cO o0 2 [.ref o1, vI n, vI i, vI (chA tx n i), .ref o2, vI 0], cA o1 G.2.1.2.2.1 60 tx, cA o2 G.2.1.1 3 W] C dX2_readOrder_16 2 rfl hinX2 tyX2 tyX2_ok nmX2 0 rfl 3 (by decide) (by decide +kernel) rfl rfl rfl (Nat.le_of_ble_eq_true rfl) rfl ?_
  refine s_aload_n 0 C dX2_readOrder_19 rfl 0 rfl ?_
  refine s_get C dX2_readOrder_20 2 rfl hinX2 0 rfl 3 (by decide) (by decide +kernel) rfl ?_
  refine s_callS (As := [vI (chA tx n i)]) (rest := []) C dX2_readOrder_23 (c_X2_formBehind_0 l G (chA tx n i) (by first | assumption | omega) (by first | assumption | omega)) gX2_readOrder_X2_formBehind rfl 1 (by decide +kernel) (by decide) [] rfl (by decide) rfl (Nat.le_of_ble_eq_true rfl) ⟨Nat.zero_le _, Nat.zero_le _⟩ ?_
  intro v0 w0 hq
  obtain ⟨rfl, rfl⟩ := hq
  refine ⟨rfl, ?_⟩
  show fSt l G X 0 0 26 [(0, .ref o0), (1, vI i)] [.ref (G.2.2.1 0)] [cO o0 2 [.ref o1, vI n, vI i, vI (chA tx n i), .ref o2, vI 0], cA o1 G.2.1.2.2.1 60 tx, cA o2 G.2.1.1 3 W]
  refine s_astore_n 2 [(2, .ref (G.2.2.1 0)), (0, .ref o0), (1, vI i)] C dX2_readOrder_26 rfl (by decide) rfl ?_
  refine s_aload_n 2 C dX2_readOrder_27 rfl 0 rfl ?_
  refine s_callJ (As := []) (rest := []) 0 (by decide) C dX2_readOrder_28 (c_J0_isEmpty l G 0 (by decide)) gX2_readOrder_J0_isEmpty_aae02 rfl 0 (by decide +kernel) (by decide) rfl rfl (Nat.le_of_ble_eq_true rfl) ⟨Nat.zero_le _, Nat.zero_le _⟩ ?_
  intro v0 w0 hq
  obtain ⟨rfl, rfl⟩ := hq
  refine ⟨rfl, ?_⟩
  show fSt l G X 0 0 31 [(2, .ref (G.2.2.1 0)), (0, .ref o0), (1, vI i)] [vI (bI ((lS 0 : Int) = 0))] [cO o0 2 [.ref o1, vI n, vI i, vI (chA tx n i), .ref o2, vI 0], cA o1 G.2.1.2.2.1 60 tx, cA o2 G.2.1.1 3 W]
  refine s_top 0 (by decide) ?_
  refine s_if_eq 36 C dX2_readOrder_31 (by decide) (by decide) (fun h => ?_) (fun h => absurd h (by decide))
  refine s_aload_n 0 C dX2_readOrder_36 rfl 1 rfl ?_
  refine s_dup C dX2_readOrder_37 rfl ?_
  refine s_get C dX2_readOrder_38 2 rfl hinX2 0 rfl 2 (by decide) (by decide +kernel) rfl ?_
  refine s_iconst C dX2_readOrder_41 ?_
  refine s_iadd C dX2_readOrder_42 ?_
  refine s_put [cO o0 2 [.ref o1, vI n, vI (i + 1), vI (chA tx n i), .ref o2, vI 0], cA o1 G.2.1.2.2.1 60 tx, cA o2 G.2.1.1 3 W] C dX2_readOrder_43 2 rfl hinX2 tyX2 tyX2_ok nmX2 0 rfl 2 (by decide) (by decide +kernel) rfl rfl rfl (Nat.le_of_ble_eq_true rfl) rfl ?_
  refine s_iconst C dX2_readOrder_46 ?_
  refine s_istore_n 3 [(3, vI 0), (2, .ref (G.2.2.1 0)), (0, .ref o0), (1, vI i)] C dX2_readOrder_47 rfl (by decide) rfl ?_
  refine s_iload_n 3 C dX2_readOrder_48 rfl 0 rfl ?_
  refine s_aload_n 2 C dX2_readOrder_49 rfl 1 rfl ?_
  refine s_callJ (As := []) (rest := [vI 0]) 0 (by decide) C dX2_readOrder_50 (c_J0_length l G 0 (by decide)) gX2_readOrder_J0_length_8abf5 rfl 0 (by decide +kernel) (by decide) rfl rfl (Nat.le_of_ble_eq_true rfl) ⟨Nat.zero_le _, Nat.zero_le _⟩ ?_
  intro v0 w0 hq
  obtain ⟨rfl, rfl⟩ := hq
  refine ⟨rfl, ?_⟩
  show fSt l G X 0 0 53 [(3, vI 0), (2, .ref (G.2.2.1 0)), (0, .ref o0), (1, vI i)] [vI ((lS 0 : Int)), vI 0] [cO o0 2 [.ref o1, vI n, vI (i + 1), vI (chA tx n i), .ref o2, vI 0], cA o1 G.2.1.2.2.1 60 tx, cA o2 G.2.1.1 3 W]
  refine s_top 2 (by decide) ?_
  refine s_icmp_ge 76 C dX2_readOrder_53 (by decide) (by decide) (by decide) (fun h => absurd h (by decide)) (fun h => ?_)
  refine s_aload_n 0 C dX2_readOrder_56 rfl 2 rfl ?_
  refine s_aload_n 2 C dX2_readOrder_57 rfl 1 rfl ?_
  refine s_iload_n 3 C dX2_readOrder_58 rfl 0 rfl ?_
  refine s_callJ (As := [vI 0]) (rest := [.ref o0]) 0 (by decide) C dX2_readOrder_59 (c_J0_charAt l G 0 0 (by decide) (by decide)) gX2_readOrder_J0_charAt_5068e rfl 1 (by decide +kernel) (by decide) rfl rfl (Nat.le_of_ble_eq_true rfl) ⟨Nat.zero_le _, Nat.zero_le _⟩ ?_
  intro v0 w0 hq
  obtain ⟨rfl, rfl⟩ := hq
  refine ⟨rfl, ?_⟩
  show fSt l G X 0 0 62 [(3, vI 0), (2, .ref (G.2.2.1 0)), (0, .ref o0), (1, vI i)] [vI (cS 0 0), .ref o0] [cO o0 2 [.ref o1, vI n, vI (i + 1), vI (chA tx n i), .ref o2, vI 0], cA o1 G.2.1.2.2.1 60 tx, cA o2 G.2.1.1 3 W]
  refine s_top 35 (by decide) ?_
  refine s_callV (As := [vI 35]) (rest := []) C dX2_readOrder_62 (c_X2_readPart_n l G o0 o1 o2 n (i + 1) (chA tx n i) 0 tx W (by first | assumption | omega) hX (by first | assumption | omega) (by first | assumption | omega) hW) gX2_readOrder_X2_readPart rfl 1 (by decide +kernel) (by decide) 0 2 rfl rfl rfl [0, 1, 2] rfl (by decide) rfl (Nat.le_of_ble_eq_true rfl) ⟨Nat.zero_le _, Nat.zero_le _⟩ ?_
  intro v0 w0 hq
  obtain ⟨z_62_0, q_62_0, nr2_62_0, W2_62_0, rfl, rfl, hq0_62_0, hq1_62_0, hq2_62_0, hq3_62_0⟩ := hq
  refine ⟨(fst_k (fst_k (fst_k rfl))), ?_⟩
  show fSt l G X 0 0 65 [(3, vI 0), (2, .ref (G.2.2.1 0)), (0, .ref o0), (1, vI i)] [vI z_62_0] [cO o0 2 [.ref o1, vI n, vI q_62_0, vI (chA tx n i), .ref o2, vI nr2_62_0], cA o1 G.2.1.2.2.1 60 tx, cA o2 G.2.1.1 3 W2_62_0]
  refine s_if_ne 70 C dX2_readOrder_65 (by decide) (by omega) (fun h_65 => ?_) (fun h_65 => ?_)
  · have hx0 : (i + 1 < q_62_0 ∧ nr2_62_0 = 1) ∧ W2_62_0 = uZ W 0 (nV tx n (i + 1)) := by rcases hq1_62_0 with ⟨g1, g2, g3, g4⟩ | ⟨g1, g2, g3, g4⟩; (· exact ⟨⟨g1, by omega⟩, g4⟩); (· exfalso; omega)
    have hV0_0 : W2_62_0 0 = nV tx n (i + 1) := by rw [hx0.2]; exact (uZ_s)
    have hV0 := hV0_0
    refine s_iinc [(3, vI (0 + 1)), (2, .ref (G.2.2.1 0)), (0, .ref o0), (1, vI i)] C dX2_readOrder_70 0 rfl (by decide) rfl ?_
    refine s_goto 48 C dX2_readOrder_73 (by decide) ?_
    refine s_iload_n 3 C dX2_readOrder_48 rfl 0 rfl ?_
    refine s_aload_n 2 C dX2_readOrder_49 rfl 1 rfl ?_
    refine s_callJ (As := []) (rest := [vI (0 + 1)]) 0 (by decide) C dX2_readOrder_50 (c_J0_length l G 0 (by decide)) gX2_readOrder_J0_length_8abf5 rfl 0 (by decide +kernel) (by decide) rfl rfl (Nat.le_of_ble_eq_true rfl) ⟨Nat.zero_le _, Nat.zero_le _⟩ ?_
    intro v0 w0 hq
    obtain ⟨rfl, rfl⟩ := hq
    refine ⟨rfl, ?_⟩
    show fSt l G X 0 0 53 [(3, vI (0 + 1)), (2, .ref (G.2.2.1 0)), (0, .ref o0), (1, vI i)] [vI ((lS 0 : Int)), vI (0 + 1)] [cO o0 2 [.ref o1, vI n, vI q_62_0, vI (chA tx n i), .ref o2, vI nr2_62_0], cA o1 G.2.1.2.2.1 60 tx, cA o2 G.2.1.1 3 W2_62_0]
    refine s_top 2 (by decide) ?_
    refine s_icmp_ge 76 C dX2_readOrder_53 (by decide) (by decide) (by decide) (fun h => absurd h (by decide)) (fun h => ?_)
    refine s_aload_n 0 C dX2_readOrder_56 rfl 2 rfl ?_
    refine s_aload_n 2 C dX2_readOrder_57 rfl 1 rfl ?_
    refine s_iload_n 3 C dX2_readOrder_58 rfl 0 rfl ?_
    refine s_callJ (As := [vI (0 + 1)]) (rest := [.ref o0]) 0 (by decide) C dX2_readOrder_59 (c_J0_charAt l G 0 (0 + 1) (by decide) (by decide)) gX2_readOrder_J0_charAt_5068e rfl 1 (by decide +kernel) (by decide) rfl rfl (Nat.le_of_ble_eq_true rfl) ⟨Nat.zero_le _, Nat.zero_le _⟩ ?_
    intro v0 w0 hq
    obtain ⟨rfl, rfl⟩ := hq
    refine ⟨rfl, ?_⟩
    show fSt l G X 0 0 62 [(3, vI (0 + 1)), (2, .ref (G.2.2.1 0)), (0, .ref o0), (1, vI i)] [vI (cS 0 (0 + 1)), .ref o0] [cO o0 2 [.ref o1, vI n, vI q_62_0, vI (chA tx n i), .ref o2, vI nr2_62_0], cA o1 G.2.1.2.2.1 60 tx, cA o2 G.2.1.1 3 W2_62_0]
    refine s_top 59 (by decide) ?_
    refine s_callV (As := [vI 59]) (rest := []) C dX2_readOrder_62 (c_X2_readPart_c l G o0 o1 o2 n q_62_0 (chA tx n i) nr2_62_0 tx 59 (by first | assumption | omega) hX (by first | assumption | omega) (by first | assumption | omega)) gX2_readOrder_X2_readPart rfl 1 (by decide +kernel) (by decide) 0 2 rfl rfl rfl [0, 1] rfl (by decide) rfl (Nat.le_of_ble_eq_true rfl) ⟨Nat.zero_le _, Nat.zero_le _⟩ ?_
    intro v0 w0 hq
    obtain ⟨z_62_1, q_62_1, rfl, rfl, hq0_62_1⟩ := hq
    refine ⟨(fst_k rfl), ?_⟩
    show fSt l G X 0 0 65 [(3, vI (0 + 1)), (2, .ref (G.2.2.1 0)), (0, .ref o0), (1, vI i)] [vI z_62_1] [cO o0 2 [.ref o1, vI n, vI q_62_1, vI (chA tx n i), .ref o2, vI nr2_62_0], cA o1 G.2.1.2.2.1 60 tx, cA o2 G.2.1.1 3 W2_62_0]
    refine s_if_ne 70 C dX2_readOrder_65 (by decide) (by omega) (fun h_65_2 => ?_) (fun h_65_2 => ?_)
    · have hs1 : chA tx n q_62_0 = 59 ∧ q_62_1 = q_62_0 + 1 := by rcases hq0_62_1 with ⟨g1, g2, g3⟩ | ⟨g1, g2, g3⟩; (· exact ⟨g1, g3⟩); (· exfalso; omega)
      have ha1 := hs1.2
      have hl1 := chA_lt (X := tx) (n := n) (i := q_62_0) (by omega)
      refine s_iinc [(3, vI (0 + 1 + 1)), (2, .ref (G.2.2.1 0)), (0, .ref o0), (1, vI i)] C dX2_readOrder_70 0 rfl (by decide) rfl ?_
      refine s_goto 48 C dX2_readOrder_73 (by decide) ?_
      refine s_iload_n 3 C dX2_readOrder_48 rfl 0 rfl ?_
      refine s_aload_n 2 C dX2_readOrder_49 rfl 1 rfl ?_
      refine s_callJ (As := []) (rest := [vI (0 + 1 + 1)]) 0 (by decide) C dX2_readOrder_50 (c_J0_length l G 0 (by decide)) gX2_readOrder_J0_length_8abf5 rfl 0 (by decide +kernel) (by decide) rfl rfl (Nat.le_of_ble_eq_true rfl) ⟨Nat.zero_le _, Nat.zero_le _⟩ ?_
      intro v0 w0 hq
      obtain ⟨rfl, rfl⟩ := hq
      refine ⟨rfl, ?_⟩
      show fSt l G X 0 0 53 [(3, vI (0 + 1 + 1)), (2, .ref (G.2.2.1 0)), (0, .ref o0), (1, vI i)] [vI ((lS 0 : Int)), vI (0 + 1 + 1)] [cO o0 2 [.ref o1, vI n, vI q_62_1, vI (chA tx n i), .ref o2, vI nr2_62_0], cA o1 G.2.1.2.2.1 60 tx, cA o2 G.2.1.1 3 W2_62_0]
      refine s_top 2 (by decide) ?_
      refine s_icmp_ge 76 C dX2_readOrder_53 (by decide) (by decide) (by decide) (fun h => ?_) (fun h => absurd h (by decide))
      refine s_iconst C dX2_readOrder_76 ?_
      exact s_zret C E dX2_readOrder_77 rfl ⟨1, q_62_1, nr2_62_0, W2_62_0, rfl, rfl, (by rw [hs1.2]; exact (rd1_t hfm (by omega) hq2_62_0 hq0_62_0 (by omega) (by omega) hV0))⟩
    · refine s_iconst C dX2_readOrder_68 ?_
      exact s_zret C E dX2_readOrder_69 rfl ⟨0, q_62_1, nr2_62_0, W2_62_0, rfl, rfl, (by have hf : q_62_1 = q_62_0 ∧ chA tx n q_62_0 ≠ 59 := (by rcases hq0_62_1 with ⟨g1, g2, g3⟩ | ⟨g1, g2, g3⟩; (· exfalso; omega); (· exact ⟨g3, g1⟩)); rw [hf.1]; exact (rd1_f hfm (by omega) hq2_62_0 hq0_62_0 (by omega)))⟩
  · refine s_iconst C dX2_readOrder_68 ?_
    exact s_zret C E dX2_readOrder_69 rfl ⟨0, q_62_0, nr2_62_0, W2_62_0, rfl, rfl, ((rd1_f hfm (by omega) hq2_62_0 hq0_62_0 (by omega)))⟩

set_option maxHeartbeats 4000000 in
set_option maxRecDepth 100000 in
theorem c_X2_readOrder_1 (l : Launch) (G : fG) (o0 o1 o2 : Nat) (n i : Int) (tx W : Int → Int) (a0 k0 r0 : Int) (hn : 0 ≤ n ∧ n ≤ 60) (hX : rX tx) (hi : 0 ≤ i ∧ i < n) (hW : rF W) (hk : chA tx n i = 112) : fCt l G yX2_readOrder wsX2_readOrder 4 85 0 0 [.ref o0, vI i] [cO o0 2 [.ref o1, vI n, vI a0, vI k0, .ref o2, vI r0], cA o1 G.2.1.2.2.1 60 tx, cA o2 G.2.1.1 3 W] (fun (v0 : Option Value) (w0 : va_W) => ∃ (z q nr2 : Int) (W2 : Int → Int), v0 = some (vI z) ∧ w0 = [cO o0 2 [.ref o1, vI n, vI q, vI (chA tx n i), .ref o2, vI nr2], cA o1 G.2.1.2.2.1 60 tx, cA o2 G.2.1.1 3 W2] ∧ (RO tx n i z q nr2 W2)) := by
  refine fs_met (cc := cX2_readOrder) (nL := 4) (ret := (some .boolean)) (by decide) rfl (Nat.le_of_ble_eq_true rfl) ?_
  intro X C E
  show fSt l G X 0 0 0 [(0, .ref o0), (1, vI i)] [] [cO o0 2 [.ref o1, vI n, vI a0, vI k0, .ref o2, vI r0], cA o1 G.2.1.2.2.1 60 tx, cA o2 G.2.1.1 3 W]
  have hinX2 : ∀ w ∈ u_ws RX2 TX2 6, w ∈ wsX2_readOrder := by decide +kernel
  have hcp := chA_rg (X := tx) (n := n) (i := i) hX
  have hfm := fmN_3 hk
  refine s_aload_n 0 C dX2_readOrder_0 rfl 0 rfl ?_
  refine s_iload_n 1 C dX2_readOrder_1 rfl 1 rfl ?_
  refine s_put [cO o0 2 [.ref o1, vI n, vI i, vI k0, .ref o2, vI r0], cA o1 G.2.1.2.2.1 60 tx, cA o2 G.2.1.1 3 W] C dX2_readOrder_2 2 rfl hinX2 tyX2 tyX2_ok nmX2 0 rfl 2 (by decide) (by decide +kernel) rfl rfl rfl (Nat.le_of_ble_eq_true rfl) rfl ?_
  refine s_aload_n 0 C dX2_readOrder_5 rfl 0 rfl ?_
  refine s_iconst C dX2_readOrder_6 ?_
  refine s_put [cO o0 2 [.ref o1, vI n, vI i, vI k0, .ref o2, vI 0], cA o1 G.2.1.2.2.1 60 tx, cA o2 G.2.1.1 3 W] C dX2_readOrder_7 2 rfl hinX2 tyX2 tyX2_ok nmX2 0 rfl 5 (by decide) (by decide +kernel) rfl rfl rfl (Nat.le_of_ble_eq_true rfl) rfl ?_
  refine s_aload_n 0 C dX2_readOrder_10 rfl 0 rfl ?_
  refine s_aload_n 0 C dX2_readOrder_11 rfl 0 rfl ?_
  refine s_iload_n 1 C dX2_readOrder_12 rfl 1 rfl ?_
  refine s_callV (As := [vI i]) (rest := [.ref o0]) C dX2_readOrder_13 (c_X2_characterAt l G o0 o1 o2 n i k0 0 tx i (by first | assumption | omega) (by first | assumption | omega) (by first | assumption | omega)) gX2_readOrder_X2_characterAt rfl 1 (by decide +kernel) (by decide) 0 2 rfl rfl rfl [0, 1] rfl (by decide) rfl (Nat.le_of_ble_eq_true rfl) ⟨Nat.zero_le _, Nat.zero_le _⟩ ?_
  intro v0 w0 hq
  obtain ⟨rfl, rfl⟩ := hq
  refine ⟨rfl, ?_⟩
  show fSt l G X 0 0 16 [(0, .ref o0), (1, vI i)] [vI (chA tx n i), .ref o0] [cO o0 2 [.ref o1, vI n, vI i, vI k0, .ref o2, vI 0], cA o1 G.2.1.2.2.1 60 tx, cA o2 G.2.1.1 3 W]
  refine s_put [cO o0 2 [.ref o1, vI n, vI i, vI (chA tx n i), .ref o2, vI 0], cA o1 G.2.1.2.2.1 60 tx, cA o2 G.2.1.1 3 W] C dX2_readOrder_16 2 rfl hinX2 tyX2 tyX2_ok nmX2 0 rfl 3 (by decide) (by decide +kernel) rfl rfl rfl (Nat.le_of_ble_eq_true rfl) rfl ?_
  refine s_aload_n 0 C dX2_readOrder_19 rfl 0 rfl ?_
  refine s_get C dX2_readOrder_20 2 rfl hinX2 0 rfl 3 (by decide) (by decide +kernel) rfl ?_
  refine s_callS (As := [vI (chA tx n i)]) (rest := []) C dX2_readOrder_23 (c_X2_formBehind_1 l G (chA tx n i) (by first | assumption | omega) (by first | assumption | omega)) gX2_readOrder_X2_formBehind rfl 1 (by decide +kernel) (by decide) [] rfl (by decide) rfl (Nat.le_of_ble_eq_true rfl) ⟨Nat.zero_le _, Nat.zero_le _⟩ ?_
  intro v0 w0 hq
  obtain ⟨rfl, rfl⟩ := hq
  refine ⟨rfl, ?_⟩
  show fSt l G X 0 0 26 [(0, .ref o0), (1, vI i)] [.ref (G.2.2.1 1)] [cO o0 2 [.ref o1, vI n, vI i, vI (chA tx n i), .ref o2, vI 0], cA o1 G.2.1.2.2.1 60 tx, cA o2 G.2.1.1 3 W]
  refine s_astore_n 2 [(2, .ref (G.2.2.1 1)), (0, .ref o0), (1, vI i)] C dX2_readOrder_26 rfl (by decide) rfl ?_
  refine s_aload_n 2 C dX2_readOrder_27 rfl 0 rfl ?_
  refine s_callJ (As := []) (rest := []) 1 (by decide) C dX2_readOrder_28 (c_J0_isEmpty l G 1 (by decide)) gX2_readOrder_J0_isEmpty_aae02 rfl 0 (by decide +kernel) (by decide) rfl rfl (Nat.le_of_ble_eq_true rfl) ⟨Nat.zero_le _, Nat.zero_le _⟩ ?_
  intro v0 w0 hq
  obtain ⟨rfl, rfl⟩ := hq
  refine ⟨rfl, ?_⟩
  show fSt l G X 0 0 31 [(2, .ref (G.2.2.1 1)), (0, .ref o0), (1, vI i)] [vI (bI ((lS 1 : Int) = 0))] [cO o0 2 [.ref o1, vI n, vI i, vI (chA tx n i), .ref o2, vI 0], cA o1 G.2.1.2.2.1 60 tx, cA o2 G.2.1.1 3 W]
  refine s_top 0 (by decide) ?_
  refine s_if_eq 36 C dX2_readOrder_31 (by decide) (by decide) (fun h => ?_) (fun h => absurd h (by decide))
  refine s_aload_n 0 C dX2_readOrder_36 rfl 1 rfl ?_
  refine s_dup C dX2_readOrder_37 rfl ?_
  refine s_get C dX2_readOrder_38 2 rfl hinX2 0 rfl 2 (by decide) (by decide +kernel) rfl ?_
  refine s_iconst C dX2_readOrder_41 ?_
  refine s_iadd C dX2_readOrder_42 ?_
  refine s_put [cO o0 2 [.ref o1, vI n, vI (i + 1), vI (chA tx n i), .ref o2, vI 0], cA o1 G.2.1.2.2.1 60 tx, cA o2 G.2.1.1 3 W] C dX2_readOrder_43 2 rfl hinX2 tyX2 tyX2_ok nmX2 0 rfl 2 (by decide) (by decide +kernel) rfl rfl rfl (Nat.le_of_ble_eq_true rfl) rfl ?_
  refine s_iconst C dX2_readOrder_46 ?_
  refine s_istore_n 3 [(3, vI 0), (2, .ref (G.2.2.1 1)), (0, .ref o0), (1, vI i)] C dX2_readOrder_47 rfl (by decide) rfl ?_
  refine s_iload_n 3 C dX2_readOrder_48 rfl 0 rfl ?_
  refine s_aload_n 2 C dX2_readOrder_49 rfl 1 rfl ?_
  refine s_callJ (As := []) (rest := [vI 0]) 1 (by decide) C dX2_readOrder_50 (c_J0_length l G 1 (by decide)) gX2_readOrder_J0_length_8abf5 rfl 0 (by decide +kernel) (by decide) rfl rfl (Nat.le_of_ble_eq_true rfl) ⟨Nat.zero_le _, Nat.zero_le _⟩ ?_
  intro v0 w0 hq
  obtain ⟨rfl, rfl⟩ := hq
  refine ⟨rfl, ?_⟩
  show fSt l G X 0 0 53 [(3, vI 0), (2, .ref (G.2.2.1 1)), (0, .ref o0), (1, vI i)] [vI ((lS 1 : Int)), vI 0] [cO o0 2 [.ref o1, vI n, vI (i + 1), vI (chA tx n i), .ref o2, vI 0], cA o1 G.2.1.2.2.1 60 tx, cA o2 G.2.1.1 3 W]
  refine s_top 6 (by decide) ?_
  refine s_icmp_ge 76 C dX2_readOrder_53 (by decide) (by decide) (by decide) (fun h => absurd h (by decide)) (fun h => ?_)
  refine s_aload_n 0 C dX2_readOrder_56 rfl 2 rfl ?_
  refine s_aload_n 2 C dX2_readOrder_57 rfl 1 rfl ?_
  refine s_iload_n 3 C dX2_readOrder_58 rfl 0 rfl ?_
  refine s_callJ (As := [vI 0]) (rest := [.ref o0]) 1 (by decide) C dX2_readOrder_59 (c_J0_charAt l G 1 0 (by decide) (by decide)) gX2_readOrder_J0_charAt_5068e rfl 1 (by decide +kernel) (by decide) rfl rfl (Nat.le_of_ble_eq_true rfl) ⟨Nat.zero_le _, Nat.zero_le _⟩ ?_
  intro v0 w0 hq
  obtain ⟨rfl, rfl⟩ := hq
  refine ⟨rfl, ?_⟩
  show fSt l G X 0 0 62 [(3, vI 0), (2, .ref (G.2.2.1 1)), (0, .ref o0), (1, vI i)] [vI (cS 1 0), .ref o0] [cO o0 2 [.ref o1, vI n, vI (i + 1), vI (chA tx n i), .ref o2, vI 0], cA o1 G.2.1.2.2.1 60 tx, cA o2 G.2.1.1 3 W]
  refine s_top 35 (by decide) ?_
  refine s_callV (As := [vI 35]) (rest := []) C dX2_readOrder_62 (c_X2_readPart_n l G o0 o1 o2 n (i + 1) (chA tx n i) 0 tx W (by first | assumption | omega) hX (by first | assumption | omega) (by first | assumption | omega) hW) gX2_readOrder_X2_readPart rfl 1 (by decide +kernel) (by decide) 0 2 rfl rfl rfl [0, 1, 2] rfl (by decide) rfl (Nat.le_of_ble_eq_true rfl) ⟨Nat.zero_le _, Nat.zero_le _⟩ ?_
  intro v0 w0 hq
  obtain ⟨z_62_0, q_62_0, nr2_62_0, W2_62_0, rfl, rfl, hq0_62_0, hq1_62_0, hq2_62_0, hq3_62_0⟩ := hq
  refine ⟨(fst_k (fst_k (fst_k rfl))), ?_⟩
  show fSt l G X 0 0 65 [(3, vI 0), (2, .ref (G.2.2.1 1)), (0, .ref o0), (1, vI i)] [vI z_62_0] [cO o0 2 [.ref o1, vI n, vI q_62_0, vI (chA tx n i), .ref o2, vI nr2_62_0], cA o1 G.2.1.2.2.1 60 tx, cA o2 G.2.1.1 3 W2_62_0]
  refine s_if_ne 70 C dX2_readOrder_65 (by decide) (by omega) (fun h_65 => ?_) (fun h_65 => ?_)
  · have hx0 : (i + 1 < q_62_0 ∧ nr2_62_0 = 1) ∧ W2_62_0 = uZ W 0 (nV tx n (i + 1)) := by rcases hq1_62_0 with ⟨g1, g2, g3, g4⟩ | ⟨g1, g2, g3, g4⟩; (· exact ⟨⟨g1, by omega⟩, g4⟩); (· exfalso; omega)
    have hV0_0 : W2_62_0 0 = nV tx n (i + 1) := by rw [hx0.2]; exact (uZ_s)
    have hV0 := hV0_0
    refine s_iinc [(3, vI (0 + 1)), (2, .ref (G.2.2.1 1)), (0, .ref o0), (1, vI i)] C dX2_readOrder_70 0 rfl (by decide) rfl ?_
    refine s_goto 48 C dX2_readOrder_73 (by decide) ?_
    refine s_iload_n 3 C dX2_readOrder_48 rfl 0 rfl ?_
    refine s_aload_n 2 C dX2_readOrder_49 rfl 1 rfl ?_
    refine s_callJ (As := []) (rest := [vI (0 + 1)]) 1 (by decide) C dX2_readOrder_50 (c_J0_length l G 1 (by decide)) gX2_readOrder_J0_length_8abf5 rfl 0 (by decide +kernel) (by decide) rfl rfl (Nat.le_of_ble_eq_true rfl) ⟨Nat.zero_le _, Nat.zero_le _⟩ ?_
    intro v0 w0 hq
    obtain ⟨rfl, rfl⟩ := hq
    refine ⟨rfl, ?_⟩
    show fSt l G X 0 0 53 [(3, vI (0 + 1)), (2, .ref (G.2.2.1 1)), (0, .ref o0), (1, vI i)] [vI ((lS 1 : Int)), vI (0 + 1)] [cO o0 2 [.ref o1, vI n, vI q_62_0, vI (chA tx n i), .ref o2, vI nr2_62_0], cA o1 G.2.1.2.2.1 60 tx, cA o2 G.2.1.1 3 W2_62_0]
    refine s_top 6 (by decide) ?_
    refine s_icmp_ge 76 C dX2_readOrder_53 (by decide) (by decide) (by decide) (fun h => absurd h (by decide)) (fun h => ?_)
    refine s_aload_n 0 C dX2_readOrder_56 rfl 2 rfl ?_
    refine s_aload_n 2 C dX2_readOrder_57 rfl 1 rfl ?_
    refine s_iload_n 3 C dX2_readOrder_58 rfl 0 rfl ?_
    refine s_callJ (As := [vI (0 + 1)]) (rest := [.ref o0]) 1 (by decide) C dX2_readOrder_59 (c_J0_charAt l G 1 (0 + 1) (by decide) (by decide)) gX2_readOrder_J0_charAt_5068e rfl 1 (by decide +kernel) (by decide) rfl rfl (Nat.le_of_ble_eq_true rfl) ⟨Nat.zero_le _, Nat.zero_le _⟩ ?_
    intro v0 w0 hq
    obtain ⟨rfl, rfl⟩ := hq
    refine ⟨rfl, ?_⟩
    show fSt l G X 0 0 62 [(3, vI (0 + 1)), (2, .ref (G.2.2.1 1)), (0, .ref o0), (1, vI i)] [vI (cS 1 (0 + 1)), .ref o0] [cO o0 2 [.ref o1, vI n, vI q_62_0, vI (chA tx n i), .ref o2, vI nr2_62_0], cA o1 G.2.1.2.2.1 60 tx, cA o2 G.2.1.1 3 W2_62_0]
    refine s_top 44 (by decide) ?_
    refine s_callV (As := [vI 44]) (rest := []) C dX2_readOrder_62 (c_X2_readPart_c l G o0 o1 o2 n q_62_0 (chA tx n i) nr2_62_0 tx 44 (by first | assumption | omega) hX (by first | assumption | omega) (by first | assumption | omega)) gX2_readOrder_X2_readPart rfl 1 (by decide +kernel) (by decide) 0 2 rfl rfl rfl [0, 1] rfl (by decide) rfl (Nat.le_of_ble_eq_true rfl) ⟨Nat.zero_le _, Nat.zero_le _⟩ ?_
    intro v0 w0 hq
    obtain ⟨z_62_1, q_62_1, rfl, rfl, hq0_62_1⟩ := hq
    refine ⟨(fst_k rfl), ?_⟩
    show fSt l G X 0 0 65 [(3, vI (0 + 1)), (2, .ref (G.2.2.1 1)), (0, .ref o0), (1, vI i)] [vI z_62_1] [cO o0 2 [.ref o1, vI n, vI q_62_1, vI (chA tx n i), .ref o2, vI nr2_62_0], cA o1 G.2.1.2.2.1 60 tx, cA o2 G.2.1.1 3 W2_62_0]
    refine s_if_ne 70 C dX2_readOrder_65 (by decide) (by omega) (fun h_65_2 => ?_) (fun h_65_2 => ?_)
    · have hs1 : chA tx n q_62_0 = 44 ∧ q_62_1 = q_62_0 + 1 := by rcases hq0_62_1 with ⟨g1, g2, g3⟩ | ⟨g1, g2, g3⟩; (· exact ⟨g1, g3⟩); (· exfalso; omega)
      have ha1 := hs1.2
      have hl1 := chA_lt (X := tx) (n := n) (i := q_62_0) (by omega)
      refine s_iinc [(3, vI (0 + 1 + 1)), (2, .ref (G.2.2.1 1)), (0, .ref o0), (1, vI i)] C dX2_readOrder_70 0 rfl (by decide) rfl ?_
      refine s_goto 48 C dX2_readOrder_73 (by decide) ?_
      refine s_iload_n 3 C dX2_readOrder_48 rfl 0 rfl ?_
      refine s_aload_n 2 C dX2_readOrder_49 rfl 1 rfl ?_
      refine s_callJ (As := []) (rest := [vI (0 + 1 + 1)]) 1 (by decide) C dX2_readOrder_50 (c_J0_length l G 1 (by decide)) gX2_readOrder_J0_length_8abf5 rfl 0 (by decide +kernel) (by decide) rfl rfl (Nat.le_of_ble_eq_true rfl) ⟨Nat.zero_le _, Nat.zero_le _⟩ ?_
      intro v0 w0 hq
      obtain ⟨rfl, rfl⟩ := hq
      refine ⟨rfl, ?_⟩
      show fSt l G X 0 0 53 [(3, vI (0 + 1 + 1)), (2, .ref (G.2.2.1 1)), (0, .ref o0), (1, vI i)] [vI ((lS 1 : Int)), vI (0 + 1 + 1)] [cO o0 2 [.ref o1, vI n, vI q_62_1, vI (chA tx n i), .ref o2, vI nr2_62_0], cA o1 G.2.1.2.2.1 60 tx, cA o2 G.2.1.1 3 W2_62_0]
      refine s_top 6 (by decide) ?_
      refine s_icmp_ge 76 C dX2_readOrder_53 (by decide) (by decide) (by decide) (fun h => absurd h (by decide)) (fun h => ?_)
      refine s_aload_n 0 C dX2_readOrder_56 rfl 2 rfl ?_
      refine s_aload_n 2 C dX2_readOrder_57 rfl 1 rfl ?_
      refine s_iload_n 3 C dX2_readOrder_58 rfl 0 rfl ?_
      refine s_callJ (As := [vI (0 + 1 + 1)]) (rest := [.ref o0]) 1 (by decide) C dX2_readOrder_59 (c_J0_charAt l G 1 (0 + 1 + 1) (by decide) (by decide)) gX2_readOrder_J0_charAt_5068e rfl 1 (by decide +kernel) (by decide) rfl rfl (Nat.le_of_ble_eq_true rfl) ⟨Nat.zero_le _, Nat.zero_le _⟩ ?_
      intro v0 w0 hq
      obtain ⟨rfl, rfl⟩ := hq
      refine ⟨rfl, ?_⟩
      show fSt l G X 0 0 62 [(3, vI (0 + 1 + 1)), (2, .ref (G.2.2.1 1)), (0, .ref o0), (1, vI i)] [vI (cS 1 (0 + 1 + 1)), .ref o0] [cO o0 2 [.ref o1, vI n, vI q_62_1, vI (chA tx n i), .ref o2, vI nr2_62_0], cA o1 G.2.1.2.2.1 60 tx, cA o2 G.2.1.1 3 W2_62_0]
      refine s_top 35 (by decide) ?_
      refine s_callV (As := [vI 35]) (rest := []) C dX2_readOrder_62 (c_X2_readPart_n l G o0 o1 o2 n q_62_1 (chA tx n i) nr2_62_0 tx W2_62_0 (by first | assumption | omega) hX (by first | assumption | omega) (by first | assumption | omega) hq2_62_0) gX2_readOrder_X2_readPart rfl 1 (by decide +kernel) (by decide) 0 2 rfl rfl rfl [0, 1, 2] rfl (by decide) rfl (Nat.le_of_ble_eq_true rfl) ⟨Nat.zero_le _, Nat.zero_le _⟩ ?_
      intro v0 w0 hq
      obtain ⟨z_62_3, q_62_3, nr2_62_3, W2_62_3, rfl, rfl, hq0_62_3, hq1_62_3, hq2_62_3, hq3_62_3⟩ := hq
      refine ⟨(fst_k (fst_k (fst_k rfl))), ?_⟩
      show fSt l G X 0 0 65 [(3, vI (0 + 1 + 1)), (2, .ref (G.2.2.1 1)), (0, .ref o0), (1, vI i)] [vI z_62_3] [cO o0 2 [.ref o1, vI n, vI q_62_3, vI (chA tx n i), .ref o2, vI nr2_62_3], cA o1 G.2.1.2.2.1 60 tx, cA o2 G.2.1.1 3 W2_62_3]
      refine s_if_ne 70 C dX2_readOrder_65 (by decide) (by omega) (fun h_65_4 => ?_) (fun h_65_4 => ?_)
      · have hx2 : (q_62_1 < q_62_3 ∧ nr2_62_3 = 2) ∧ W2_62_3 = uZ W2_62_0 1 (nV tx n q_62_1) := by rcases hq1_62_3 with ⟨g1, g2, g3, g4⟩ | ⟨g1, g2, g3, g4⟩; (· exact ⟨⟨g1, by omega⟩, by rw [g4]; congr 1; omega⟩); (· exfalso; omega)
        have hV0_2 : W2_62_3 0 = nV tx n (i + 1) := by rw [hx2.2]; exact ((uZ_n (by omega)).trans hV0)
        have hV1_2 : W2_62_3 1 = nV tx n q_62_1 := by rw [hx2.2]; exact (uZ_s)
        have hV0 := hV0_2
        have hV1 := hV1_2
        refine s_iinc [(3, vI (0 + 1 + 1 + 1)), (2, .ref (G.2.2.1 1)), (0, .ref o0), (1, vI i)] C dX2_readOrder_70 0 rfl (by decide) rfl ?_
        refine s_goto 48 C dX2_readOrder_73 (by decide) ?_
        refine s_iload_n 3 C dX2_readOrder_48 rfl 0 rfl ?_
        refine s_aload_n 2 C dX2_readOrder_49 rfl 1 rfl ?_
        refine s_callJ (As := []) (rest := [vI (0 + 1 + 1 + 1)]) 1 (by decide) C dX2_readOrder_50 (c_J0_length l G 1 (by decide)) gX2_readOrder_J0_length_8abf5 rfl 0 (by decide +kernel) (by decide) rfl rfl (Nat.le_of_ble_eq_true rfl) ⟨Nat.zero_le _, Nat.zero_le _⟩ ?_
        intro v0 w0 hq
        obtain ⟨rfl, rfl⟩ := hq
        refine ⟨rfl, ?_⟩
        show fSt l G X 0 0 53 [(3, vI (0 + 1 + 1 + 1)), (2, .ref (G.2.2.1 1)), (0, .ref o0), (1, vI i)] [vI ((lS 1 : Int)), vI (0 + 1 + 1 + 1)] [cO o0 2 [.ref o1, vI n, vI q_62_3, vI (chA tx n i), .ref o2, vI nr2_62_3], cA o1 G.2.1.2.2.1 60 tx, cA o2 G.2.1.1 3 W2_62_3]
        refine s_top 6 (by decide) ?_
        refine s_icmp_ge 76 C dX2_readOrder_53 (by decide) (by decide) (by decide) (fun h => absurd h (by decide)) (fun h => ?_)
        refine s_aload_n 0 C dX2_readOrder_56 rfl 2 rfl ?_
        refine s_aload_n 2 C dX2_readOrder_57 rfl 1 rfl ?_
        refine s_iload_n 3 C dX2_readOrder_58 rfl 0 rfl ?_
        refine s_callJ (As := [vI (0 + 1 + 1 + 1)]) (rest := [.ref o0]) 1 (by decide) C dX2_readOrder_59 (c_J0_charAt l G 1 (0 + 1 + 1 + 1) (by decide) (by decide)) gX2_readOrder_J0_charAt_5068e rfl 1 (by decide +kernel) (by decide) rfl rfl (Nat.le_of_ble_eq_true rfl) ⟨Nat.zero_le _, Nat.zero_le _⟩ ?_
        intro v0 w0 hq
        obtain ⟨rfl, rfl⟩ := hq
        refine ⟨rfl, ?_⟩
        show fSt l G X 0 0 62 [(3, vI (0 + 1 + 1 + 1)), (2, .ref (G.2.2.1 1)), (0, .ref o0), (1, vI i)] [vI (cS 1 (0 + 1 + 1 + 1)), .ref o0] [cO o0 2 [.ref o1, vI n, vI q_62_3, vI (chA tx n i), .ref o2, vI nr2_62_3], cA o1 G.2.1.2.2.1 60 tx, cA o2 G.2.1.1 3 W2_62_3]
        refine s_top 61 (by decide) ?_
        refine s_callV (As := [vI 61]) (rest := []) C dX2_readOrder_62 (c_X2_readPart_c l G o0 o1 o2 n q_62_3 (chA tx n i) nr2_62_3 tx 61 (by first | assumption | omega) hX (by first | assumption | omega) (by first | assumption | omega)) gX2_readOrder_X2_readPart rfl 1 (by decide +kernel) (by decide) 0 2 rfl rfl rfl [0, 1] rfl (by decide) rfl (Nat.le_of_ble_eq_true rfl) ⟨Nat.zero_le _, Nat.zero_le _⟩ ?_
        intro v0 w0 hq
        obtain ⟨z_62_5, q_62_5, rfl, rfl, hq0_62_5⟩ := hq
        refine ⟨(fst_k rfl), ?_⟩
        show fSt l G X 0 0 65 [(3, vI (0 + 1 + 1 + 1)), (2, .ref (G.2.2.1 1)), (0, .ref o0), (1, vI i)] [vI z_62_5] [cO o0 2 [.ref o1, vI n, vI q_62_5, vI (chA tx n i), .ref o2, vI nr2_62_3], cA o1 G.2.1.2.2.1 60 tx, cA o2 G.2.1.1 3 W2_62_3]
        refine s_if_ne 70 C dX2_readOrder_65 (by decide) (by omega) (fun h_65_6 => ?_) (fun h_65_6 => ?_)
        · have hs3 : chA tx n q_62_3 = 61 ∧ q_62_5 = q_62_3 + 1 := by rcases hq0_62_5 with ⟨g1, g2, g3⟩ | ⟨g1, g2, g3⟩; (· exact ⟨g1, g3⟩); (· exfalso; omega)
          have ha2 := hs3.2
          have hl3 := chA_lt (X := tx) (n := n) (i := q_62_3) (by omega)
          refine s_iinc [(3, vI (0 + 1 + 1 + 1 + 1)), (2, .ref (G.2.2.1 1)), (0, .ref o0), (1, vI i)] C dX2_readOrder_70 0 rfl (by decide) rfl ?_
          refine s_goto 48 C dX2_readOrder_73 (by decide) ?_
          refine s_iload_n 3 C dX2_readOrder_48 rfl 0 rfl ?_
          refine s_aload_n 2 C dX2_readOrder_49 rfl 1 rfl ?_
          refine s_callJ (As := []) (rest := [vI (0 + 1 + 1 + 1 + 1)]) 1 (by decide) C dX2_readOrder_50 (c_J0_length l G 1 (by decide)) gX2_readOrder_J0_length_8abf5 rfl 0 (by decide +kernel) (by decide) rfl rfl (Nat.le_of_ble_eq_true rfl) ⟨Nat.zero_le _, Nat.zero_le _⟩ ?_
          intro v0 w0 hq
          obtain ⟨rfl, rfl⟩ := hq
          refine ⟨rfl, ?_⟩
          show fSt l G X 0 0 53 [(3, vI (0 + 1 + 1 + 1 + 1)), (2, .ref (G.2.2.1 1)), (0, .ref o0), (1, vI i)] [vI ((lS 1 : Int)), vI (0 + 1 + 1 + 1 + 1)] [cO o0 2 [.ref o1, vI n, vI q_62_5, vI (chA tx n i), .ref o2, vI nr2_62_3], cA o1 G.2.1.2.2.1 60 tx, cA o2 G.2.1.1 3 W2_62_3]
          refine s_top 6 (by decide) ?_
          refine s_icmp_ge 76 C dX2_readOrder_53 (by decide) (by decide) (by decide) (fun h => absurd h (by decide)) (fun h => ?_)
          refine s_aload_n 0 C dX2_readOrder_56 rfl 2 rfl ?_
          refine s_aload_n 2 C dX2_readOrder_57 rfl 1 rfl ?_
          refine s_iload_n 3 C dX2_readOrder_58 rfl 0 rfl ?_
          refine s_callJ (As := [vI (0 + 1 + 1 + 1 + 1)]) (rest := [.ref o0]) 1 (by decide) C dX2_readOrder_59 (c_J0_charAt l G 1 (0 + 1 + 1 + 1 + 1) (by decide) (by decide)) gX2_readOrder_J0_charAt_5068e rfl 1 (by decide +kernel) (by decide) rfl rfl (Nat.le_of_ble_eq_true rfl) ⟨Nat.zero_le _, Nat.zero_le _⟩ ?_
          intro v0 w0 hq
          obtain ⟨rfl, rfl⟩ := hq
          refine ⟨rfl, ?_⟩
          show fSt l G X 0 0 62 [(3, vI (0 + 1 + 1 + 1 + 1)), (2, .ref (G.2.2.1 1)), (0, .ref o0), (1, vI i)] [vI (cS 1 (0 + 1 + 1 + 1 + 1)), .ref o0] [cO o0 2 [.ref o1, vI n, vI q_62_5, vI (chA tx n i), .ref o2, vI nr2_62_3], cA o1 G.2.1.2.2.1 60 tx, cA o2 G.2.1.1 3 W2_62_3]
          refine s_top 35 (by decide) ?_
          refine s_callV (As := [vI 35]) (rest := []) C dX2_readOrder_62 (c_X2_readPart_n l G o0 o1 o2 n q_62_5 (chA tx n i) nr2_62_3 tx W2_62_3 (by first | assumption | omega) hX (by first | assumption | omega) (by first | assumption | omega) hq2_62_3) gX2_readOrder_X2_readPart rfl 1 (by decide +kernel) (by decide) 0 2 rfl rfl rfl [0, 1, 2] rfl (by decide) rfl (Nat.le_of_ble_eq_true rfl) ⟨Nat.zero_le _, Nat.zero_le _⟩ ?_
          intro v0 w0 hq
          obtain ⟨z_62_7, q_62_7, nr2_62_7, W2_62_7, rfl, rfl, hq0_62_7, hq1_62_7, hq2_62_7, hq3_62_7⟩ := hq
          refine ⟨(fst_k (fst_k (fst_k rfl))), ?_⟩
          show fSt l G X 0 0 65 [(3, vI (0 + 1 + 1 + 1 + 1)), (2, .ref (G.2.2.1 1)), (0, .ref o0), (1, vI i)] [vI z_62_7] [cO o0 2 [.ref o1, vI n, vI q_62_7, vI (chA tx n i), .ref o2, vI nr2_62_7], cA o1 G.2.1.2.2.1 60 tx, cA o2 G.2.1.1 3 W2_62_7]
          refine s_if_ne 70 C dX2_readOrder_65 (by decide) (by omega) (fun h_65_8 => ?_) (fun h_65_8 => ?_)
          · have hx4 : (q_62_5 < q_62_7 ∧ nr2_62_7 = 3) ∧ W2_62_7 = uZ W2_62_3 2 (nV tx n q_62_5) := by rcases hq1_62_7 with ⟨g1, g2, g3, g4⟩ | ⟨g1, g2, g3, g4⟩; (· exact ⟨⟨g1, by omega⟩, by rw [g4]; congr 1; omega⟩); (· exfalso; omega)
            have hV0_4 : W2_62_7 0 = nV tx n (i + 1) := by rw [hx4.2]; exact ((uZ_n (by omega)).trans hV0)
            have hV1_4 : W2_62_7 1 = nV tx n q_62_1 := by rw [hx4.2]; exact ((uZ_n (by omega)).trans hV1)
            have hV2_4 : W2_62_7 2 = nV tx n q_62_5 := by rw [hx4.2]; exact (uZ_s)
            have hV0 := hV0_4
            have hV1 := hV1_4
            have hV2 := hV2_4
            refine s_iinc [(3, vI (0 + 1 + 1 + 1 + 1 + 1)), (2, .ref (G.2.2.1 1)), (0, .ref o0), (1, vI i)] C dX2_readOrder_70 0 rfl (by decide) rfl ?_
            refine s_goto 48 C dX2_readOrder_73 (by decide) ?_
            refine s_iload_n 3 C dX2_readOrder_48 rfl 0 rfl ?_
            refine s_aload_n 2 C dX2_readOrder_49 rfl 1 rfl ?_
            refine s_callJ (As := []) (rest := [vI (0 + 1 + 1 + 1 + 1 + 1)]) 1 (by decide) C dX2_readOrder_50 (c_J0_length l G 1 (by decide)) gX2_readOrder_J0_length_8abf5 rfl 0 (by decide +kernel) (by decide) rfl rfl (Nat.le_of_ble_eq_true rfl) ⟨Nat.zero_le _, Nat.zero_le _⟩ ?_
            intro v0 w0 hq
            obtain ⟨rfl, rfl⟩ := hq
            refine ⟨rfl, ?_⟩
            show fSt l G X 0 0 53 [(3, vI (0 + 1 + 1 + 1 + 1 + 1)), (2, .ref (G.2.2.1 1)), (0, .ref o0), (1, vI i)] [vI ((lS 1 : Int)), vI (0 + 1 + 1 + 1 + 1 + 1)] [cO o0 2 [.ref o1, vI n, vI q_62_7, vI (chA tx n i), .ref o2, vI nr2_62_7], cA o1 G.2.1.2.2.1 60 tx, cA o2 G.2.1.1 3 W2_62_7]
            refine s_top 6 (by decide) ?_
            refine s_icmp_ge 76 C dX2_readOrder_53 (by decide) (by decide) (by decide) (fun h => absurd h (by decide)) (fun h => ?_)
            refine s_aload_n 0 C dX2_readOrder_56 rfl 2 rfl ?_
            refine s_aload_n 2 C dX2_readOrder_57 rfl 1 rfl ?_
            refine s_iload_n 3 C dX2_readOrder_58 rfl 0 rfl ?_
            refine s_callJ (As := [vI (0 + 1 + 1 + 1 + 1 + 1)]) (rest := [.ref o0]) 1 (by decide) C dX2_readOrder_59 (c_J0_charAt l G 1 (0 + 1 + 1 + 1 + 1 + 1) (by decide) (by decide)) gX2_readOrder_J0_charAt_5068e rfl 1 (by decide +kernel) (by decide) rfl rfl (Nat.le_of_ble_eq_true rfl) ⟨Nat.zero_le _, Nat.zero_le _⟩ ?_
            intro v0 w0 hq
            obtain ⟨rfl, rfl⟩ := hq
            refine ⟨rfl, ?_⟩
            show fSt l G X 0 0 62 [(3, vI (0 + 1 + 1 + 1 + 1 + 1)), (2, .ref (G.2.2.1 1)), (0, .ref o0), (1, vI i)] [vI (cS 1 (0 + 1 + 1 + 1 + 1 + 1)), .ref o0] [cO o0 2 [.ref o1, vI n, vI q_62_7, vI (chA tx n i), .ref o2, vI nr2_62_7], cA o1 G.2.1.2.2.1 60 tx, cA o2 G.2.1.1 3 W2_62_7]
            refine s_top 59 (by decide) ?_
            refine s_callV (As := [vI 59]) (rest := []) C dX2_readOrder_62 (c_X2_readPart_c l G o0 o1 o2 n q_62_7 (chA tx n i) nr2_62_7 tx 59 (by first | assumption | omega) hX (by first | assumption | omega) (by first | assumption | omega)) gX2_readOrder_X2_readPart rfl 1 (by decide +kernel) (by decide) 0 2 rfl rfl rfl [0, 1] rfl (by decide) rfl (Nat.le_of_ble_eq_true rfl) ⟨Nat.zero_le _, Nat.zero_le _⟩ ?_
            intro v0 w0 hq
            obtain ⟨z_62_9, q_62_9, rfl, rfl, hq0_62_9⟩ := hq
            refine ⟨(fst_k rfl), ?_⟩
            show fSt l G X 0 0 65 [(3, vI (0 + 1 + 1 + 1 + 1 + 1)), (2, .ref (G.2.2.1 1)), (0, .ref o0), (1, vI i)] [vI z_62_9] [cO o0 2 [.ref o1, vI n, vI q_62_9, vI (chA tx n i), .ref o2, vI nr2_62_7], cA o1 G.2.1.2.2.1 60 tx, cA o2 G.2.1.1 3 W2_62_7]
            refine s_if_ne 70 C dX2_readOrder_65 (by decide) (by omega) (fun h_65_10 => ?_) (fun h_65_10 => ?_)
            · have hs5 : chA tx n q_62_7 = 59 ∧ q_62_9 = q_62_7 + 1 := by rcases hq0_62_9 with ⟨g1, g2, g3⟩ | ⟨g1, g2, g3⟩; (· exact ⟨g1, g3⟩); (· exfalso; omega)
              have ha3 := hs5.2
              have hl5 := chA_lt (X := tx) (n := n) (i := q_62_7) (by omega)
              refine s_iinc [(3, vI (0 + 1 + 1 + 1 + 1 + 1 + 1)), (2, .ref (G.2.2.1 1)), (0, .ref o0), (1, vI i)] C dX2_readOrder_70 0 rfl (by decide) rfl ?_
              refine s_goto 48 C dX2_readOrder_73 (by decide) ?_
              refine s_iload_n 3 C dX2_readOrder_48 rfl 0 rfl ?_
              refine s_aload_n 2 C dX2_readOrder_49 rfl 1 rfl ?_
              refine s_callJ (As := []) (rest := [vI (0 + 1 + 1 + 1 + 1 + 1 + 1)]) 1 (by decide) C dX2_readOrder_50 (c_J0_length l G 1 (by decide)) gX2_readOrder_J0_length_8abf5 rfl 0 (by decide +kernel) (by decide) rfl rfl (Nat.le_of_ble_eq_true rfl) ⟨Nat.zero_le _, Nat.zero_le _⟩ ?_
              intro v0 w0 hq
              obtain ⟨rfl, rfl⟩ := hq
              refine ⟨rfl, ?_⟩
              show fSt l G X 0 0 53 [(3, vI (0 + 1 + 1 + 1 + 1 + 1 + 1)), (2, .ref (G.2.2.1 1)), (0, .ref o0), (1, vI i)] [vI ((lS 1 : Int)), vI (0 + 1 + 1 + 1 + 1 + 1 + 1)] [cO o0 2 [.ref o1, vI n, vI q_62_9, vI (chA tx n i), .ref o2, vI nr2_62_7], cA o1 G.2.1.2.2.1 60 tx, cA o2 G.2.1.1 3 W2_62_7]
              refine s_top 6 (by decide) ?_
              refine s_icmp_ge 76 C dX2_readOrder_53 (by decide) (by decide) (by decide) (fun h => ?_) (fun h => absurd h (by decide))
              refine s_iconst C dX2_readOrder_76 ?_
              exact s_zret C E dX2_readOrder_77 rfl ⟨1, q_62_9, nr2_62_7, W2_62_7, rfl, rfl, (by rw [hs5.2]; exact (rd3_t hfm (by omega) hq2_62_7 hq0_62_0 (by omega) (by omega) ha1 hq0_62_3 (by omega) (by omega) ha2 hq0_62_7 (by omega) (by omega) hV0 hV1 hV2))⟩
            · refine s_iconst C dX2_readOrder_68 ?_
              exact s_zret C E dX2_readOrder_69 rfl ⟨0, q_62_9, nr2_62_7, W2_62_7, rfl, rfl, (by have hf : q_62_9 = q_62_7 ∧ chA tx n q_62_7 ≠ 59 := (by rcases hq0_62_9 with ⟨g1, g2, g3⟩ | ⟨g1, g2, g3⟩; (· exfalso; omega); (· exact ⟨g3, g1⟩)); rw [hf.1]; exact (rd3_f hfm (by omega) hq2_62_7 hq0_62_0 (by omega) (by omega) ha1 hq0_62_3 (by omega) (by omega) ha2 hq0_62_7 (by omega)))⟩
          · refine s_iconst C dX2_readOrder_68 ?_
            exact s_zret C E dX2_readOrder_69 rfl ⟨0, q_62_7, nr2_62_7, W2_62_7, rfl, rfl, ((rd3_f hfm (by omega) hq2_62_7 hq0_62_0 (by omega) (by omega) ha1 hq0_62_3 (by omega) (by omega) ha2 hq0_62_7 (by omega)))⟩
        · refine s_iconst C dX2_readOrder_68 ?_
          exact s_zret C E dX2_readOrder_69 rfl ⟨0, q_62_5, nr2_62_3, W2_62_3, rfl, rfl, (by have hf : q_62_5 = q_62_3 ∧ chA tx n q_62_3 ≠ 61 := (by rcases hq0_62_5 with ⟨g1, g2, g3⟩ | ⟨g1, g2, g3⟩; (· exfalso; omega); (· exact ⟨g3, g1⟩)); rw [hf.1]; exact (rd3_b hfm (by omega) hq2_62_3 hq0_62_0 (by omega) (by omega) ha1 hq0_62_3 (by omega)))⟩
      · refine s_iconst C dX2_readOrder_68 ?_
        exact s_zret C E dX2_readOrder_69 rfl ⟨0, q_62_3, nr2_62_3, W2_62_3, rfl, rfl, ((rd3_b hfm (by omega) hq2_62_3 hq0_62_0 (by omega) (by omega) ha1 hq0_62_3 (by omega)))⟩
    · refine s_iconst C dX2_readOrder_68 ?_
      exact s_zret C E dX2_readOrder_69 rfl ⟨0, q_62_1, nr2_62_0, W2_62_0, rfl, rfl, (by have hf : q_62_1 = q_62_0 ∧ chA tx n q_62_0 ≠ 44 := (by rcases hq0_62_1 with ⟨g1, g2, g3⟩ | ⟨g1, g2, g3⟩; (· exfalso; omega); (· exact ⟨g3, g1⟩)); rw [hf.1]; exact (rd23_a (Or.inr hfm) (by omega) hq2_62_0 hq0_62_0 (by omega)))⟩
  · refine s_iconst C dX2_readOrder_68 ?_
    exact s_zret C E dX2_readOrder_69 rfl ⟨0, q_62_0, nr2_62_0, W2_62_0, rfl, rfl, ((rd23_a (Or.inr hfm) (by omega) hq2_62_0 hq0_62_0 (by omega)))⟩

set_option maxHeartbeats 4000000 in
set_option maxRecDepth 100000 in
theorem c_X2_readOrder_2 (l : Launch) (G : fG) (o0 o1 o2 : Nat) (n i : Int) (tx W : Int → Int) (a0 k0 r0 : Int) (hn : 0 ≤ n ∧ n ≤ 60) (hX : rX tx) (hi : 0 ≤ i ∧ i < n) (hW : rF W) (hk : chA tx n i = 115) : fCt l G yX2_readOrder wsX2_readOrder 4 85 0 0 [.ref o0, vI i] [cO o0 2 [.ref o1, vI n, vI a0, vI k0, .ref o2, vI r0], cA o1 G.2.1.2.2.1 60 tx, cA o2 G.2.1.1 3 W] (fun (v0 : Option Value) (w0 : va_W) => ∃ (z q nr2 : Int) (W2 : Int → Int), v0 = some (vI z) ∧ w0 = [cO o0 2 [.ref o1, vI n, vI q, vI (chA tx n i), .ref o2, vI nr2], cA o1 G.2.1.2.2.1 60 tx, cA o2 G.2.1.1 3 W2] ∧ (RO tx n i z q nr2 W2)) := by
  refine fs_met (cc := cX2_readOrder) (nL := 4) (ret := (some .boolean)) (by decide) rfl (Nat.le_of_ble_eq_true rfl) ?_
  intro X C E
  show fSt l G X 0 0 0 [(0, .ref o0), (1, vI i)] [] [cO o0 2 [.ref o1, vI n, vI a0, vI k0, .ref o2, vI r0], cA o1 G.2.1.2.2.1 60 tx, cA o2 G.2.1.1 3 W]
  have hinX2 : ∀ w ∈ u_ws RX2 TX2 6, w ∈ wsX2_readOrder := by decide +kernel
  have hcp := chA_rg (X := tx) (n := n) (i := i) hX
  have hfm := fmN_2 hk
  refine s_aload_n 0 C dX2_readOrder_0 rfl 0 rfl ?_
  refine s_iload_n 1 C dX2_readOrder_1 rfl 1 rfl ?_
  refine s_put [cO o0 2 [.ref o1, vI n, vI i, vI k0, .ref o2, vI r0], cA o1 G.2.1.2.2.1 60 tx, cA o2 G.2.1.1 3 W] C dX2_readOrder_2 2 rfl hinX2 tyX2 tyX2_ok nmX2 0 rfl 2 (by decide) (by decide +kernel) rfl rfl rfl (Nat.le_of_ble_eq_true rfl) rfl ?_
  refine s_aload_n 0 C dX2_readOrder_5 rfl 0 rfl ?_
  refine s_iconst C dX2_readOrder_6 ?_
  refine s_put [cO o0 2 [.ref o1, vI n, vI i, vI k0, .ref o2, vI 0], cA o1 G.2.1.2.2.1 60 tx, cA o2 G.2.1.1 3 W] C dX2_readOrder_7 2 rfl hinX2 tyX2 tyX2_ok nmX2 0 rfl 5 (by decide) (by decide +kernel) rfl rfl rfl (Nat.le_of_ble_eq_true rfl) rfl ?_
  refine s_aload_n 0 C dX2_readOrder_10 rfl 0 rfl ?_
  refine s_aload_n 0 C dX2_readOrder_11 rfl 0 rfl ?_
  refine s_iload_n 1 C dX2_readOrder_12 rfl 1 rfl ?_
  refine s_callV (As := [vI i]) (rest := [.ref o0]) C dX2_readOrder_13 (c_X2_characterAt l G o0 o1 o2 n i k0 0 tx i (by first | assumption | omega) (by first | assumption | omega) (by first | assumption | omega)) gX2_readOrder_X2_characterAt rfl 1 (by decide +kernel) (by decide) 0 2 rfl rfl rfl [0, 1] rfl (by decide) rfl (Nat.le_of_ble_eq_true rfl) ⟨Nat.zero_le _, Nat.zero_le _⟩ ?_
  intro v0 w0 hq
  obtain ⟨rfl, rfl⟩ := hq
  refine ⟨rfl, ?_⟩
  show fSt l G X 0 0 16 [(0, .ref o0), (1, vI i)] [vI (chA tx n i), .ref o0] [cO o0 2 [.ref o1, vI n, vI i, vI k0, .ref o2, vI 0], cA o1 G.2.1.2.2.1 60 tx, cA o2 G.2.1.1 3 W]
  refine s_put [cO o0 2 [.ref o1, vI n, vI i, vI (chA tx n i), .ref o2, vI 0], cA o1 G.2.1.2.2.1 60 tx, cA o2 G.2.1.1 3 W] C dX2_readOrder_16 2 rfl hinX2 tyX2 tyX2_ok nmX2 0 rfl 3 (by decide) (by decide +kernel) rfl rfl rfl (Nat.le_of_ble_eq_true rfl) rfl ?_
  refine s_aload_n 0 C dX2_readOrder_19 rfl 0 rfl ?_
  refine s_get C dX2_readOrder_20 2 rfl hinX2 0 rfl 3 (by decide) (by decide +kernel) rfl ?_
  refine s_callS (As := [vI (chA tx n i)]) (rest := []) C dX2_readOrder_23 (c_X2_formBehind_2 l G (chA tx n i) (by first | assumption | omega) (by first | assumption | omega)) gX2_readOrder_X2_formBehind rfl 1 (by decide +kernel) (by decide) [] rfl (by decide) rfl (Nat.le_of_ble_eq_true rfl) ⟨Nat.zero_le _, Nat.zero_le _⟩ ?_
  intro v0 w0 hq
  obtain ⟨rfl, rfl⟩ := hq
  refine ⟨rfl, ?_⟩
  show fSt l G X 0 0 26 [(0, .ref o0), (1, vI i)] [.ref (G.2.2.1 2)] [cO o0 2 [.ref o1, vI n, vI i, vI (chA tx n i), .ref o2, vI 0], cA o1 G.2.1.2.2.1 60 tx, cA o2 G.2.1.1 3 W]
  refine s_astore_n 2 [(2, .ref (G.2.2.1 2)), (0, .ref o0), (1, vI i)] C dX2_readOrder_26 rfl (by decide) rfl ?_
  refine s_aload_n 2 C dX2_readOrder_27 rfl 0 rfl ?_
  refine s_callJ (As := []) (rest := []) 2 (by decide) C dX2_readOrder_28 (c_J0_isEmpty l G 2 (by decide)) gX2_readOrder_J0_isEmpty_aae02 rfl 0 (by decide +kernel) (by decide) rfl rfl (Nat.le_of_ble_eq_true rfl) ⟨Nat.zero_le _, Nat.zero_le _⟩ ?_
  intro v0 w0 hq
  obtain ⟨rfl, rfl⟩ := hq
  refine ⟨rfl, ?_⟩
  show fSt l G X 0 0 31 [(2, .ref (G.2.2.1 2)), (0, .ref o0), (1, vI i)] [vI (bI ((lS 2 : Int) = 0))] [cO o0 2 [.ref o1, vI n, vI i, vI (chA tx n i), .ref o2, vI 0], cA o1 G.2.1.2.2.1 60 tx, cA o2 G.2.1.1 3 W]
  refine s_top 0 (by decide) ?_
  refine s_if_eq 36 C dX2_readOrder_31 (by decide) (by decide) (fun h => ?_) (fun h => absurd h (by decide))
  refine s_aload_n 0 C dX2_readOrder_36 rfl 1 rfl ?_
  refine s_dup C dX2_readOrder_37 rfl ?_
  refine s_get C dX2_readOrder_38 2 rfl hinX2 0 rfl 2 (by decide) (by decide +kernel) rfl ?_
  refine s_iconst C dX2_readOrder_41 ?_
  refine s_iadd C dX2_readOrder_42 ?_
  refine s_put [cO o0 2 [.ref o1, vI n, vI (i + 1), vI (chA tx n i), .ref o2, vI 0], cA o1 G.2.1.2.2.1 60 tx, cA o2 G.2.1.1 3 W] C dX2_readOrder_43 2 rfl hinX2 tyX2 tyX2_ok nmX2 0 rfl 2 (by decide) (by decide +kernel) rfl rfl rfl (Nat.le_of_ble_eq_true rfl) rfl ?_
  refine s_iconst C dX2_readOrder_46 ?_
  refine s_istore_n 3 [(3, vI 0), (2, .ref (G.2.2.1 2)), (0, .ref o0), (1, vI i)] C dX2_readOrder_47 rfl (by decide) rfl ?_
  refine s_iload_n 3 C dX2_readOrder_48 rfl 0 rfl ?_
  refine s_aload_n 2 C dX2_readOrder_49 rfl 1 rfl ?_
  refine s_callJ (As := []) (rest := [vI 0]) 2 (by decide) C dX2_readOrder_50 (c_J0_length l G 2 (by decide)) gX2_readOrder_J0_length_8abf5 rfl 0 (by decide +kernel) (by decide) rfl rfl (Nat.le_of_ble_eq_true rfl) ⟨Nat.zero_le _, Nat.zero_le _⟩ ?_
  intro v0 w0 hq
  obtain ⟨rfl, rfl⟩ := hq
  refine ⟨rfl, ?_⟩
  show fSt l G X 0 0 53 [(3, vI 0), (2, .ref (G.2.2.1 2)), (0, .ref o0), (1, vI i)] [vI ((lS 2 : Int)), vI 0] [cO o0 2 [.ref o1, vI n, vI (i + 1), vI (chA tx n i), .ref o2, vI 0], cA o1 G.2.1.2.2.1 60 tx, cA o2 G.2.1.1 3 W]
  refine s_top 4 (by decide) ?_
  refine s_icmp_ge 76 C dX2_readOrder_53 (by decide) (by decide) (by decide) (fun h => absurd h (by decide)) (fun h => ?_)
  refine s_aload_n 0 C dX2_readOrder_56 rfl 2 rfl ?_
  refine s_aload_n 2 C dX2_readOrder_57 rfl 1 rfl ?_
  refine s_iload_n 3 C dX2_readOrder_58 rfl 0 rfl ?_
  refine s_callJ (As := [vI 0]) (rest := [.ref o0]) 2 (by decide) C dX2_readOrder_59 (c_J0_charAt l G 2 0 (by decide) (by decide)) gX2_readOrder_J0_charAt_5068e rfl 1 (by decide +kernel) (by decide) rfl rfl (Nat.le_of_ble_eq_true rfl) ⟨Nat.zero_le _, Nat.zero_le _⟩ ?_
  intro v0 w0 hq
  obtain ⟨rfl, rfl⟩ := hq
  refine ⟨rfl, ?_⟩
  show fSt l G X 0 0 62 [(3, vI 0), (2, .ref (G.2.2.1 2)), (0, .ref o0), (1, vI i)] [vI (cS 2 0), .ref o0] [cO o0 2 [.ref o1, vI n, vI (i + 1), vI (chA tx n i), .ref o2, vI 0], cA o1 G.2.1.2.2.1 60 tx, cA o2 G.2.1.1 3 W]
  refine s_top 35 (by decide) ?_
  refine s_callV (As := [vI 35]) (rest := []) C dX2_readOrder_62 (c_X2_readPart_n l G o0 o1 o2 n (i + 1) (chA tx n i) 0 tx W (by first | assumption | omega) hX (by first | assumption | omega) (by first | assumption | omega) hW) gX2_readOrder_X2_readPart rfl 1 (by decide +kernel) (by decide) 0 2 rfl rfl rfl [0, 1, 2] rfl (by decide) rfl (Nat.le_of_ble_eq_true rfl) ⟨Nat.zero_le _, Nat.zero_le _⟩ ?_
  intro v0 w0 hq
  obtain ⟨z_62_0, q_62_0, nr2_62_0, W2_62_0, rfl, rfl, hq0_62_0, hq1_62_0, hq2_62_0, hq3_62_0⟩ := hq
  refine ⟨(fst_k (fst_k (fst_k rfl))), ?_⟩
  show fSt l G X 0 0 65 [(3, vI 0), (2, .ref (G.2.2.1 2)), (0, .ref o0), (1, vI i)] [vI z_62_0] [cO o0 2 [.ref o1, vI n, vI q_62_0, vI (chA tx n i), .ref o2, vI nr2_62_0], cA o1 G.2.1.2.2.1 60 tx, cA o2 G.2.1.1 3 W2_62_0]
  refine s_if_ne 70 C dX2_readOrder_65 (by decide) (by omega) (fun h_65 => ?_) (fun h_65 => ?_)
  · have hx0 : (i + 1 < q_62_0 ∧ nr2_62_0 = 1) ∧ W2_62_0 = uZ W 0 (nV tx n (i + 1)) := by rcases hq1_62_0 with ⟨g1, g2, g3, g4⟩ | ⟨g1, g2, g3, g4⟩; (· exact ⟨⟨g1, by omega⟩, g4⟩); (· exfalso; omega)
    have hV0_0 : W2_62_0 0 = nV tx n (i + 1) := by rw [hx0.2]; exact (uZ_s)
    have hV0 := hV0_0
    refine s_iinc [(3, vI (0 + 1)), (2, .ref (G.2.2.1 2)), (0, .ref o0), (1, vI i)] C dX2_readOrder_70 0 rfl (by decide) rfl ?_
    refine s_goto 48 C dX2_readOrder_73 (by decide) ?_
    refine s_iload_n 3 C dX2_readOrder_48 rfl 0 rfl ?_
    refine s_aload_n 2 C dX2_readOrder_49 rfl 1 rfl ?_
    refine s_callJ (As := []) (rest := [vI (0 + 1)]) 2 (by decide) C dX2_readOrder_50 (c_J0_length l G 2 (by decide)) gX2_readOrder_J0_length_8abf5 rfl 0 (by decide +kernel) (by decide) rfl rfl (Nat.le_of_ble_eq_true rfl) ⟨Nat.zero_le _, Nat.zero_le _⟩ ?_
    intro v0 w0 hq
    obtain ⟨rfl, rfl⟩ := hq
    refine ⟨rfl, ?_⟩
    show fSt l G X 0 0 53 [(3, vI (0 + 1)), (2, .ref (G.2.2.1 2)), (0, .ref o0), (1, vI i)] [vI ((lS 2 : Int)), vI (0 + 1)] [cO o0 2 [.ref o1, vI n, vI q_62_0, vI (chA tx n i), .ref o2, vI nr2_62_0], cA o1 G.2.1.2.2.1 60 tx, cA o2 G.2.1.1 3 W2_62_0]
    refine s_top 4 (by decide) ?_
    refine s_icmp_ge 76 C dX2_readOrder_53 (by decide) (by decide) (by decide) (fun h => absurd h (by decide)) (fun h => ?_)
    refine s_aload_n 0 C dX2_readOrder_56 rfl 2 rfl ?_
    refine s_aload_n 2 C dX2_readOrder_57 rfl 1 rfl ?_
    refine s_iload_n 3 C dX2_readOrder_58 rfl 0 rfl ?_
    refine s_callJ (As := [vI (0 + 1)]) (rest := [.ref o0]) 2 (by decide) C dX2_readOrder_59 (c_J0_charAt l G 2 (0 + 1) (by decide) (by decide)) gX2_readOrder_J0_charAt_5068e rfl 1 (by decide +kernel) (by decide) rfl rfl (Nat.le_of_ble_eq_true rfl) ⟨Nat.zero_le _, Nat.zero_le _⟩ ?_
    intro v0 w0 hq
    obtain ⟨rfl, rfl⟩ := hq
    refine ⟨rfl, ?_⟩
    show fSt l G X 0 0 62 [(3, vI (0 + 1)), (2, .ref (G.2.2.1 2)), (0, .ref o0), (1, vI i)] [vI (cS 2 (0 + 1)), .ref o0] [cO o0 2 [.ref o1, vI n, vI q_62_0, vI (chA tx n i), .ref o2, vI nr2_62_0], cA o1 G.2.1.2.2.1 60 tx, cA o2 G.2.1.1 3 W2_62_0]
    refine s_top 44 (by decide) ?_
    refine s_callV (As := [vI 44]) (rest := []) C dX2_readOrder_62 (c_X2_readPart_c l G o0 o1 o2 n q_62_0 (chA tx n i) nr2_62_0 tx 44 (by first | assumption | omega) hX (by first | assumption | omega) (by first | assumption | omega)) gX2_readOrder_X2_readPart rfl 1 (by decide +kernel) (by decide) 0 2 rfl rfl rfl [0, 1] rfl (by decide) rfl (Nat.le_of_ble_eq_true rfl) ⟨Nat.zero_le _, Nat.zero_le _⟩ ?_
    intro v0 w0 hq
    obtain ⟨z_62_1, q_62_1, rfl, rfl, hq0_62_1⟩ := hq
    refine ⟨(fst_k rfl), ?_⟩
    show fSt l G X 0 0 65 [(3, vI (0 + 1)), (2, .ref (G.2.2.1 2)), (0, .ref o0), (1, vI i)] [vI z_62_1] [cO o0 2 [.ref o1, vI n, vI q_62_1, vI (chA tx n i), .ref o2, vI nr2_62_0], cA o1 G.2.1.2.2.1 60 tx, cA o2 G.2.1.1 3 W2_62_0]
    refine s_if_ne 70 C dX2_readOrder_65 (by decide) (by omega) (fun h_65_2 => ?_) (fun h_65_2 => ?_)
    · have hs1 : chA tx n q_62_0 = 44 ∧ q_62_1 = q_62_0 + 1 := by rcases hq0_62_1 with ⟨g1, g2, g3⟩ | ⟨g1, g2, g3⟩; (· exact ⟨g1, g3⟩); (· exfalso; omega)
      have ha1 := hs1.2
      have hl1 := chA_lt (X := tx) (n := n) (i := q_62_0) (by omega)
      refine s_iinc [(3, vI (0 + 1 + 1)), (2, .ref (G.2.2.1 2)), (0, .ref o0), (1, vI i)] C dX2_readOrder_70 0 rfl (by decide) rfl ?_
      refine s_goto 48 C dX2_readOrder_73 (by decide) ?_
      refine s_iload_n 3 C dX2_readOrder_48 rfl 0 rfl ?_
      refine s_aload_n 2 C dX2_readOrder_49 rfl 1 rfl ?_
      refine s_callJ (As := []) (rest := [vI (0 + 1 + 1)]) 2 (by decide) C dX2_readOrder_50 (c_J0_length l G 2 (by decide)) gX2_readOrder_J0_length_8abf5 rfl 0 (by decide +kernel) (by decide) rfl rfl (Nat.le_of_ble_eq_true rfl) ⟨Nat.zero_le _, Nat.zero_le _⟩ ?_
      intro v0 w0 hq
      obtain ⟨rfl, rfl⟩ := hq
      refine ⟨rfl, ?_⟩
      show fSt l G X 0 0 53 [(3, vI (0 + 1 + 1)), (2, .ref (G.2.2.1 2)), (0, .ref o0), (1, vI i)] [vI ((lS 2 : Int)), vI (0 + 1 + 1)] [cO o0 2 [.ref o1, vI n, vI q_62_1, vI (chA tx n i), .ref o2, vI nr2_62_0], cA o1 G.2.1.2.2.1 60 tx, cA o2 G.2.1.1 3 W2_62_0]
      refine s_top 4 (by decide) ?_
      refine s_icmp_ge 76 C dX2_readOrder_53 (by decide) (by decide) (by decide) (fun h => absurd h (by decide)) (fun h => ?_)
      refine s_aload_n 0 C dX2_readOrder_56 rfl 2 rfl ?_
      refine s_aload_n 2 C dX2_readOrder_57 rfl 1 rfl ?_
      refine s_iload_n 3 C dX2_readOrder_58 rfl 0 rfl ?_
      refine s_callJ (As := [vI (0 + 1 + 1)]) (rest := [.ref o0]) 2 (by decide) C dX2_readOrder_59 (c_J0_charAt l G 2 (0 + 1 + 1) (by decide) (by decide)) gX2_readOrder_J0_charAt_5068e rfl 1 (by decide +kernel) (by decide) rfl rfl (Nat.le_of_ble_eq_true rfl) ⟨Nat.zero_le _, Nat.zero_le _⟩ ?_
      intro v0 w0 hq
      obtain ⟨rfl, rfl⟩ := hq
      refine ⟨rfl, ?_⟩
      show fSt l G X 0 0 62 [(3, vI (0 + 1 + 1)), (2, .ref (G.2.2.1 2)), (0, .ref o0), (1, vI i)] [vI (cS 2 (0 + 1 + 1)), .ref o0] [cO o0 2 [.ref o1, vI n, vI q_62_1, vI (chA tx n i), .ref o2, vI nr2_62_0], cA o1 G.2.1.2.2.1 60 tx, cA o2 G.2.1.1 3 W2_62_0]
      refine s_top 35 (by decide) ?_
      refine s_callV (As := [vI 35]) (rest := []) C dX2_readOrder_62 (c_X2_readPart_n l G o0 o1 o2 n q_62_1 (chA tx n i) nr2_62_0 tx W2_62_0 (by first | assumption | omega) hX (by first | assumption | omega) (by first | assumption | omega) hq2_62_0) gX2_readOrder_X2_readPart rfl 1 (by decide +kernel) (by decide) 0 2 rfl rfl rfl [0, 1, 2] rfl (by decide) rfl (Nat.le_of_ble_eq_true rfl) ⟨Nat.zero_le _, Nat.zero_le _⟩ ?_
      intro v0 w0 hq
      obtain ⟨z_62_3, q_62_3, nr2_62_3, W2_62_3, rfl, rfl, hq0_62_3, hq1_62_3, hq2_62_3, hq3_62_3⟩ := hq
      refine ⟨(fst_k (fst_k (fst_k rfl))), ?_⟩
      show fSt l G X 0 0 65 [(3, vI (0 + 1 + 1)), (2, .ref (G.2.2.1 2)), (0, .ref o0), (1, vI i)] [vI z_62_3] [cO o0 2 [.ref o1, vI n, vI q_62_3, vI (chA tx n i), .ref o2, vI nr2_62_3], cA o1 G.2.1.2.2.1 60 tx, cA o2 G.2.1.1 3 W2_62_3]
      refine s_if_ne 70 C dX2_readOrder_65 (by decide) (by omega) (fun h_65_4 => ?_) (fun h_65_4 => ?_)
      · have hx2 : (q_62_1 < q_62_3 ∧ nr2_62_3 = 2) ∧ W2_62_3 = uZ W2_62_0 1 (nV tx n q_62_1) := by rcases hq1_62_3 with ⟨g1, g2, g3, g4⟩ | ⟨g1, g2, g3, g4⟩; (· exact ⟨⟨g1, by omega⟩, by rw [g4]; congr 1; omega⟩); (· exfalso; omega)
        have hV0_2 : W2_62_3 0 = nV tx n (i + 1) := by rw [hx2.2]; exact ((uZ_n (by omega)).trans hV0)
        have hV1_2 : W2_62_3 1 = nV tx n q_62_1 := by rw [hx2.2]; exact (uZ_s)
        have hV0 := hV0_2
        have hV1 := hV1_2
        refine s_iinc [(3, vI (0 + 1 + 1 + 1)), (2, .ref (G.2.2.1 2)), (0, .ref o0), (1, vI i)] C dX2_readOrder_70 0 rfl (by decide) rfl ?_
        refine s_goto 48 C dX2_readOrder_73 (by decide) ?_
        refine s_iload_n 3 C dX2_readOrder_48 rfl 0 rfl ?_
        refine s_aload_n 2 C dX2_readOrder_49 rfl 1 rfl ?_
        refine s_callJ (As := []) (rest := [vI (0 + 1 + 1 + 1)]) 2 (by decide) C dX2_readOrder_50 (c_J0_length l G 2 (by decide)) gX2_readOrder_J0_length_8abf5 rfl 0 (by decide +kernel) (by decide) rfl rfl (Nat.le_of_ble_eq_true rfl) ⟨Nat.zero_le _, Nat.zero_le _⟩ ?_
        intro v0 w0 hq
        obtain ⟨rfl, rfl⟩ := hq
        refine ⟨rfl, ?_⟩
        show fSt l G X 0 0 53 [(3, vI (0 + 1 + 1 + 1)), (2, .ref (G.2.2.1 2)), (0, .ref o0), (1, vI i)] [vI ((lS 2 : Int)), vI (0 + 1 + 1 + 1)] [cO o0 2 [.ref o1, vI n, vI q_62_3, vI (chA tx n i), .ref o2, vI nr2_62_3], cA o1 G.2.1.2.2.1 60 tx, cA o2 G.2.1.1 3 W2_62_3]
        refine s_top 4 (by decide) ?_
        refine s_icmp_ge 76 C dX2_readOrder_53 (by decide) (by decide) (by decide) (fun h => absurd h (by decide)) (fun h => ?_)
        refine s_aload_n 0 C dX2_readOrder_56 rfl 2 rfl ?_
        refine s_aload_n 2 C dX2_readOrder_57 rfl 1 rfl ?_
        refine s_iload_n 3 C dX2_readOrder_58 rfl 0 rfl ?_
        refine s_callJ (As := [vI (0 + 1 + 1 + 1)]) (rest := [.ref o0]) 2 (by decide) C dX2_readOrder_59 (c_J0_charAt l G 2 (0 + 1 + 1 + 1) (by decide) (by decide)) gX2_readOrder_J0_charAt_5068e rfl 1 (by decide +kernel) (by decide) rfl rfl (Nat.le_of_ble_eq_true rfl) ⟨Nat.zero_le _, Nat.zero_le _⟩ ?_
        intro v0 w0 hq
        obtain ⟨rfl, rfl⟩ := hq
        refine ⟨rfl, ?_⟩
        show fSt l G X 0 0 62 [(3, vI (0 + 1 + 1 + 1)), (2, .ref (G.2.2.1 2)), (0, .ref o0), (1, vI i)] [vI (cS 2 (0 + 1 + 1 + 1)), .ref o0] [cO o0 2 [.ref o1, vI n, vI q_62_3, vI (chA tx n i), .ref o2, vI nr2_62_3], cA o1 G.2.1.2.2.1 60 tx, cA o2 G.2.1.1 3 W2_62_3]
        refine s_top 59 (by decide) ?_
        refine s_callV (As := [vI 59]) (rest := []) C dX2_readOrder_62 (c_X2_readPart_c l G o0 o1 o2 n q_62_3 (chA tx n i) nr2_62_3 tx 59 (by first | assumption | omega) hX (by first | assumption | omega) (by first | assumption | omega)) gX2_readOrder_X2_readPart rfl 1 (by decide +kernel) (by decide) 0 2 rfl rfl rfl [0, 1] rfl (by decide) rfl (Nat.le_of_ble_eq_true rfl) ⟨Nat.zero_le _, Nat.zero_le _⟩ ?_
        intro v0 w0 hq
        obtain ⟨z_62_5, q_62_5, rfl, rfl, hq0_62_5⟩ := hq
        refine ⟨(fst_k rfl), ?_⟩
        show fSt l G X 0 0 65 [(3, vI (0 + 1 + 1 + 1)), (2, .ref (G.2.2.1 2)), (0, .ref o0), (1, vI i)] [vI z_62_5] [cO o0 2 [.ref o1, vI n, vI q_62_5, vI (chA tx n i), .ref o2, vI nr2_62_3], cA o1 G.2.1.2.2.1 60 tx, cA o2 G.2.1.1 3 W2_62_3]
        refine s_if_ne 70 C dX2_readOrder_65 (by decide) (by omega) (fun h_65_6 => ?_) (fun h_65_6 => ?_)
        · have hs3 : chA tx n q_62_3 = 59 ∧ q_62_5 = q_62_3 + 1 := by rcases hq0_62_5 with ⟨g1, g2, g3⟩ | ⟨g1, g2, g3⟩; (· exact ⟨g1, g3⟩); (· exfalso; omega)
          have ha2 := hs3.2
          have hl3 := chA_lt (X := tx) (n := n) (i := q_62_3) (by omega)
          refine s_iinc [(3, vI (0 + 1 + 1 + 1 + 1)), (2, .ref (G.2.2.1 2)), (0, .ref o0), (1, vI i)] C dX2_readOrder_70 0 rfl (by decide) rfl ?_
          refine s_goto 48 C dX2_readOrder_73 (by decide) ?_
          refine s_iload_n 3 C dX2_readOrder_48 rfl 0 rfl ?_
          refine s_aload_n 2 C dX2_readOrder_49 rfl 1 rfl ?_
          refine s_callJ (As := []) (rest := [vI (0 + 1 + 1 + 1 + 1)]) 2 (by decide) C dX2_readOrder_50 (c_J0_length l G 2 (by decide)) gX2_readOrder_J0_length_8abf5 rfl 0 (by decide +kernel) (by decide) rfl rfl (Nat.le_of_ble_eq_true rfl) ⟨Nat.zero_le _, Nat.zero_le _⟩ ?_
          intro v0 w0 hq
          obtain ⟨rfl, rfl⟩ := hq
          refine ⟨rfl, ?_⟩
          show fSt l G X 0 0 53 [(3, vI (0 + 1 + 1 + 1 + 1)), (2, .ref (G.2.2.1 2)), (0, .ref o0), (1, vI i)] [vI ((lS 2 : Int)), vI (0 + 1 + 1 + 1 + 1)] [cO o0 2 [.ref o1, vI n, vI q_62_5, vI (chA tx n i), .ref o2, vI nr2_62_3], cA o1 G.2.1.2.2.1 60 tx, cA o2 G.2.1.1 3 W2_62_3]
          refine s_top 4 (by decide) ?_
          refine s_icmp_ge 76 C dX2_readOrder_53 (by decide) (by decide) (by decide) (fun h => ?_) (fun h => absurd h (by decide))
          refine s_iconst C dX2_readOrder_76 ?_
          exact s_zret C E dX2_readOrder_77 rfl ⟨1, q_62_5, nr2_62_3, W2_62_3, rfl, rfl, (by rw [hs3.2]; exact (rd2_t hfm (by omega) hq2_62_3 hq0_62_0 (by omega) (by omega) ha1 hq0_62_3 (by omega) (by omega) hV0 hV1))⟩
        · refine s_iconst C dX2_readOrder_68 ?_
          exact s_zret C E dX2_readOrder_69 rfl ⟨0, q_62_5, nr2_62_3, W2_62_3, rfl, rfl, (by have hf : q_62_5 = q_62_3 ∧ chA tx n q_62_3 ≠ 59 := (by rcases hq0_62_5 with ⟨g1, g2, g3⟩ | ⟨g1, g2, g3⟩; (· exfalso; omega); (· exact ⟨g3, g1⟩)); rw [hf.1]; exact (rd2_f hfm (by omega) hq2_62_3 hq0_62_0 (by omega) (by omega) ha1 hq0_62_3 (by omega)))⟩
      · refine s_iconst C dX2_readOrder_68 ?_
        exact s_zret C E dX2_readOrder_69 rfl ⟨0, q_62_3, nr2_62_3, W2_62_3, rfl, rfl, ((rd2_f hfm (by omega) hq2_62_3 hq0_62_0 (by omega) (by omega) ha1 hq0_62_3 (by omega)))⟩
    · refine s_iconst C dX2_readOrder_68 ?_
      exact s_zret C E dX2_readOrder_69 rfl ⟨0, q_62_1, nr2_62_0, W2_62_0, rfl, rfl, (by have hf : q_62_1 = q_62_0 ∧ chA tx n q_62_0 ≠ 44 := (by rcases hq0_62_1 with ⟨g1, g2, g3⟩ | ⟨g1, g2, g3⟩; (· exfalso; omega); (· exact ⟨g3, g1⟩)); rw [hf.1]; exact (rd23_a (Or.inl hfm) (by omega) hq2_62_0 hq0_62_0 (by omega)))⟩
  · refine s_iconst C dX2_readOrder_68 ?_
    exact s_zret C E dX2_readOrder_69 rfl ⟨0, q_62_0, nr2_62_0, W2_62_0, rfl, rfl, ((rd23_a (Or.inl hfm) (by omega) hq2_62_0 hq0_62_0 (by omega)))⟩

set_option maxHeartbeats 4000000 in
set_option maxRecDepth 100000 in
theorem c_X2_readOrder_3 (l : Launch) (G : fG) (o0 o1 o2 : Nat) (n i : Int) (tx W : Int → Int) (a0 k0 r0 : Int) (hn : 0 ≤ n ∧ n ≤ 60) (hX : rX tx) (hi : 0 ≤ i ∧ i < n) (hW : rF W) (hk : ¬ (chA tx n i = 111 ∨ chA tx n i = 99 ∨ chA tx n i = 97 ∨ chA tx n i = 116) ∧ chA tx n i ≠ 115 ∧ chA tx n i ≠ 112) : fCt l G yX2_readOrder wsX2_readOrder 4 85 0 0 [.ref o0, vI i] [cO o0 2 [.ref o1, vI n, vI a0, vI k0, .ref o2, vI r0], cA o1 G.2.1.2.2.1 60 tx, cA o2 G.2.1.1 3 W] (fun (v0 : Option Value) (w0 : va_W) => ∃ (z q nr2 : Int) (W2 : Int → Int), v0 = some (vI z) ∧ w0 = [cO o0 2 [.ref o1, vI n, vI q, vI (chA tx n i), .ref o2, vI nr2], cA o1 G.2.1.2.2.1 60 tx, cA o2 G.2.1.1 3 W2] ∧ (RO tx n i z q nr2 W2)) := by
  refine fs_met (cc := cX2_readOrder) (nL := 4) (ret := (some .boolean)) (by decide) rfl (Nat.le_of_ble_eq_true rfl) ?_
  intro X C E
  show fSt l G X 0 0 0 [(0, .ref o0), (1, vI i)] [] [cO o0 2 [.ref o1, vI n, vI a0, vI k0, .ref o2, vI r0], cA o1 G.2.1.2.2.1 60 tx, cA o2 G.2.1.1 3 W]
  have hinX2 : ∀ w ∈ u_ws RX2 TX2 6, w ∈ wsX2_readOrder := by decide +kernel
  have hcp := chA_rg (X := tx) (n := n) (i := i) hX
  have hfm := fmN_0 hk
  refine s_aload_n 0 C dX2_readOrder_0 rfl 0 rfl ?_
  refine s_iload_n 1 C dX2_readOrder_1 rfl 1 rfl ?_
  refine s_put [cO o0 2 [.ref o1, vI n, vI i, vI k0, .ref o2, vI r0], cA o1 G.2.1.2.2.1 60 tx, cA o2 G.2.1.1 3 W] C dX2_readOrder_2 2 rfl hinX2 tyX2 tyX2_ok nmX2 0 rfl 2 (by decide) (by decide +kernel) rfl rfl rfl (Nat.le_of_ble_eq_true rfl) rfl ?_
  refine s_aload_n 0 C dX2_readOrder_5 rfl 0 rfl ?_
  refine s_iconst C dX2_readOrder_6 ?_
  refine s_put [cO o0 2 [.ref o1, vI n, vI i, vI k0, .ref o2, vI 0], cA o1 G.2.1.2.2.1 60 tx, cA o2 G.2.1.1 3 W] C dX2_readOrder_7 2 rfl hinX2 tyX2 tyX2_ok nmX2 0 rfl 5 (by decide) (by decide +kernel) rfl rfl rfl (Nat.le_of_ble_eq_true rfl) rfl ?_
  refine s_aload_n 0 C dX2_readOrder_10 rfl 0 rfl ?_
  refine s_aload_n 0 C dX2_readOrder_11 rfl 0 rfl ?_
  refine s_iload_n 1 C dX2_readOrder_12 rfl 1 rfl ?_
  refine s_callV (As := [vI i]) (rest := [.ref o0]) C dX2_readOrder_13 (c_X2_characterAt l G o0 o1 o2 n i k0 0 tx i (by first | assumption | omega) (by first | assumption | omega) (by first | assumption | omega)) gX2_readOrder_X2_characterAt rfl 1 (by decide +kernel) (by decide) 0 2 rfl rfl rfl [0, 1] rfl (by decide) rfl (Nat.le_of_ble_eq_true rfl) ⟨Nat.zero_le _, Nat.zero_le _⟩ ?_
  intro v0 w0 hq
  obtain ⟨rfl, rfl⟩ := hq
  refine ⟨rfl, ?_⟩
  show fSt l G X 0 0 16 [(0, .ref o0), (1, vI i)] [vI (chA tx n i), .ref o0] [cO o0 2 [.ref o1, vI n, vI i, vI k0, .ref o2, vI 0], cA o1 G.2.1.2.2.1 60 tx, cA o2 G.2.1.1 3 W]
  refine s_put [cO o0 2 [.ref o1, vI n, vI i, vI (chA tx n i), .ref o2, vI 0], cA o1 G.2.1.2.2.1 60 tx, cA o2 G.2.1.1 3 W] C dX2_readOrder_16 2 rfl hinX2 tyX2 tyX2_ok nmX2 0 rfl 3 (by decide) (by decide +kernel) rfl rfl rfl (Nat.le_of_ble_eq_true rfl) rfl ?_
  refine s_aload_n 0 C dX2_readOrder_19 rfl 0 rfl ?_
  refine s_get C dX2_readOrder_20 2 rfl hinX2 0 rfl 3 (by decide) (by decide +kernel) rfl ?_
  refine s_callS (As := [vI (chA tx n i)]) (rest := []) C dX2_readOrder_23 (c_X2_formBehind_3 l G (chA tx n i) (by first | assumption | omega) (by first | assumption | omega)) gX2_readOrder_X2_formBehind rfl 1 (by decide +kernel) (by decide) [] rfl (by decide) rfl (Nat.le_of_ble_eq_true rfl) ⟨Nat.zero_le _, Nat.zero_le _⟩ ?_
  intro v0 w0 hq
  obtain ⟨rfl, rfl⟩ := hq
  refine ⟨rfl, ?_⟩
  show fSt l G X 0 0 26 [(0, .ref o0), (1, vI i)] [.ref (G.2.2.1 3)] [cO o0 2 [.ref o1, vI n, vI i, vI (chA tx n i), .ref o2, vI 0], cA o1 G.2.1.2.2.1 60 tx, cA o2 G.2.1.1 3 W]
  refine s_astore_n 2 [(2, .ref (G.2.2.1 3)), (0, .ref o0), (1, vI i)] C dX2_readOrder_26 rfl (by decide) rfl ?_
  refine s_aload_n 2 C dX2_readOrder_27 rfl 0 rfl ?_
  refine s_callJ (As := []) (rest := []) 3 (by decide) C dX2_readOrder_28 (c_J0_isEmpty l G 3 (by decide)) gX2_readOrder_J0_isEmpty_aae02 rfl 0 (by decide +kernel) (by decide) rfl rfl (Nat.le_of_ble_eq_true rfl) ⟨Nat.zero_le _, Nat.zero_le _⟩ ?_
  intro v0 w0 hq
  obtain ⟨rfl, rfl⟩ := hq
  refine ⟨rfl, ?_⟩
  show fSt l G X 0 0 31 [(2, .ref (G.2.2.1 3)), (0, .ref o0), (1, vI i)] [vI (bI ((lS 3 : Int) = 0))] [cO o0 2 [.ref o1, vI n, vI i, vI (chA tx n i), .ref o2, vI 0], cA o1 G.2.1.2.2.1 60 tx, cA o2 G.2.1.1 3 W]
  refine s_top 1 (by decide) ?_
  refine s_if_eq 36 C dX2_readOrder_31 (by decide) (by decide) (fun h => absurd h (by decide)) (fun h => ?_)
  refine s_iconst C dX2_readOrder_34 ?_
  exact s_zret C E dX2_readOrder_35 rfl ⟨0, i, 0, W, rfl, rfl, (rd0 hfm (by omega) hW)⟩

theorem w_X2_readOrder (l : Launch) (G : fG) (o0 o1 o2 : Nat) (n i : Int) (tx W : Int → Int) (a0 k0 r0 : Int) (hn : 0 ≤ n ∧ n ≤ 60) (hX : rX tx) (hi : 0 ≤ i ∧ i < n) (hW : rF W) : fCt l G yX2_readOrder wsX2_readOrder 4 85 0 0 [.ref o0, vI i] [cO o0 2 [.ref o1, vI n, vI a0, vI k0, .ref o2, vI r0], cA o1 G.2.1.2.2.1 60 tx, cA o2 G.2.1.1 3 W] (fun (v0 : Option Value) (w0 : va_W) => ∃ (z q nr2 : Int) (W2 : Int → Int), v0 = some (vI z) ∧ w0 = [cO o0 2 [.ref o1, vI n, vI q, vI (chA tx n i), .ref o2, vI nr2], cA o1 G.2.1.2.2.1 60 tx, cA o2 G.2.1.1 3 W2] ∧ (RO tx n i z q nr2 W2)) := by
  have hcp := chA_rg (X := tx) (n := n) (i := i) hX
  rcases (by omega : (chA tx n i = 111 ∨ chA tx n i = 99 ∨ chA tx n i = 97 ∨ chA tx n i = 116) ∨ chA tx n i = 112 ∨ chA tx n i = 115 ∨ (¬ (chA tx n i = 111 ∨ chA tx n i = 99 ∨ chA tx n i = 97 ∨ chA tx n i = 116) ∧ chA tx n i ≠ 115 ∧ chA tx n i ≠ 112)) with hk | hk | hk | hk
  · exact c_X2_readOrder_0 l G o0 o1 o2 n i tx W a0 k0 r0 hn hX hi hW hk
  · exact c_X2_readOrder_1 l G o0 o1 o2 n i tx W a0 k0 r0 hn hX hi hW hk
  · exact c_X2_readOrder_2 l G o0 o1 o2 n i tx W a0 k0 r0 hn hX hi hW hk
  · exact c_X2_readOrder_3 l G o0 o1 o2 n i tx W a0 k0 r0 hn hX hi hW hk

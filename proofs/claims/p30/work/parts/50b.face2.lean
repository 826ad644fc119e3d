set_option maxHeartbeats 4000000 in
set_option maxRecDepth 100000 in
theorem c_X6_keysNotAsAtEnd (l : Launch) (G : fG) (x0 h0 e8 e9 : Nat) (y2 y3 : Value) (a : Nat → Nat) (c : Nat → Int) (F : Nat → Int → Int) (B : Int) (f U0 U1 : Int → Int) (b p : Int) (hR : RSb f c F) (hI : Inv B f) (hB : B ≤ 1073000000) (hb : 0 ≤ b ∧ b ≤ 1) (hp : p = oS f b 1) : fCt l G yX6_keysNotAsAtEnd wsX6_keysNotAsAtEnd 5 111 0 0 [.ref x0, vI p] ([[cO x0 6 [.ref (a 0), .ref h0, y2, y3, .ref e8, .ref e9]], [cA e8 G.2.1.1 24 U0], [cA e9 G.2.1.1 24 U1], stW G a c F] : List va_W).flatten (fun (v0 : Option Value) (w0 : va_W) => ∃ (z : Int) (U2 U3 : Int → Int), v0 = some (vI z) ∧ w0 = ([[cO x0 6 [.ref (a 0), .ref h0, y2, y3, .ref e8, .ref e9]], [cA e8 G.2.1.1 24 U2], [cA e9 G.2.1.1 24 U3], stW G a c F] : List va_W).flatten ∧ (z = mU f b)) := by
  refine fs_met (cc := cX6_keysNotAsAtEnd) (nL := 4) (ret := (some .int)) (by decide) rfl (Nat.le_of_ble_eq_true rfl) ?_
  intro X C E
  show fSt l G X 0 0 0 [(0, .ref x0), (1, vI p)] [] ([[cO x0 6 [.ref (a 0), .ref h0, y2, y3, .ref e8, .ref e9]], [cA e8 G.2.1.1 24 U0], [cA e9 G.2.1.1 24 U1], stW G a c F] : List va_W).flatten
  have hinX1 : ∀ w ∈ u_ws RX1 TX1 6, w ∈ wsX6_keysNotAsAtEnd := by decide +kernel
  have hinX4 : ∀ w ∈ u_ws RX4 TX4 12, w ∈ wsX6_keysNotAsAtEnd := by decide +kernel
  have hinX6 : ∀ w ∈ u_ws RX6 TX6 6, w ∈ wsX6_keysNotAsAtEnd := by decide +kernel
  obtain ⟨hn, htk, hln, htr, hlc, hlo, hap, hrt, hdl, hS0, hS1⟩ := RS.scal hR hI
  have hK : rF (F 3) := RS.hrK hR
  have hT : rF (F 4) := RS.hrT hR
  have hY : rF (F 5) := RS.hrY hR
  have hV : rF (F 6) := RS.hrV hR
  have hA : rF (F 7) := RS.hrA hR
  have hsl : rF (F 0) := RS.hrs hR
  have hg0 : gF (F 1) := RS.hG0 hR
  have hg1 : gF (F 2) := RS.hG1 hR
  have hb0 := RS.b0 hR
  have hb1 := RS.b1 hR
  have en := RS.e_n hR
  have hin := hI.n
  have hSb := hI.S b hb.1 hb.2
  refine s_aload_n 0 C dX6_keysNotAsAtEnd_0 rfl 0 rfl ?_
  refine s_get C dX6_keysNotAsAtEnd_1 6 rfl hinX6 0 rfl 0 (by decide) (by decide +kernel) rfl ?_
  refine s_get C dX6_keysNotAsAtEnd_4 4 rfl hinX4 3 rfl 0 (by decide) (by decide +kernel) rfl ?_
  refine s_iload_n 1 C dX6_keysNotAsAtEnd_7 rfl 1 rfl ?_
  refine s_aload_n 0 C dX6_keysNotAsAtEnd_8 rfl 0 rfl ?_
  refine s_get C dX6_keysNotAsAtEnd_9 6 rfl hinX6 0 rfl 4 (by decide) (by decide +kernel) rfl ?_
  refine s_callV (As := [vI p, .ref e8]) (rest := []) C dX6_keysNotAsAtEnd_12 (c_X1_fillValues l G (a 1) (a 2) (a 3) (a 4) (a 5) (a 6) (c 0) (F 3) (F 4) (F 5) (F 6) (F 7) e8 U0 p (by first | assumption | omega) (by first | assumption | omega) (by first | assumption | omega) (by first | assumption | omega) (by first | assumption | omega) (by first | assumption | omega) (by first | assumption | omega)) gX6_keysNotAsAtEnd_X1_fillValues rfl 2 (by decide +kernel) (by decide) 4 1 rfl rfl rfl [4, 5, 6, 7, 8, 9, 1] rfl (by decide) rfl (Nat.le_of_ble_eq_true rfl) ⟨Nat.zero_le _, Nat.zero_le _⟩ ?_
  intro v0 w0 hq
  obtain ⟨W2_12, rfl, rfl, hq0_12⟩ := hq
  refine ⟨(fst_k (fst_k (fst_k (fst_k (fst_k (fst_k (fst_k rfl))))))), ?_⟩
  show fSt l G X 0 0 15 [(0, .ref x0), (1, vI p)] [] ([[cO x0 6 [.ref (a 0), .ref h0, y2, y3, .ref e8, .ref e9]], [cA e8 G.2.1.1 24 W2_12], [cA e9 G.2.1.1 24 U1], stW G a c F] : List va_W).flatten
  refine s_aload_n 0 C dX6_keysNotAsAtEnd_15 rfl 0 rfl ?_
  refine s_get C dX6_keysNotAsAtEnd_16 6 rfl hinX6 0 rfl 0 (by decide) (by decide +kernel) rfl ?_
  refine s_get C dX6_keysNotAsAtEnd_19 4 rfl hinX4 3 rfl 0 (by decide) (by decide +kernel) rfl ?_
  refine s_aload_n 0 C dX6_keysNotAsAtEnd_22 rfl 0 rfl ?_
  refine s_get C dX6_keysNotAsAtEnd_23 6 rfl hinX6 0 rfl 0 (by decide) (by decide +kernel) rfl ?_
  refine s_get C dX6_keysNotAsAtEnd_26 4 rfl hinX4 3 rfl 0 (by decide) (by decide +kernel) rfl ?_
  refine s_get C dX6_keysNotAsAtEnd_29 1 rfl hinX1 4 rfl 0 (by decide) (by decide +kernel) rfl ?_
  refine s_aload_n 0 C dX6_keysNotAsAtEnd_32 rfl 0 rfl ?_
  refine s_get C dX6_keysNotAsAtEnd_33 6 rfl hinX6 0 rfl 5 (by decide) (by decide +kernel) rfl ?_
  refine s_callV (As := [vI (c 0), .ref e9]) (rest := []) C dX6_keysNotAsAtEnd_36 (c_X1_fillValues l G (a 1) (a 2) (a 3) (a 4) (a 5) (a 6) (c 0) (F 3) (F 4) (F 5) (F 6) (F 7) e9 U1 (c 0) (by first | assumption | omega) (by first | assumption | omega) (by first | assumption | omega) (by first | assumption | omega) (by first | assumption | omega) (by first | assumption | omega) (by first | assumption | omega)) gX6_keysNotAsAtEnd_X1_fillValues rfl 2 (by decide +kernel) (by decide) 4 1 rfl rfl rfl [4, 5, 6, 7, 8, 9, 2] rfl (by decide) rfl (Nat.le_of_ble_eq_true rfl) ⟨Nat.zero_le _, Nat.zero_le _⟩ ?_
  intro v0 w0 hq
  obtain ⟨W2_36, rfl, rfl, hq0_36⟩ := hq
  refine ⟨(fst_k (fst_k (fst_k (fst_k (fst_k (fst_k (fst_k rfl))))))), ?_⟩
  show fSt l G X 0 0 39 [(0, .ref x0), (1, vI p)] [] ([[cO x0 6 [.ref (a 0), .ref h0, y2, y3, .ref e8, .ref e9]], [cA e8 G.2.1.1 24 W2_12], [cA e9 G.2.1.1 24 W2_36], stW G a c F] : List va_W).flatten
  have hv1 : ∀ y, 0 ≤ y → y < 24 → W2_12 y = mV f (oS f b 1) y := fun y h0 h1 => by rw [← hp, hq0_12 y h0 h1]; exact q_vA hR hI (by omega)
  have hv2 : ∀ y, 0 ≤ y → y < 24 → W2_36 y = mV f (f 0) y := fun y h0 h1 => by rw [← en, hq0_36 y h0 h1]; exact q_vA hR hI (by omega)
  refine s_iconst C dX6_keysNotAsAtEnd_39 ?_
  refine s_istore_n 2 [(2, vI 0), (0, .ref x0), (1, vI p)] C dX6_keysNotAsAtEnd_40 rfl (by decide) rfl ?_
  refine s_iconst C dX6_keysNotAsAtEnd_41 ?_
  refine s_istore_n 3 [(3, vI 0), (2, vI 0), (0, .ref x0), (1, vI p)] C dX6_keysNotAsAtEnd_42 rfl (by decide) rfl ?_
  have loop_43 : ∀ (fuel : Nat) (y k : Int), (0 ≤ y ∧ y ≤ 24) → (k = cnt (fun y => decide (mV f (oS f b 1) y ≠ mV f (f 0) y)) 0 (y - 0).toNat) → (0 ≤ k ∧ k ≤ y) → (24 - y < (fuel : Int)) → fSt l G X 0 0 43 [(0, .ref x0), (1, vI p), (2, vI k), (3, vI y)] [] ([[cO x0 6 [.ref (a 0), .ref h0, y2, y3, .ref e8, .ref e9]], [cA e8 G.2.1.1 24 W2_12], [cA e9 G.2.1.1 24 W2_36], stW G a c F] : List va_W).flatten := by
    intro fuel
    induction fuel with
    | zero =>
      intro y k hy hc hcr hm
      exfalso
      omega
    | succ fuel ih_43 =>
      intro y k hy hc hcr hm
      refine s_iload_n 3 C dX6_keysNotAsAtEnd_43 rfl 3 rfl ?_
      refine s_bipush (z := 24) C dX6_keysNotAsAtEnd_44 rfl ?_
      refine s_icmp_ge 73 C dX6_keysNotAsAtEnd_46 (by decide) (by omega) (by omega) (fun h_46 => ?_) (fun h_46 => ?_)
      · refine s_iload_n 2 C dX6_keysNotAsAtEnd_73 rfl 2 rfl ?_
        exact s_iret C E dX6_keysNotAsAtEnd_74 ⟨k, W2_12, W2_36, rfl, rfl, (by rw [hc, mU, show (y - 0).toNat = 24 by omega])⟩
      · refine s_aload_n 0 C dX6_keysNotAsAtEnd_49 rfl 0 rfl ?_
        refine s_get C dX6_keysNotAsAtEnd_50 6 rfl hinX6 0 rfl 4 (by decide) (by decide +kernel) rfl ?_
        refine s_iload_n 3 C dX6_keysNotAsAtEnd_53 rfl 3 rfl ?_
        have hvy1 := hv1 y (by omega) (by omega)
        have hvy2 := hv2 y (by omega) (by omega)
        have hr1 := mV_r (p := oS f b 1) (y := y) hI.rf
        have hr2 := mV_r (p := f 0) (y := y) hI.rf
        refine s_iald C dX6_keysNotAsAtEnd_54 1 rfl y rfl (by omega) (by omega) (by omega) ?_
        refine s_aload_n 0 C dX6_keysNotAsAtEnd_55 rfl 0 rfl ?_
        refine s_get C dX6_keysNotAsAtEnd_56 6 rfl hinX6 0 rfl 5 (by decide) (by decide +kernel) rfl ?_
        refine s_iload_n 3 C dX6_keysNotAsAtEnd_59 rfl 3 rfl ?_
        refine s_iald C dX6_keysNotAsAtEnd_60 2 rfl y rfl (by omega) (by omega) (by omega) ?_
        refine s_icmp_eq 67 C dX6_keysNotAsAtEnd_61 (by decide) (by omega) (by omega) (fun h_61 => ?_) (fun h_61 => ?_)
        · refine s_iinc [(3, vI (y + 1)), (0, .ref x0), (1, vI p), (2, vI k)] C dX6_keysNotAsAtEnd_67 3 rfl (by decide) rfl ?_
          refine s_goto 43 C dX6_keysNotAsAtEnd_70 (by decide) ?_
          refine s_lv [(0, .ref x0), (1, vI p), (2, vI k), (3, vI (y + 1))] [1, 2, 3, 0] rfl ?_
          exact ih_43 (y + 1) k (by omega) (cnt_nx (by omega) hc (Or.inr ⟨(by simp only [decide_eq_true_eq]; omega), rfl⟩)) (by omega) (by omega)
        · refine s_iinc [(2, vI (k + 1)), (0, .ref x0), (1, vI p), (3, vI y)] C dX6_keysNotAsAtEnd_64 2 rfl (by decide) rfl ?_
          refine s_iinc [(3, vI (y + 1)), (2, vI (k + 1)), (0, .ref x0), (1, vI p)] C dX6_keysNotAsAtEnd_67 3 rfl (by decide) rfl ?_
          refine s_goto 43 C dX6_keysNotAsAtEnd_70 (by decide) ?_
          refine s_lv [(0, .ref x0), (1, vI p), (2, vI (k + 1)), (3, vI (y + 1))] [2, 3, 1, 0] rfl ?_
          exact ih_43 (y + 1) (k + 1) (by omega) (cnt_nx (by omega) hc (Or.inl ⟨(by simp only [decide_eq_true_eq]; omega), rfl⟩)) (by omega) (by omega)
  refine s_lv [(0, .ref x0), (1, vI p), (2, vI 0), (3, vI 0)] [2, 3, 1, 0] rfl ?_
  exact loop_43 (24 - 0 + 1 : Int).toNat 0 0 (by omega) rfl (by omega) (by omega)


set_option maxHeartbeats 4000000 in
set_option maxRecDepth 100000 in
theorem c_X6_standbyOf_0 (l : Launch) (G : fG) (x0 h0 e8 e9 : Nat) (y2 y3 : Value) (a : Nat → Nat) (c : Nat → Int) (F : Nat → Int → Int) (B : Int) (f U0 U1 : Int → Int) (wh : Int) (hR : RSb f c F) (hI : Inv B f) (hB : B ≤ 1073000000) (hwh : -2147483648 ≤ wh ∧ wh < 2147483648) : fCt l G yX6_standbyOf wsX6_standbyOf 6 134 0 0 [.ref x0, vI 0, vI wh] ([[cO x0 6 [.ref (a 0), .ref h0, y2, y3, .ref e8, .ref e9]], [cA e8 G.2.1.1 24 U0], [cA e9 G.2.1.1 24 U1], stW G a c F] : List va_W).flatten (fun (v0 : Option Value) (w0 : va_W) => ∃ (U2 U3 : Int → Int), v0 = some (vI (sp_stb f 0 wh)) ∧ w0 = ([[cO x0 6 [.ref (a 0), .ref h0, y2, y3, .ref e8, .ref e9]], [cA e8 G.2.1.1 24 U2], [cA e9 G.2.1.1 24 U3], stW G a c F] : List va_W).flatten) := by
  refine fs_met (cc := cX6_standbyOf) (nL := 5) (ret := (some .int)) (by decide) rfl (Nat.le_of_ble_eq_true rfl) ?_
  intro X C E
  show fSt l G X 0 0 0 [(0, .ref x0), (1, vI 0), (2, vI wh)] [] ([[cO x0 6 [.ref (a 0), .ref h0, y2, y3, .ref e8, .ref e9]], [cA e8 G.2.1.1 24 U0], [cA e9 G.2.1.1 24 U1], stW G a c F] : List va_W).flatten
  have hinX1 : ∀ w ∈ u_ws RX1 TX1 6, w ∈ wsX6_standbyOf := by decide +kernel
  have hinX3 : ∀ w ∈ u_ws RX3 TX3 4, w ∈ wsX6_standbyOf := by decide +kernel
  have hinX4 : ∀ w ∈ u_ws RX4 TX4 12, w ∈ wsX6_standbyOf := by decide +kernel
  have hinX6 : ∀ w ∈ u_ws RX6 TX6 6, w ∈ wsX6_standbyOf := by decide +kernel
  obtain ⟨hn, htk, hln, htr, hlc, hlo, hap, hrt, hdl, hS0, hS1⟩ := RS.scal hR hI
  have hK : rF (F 3) := RS.hrK hR
  have hT : rF (F 4) := RS.hrT hR
  have hY : rF (F 5) := RS.hrY hR
  have hV : rF (F 6) := RS.hrV hR
  have hA : rF (F 7) := RS.hrA hR
  have hsl : rF (F 0) := RS.hrs hR
  have hg0 : gF (F 1) := RS.hG0 hR
  have hg1 : gF (F 2) := RS.hG1 hR
  have hb0 := RS.b0 hR
  have hb1 := RS.b1 hR
  have en := RS.e_n hR
  have hin := hI.n
  have hSS := hI.S 0 (by omega) (by omega)
  refine s_iload_n 1 C dX6_standbyOf_0 rfl 1 rfl ?_
  refine s_callS (As := [vI 0]) (rest := []) C dX6_standbyOf_1 (c_X6_isStandby l G 0 (by first | assumption | omega)) gX6_standbyOf_X6_isStandby rfl 1 (by decide +kernel) (by decide) [] rfl (by decide) rfl (Nat.le_of_ble_eq_true rfl) ⟨Nat.zero_le _, Nat.zero_le _⟩ ?_
  intro v0 w0 hq
  obtain ⟨rfl, rfl⟩ := hq
  refine ⟨rfl, ?_⟩
  show fSt l G X 0 0 4 [(0, .ref x0), (1, vI 0), (2, vI wh)] [vI (bI (0 ≤ 0 ∧ 0 ≤ 1))] ([[cO x0 6 [.ref (a 0), .ref h0, y2, y3, .ref e8, .ref e9]], [cA e8 G.2.1.1 24 U0], [cA e9 G.2.1.1 24 U1], stW G a c F] : List va_W).flatten
  refine s_if_eq 17 C dX6_standbyOf_4 (by decide) bI_rng (fun h_4 => ?_) (fun h_4 => ?_)
  · have h_4 := bI_f h_4
    refine s_ldc (z := -1000001) C (by decide +kernel) dX6_standbyOf_17 ?_
    exact s_iret C E dX6_standbyOf_19 ⟨U0, U1, (congrArg (fun z => some (vI z)) (by rw [sp_stb, if_neg (by omega)])), rfl⟩
  · have h_4 := bI_t h_4
    refine s_iload_n 2 C dX6_standbyOf_7 rfl 2 rfl ?_
    refine s_if_lt 17 C dX6_standbyOf_8 (by decide) (by omega) (fun h_8 => ?_) (fun h_8 => ?_)
    · refine s_ldc (z := -1000001) C (by decide +kernel) dX6_standbyOf_17 ?_
      exact s_iret C E dX6_standbyOf_19 ⟨U0, U1, (congrArg (fun z => some (vI z)) (by rw [sp_stb, if_neg (by omega)])), rfl⟩
    · refine s_iload_n 2 C dX6_standbyOf_11 rfl 2 rfl ?_
      refine s_bipush (z := 8) C dX6_standbyOf_12 rfl ?_
      refine s_icmp_le 20 C dX6_standbyOf_14 (by decide) (by omega) (by omega) (fun h_14 => ?_) (fun h_14 => ?_)
      · refine s_aload_n 0 C dX6_standbyOf_20 rfl 0 rfl ?_
        refine s_get C dX6_standbyOf_21 6 rfl hinX6 0 rfl 0 (by decide) (by decide +kernel) rfl ?_
        refine s_iload_n 1 C dX6_standbyOf_24 rfl 1 rfl ?_
        refine s_callV (As := [vI 0]) (rest := []) C dX6_standbyOf_25 (c_X4_standby0 l G (a 0) (a 1) (a 7) (a 9) [.ref (a 11), vI (c 1), vI (c 2), vI (c 3), vI (c 4), vI (c 5), vI (c 6), vI (c 7), vI (c 8)] 0 (by first | assumption | omega)) gX6_standbyOf_X4_standby rfl 1 (by decide +kernel) (by decide) 3 4 rfl rfl rfl [3] rfl (by decide) rfl (Nat.le_of_ble_eq_true rfl) ⟨Nat.zero_le _, Nat.zero_le _⟩ ?_
        intro v0 w0 hq
        obtain ⟨rfl, rfl⟩ := hq
        refine ⟨rfl, ?_⟩
        show fSt l G X 0 0 28 [(0, .ref x0), (1, vI 0), (2, vI wh)] [.ref (a 7)] ([[cO x0 6 [.ref (a 0), .ref h0, y2, y3, .ref e8, .ref e9]], [cA e8 G.2.1.1 24 U0], [cA e9 G.2.1.1 24 U1], stW G a c F] : List va_W).flatten
        refine s_astore_n 3 [(3, .ref (a 7)), (0, .ref x0), (1, vI 0), (2, vI wh)] C dX6_standbyOf_28 rfl (by decide) rfl ?_
        refine s_aload_n 0 C dX6_standbyOf_29 rfl 1 rfl ?_
        refine s_get C dX6_standbyOf_30 6 rfl hinX6 0 rfl 0 (by decide) (by decide +kernel) rfl ?_
        refine s_get C dX6_standbyOf_33 4 rfl hinX4 3 rfl 0 (by decide) (by decide +kernel) rfl ?_
        refine s_astore [(4, .ref (a 1)), (3, .ref (a 7)), (0, .ref x0), (1, vI 0), (2, vI wh)] C dX6_standbyOf_36 (by decide) rfl ?_
        refine s_iload_n 2 C dX6_standbyOf_38 rfl 4 rfl ?_
        rcases (by omega : wh = 0 ∨ wh = 1 ∨ wh = 2 ∨ wh = 3 ∨ wh = 4 ∨ wh = 5 ∨ wh = 6 ∨ wh = 7 ∨ (wh < 0 ∨ 7 < wh)) with h_39 | h_39 | h_39 | h_39 | h_39 | h_39 | h_39 | h_39 | h_39
        · refine s_tabIn 84 (off := 45) C dX6_standbyOf_39 (by omega) (by omega) (by omega) (by rw [h_39]; rfl) (by decide) ?_
          refine s_aload_n 3 C dX6_standbyOf_84 rfl 1 rfl ?_
          refine s_get C dX6_standbyOf_85 3 rfl hinX3 10 rfl 0 (by decide) (by decide +kernel) rfl ?_
          exact s_iret C E dX6_standbyOf_88 ⟨U0, U1, (congrArg (fun z => some (vI z)) (by rw [sp_stb, if_pos (by omega), if_pos (by omega)]; exact hb0.1)), rfl⟩
        · refine s_tabIn 89 (off := 50) C dX6_standbyOf_39 (by omega) (by omega) (by omega) (by rw [h_39]; rfl) (by decide) ?_
          refine s_aload_n 3 C dX6_standbyOf_89 rfl 1 rfl ?_
          refine s_get C dX6_standbyOf_90 3 rfl hinX3 10 rfl 1 (by decide) (by decide +kernel) rfl ?_
          exact s_iret C E dX6_standbyOf_93 ⟨U0, U1, (congrArg (fun z => some (vI z)) (by rw [sp_stb, if_pos (by omega), if_neg (by omega), if_pos (by omega)]; exact hb0.2.1)), rfl⟩
        · refine s_tabIn 94 (off := 55) C dX6_standbyOf_39 (by omega) (by omega) (by omega) (by rw [h_39]; rfl) (by decide) ?_
          refine s_aload_n 3 C dX6_standbyOf_94 rfl 1 rfl ?_
          refine s_callV (As := []) (rest := []) C dX6_standbyOf_95 (c_X3_gapCount l G (a 7) (a 8) (c 9) (c 10) (c 11) (F 1) (by first | assumption | omega)) gX6_standbyOf_X3_gapCount rfl 0 (by decide +kernel) (by decide) 10 3 rfl rfl rfl [10, 11] rfl (by decide) rfl (Nat.le_of_ble_eq_true rfl) ⟨Nat.zero_le _, Nat.zero_le _⟩ ?_
          intro v0 w0 hq
          obtain ⟨rfl, rfl⟩ := hq
          refine ⟨rfl, ?_⟩
          show fSt l G X 0 0 98 [(4, .ref (a 1)), (3, .ref (a 7)), (0, .ref x0), (1, vI 0), (2, vI wh)] [vI (sC (F 1))] ([[cO x0 6 [.ref (a 0), .ref h0, y2, y3, .ref e8, .ref e9]], [cA e8 G.2.1.1 24 U0], [cA e9 G.2.1.1 24 U1], stW G a c F] : List va_W).flatten
          exact s_iret C E dX6_standbyOf_98 ⟨U0, U1, (congrArg (fun z => some (vI z)) (by rw [sp_stb, if_pos (by omega), if_neg (by omega), if_neg (by omega), if_pos (by omega)]; exact q_sC0 hR hI)), rfl⟩
        · refine s_tabIn 99 (off := 60) C dX6_standbyOf_39 (by omega) (by omega) (by omega) (by rw [h_39]; rfl) (by decide) ?_
          refine s_aload_n 3 C dX6_standbyOf_99 rfl 1 rfl ?_
          refine s_callV (As := []) (rest := []) C dX6_standbyOf_100 (c_X3_lowestGap l G (a 7) (a 8) (c 9) (c 10) (c 11) (F 1) (by first | assumption | omega)) gX6_standbyOf_X3_lowestGap rfl 0 (by decide +kernel) (by decide) 10 3 rfl rfl rfl [10, 11] rfl (by decide) rfl (Nat.le_of_ble_eq_true rfl) ⟨Nat.zero_le _, Nat.zero_le _⟩ ?_
          intro v0 w0 hq
          obtain ⟨rfl, rfl⟩ := hq
          refine ⟨rfl, ?_⟩
          show fSt l G X 0 0 103 [(4, .ref (a 1)), (3, .ref (a 7)), (0, .ref x0), (1, vI 0), (2, vI wh)] [vI (sW (F 1))] ([[cO x0 6 [.ref (a 0), .ref h0, y2, y3, .ref e8, .ref e9]], [cA e8 G.2.1.1 24 U0], [cA e9 G.2.1.1 24 U1], stW G a c F] : List va_W).flatten
          refine s_callS (As := [vI (sW (F 1))]) (rest := []) C dX6_standbyOf_103 (c_X6_found l G (sW (F 1)) sW_rg) gX6_standbyOf_X6_found rfl 1 (by decide +kernel) (by decide) [] rfl (by decide) rfl (Nat.le_of_ble_eq_true rfl) ⟨Nat.zero_le _, Nat.zero_le _⟩ ?_
          intro v0 w0 hq
          obtain ⟨rfl, rfl⟩ := hq
          refine ⟨rfl, ?_⟩
          show fSt l G X 0 0 106 [(4, .ref (a 1)), (3, .ref (a 7)), (0, .ref x0), (1, vI 0), (2, vI wh)] [vI (if (sW (F 1)) = 0 then -1000004 else (sW (F 1)))] ([[cO x0 6 [.ref (a 0), .ref h0, y2, y3, .ref e8, .ref e9]], [cA e8 G.2.1.1 24 U0], [cA e9 G.2.1.1 24 U1], stW G a c F] : List va_W).flatten
          exact s_iret C E dX6_standbyOf_106 ⟨U0, U1, (congrArg (fun z => some (vI z)) ((q_sW (q_h0 hR hI)).trans (show sp_stb f 0 wh = mW f 0 by rw [sp_stb, if_pos (by omega), if_neg (by omega), if_neg (by omega), if_neg (by omega), if_pos (by omega)]).symm)), rfl⟩
        · refine s_tabIn 107 (off := 68) C dX6_standbyOf_39 (by omega) (by omega) (by omega) (by rw [h_39]; rfl) (by decide) ?_
          refine s_aload_n 3 C dX6_standbyOf_107 rfl 1 rfl ?_
          refine s_get C dX6_standbyOf_108 3 rfl hinX3 10 rfl 2 (by decide) (by decide +kernel) rfl ?_
          refine s_if_eq 118 C dX6_standbyOf_111 (by decide) (by omega) (fun h_111 => ?_) (fun h_111 => ?_)
          · refine s_iconst C dX6_standbyOf_118 ?_
            exact s_iret C E dX6_standbyOf_119 ⟨U0, U1, (congrArg (fun z => some (vI z)) (by rw [sp_stb, if_pos (by omega), if_neg (by omega), if_neg (by omega), if_neg (by omega), if_neg (by omega), if_pos (by omega)]; rw [← hb0.2.2]; omega)), rfl⟩
          · refine s_iconst C dX6_standbyOf_114 ?_
            refine s_goto 119 C dX6_standbyOf_115 (by decide) ?_
            exact s_iret C E dX6_standbyOf_119 ⟨U0, U1, (congrArg (fun z => some (vI z)) (by rw [sp_stb, if_pos (by omega), if_neg (by omega), if_neg (by omega), if_neg (by omega), if_neg (by omega), if_pos (by omega)]; rw [← hb0.2.2]; omega)), rfl⟩
        · refine s_tabIn 120 (off := 81) C dX6_standbyOf_39 (by omega) (by omega) (by omega) (by rw [h_39]; rfl) (by decide) ?_
          refine s_aload C dX6_standbyOf_120 0 rfl ?_
          refine s_get C dX6_standbyOf_122 1 rfl hinX1 4 rfl 0 (by decide) (by decide +kernel) rfl ?_
          refine s_aload_n 3 C dX6_standbyOf_125 rfl 1 rfl ?_
          refine s_get C dX6_standbyOf_126 3 rfl hinX3 10 rfl 1 (by decide) (by decide +kernel) rfl ?_
          refine s_isub C dX6_standbyOf_129 ?_
          exact s_iret C E dX6_standbyOf_130 ⟨U0, U1, (congrArg (fun z => some (vI z)) (by rw [sp_stb, if_pos (by omega), if_neg (by omega), if_neg (by omega), if_neg (by omega), if_neg (by omega), if_neg (by omega), if_pos (by omega)]; rw [← hb0.2.1, ← en])), rfl⟩
        · refine s_tabIn 131 (off := 92) C dX6_standbyOf_39 (by omega) (by omega) (by omega) (by rw [h_39]; rfl) (by decide) ?_
          refine s_aload C dX6_standbyOf_131 0 rfl ?_
          refine s_aload_n 3 C dX6_standbyOf_133 rfl 1 rfl ?_
          refine s_get C dX6_standbyOf_134 3 rfl hinX3 10 rfl 1 (by decide) (by decide +kernel) rfl ?_
          refine s_callV (As := [vI (c 10)]) (rest := []) C dX6_standbyOf_137 (c_X1_commitsBehind l G (a 1) (a 2) (a 3) (a 4) (a 5) (a 6) (c 0) (F 3) (F 4) (F 5) (F 6) (F 7) (c 10) (by first | assumption | omega) (by first | assumption | omega) (by first | assumption | omega) (by first | assumption | omega) (by first | assumption | omega) (by first | assumption | omega) (by first | assumption | omega)) gX6_standbyOf_X1_commitsBehind rfl 1 (by decide +kernel) (by decide) 4 1 rfl rfl rfl [4, 5, 6, 7, 8, 9] rfl (by decide) rfl (Nat.le_of_ble_eq_true rfl) ⟨Nat.zero_le _, Nat.zero_le _⟩ ?_
          intro v0 w0 hq
          obtain ⟨rfl, rfl⟩ := hq
          refine ⟨rfl, ?_⟩
          show fSt l G X 0 0 140 [(4, .ref (a 1)), (3, .ref (a 7)), (0, .ref x0), (1, vI 0), (2, vI wh)] [vI (cB (c 0) (F 3) (c 10))] ([[cO x0 6 [.ref (a 0), .ref h0, y2, y3, .ref e8, .ref e9]], [cA e8 G.2.1.1 24 U0], [cA e9 G.2.1.1 24 U1], stW G a c F] : List va_W).flatten
          exact s_iret C E dX6_standbyOf_140 ⟨U0, U1, (congrArg (fun z => some (vI z)) (by rw [sp_stb, if_pos (by omega), if_neg (by omega), if_neg (by omega), if_neg (by omega), if_neg (by omega), if_neg (by omega), if_neg (by omega), if_pos (by omega)]; rw [← hb0.2.1]; exact q_cB hR (by omega))), rfl⟩
        · refine s_tabIn 141 (off := 102) C dX6_standbyOf_39 (by omega) (by omega) (by omega) (by rw [h_39]; rfl) (by decide) ?_
          refine s_aload C dX6_standbyOf_141 0 rfl ?_
          refine s_aload_n 3 C dX6_standbyOf_143 rfl 1 rfl ?_
          refine s_get C dX6_standbyOf_144 3 rfl hinX3 10 rfl 1 (by decide) (by decide +kernel) rfl ?_
          refine s_iconst C dX6_standbyOf_147 ?_
          refine s_iadd C dX6_standbyOf_148 ?_
          refine s_callV (As := [vI ((c 10) + 1)]) (rest := []) C dX6_standbyOf_149 (c_X1_has l G (a 1) (a 2) (a 3) (a 4) (a 5) (a 6) (c 0) (F 3) (F 4) (F 5) (F 6) (F 7) ((c 10) + 1) (by first | assumption | omega) (by first | assumption | omega)) gX6_standbyOf_X1_has rfl 1 (by decide +kernel) (by decide) 4 1 rfl rfl rfl [4, 5, 6, 7, 8, 9] rfl (by decide) rfl (Nat.le_of_ble_eq_true rfl) ⟨Nat.zero_le _, Nat.zero_le _⟩ ?_
          intro v0 w0 hq
          obtain ⟨rfl, rfl⟩ := hq
          refine ⟨rfl, ?_⟩
          show fSt l G X 0 0 152 [(4, .ref (a 1)), (3, .ref (a 7)), (0, .ref x0), (1, vI 0), (2, vI wh)] [vI (bI (1 ≤ ((c 10) + 1) ∧ ((c 10) + 1) ≤ (c 0)))] ([[cO x0 6 [.ref (a 0), .ref h0, y2, y3, .ref e8, .ref e9]], [cA e8 G.2.1.1 24 U0], [cA e9 G.2.1.1 24 U1], stW G a c F] : List va_W).flatten
          refine s_if_eq 177 C dX6_standbyOf_152 (by decide) bI_rng (fun h_152 => ?_) (fun h_152 => ?_)
          · have h_152 := bI_f h_152
            refine s_ldc (z := -1000004) C (by decide +kernel) dX6_standbyOf_177 ?_
            exact s_iret C E dX6_standbyOf_179 ⟨U0, U1, (congrArg (fun z => some (vI z)) (by rw [sp_stb, if_pos (by omega), if_neg (by omega), if_neg (by omega), if_neg (by omega), if_neg (by omega), if_neg (by omega), if_neg (by omega), if_neg (by omega), if_pos (by omega), if_pos (by omega)])), rfl⟩
          · have h_152 := bI_t h_152
            refine s_aload_n 0 C dX6_standbyOf_155 rfl 2 rfl ?_
            refine s_get C dX6_standbyOf_156 6 rfl hinX6 0 rfl 0 (by decide) (by decide +kernel) rfl ?_
            refine s_get C dX6_standbyOf_159 4 rfl hinX4 3 rfl 4 (by decide) (by decide +kernel) rfl ?_
            refine s_aload C dX6_standbyOf_162 0 rfl ?_
            refine s_aload_n 3 C dX6_standbyOf_164 rfl 1 rfl ?_
            refine s_get C dX6_standbyOf_165 3 rfl hinX3 10 rfl 1 (by decide) (by decide +kernel) rfl ?_
            refine s_iconst C dX6_standbyOf_168 ?_
            refine s_iadd C dX6_standbyOf_169 ?_
            refine s_callV (As := [vI ((c 10) + 1)]) (rest := [vI (c 1)]) C dX6_standbyOf_170 (c_X1_tickOf l G (a 1) (a 2) (a 3) (a 4) (a 5) (a 6) (c 0) (F 3) (F 4) (F 5) (F 6) (F 7) ((c 10) + 1) (by first | assumption | omega) (by first | assumption | omega)) gX6_standbyOf_X1_tickOf rfl 1 (by decide +kernel) (by decide) 4 1 rfl rfl rfl [4, 5, 6, 7, 8, 9] rfl (by decide) rfl (Nat.le_of_ble_eq_true rfl) ⟨Nat.zero_le _, Nat.zero_le _⟩ ?_
            intro v0 w0 hq
            obtain ⟨rfl, rfl⟩ := hq
            refine ⟨rfl, ?_⟩
            show fSt l G X 0 0 173 [(4, .ref (a 1)), (3, .ref (a 7)), (0, .ref x0), (1, vI 0), (2, vI wh)] [vI (gR (c 0) (F 7) ((c 10) + 1)), vI (c 1)] ([[cO x0 6 [.ref (a 0), .ref h0, y2, y3, .ref e8, .ref e9]], [cA e8 G.2.1.1 24 U0], [cA e9 G.2.1.1 24 U1], stW G a c F] : List va_W).flatten
            refine s_isub C dX6_standbyOf_173 ?_
            refine s_goto 179 C dX6_standbyOf_174 (by decide) ?_
            exact s_iret C E dX6_standbyOf_179 ⟨U0, U1, (congrArg (fun z => some (vI z)) (by rw [sp_stb, if_pos (by omega), if_neg (by omega), if_neg (by omega), if_neg (by omega), if_neg (by omega), if_neg (by omega), if_neg (by omega), if_neg (by omega), if_pos (by omega), if_neg (by omega), ← hb0.2.1, q_gA hR ⟨by omega, by omega⟩, RS.e_tk hR])), rfl⟩
        · refine s_tabOut 180 C dX6_standbyOf_39 (by omega) h_39 (by decide) ?_
          refine s_aload_n 0 C dX6_standbyOf_180 rfl 2 rfl ?_
          refine s_aload_n 3 C dX6_standbyOf_181 rfl 1 rfl ?_
          refine s_get C dX6_standbyOf_182 3 rfl hinX3 10 rfl 1 (by decide) (by decide +kernel) rfl ?_
          refine s_callVQ (As := [vI (c 10)]) (rest := []) (segs := [[cO x0 6 [.ref (a 0), .ref h0, y2, y3, .ref e8, .ref e9]], [cA e8 G.2.1.1 24 U0], [cA e9 G.2.1.1 24 U1], stW G a c F]) C dX6_standbyOf_185 (c_X6_keysNotAsAtEnd l G x0 h0 e8 e9 (y2) (y3) a c F B f U0 U1 0 (c 10) (by first | assumption | omega) (by first | assumption | omega) (by first | assumption | omega) (by first | assumption | omega) hb0.2.1) gX6_standbyOf_X6_keysNotAsAtEnd rfl 1 (by decide +kernel) (by decide) 6 rfl rfl 0 _ rfl rfl [0, 1, 2, 3] [] 4 (rfl : (4 : Nat) = 4) (by decide +kernel) rfl rfl (Nat.le_of_ble_eq_true rfl) ⟨Nat.zero_le _, Nat.zero_le _⟩ ?_
          intro v0 w0 hq
          obtain ⟨z_185, U2_185, U3_185, rfl, rfl, hq0_185⟩ := hq
          refine ⟨(fst_f (fst_c rfl (fst_c (fst_k rfl) (fst_c (fst_k rfl) rfl)))), [[cO x0 6 [.ref (a 0), .ref h0, y2, y3, .ref e8, .ref e9]], [cA e8 G.2.1.1 24 U2_185], [cA e9 G.2.1.1 24 U3_185], stW G a c F], (rfl : (4 : Nat) = 4), rfl, Eq.trans (b := ([] : List va_W)) rfl rfl, ?_⟩
          show fSt l G X 0 0 188 [(4, .ref (a 1)), (3, .ref (a 7)), (0, .ref x0), (1, vI 0), (2, vI wh)] [vI z_185] ([[cO x0 6 [.ref (a 0), .ref h0, y2, y3, .ref e8, .ref e9]], [cA e8 G.2.1.1 24 U2_185], [cA e9 G.2.1.1 24 U3_185], stW G a c F] : List va_W).flatten
          exact s_iret C E dX6_standbyOf_188 ⟨U2_185, U3_185, (congrArg (fun z => some (vI z)) (by rw [sp_stb, if_pos (by omega), if_neg (by omega), if_neg (by omega), if_neg (by omega), if_neg (by omega), if_neg (by omega), if_neg (by omega), if_neg (by omega), if_neg (by omega)]; exact hq0_185)), rfl⟩
      · refine s_ldc (z := -1000001) C (by decide +kernel) dX6_standbyOf_17 ?_
        exact s_iret C E dX6_standbyOf_19 ⟨U0, U1, (congrArg (fun z => some (vI z)) (by rw [sp_stb, if_neg (by omega)])), rfl⟩


set_option maxHeartbeats 4000000 in
set_option maxRecDepth 100000 in
theorem c_X6_standbyOf_1 (l : Launch) (G : fG) (x0 h0 e8 e9 : Nat) (y2 y3 : Value) (a : Nat → Nat) (c : Nat → Int) (F : Nat → Int → Int) (B : Int) (f U0 U1 : Int → Int) (wh : Int) (hR : RSb f c F) (hI : Inv B f) (hB : B ≤ 1073000000) (hwh : -2147483648 ≤ wh ∧ wh < 2147483648) : fCt l G yX6_standbyOf wsX6_standbyOf 6 134 0 0 [.ref x0, vI 1, vI wh] ([[cO x0 6 [.ref (a 0), .ref h0, y2, y3, .ref e8, .ref e9]], [cA e8 G.2.1.1 24 U0], [cA e9 G.2.1.1 24 U1], stW G a c F] : List va_W).flatten (fun (v0 : Option Value) (w0 : va_W) => ∃ (U2 U3 : Int → Int), v0 = some (vI (sp_stb f 1 wh)) ∧ w0 = ([[cO x0 6 [.ref (a 0), .ref h0, y2, y3, .ref e8, .ref e9]], [cA e8 G.2.1.1 24 U2], [cA e9 G.2.1.1 24 U3], stW G a c F] : List va_W).flatten) := by
  refine fs_met (cc := cX6_standbyOf) (nL := 5) (ret := (some .int)) (by decide) rfl (Nat.le_of_ble_eq_true rfl) ?_
  intro X C E
  show fSt l G X 0 0 0 [(0, .ref x0), (1, vI 1), (2, vI wh)] [] ([[cO x0 6 [.ref (a 0), .ref h0, y2, y3, .ref e8, .ref e9]], [cA e8 G.2.1.1 24 U0], [cA e9 G.2.1.1 24 U1], stW G a c F] : List va_W).flatten
  have hinX1 : ∀ w ∈ u_ws RX1 TX1 6, w ∈ wsX6_standbyOf := by decide +kernel
  have hinX3 : ∀ w ∈ u_ws RX3 TX3 4, w ∈ wsX6_standbyOf := by decide +kernel
  have hinX4 : ∀ w ∈ u_ws RX4 TX4 12, w ∈ wsX6_standbyOf := by decide +kernel
  have hinX6 : ∀ w ∈ u_ws RX6 TX6 6, w ∈ wsX6_standbyOf := by decide +kernel
  obtain ⟨hn, htk, hln, htr, hlc, hlo, hap, hrt, hdl, hS0, hS1⟩ := RS.scal hR hI
  have hK : rF (F 3) := RS.hrK hR
  have hT : rF (F 4) := RS.hrT hR
  have hY : rF (F 5) := RS.hrY hR
  have hV : rF (F 6) := RS.hrV hR
  have hA : rF (F 7) := RS.hrA hR
  have hsl : rF (F 0) := RS.hrs hR
  have hg0 : gF (F 1) := RS.hG0 hR
  have hg1 : gF (F 2) := RS.hG1 hR
  have hb0 := RS.b0 hR
  have hb1 := RS.b1 hR
  have en := RS.e_n hR
  have hin := hI.n
  have hSS := hI.S 1 (by omega) (by omega)
  refine s_iload_n 1 C dX6_standbyOf_0 rfl 1 rfl ?_
  refine s_callS (As := [vI 1]) (rest := []) C dX6_standbyOf_1 (c_X6_isStandby l G 1 (by first | assumption | omega)) gX6_standbyOf_X6_isStandby rfl 1 (by decide +kernel) (by decide) [] rfl (by decide) rfl (Nat.le_of_ble_eq_true rfl) ⟨Nat.zero_le _, Nat.zero_le _⟩ ?_
  intro v0 w0 hq
  obtain ⟨rfl, rfl⟩ := hq
  refine ⟨rfl, ?_⟩
  show fSt l G X 0 0 4 [(0, .ref x0), (1, vI 1), (2, vI wh)] [vI (bI (0 ≤ 1 ∧ 1 ≤ 1))] ([[cO x0 6 [.ref (a 0), .ref h0, y2, y3, .ref e8, .ref e9]], [cA e8 G.2.1.1 24 U0], [cA e9 G.2.1.1 24 U1], stW G a c F] : List va_W).flatten
  refine s_if_eq 17 C dX6_standbyOf_4 (by decide) bI_rng (fun h_4 => ?_) (fun h_4 => ?_)
  · have h_4 := bI_f h_4
    refine s_ldc (z := -1000001) C (by decide +kernel) dX6_standbyOf_17 ?_
    exact s_iret C E dX6_standbyOf_19 ⟨U0, U1, (congrArg (fun z => some (vI z)) (by rw [sp_stb, if_neg (by omega)])), rfl⟩
  · have h_4 := bI_t h_4
    refine s_iload_n 2 C dX6_standbyOf_7 rfl 2 rfl ?_
    refine s_if_lt 17 C dX6_standbyOf_8 (by decide) (by omega) (fun h_8 => ?_) (fun h_8 => ?_)
    · refine s_ldc (z := -1000001) C (by decide +kernel) dX6_standbyOf_17 ?_
      exact s_iret C E dX6_standbyOf_19 ⟨U0, U1, (congrArg (fun z => some (vI z)) (by rw [sp_stb, if_neg (by omega)])), rfl⟩
    · refine s_iload_n 2 C dX6_standbyOf_11 rfl 2 rfl ?_
      refine s_bipush (z := 8) C dX6_standbyOf_12 rfl ?_
      refine s_icmp_le 20 C dX6_standbyOf_14 (by decide) (by omega) (by omega) (fun h_14 => ?_) (fun h_14 => ?_)
      · refine s_aload_n 0 C dX6_standbyOf_20 rfl 0 rfl ?_
        refine s_get C dX6_standbyOf_21 6 rfl hinX6 0 rfl 0 (by decide) (by decide +kernel) rfl ?_
        refine s_iload_n 1 C dX6_standbyOf_24 rfl 1 rfl ?_
        refine s_callV (As := [vI 1]) (rest := []) C dX6_standbyOf_25 (c_X4_standby1 l G (a 0) (a 1) (a 7) (a 9) [.ref (a 11), vI (c 1), vI (c 2), vI (c 3), vI (c 4), vI (c 5), vI (c 6), vI (c 7), vI (c 8)] 1 (by first | assumption | omega)) gX6_standbyOf_X4_standby rfl 1 (by decide +kernel) (by decide) 3 4 rfl rfl rfl [3] rfl (by decide) rfl (Nat.le_of_ble_eq_true rfl) ⟨Nat.zero_le _, Nat.zero_le _⟩ ?_
        intro v0 w0 hq
        obtain ⟨rfl, rfl⟩ := hq
        refine ⟨rfl, ?_⟩
        show fSt l G X 0 0 28 [(0, .ref x0), (1, vI 1), (2, vI wh)] [.ref (a 9)] ([[cO x0 6 [.ref (a 0), .ref h0, y2, y3, .ref e8, .ref e9]], [cA e8 G.2.1.1 24 U0], [cA e9 G.2.1.1 24 U1], stW G a c F] : List va_W).flatten
        refine s_astore_n 3 [(3, .ref (a 9)), (0, .ref x0), (1, vI 1), (2, vI wh)] C dX6_standbyOf_28 rfl (by decide) rfl ?_
        refine s_aload_n 0 C dX6_standbyOf_29 rfl 1 rfl ?_
        refine s_get C dX6_standbyOf_30 6 rfl hinX6 0 rfl 0 (by decide) (by decide +kernel) rfl ?_
        refine s_get C dX6_standbyOf_33 4 rfl hinX4 3 rfl 0 (by decide) (by decide +kernel) rfl ?_
        refine s_astore [(4, .ref (a 1)), (3, .ref (a 9)), (0, .ref x0), (1, vI 1), (2, vI wh)] C dX6_standbyOf_36 (by decide) rfl ?_
        refine s_iload_n 2 C dX6_standbyOf_38 rfl 4 rfl ?_
        rcases (by omega : wh = 0 ∨ wh = 1 ∨ wh = 2 ∨ wh = 3 ∨ wh = 4 ∨ wh = 5 ∨ wh = 6 ∨ wh = 7 ∨ (wh < 0 ∨ 7 < wh)) with h_39 | h_39 | h_39 | h_39 | h_39 | h_39 | h_39 | h_39 | h_39
        · refine s_tabIn 84 (off := 45) C dX6_standbyOf_39 (by omega) (by omega) (by omega) (by rw [h_39]; rfl) (by decide) ?_
          refine s_aload_n 3 C dX6_standbyOf_84 rfl 1 rfl ?_
          refine s_get C dX6_standbyOf_85 3 rfl hinX3 12 rfl 0 (by decide) (by decide +kernel) rfl ?_
          exact s_iret C E dX6_standbyOf_88 ⟨U0, U1, (congrArg (fun z => some (vI z)) (by rw [sp_stb, if_pos (by omega), if_pos (by omega)]; exact hb1.1)), rfl⟩
        · refine s_tabIn 89 (off := 50) C dX6_standbyOf_39 (by omega) (by omega) (by omega) (by rw [h_39]; rfl) (by decide) ?_
          refine s_aload_n 3 C dX6_standbyOf_89 rfl 1 rfl ?_
          refine s_get C dX6_standbyOf_90 3 rfl hinX3 12 rfl 1 (by decide) (by decide +kernel) rfl ?_
          exact s_iret C E dX6_standbyOf_93 ⟨U0, U1, (congrArg (fun z => some (vI z)) (by rw [sp_stb, if_pos (by omega), if_neg (by omega), if_pos (by omega)]; exact hb1.2.1)), rfl⟩
        · refine s_tabIn 94 (off := 55) C dX6_standbyOf_39 (by omega) (by omega) (by omega) (by rw [h_39]; rfl) (by decide) ?_
          refine s_aload_n 3 C dX6_standbyOf_94 rfl 1 rfl ?_
          refine s_callV (As := []) (rest := []) C dX6_standbyOf_95 (c_X3_gapCount l G (a 9) (a 10) (c 12) (c 13) (c 14) (F 2) (by first | assumption | omega)) gX6_standbyOf_X3_gapCount rfl 0 (by decide +kernel) (by decide) 12 3 rfl rfl rfl [12, 13] rfl (by decide) rfl (Nat.le_of_ble_eq_true rfl) ⟨Nat.zero_le _, Nat.zero_le _⟩ ?_
          intro v0 w0 hq
          obtain ⟨rfl, rfl⟩ := hq
          refine ⟨rfl, ?_⟩
          show fSt l G X 0 0 98 [(4, .ref (a 1)), (3, .ref (a 9)), (0, .ref x0), (1, vI 1), (2, vI wh)] [vI (sC (F 2))] ([[cO x0 6 [.ref (a 0), .ref h0, y2, y3, .ref e8, .ref e9]], [cA e8 G.2.1.1 24 U0], [cA e9 G.2.1.1 24 U1], stW G a c F] : List va_W).flatten
          exact s_iret C E dX6_standbyOf_98 ⟨U0, U1, (congrArg (fun z => some (vI z)) (by rw [sp_stb, if_pos (by omega), if_neg (by omega), if_neg (by omega), if_pos (by omega)]; exact q_sC1 hR hI)), rfl⟩
        · refine s_tabIn 99 (off := 60) C dX6_standbyOf_39 (by omega) (by omega) (by omega) (by rw [h_39]; rfl) (by decide) ?_
          refine s_aload_n 3 C dX6_standbyOf_99 rfl 1 rfl ?_
          refine s_callV (As := []) (rest := []) C dX6_standbyOf_100 (c_X3_lowestGap l G (a 9) (a 10) (c 12) (c 13) (c 14) (F 2) (by first | assumption | omega)) gX6_standbyOf_X3_lowestGap rfl 0 (by decide +kernel) (by decide) 12 3 rfl rfl rfl [12, 13] rfl (by decide) rfl (Nat.le_of_ble_eq_true rfl) ⟨Nat.zero_le _, Nat.zero_le _⟩ ?_
          intro v0 w0 hq
          obtain ⟨rfl, rfl⟩ := hq
          refine ⟨rfl, ?_⟩
          show fSt l G X 0 0 103 [(4, .ref (a 1)), (3, .ref (a 9)), (0, .ref x0), (1, vI 1), (2, vI wh)] [vI (sW (F 2))] ([[cO x0 6 [.ref (a 0), .ref h0, y2, y3, .ref e8, .ref e9]], [cA e8 G.2.1.1 24 U0], [cA e9 G.2.1.1 24 U1], stW G a c F] : List va_W).flatten
          refine s_callS (As := [vI (sW (F 2))]) (rest := []) C dX6_standbyOf_103 (c_X6_found l G (sW (F 2)) sW_rg) gX6_standbyOf_X6_found rfl 1 (by decide +kernel) (by decide) [] rfl (by decide) rfl (Nat.le_of_ble_eq_true rfl) ⟨Nat.zero_le _, Nat.zero_le _⟩ ?_
          intro v0 w0 hq
          obtain ⟨rfl, rfl⟩ := hq
          refine ⟨rfl, ?_⟩
          show fSt l G X 0 0 106 [(4, .ref (a 1)), (3, .ref (a 9)), (0, .ref x0), (1, vI 1), (2, vI wh)] [vI (if (sW (F 2)) = 0 then -1000004 else (sW (F 2)))] ([[cO x0 6 [.ref (a 0), .ref h0, y2, y3, .ref e8, .ref e9]], [cA e8 G.2.1.1 24 U0], [cA e9 G.2.1.1 24 U1], stW G a c F] : List va_W).flatten
          exact s_iret C E dX6_standbyOf_106 ⟨U0, U1, (congrArg (fun z => some (vI z)) ((q_sW (q_h1 hR hI)).trans (show sp_stb f 1 wh = mW f 1 by rw [sp_stb, if_pos (by omega), if_neg (by omega), if_neg (by omega), if_neg (by omega), if_pos (by omega)]).symm)), rfl⟩
        · refine s_tabIn 107 (off := 68) C dX6_standbyOf_39 (by omega) (by omega) (by omega) (by rw [h_39]; rfl) (by decide) ?_
          refine s_aload_n 3 C dX6_standbyOf_107 rfl 1 rfl ?_
          refine s_get C dX6_standbyOf_108 3 rfl hinX3 12 rfl 2 (by decide) (by decide +kernel) rfl ?_
          refine s_if_eq 118 C dX6_standbyOf_111 (by decide) (by omega) (fun h_111 => ?_) (fun h_111 => ?_)
          · refine s_iconst C dX6_standbyOf_118 ?_
            exact s_iret C E dX6_standbyOf_119 ⟨U0, U1, (congrArg (fun z => some (vI z)) (by rw [sp_stb, if_pos (by omega), if_neg (by omega), if_neg (by omega), if_neg (by omega), if_neg (by omega), if_pos (by omega)]; rw [← hb1.2.2]; omega)), rfl⟩
          · refine s_iconst C dX6_standbyOf_114 ?_
            refine s_goto 119 C dX6_standbyOf_115 (by decide) ?_
            exact s_iret C E dX6_standbyOf_119 ⟨U0, U1, (congrArg (fun z => some (vI z)) (by rw [sp_stb, if_pos (by omega), if_neg (by omega), if_neg (by omega), if_neg (by omega), if_neg (by omega), if_pos (by omega)]; rw [← hb1.2.2]; omega)), rfl⟩
        · refine s_tabIn 120 (off := 81) C dX6_standbyOf_39 (by omega) (by omega) (by omega) (by rw [h_39]; rfl) (by decide) ?_
          refine s_aload C dX6_standbyOf_120 0 rfl ?_
          refine s_get C dX6_standbyOf_122 1 rfl hinX1 4 rfl 0 (by decide) (by decide +kernel) rfl ?_
          refine s_aload_n 3 C dX6_standbyOf_125 rfl 1 rfl ?_
          refine s_get C dX6_standbyOf_126 3 rfl hinX3 12 rfl 1 (by decide) (by decide +kernel) rfl ?_
          refine s_isub C dX6_standbyOf_129 ?_
          exact s_iret C E dX6_standbyOf_130 ⟨U0, U1, (congrArg (fun z => some (vI z)) (by rw [sp_stb, if_pos (by omega), if_neg (by omega), if_neg (by omega), if_neg (by omega), if_neg (by omega), if_neg (by omega), if_pos (by omega)]; rw [← hb1.2.1, ← en])), rfl⟩
        · refine s_tabIn 131 (off := 92) C dX6_standbyOf_39 (by omega) (by omega) (by omega) (by rw [h_39]; rfl) (by decide) ?_
          refine s_aload C dX6_standbyOf_131 0 rfl ?_
          refine s_aload_n 3 C dX6_standbyOf_133 rfl 1 rfl ?_
          refine s_get C dX6_standbyOf_134 3 rfl hinX3 12 rfl 1 (by decide) (by decide +kernel) rfl ?_
          refine s_callV (As := [vI (c 13)]) (rest := []) C dX6_standbyOf_137 (c_X1_commitsBehind l G (a 1) (a 2) (a 3) (a 4) (a 5) (a 6) (c 0) (F 3) (F 4) (F 5) (F 6) (F 7) (c 13) (by first | assumption | omega) (by first | assumption | omega) (by first | assumption | omega) (by first | assumption | omega) (by first | assumption | omega) (by first | assumption | omega) (by first | assumption | omega)) gX6_standbyOf_X1_commitsBehind rfl 1 (by decide +kernel) (by decide) 4 1 rfl rfl rfl [4, 5, 6, 7, 8, 9] rfl (by decide) rfl (Nat.le_of_ble_eq_true rfl) ⟨Nat.zero_le _, Nat.zero_le _⟩ ?_
          intro v0 w0 hq
          obtain ⟨rfl, rfl⟩ := hq
          refine ⟨rfl, ?_⟩
          show fSt l G X 0 0 140 [(4, .ref (a 1)), (3, .ref (a 9)), (0, .ref x0), (1, vI 1), (2, vI wh)] [vI (cB (c 0) (F 3) (c 13))] ([[cO x0 6 [.ref (a 0), .ref h0, y2, y3, .ref e8, .ref e9]], [cA e8 G.2.1.1 24 U0], [cA e9 G.2.1.1 24 U1], stW G a c F] : List va_W).flatten
          exact s_iret C E dX6_standbyOf_140 ⟨U0, U1, (congrArg (fun z => some (vI z)) (by rw [sp_stb, if_pos (by omega), if_neg (by omega), if_neg (by omega), if_neg (by omega), if_neg (by omega), if_neg (by omega), if_neg (by omega), if_pos (by omega)]; rw [← hb1.2.1]; exact q_cB hR (by omega))), rfl⟩
        · refine s_tabIn 141 (off := 102) C dX6_standbyOf_39 (by omega) (by omega) (by omega) (by rw [h_39]; rfl) (by decide) ?_
          refine s_aload C dX6_standbyOf_141 0 rfl ?_
          refine s_aload_n 3 C dX6_standbyOf_143 rfl 1 rfl ?_
          refine s_get C dX6_standbyOf_144 3 rfl hinX3 12 rfl 1 (by decide) (by decide +kernel) rfl ?_
          refine s_iconst C dX6_standbyOf_147 ?_
          refine s_iadd C dX6_standbyOf_148 ?_
          refine s_callV (As := [vI ((c 13) + 1)]) (rest := []) C dX6_standbyOf_149 (c_X1_has l G (a 1) (a 2) (a 3) (a 4) (a 5) (a 6) (c 0) (F 3) (F 4) (F 5) (F 6) (F 7) ((c 13) + 1) (by first | assumption | omega) (by first | assumption | omega)) gX6_standbyOf_X1_has rfl 1 (by decide +kernel) (by decide) 4 1 rfl rfl rfl [4, 5, 6, 7, 8, 9] rfl (by decide) rfl (Nat.le_of_ble_eq_true rfl) ⟨Nat.zero_le _, Nat.zero_le _⟩ ?_
          intro v0 w0 hq
          obtain ⟨rfl, rfl⟩ := hq
          refine ⟨rfl, ?_⟩
          show fSt l G X 0 0 152 [(4, .ref (a 1)), (3, .ref (a 9)), (0, .ref x0), (1, vI 1), (2, vI wh)] [vI (bI (1 ≤ ((c 13) + 1) ∧ ((c 13) + 1) ≤ (c 0)))] ([[cO x0 6 [.ref (a 0), .ref h0, y2, y3, .ref e8, .ref e9]], [cA e8 G.2.1.1 24 U0], [cA e9 G.2.1.1 24 U1], stW G a c F] : List va_W).flatten
          refine s_if_eq 177 C dX6_standbyOf_152 (by decide) bI_rng (fun h_152 => ?_) (fun h_152 => ?_)
          · have h_152 := bI_f h_152
            refine s_ldc (z := -1000004) C (by decide +kernel) dX6_standbyOf_177 ?_
            exact s_iret C E dX6_standbyOf_179 ⟨U0, U1, (congrArg (fun z => some (vI z)) (by rw [sp_stb, if_pos (by omega), if_neg (by omega), if_neg (by omega), if_neg (by omega), if_neg (by omega), if_neg (by omega), if_neg (by omega), if_neg (by omega), if_pos (by omega), if_pos (by omega)])), rfl⟩
          · have h_152 := bI_t h_152
            refine s_aload_n 0 C dX6_standbyOf_155 rfl 2 rfl ?_
            refine s_get C dX6_standbyOf_156 6 rfl hinX6 0 rfl 0 (by decide) (by decide +kernel) rfl ?_
            refine s_get C dX6_standbyOf_159 4 rfl hinX4 3 rfl 4 (by decide) (by decide +kernel) rfl ?_
            refine s_aload C dX6_standbyOf_162 0 rfl ?_
            refine s_aload_n 3 C dX6_standbyOf_164 rfl 1 rfl ?_
            refine s_get C dX6_standbyOf_165 3 rfl hinX3 12 rfl 1 (by decide) (by decide +kernel) rfl ?_
            refine s_iconst C dX6_standbyOf_168 ?_
            refine s_iadd C dX6_standbyOf_169 ?_
            refine s_callV (As := [vI ((c 13) + 1)]) (rest := [vI (c 1)]) C dX6_standbyOf_170 (c_X1_tickOf l G (a 1) (a 2) (a 3) (a 4) (a 5) (a 6) (c 0) (F 3) (F 4) (F 5) (F 6) (F 7) ((c 13) + 1) (by first | assumption | omega) (by first | assumption | omega)) gX6_standbyOf_X1_tickOf rfl 1 (by decide +kernel) (by decide) 4 1 rfl rfl rfl [4, 5, 6, 7, 8, 9] rfl (by decide) rfl (Nat.le_of_ble_eq_true rfl) ⟨Nat.zero_le _, Nat.zero_le _⟩ ?_
            intro v0 w0 hq
            obtain ⟨rfl, rfl⟩ := hq
            refine ⟨rfl, ?_⟩
            show fSt l G X 0 0 173 [(4, .ref (a 1)), (3, .ref (a 9)), (0, .ref x0), (1, vI 1), (2, vI wh)] [vI (gR (c 0) (F 7) ((c 13) + 1)), vI (c 1)] ([[cO x0 6 [.ref (a 0), .ref h0, y2, y3, .ref e8, .ref e9]], [cA e8 G.2.1.1 24 U0], [cA e9 G.2.1.1 24 U1], stW G a c F] : List va_W).flatten
            refine s_isub C dX6_standbyOf_173 ?_
            refine s_goto 179 C dX6_standbyOf_174 (by decide) ?_
            exact s_iret C E dX6_standbyOf_179 ⟨U0, U1, (congrArg (fun z => some (vI z)) (by rw [sp_stb, if_pos (by omega), if_neg (by omega), if_neg (by omega), if_neg (by omega), if_neg (by omega), if_neg (by omega), if_neg (by omega), if_neg (by omega), if_pos (by omega), if_neg (by omega), ← hb1.2.1, q_gA hR ⟨by omega, by omega⟩, RS.e_tk hR])), rfl⟩
        · refine s_tabOut 180 C dX6_standbyOf_39 (by omega) h_39 (by decide) ?_
          refine s_aload_n 0 C dX6_standbyOf_180 rfl 2 rfl ?_
          refine s_aload_n 3 C dX6_standbyOf_181 rfl 1 rfl ?_
          refine s_get C dX6_standbyOf_182 3 rfl hinX3 12 rfl 1 (by decide) (by decide +kernel) rfl ?_
          refine s_callVQ (As := [vI (c 13)]) (rest := []) (segs := [[cO x0 6 [.ref (a 0), .ref h0, y2, y3, .ref e8, .ref e9]], [cA e8 G.2.1.1 24 U0], [cA e9 G.2.1.1 24 U1], stW G a c F]) C dX6_standbyOf_185 (c_X6_keysNotAsAtEnd l G x0 h0 e8 e9 (y2) (y3) a c F B f U0 U1 1 (c 13) (by first | assumption | omega) (by first | assumption | omega) (by first | assumption | omega) (by first | assumption | omega) hb1.2.1) gX6_standbyOf_X6_keysNotAsAtEnd rfl 1 (by decide +kernel) (by decide) 6 rfl rfl 0 _ rfl rfl [0, 1, 2, 3] [] 4 (rfl : (4 : Nat) = 4) (by decide +kernel) rfl rfl (Nat.le_of_ble_eq_true rfl) ⟨Nat.zero_le _, Nat.zero_le _⟩ ?_
          intro v0 w0 hq
          obtain ⟨z_185, U2_185, U3_185, rfl, rfl, hq0_185⟩ := hq
          refine ⟨(fst_f (fst_c rfl (fst_c (fst_k rfl) (fst_c (fst_k rfl) rfl)))), [[cO x0 6 [.ref (a 0), .ref h0, y2, y3, .ref e8, .ref e9]], [cA e8 G.2.1.1 24 U2_185], [cA e9 G.2.1.1 24 U3_185], stW G a c F], (rfl : (4 : Nat) = 4), rfl, Eq.trans (b := ([] : List va_W)) rfl rfl, ?_⟩
          show fSt l G X 0 0 188 [(4, .ref (a 1)), (3, .ref (a 9)), (0, .ref x0), (1, vI 1), (2, vI wh)] [vI z_185] ([[cO x0 6 [.ref (a 0), .ref h0, y2, y3, .ref e8, .ref e9]], [cA e8 G.2.1.1 24 U2_185], [cA e9 G.2.1.1 24 U3_185], stW G a c F] : List va_W).flatten
          exact s_iret C E dX6_standbyOf_188 ⟨U2_185, U3_185, (congrArg (fun z => some (vI z)) (by rw [sp_stb, if_pos (by omega), if_neg (by omega), if_neg (by omega), if_neg (by omega), if_neg (by omega), if_neg (by omega), if_neg (by omega), if_neg (by omega), if_neg (by omega)]; exact hq0_185)), rfl⟩
      · refine s_ldc (z := -1000001) C (by decide +kernel) dX6_standbyOf_17 ?_
        exact s_iret C E dX6_standbyOf_19 ⟨U0, U1, (congrArg (fun z => some (vI z)) (by rw [sp_stb, if_neg (by omega)])), rfl⟩


set_option maxHeartbeats 4000000 in
set_option maxRecDepth 100000 in
theorem c_X6_standbyOf_x (l : Launch) (G : fG) (x0 h0 e8 e9 : Nat) (y2 y3 : Value) (a : Nat → Nat) (c : Nat → Int) (F : Nat → Int → Int) (B : Int) (f U0 U1 : Int → Int) (b wh : Int) (hR : RSb f c F) (hI : Inv B f) (hB : B ≤ 1073000000) (hb : -2147483648 ≤ b ∧ b < 2147483648) (hwh : -2147483648 ≤ wh ∧ wh < 2147483648) (hbx : ¬ (0 ≤ b ∧ b ≤ 1)) : fCt l G yX6_standbyOf wsX6_standbyOf 6 134 0 0 [.ref x0, vI b, vI wh] ([[cO x0 6 [.ref (a 0), .ref h0, y2, y3, .ref e8, .ref e9]], [cA e8 G.2.1.1 24 U0], [cA e9 G.2.1.1 24 U1], stW G a c F] : List va_W).flatten (fun (v0 : Option Value) (w0 : va_W) => ∃ (U2 U3 : Int → Int), v0 = some (vI (sp_stb f b wh)) ∧ w0 = ([[cO x0 6 [.ref (a 0), .ref h0, y2, y3, .ref e8, .ref e9]], [cA e8 G.2.1.1 24 U2], [cA e9 G.2.1.1 24 U3], stW G a c F] : List va_W).flatten) := by
  refine fs_met (cc := cX6_standbyOf) (nL := 5) (ret := (some .int)) (by decide) rfl (Nat.le_of_ble_eq_true rfl) ?_
  intro X C E
  show fSt l G X 0 0 0 [(0, .ref x0), (1, vI b), (2, vI wh)] [] ([[cO x0 6 [.ref (a 0), .ref h0, y2, y3, .ref e8, .ref e9]], [cA e8 G.2.1.1 24 U0], [cA e9 G.2.1.1 24 U1], stW G a c F] : List va_W).flatten
  obtain ⟨hn, htk, hln, htr, hlc, hlo, hap, hrt, hdl, hS0, hS1⟩ := RS.scal hR hI
  have hK : rF (F 3) := RS.hrK hR
  have hT : rF (F 4) := RS.hrT hR
  have hY : rF (F 5) := RS.hrY hR
  have hV : rF (F 6) := RS.hrV hR
  have hA : rF (F 7) := RS.hrA hR
  have hsl : rF (F 0) := RS.hrs hR
  have hg0 : gF (F 1) := RS.hG0 hR
  have hg1 : gF (F 2) := RS.hG1 hR
  have hb0 := RS.b0 hR
  have hb1 := RS.b1 hR
  have en := RS.e_n hR
  have hin := hI.n
  refine s_iload_n 1 C dX6_standbyOf_0 rfl 1 rfl ?_
  refine s_callS (As := [vI b]) (rest := []) C dX6_standbyOf_1 (c_X6_isStandby l G b (by first | assumption | omega)) gX6_standbyOf_X6_isStandby rfl 1 (by decide +kernel) (by decide) [] rfl (by decide) rfl (Nat.le_of_ble_eq_true rfl) ⟨Nat.zero_le _, Nat.zero_le _⟩ ?_
  intro v0 w0 hq
  obtain ⟨rfl, rfl⟩ := hq
  refine ⟨rfl, ?_⟩
  show fSt l G X 0 0 4 [(0, .ref x0), (1, vI b), (2, vI wh)] [vI (bI (0 ≤ b ∧ b ≤ 1))] ([[cO x0 6 [.ref (a 0), .ref h0, y2, y3, .ref e8, .ref e9]], [cA e8 G.2.1.1 24 U0], [cA e9 G.2.1.1 24 U1], stW G a c F] : List va_W).flatten
  refine s_if_eq 17 C dX6_standbyOf_4 (by decide) bI_rng (fun h_4 => ?_) (fun h_4 => ?_)
  · have h_4 := bI_f h_4
    refine s_ldc (z := -1000001) C (by decide +kernel) dX6_standbyOf_17 ?_
    exact s_iret C E dX6_standbyOf_19 ⟨U0, U1, (congrArg (fun z => some (vI z)) (by rw [sp_stb, if_neg (by omega)])), rfl⟩
  · have h_4 := bI_t h_4
    exfalso
    omega


theorem w_X6_standbyOf (l : Launch) (G : fG) (x0 h0 e8 e9 : Nat) (y2 y3 : Value) (a : Nat → Nat) (c : Nat → Int) (F : Nat → Int → Int) (B : Int) (f U0 U1 : Int → Int) (b wh : Int) (hR : RSb f c F) (hI : Inv B f) (hB : B ≤ 1073000000) (hb : -2147483648 ≤ b ∧ b < 2147483648) (hwh : -2147483648 ≤ wh ∧ wh < 2147483648) : fCt l G yX6_standbyOf wsX6_standbyOf 6 134 0 0 [.ref x0, vI b, vI wh] ([[cO x0 6 [.ref (a 0), .ref h0, y2, y3, .ref e8, .ref e9]], [cA e8 G.2.1.1 24 U0], [cA e9 G.2.1.1 24 U1], stW G a c F] : List va_W).flatten (fun (v0 : Option Value) (w0 : va_W) => ∃ (U2 U3 : Int → Int), v0 = some (vI (sp_stb f b wh)) ∧ w0 = ([[cO x0 6 [.ref (a 0), .ref h0, y2, y3, .ref e8, .ref e9]], [cA e8 G.2.1.1 24 U2], [cA e9 G.2.1.1 24 U3], stW G a c F] : List va_W).flatten) := by
  rcases (by omega : b = 0 ∨ b = 1 ∨ ¬ (0 ≤ b ∧ b ≤ 1)) with e | e | hbx
  · subst e
    exact c_X6_standbyOf_0 l G x0 h0 e8 e9 y2 y3 a c F B f U0 U1 wh hR hI hB hwh
  · subst e
    exact c_X6_standbyOf_1 l G x0 h0 e8 e9 y2 y3 a c F B f U0 U1 wh hR hI hB hwh
  · exact c_X6_standbyOf_x l G x0 h0 e8 e9 y2 y3 a c F B f U0 U1 b wh hR hI hB hb hwh hbx

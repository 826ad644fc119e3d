set_option maxHeartbeats 4000000 in
set_option maxRecDepth 100000 in
theorem c_X0_prepare (l : Launch) (G : fG) (h0 h1 : Nat) (ps : Int) (Q : Nat → Option Nat) (S : Nat → Nat → Nat) (cs : Nat → Nat → Int) (Fs : Nat → Nat → Int → Int) (p a : Nat → Nat) (c : Nat → Int) (F : Nat → Int → Int) (B : Int) (f P : Int → Int) (hR : RSb f c F) (hI : Inv B f) (hB : B ≤ 1073000000) (hH : HRel B P ps S Q p cs Fs) : fCt l G yX0_prepare wsX0_prepare 3 83 0 0 [.ref h0, .ref (a 0)] ([[cO h0 0 [.ref h1, vI ps]], [cQ h1 G.2.1.2.2.2.1 5 Q], stW G (S 0) (cs 0) (Fs 0), stW G (S 1) (cs 1) (Fs 1), stW G (S 2) (cs 2) (Fs 2), stW G (S 3) (cs 3) (Fs 3), stW G (S 4) (cs 4) (Fs 4), stW G a c F] : List va_W).flatten (fun (v0 : Option Value) (w0 : va_W) => ∃ (cs2 : Nat → Nat → Int) (Fs2 : Nat → Nat → Int → Int), v0 = none ∧ w0 = ([[cO h0 0 [.ref h1, vI ps]], [cQ h1 G.2.1.2.2.2.1 5 Q], stW G (S 0) (cs2 0) (Fs2 0), stW G (S 1) (cs2 1) (Fs2 1), stW G (S 2) (cs2 2) (Fs2 2), stW G (S 3) (cs2 3) (Fs2 3), stW G (S 4) (cs2 4) (Fs2 4), stW G a c F] : List va_W).flatten ∧ (HRel B P ps S Q p cs2 Fs2) ∧ (RSb f (cs2 (p ps.toNat)) (Fs2 (p ps.toNat)))) := by
  refine fs_met (cc := cX0_prepare) (nL := 2) (ret := none) (by decide) rfl (Nat.le_of_ble_eq_true rfl) ?_
  intro X C E
  show fSt l G X 0 0 0 [(0, .ref h0), (1, .ref (a 0))] [] ([[cO h0 0 [.ref h1, vI ps]], [cQ h1 G.2.1.2.2.2.1 5 Q], stW G (S 0) (cs 0) (Fs 0), stW G (S 1) (cs 1) (Fs 1), stW G (S 2) (cs 2) (Fs 2), stW G (S 3) (cs 3) (Fs 3), stW G (S 4) (cs 4) (Fs 4), stW G a c F] : List va_W).flatten
  have hinX0 : ∀ w ∈ u_ws RX0 TX0 2, w ∈ wsX0_prepare := by decide +kernel
  have hps := hH.ps
  have hq := hH.q (i := ps.toNat) (by omega)
  refine s_aload_n 0 C dX0_prepare_0 rfl 0 rfl ?_
  refine s_get C dX0_prepare_1 0 rfl hinX0 0 rfl 1 (by decide) (by decide +kernel) rfl ?_
  refine s_if_lt 28 C dX0_prepare_4 (by decide) (by omega) (fun h_4 => ?_) (fun h_4 => ?_)
  · exfalso
    omega
  · refine s_aload_n 0 C dX0_prepare_7 rfl 0 rfl ?_
    refine s_get C dX0_prepare_8 0 rfl hinX0 0 rfl 1 (by decide) (by decide +kernel) rfl ?_
    refine s_iconst C dX0_prepare_11 ?_
    refine s_icmp_gt 28 C dX0_prepare_12 (by decide) (by omega) (by omega) (fun h_12 => ?_) (fun h_12 => ?_)
    · exfalso
      omega
    · refine s_aload_n 0 C dX0_prepare_15 rfl 0 rfl ?_
      refine s_get C dX0_prepare_16 0 rfl hinX0 0 rfl 0 (by decide) (by decide +kernel) rfl ?_
      refine s_aload_n 0 C dX0_prepare_19 rfl 0 rfl ?_
      refine s_get C dX0_prepare_20 0 rfl hinX0 0 rfl 1 (by decide) (by decide +kernel) rfl ?_
      rcases hH.p (i := ps.toNat) (by omega) with hj_23 | hj_23 | hj_23 | hj_23 | hj_23
      · refine s_aldq (z := ps) C dX0_prepare_23 1 rfl (by omega) (by omega) (by omega) (by rw [hq, hj_23]) ?_
        refine s_aload_n 1 C dX0_prepare_24 rfl 1 rfl ?_
        refine s_callVP (As := [.ref (a 0)]) (rest := []) (segs := [[cO h0 0 [.ref h1, vI ps]], [cQ h1 G.2.1.2.2.2.1 5 Q], stW G (S 0) (cs 0) (Fs 0), stW G (S 1) (cs 1) (Fs 1), stW G (S 2) (cs 2) (Fs 2), stW G (S 3) (cs 3) (Fs 3), stW G (S 4) (cs 4) (Fs 4), stW G a c F]) C dX0_prepare_25 (w_X4_copyFrom l G (S 0) a c (cs 0) F (Fs 0) B f (by first | assumption | omega) (by first | assumption | omega) (by first | assumption | omega) (hH.J (i := 0) (by omega))) gX0_prepare_X4_copyFrom rfl 1 (by decide +kernel) (by decide) 2 4 rfl rfl rfl [2, 7] [0, 1, 3, 4, 5, 6] rfl rfl rfl (Nat.le_of_ble_eq_true rfl) ⟨Nat.zero_le _, Nat.zero_le _⟩ ?_
        intro v0 w0 hq
        obtain ⟨F2_25, rfl, rfl, hq0_25⟩ := hq
        refine ⟨(fst_k (fst_k (fst_k (fst_k (fst_k (fst_k (fst_k (fst_k (fst_k (fst_k (fst_k (fst_k rfl)))))))))))), [[cO h0 0 [.ref h1, vI ps]], [cQ h1 G.2.1.2.2.2.1 5 Q], stW G (S 0) c F2_25, stW G (S 1) (cs 1) (Fs 1), stW G (S 2) (cs 2) (Fs 2), stW G (S 3) (cs 3) (Fs 3), stW G (S 4) (cs 4) (Fs 4), stW G a c F], (rfl : (8 : Nat) = 8), rfl, Eq.trans (b := ([[cO h0 0 [.ref h1, vI ps]], [cQ h1 G.2.1.2.2.2.1 5 Q], stW G (S 1) (cs 1) (Fs 1), stW G (S 2) (cs 2) (Fs 2), stW G (S 3) (cs 3) (Fs 3), stW G (S 4) (cs 4) (Fs 4)] : List va_W)) rfl rfl, ?_⟩
        show fSt l G X 0 0 28 [(0, .ref h0), (1, .ref (a 0))] [] ([[cO h0 0 [.ref h1, vI ps]], [cQ h1 G.2.1.2.2.2.1 5 Q], stW G (S 0) c F2_25, stW G (S 1) (cs 1) (Fs 1), stW G (S 2) (cs 2) (Fs 2), stW G (S 3) (cs 3) (Fs 3), stW G (S 4) (cs 4) (Fs 4), stW G a c F] : List va_W).flatten
        exact s_vret C E dX0_prepare_28 ⟨(fun k => if k = 0 then c else cs k), (fun k => if k = 0 then F2_25 else Fs k), rfl, rfl, (hH.prep hj_23 hq0_25).1, (hH.prep hj_23 hq0_25).2⟩
      · refine s_aldq (z := ps) C dX0_prepare_23 1 rfl (by omega) (by omega) (by omega) (by rw [hq, hj_23]) ?_
        refine s_aload_n 1 C dX0_prepare_24 rfl 1 rfl ?_
        refine s_callVP (As := [.ref (a 0)]) (rest := []) (segs := [[cO h0 0 [.ref h1, vI ps]], [cQ h1 G.2.1.2.2.2.1 5 Q], stW G (S 0) (cs 0) (Fs 0), stW G (S 1) (cs 1) (Fs 1), stW G (S 2) (cs 2) (Fs 2), stW G (S 3) (cs 3) (Fs 3), stW G (S 4) (cs 4) (Fs 4), stW G a c F]) C dX0_prepare_25 (w_X4_copyFrom l G (S 1) a c (cs 1) F (Fs 1) B f (by first | assumption | omega) (by first | assumption | omega) (by first | assumption | omega) (hH.J (i := 1) (by omega))) gX0_prepare_X4_copyFrom rfl 1 (by decide +kernel) (by decide) 14 4 rfl rfl rfl [3, 7] [0, 1, 2, 4, 5, 6] rfl rfl rfl (Nat.le_of_ble_eq_true rfl) ⟨Nat.zero_le _, Nat.zero_le _⟩ ?_
        intro v0 w0 hq
        obtain ⟨F2_25, rfl, rfl, hq0_25⟩ := hq
        refine ⟨(fst_k (fst_k (fst_k (fst_k (fst_k (fst_k (fst_k (fst_k (fst_k (fst_k (fst_k (fst_k rfl)))))))))))), [[cO h0 0 [.ref h1, vI ps]], [cQ h1 G.2.1.2.2.2.1 5 Q], stW G (S 0) (cs 0) (Fs 0), stW G (S 1) c F2_25, stW G (S 2) (cs 2) (Fs 2), stW G (S 3) (cs 3) (Fs 3), stW G (S 4) (cs 4) (Fs 4), stW G a c F], (rfl : (8 : Nat) = 8), rfl, Eq.trans (b := ([[cO h0 0 [.ref h1, vI ps]], [cQ h1 G.2.1.2.2.2.1 5 Q], stW G (S 0) (cs 0) (Fs 0), stW G (S 2) (cs 2) (Fs 2), stW G (S 3) (cs 3) (Fs 3), stW G (S 4) (cs 4) (Fs 4)] : List va_W)) rfl rfl, ?_⟩
        show fSt l G X 0 0 28 [(0, .ref h0), (1, .ref (a 0))] [] ([[cO h0 0 [.ref h1, vI ps]], [cQ h1 G.2.1.2.2.2.1 5 Q], stW G (S 0) (cs 0) (Fs 0), stW G (S 1) c F2_25, stW G (S 2) (cs 2) (Fs 2), stW G (S 3) (cs 3) (Fs 3), stW G (S 4) (cs 4) (Fs 4), stW G a c F] : List va_W).flatten
        exact s_vret C E dX0_prepare_28 ⟨(fun k => if k = 1 then c else cs k), (fun k => if k = 1 then F2_25 else Fs k), rfl, rfl, (hH.prep hj_23 hq0_25).1, (hH.prep hj_23 hq0_25).2⟩
      · refine s_aldq (z := ps) C dX0_prepare_23 1 rfl (by omega) (by omega) (by omega) (by rw [hq, hj_23]) ?_
        refine s_aload_n 1 C dX0_prepare_24 rfl 1 rfl ?_
        refine s_callVP (As := [.ref (a 0)]) (rest := []) (segs := [[cO h0 0 [.ref h1, vI ps]], [cQ h1 G.2.1.2.2.2.1 5 Q], stW G (S 0) (cs 0) (Fs 0), stW G (S 1) (cs 1) (Fs 1), stW G (S 2) (cs 2) (Fs 2), stW G (S 3) (cs 3) (Fs 3), stW G (S 4) (cs 4) (Fs 4), stW G a c F]) C dX0_prepare_25 (w_X4_copyFrom l G (S 2) a c (cs 2) F (Fs 2) B f (by first | assumption | omega) (by first | assumption | omega) (by first | assumption | omega) (hH.J (i := 2) (by omega))) gX0_prepare_X4_copyFrom rfl 1 (by decide +kernel) (by decide) 26 4 rfl rfl rfl [4, 7] [0, 1, 2, 3, 5, 6] rfl rfl rfl (Nat.le_of_ble_eq_true rfl) ⟨Nat.zero_le _, Nat.zero_le _⟩ ?_
        intro v0 w0 hq
        obtain ⟨F2_25, rfl, rfl, hq0_25⟩ := hq
        refine ⟨(fst_k (fst_k (fst_k (fst_k (fst_k (fst_k (fst_k (fst_k (fst_k (fst_k (fst_k (fst_k rfl)))))))))))), [[cO h0 0 [.ref h1, vI ps]], [cQ h1 G.2.1.2.2.2.1 5 Q], stW G (S 0) (cs 0) (Fs 0), stW G (S 1) (cs 1) (Fs 1), stW G (S 2) c F2_25, stW G (S 3) (cs 3) (Fs 3), stW G (S 4) (cs 4) (Fs 4), stW G a c F], (rfl : (8 : Nat) = 8), rfl, Eq.trans (b := ([[cO h0 0 [.ref h1, vI ps]], [cQ h1 G.2.1.2.2.2.1 5 Q], stW G (S 0) (cs 0) (Fs 0), stW G (S 1) (cs 1) (Fs 1), stW G (S 3) (cs 3) (Fs 3), stW G (S 4) (cs 4) (Fs 4)] : List va_W)) rfl rfl, ?_⟩
        show fSt l G X 0 0 28 [(0, .ref h0), (1, .ref (a 0))] [] ([[cO h0 0 [.ref h1, vI ps]], [cQ h1 G.2.1.2.2.2.1 5 Q], stW G (S 0) (cs 0) (Fs 0), stW G (S 1) (cs 1) (Fs 1), stW G (S 2) c F2_25, stW G (S 3) (cs 3) (Fs 3), stW G (S 4) (cs 4) (Fs 4), stW G a c F] : List va_W).flatten
        exact s_vret C E dX0_prepare_28 ⟨(fun k => if k = 2 then c else cs k), (fun k => if k = 2 then F2_25 else Fs k), rfl, rfl, (hH.prep hj_23 hq0_25).1, (hH.prep hj_23 hq0_25).2⟩
      · refine s_aldq (z := ps) C dX0_prepare_23 1 rfl (by omega) (by omega) (by omega) (by rw [hq, hj_23]) ?_
        refine s_aload_n 1 C dX0_prepare_24 rfl 1 rfl ?_
        refine s_callVP (As := [.ref (a 0)]) (rest := []) (segs := [[cO h0 0 [.ref h1, vI ps]], [cQ h1 G.2.1.2.2.2.1 5 Q], stW G (S 0) (cs 0) (Fs 0), stW G (S 1) (cs 1) (Fs 1), stW G (S 2) (cs 2) (Fs 2), stW G (S 3) (cs 3) (Fs 3), stW G (S 4) (cs 4) (Fs 4), stW G a c F]) C dX0_prepare_25 (w_X4_copyFrom l G (S 3) a c (cs 3) F (Fs 3) B f (by first | assumption | omega) (by first | assumption | omega) (by first | assumption | omega) (hH.J (i := 3) (by omega))) gX0_prepare_X4_copyFrom rfl 1 (by decide +kernel) (by decide) 38 4 rfl rfl rfl [5, 7] [0, 1, 2, 3, 4, 6] rfl rfl rfl (Nat.le_of_ble_eq_true rfl) ⟨Nat.zero_le _, Nat.zero_le _⟩ ?_
        intro v0 w0 hq
        obtain ⟨F2_25, rfl, rfl, hq0_25⟩ := hq
        refine ⟨(fst_k (fst_k (fst_k (fst_k (fst_k (fst_k (fst_k (fst_k (fst_k (fst_k (fst_k (fst_k rfl)))))))))))), [[cO h0 0 [.ref h1, vI ps]], [cQ h1 G.2.1.2.2.2.1 5 Q], stW G (S 0) (cs 0) (Fs 0), stW G (S 1) (cs 1) (Fs 1), stW G (S 2) (cs 2) (Fs 2), stW G (S 3) c F2_25, stW G (S 4) (cs 4) (Fs 4), stW G a c F], (rfl : (8 : Nat) = 8), rfl, Eq.trans (b := ([[cO h0 0 [.ref h1, vI ps]], [cQ h1 G.2.1.2.2.2.1 5 Q], stW G (S 0) (cs 0) (Fs 0), stW G (S 1) (cs 1) (Fs 1), stW G (S 2) (cs 2) (Fs 2), stW G (S 4) (cs 4) (Fs 4)] : List va_W)) rfl rfl, ?_⟩
        show fSt l G X 0 0 28 [(0, .ref h0), (1, .ref (a 0))] [] ([[cO h0 0 [.ref h1, vI ps]], [cQ h1 G.2.1.2.2.2.1 5 Q], stW G (S 0) (cs 0) (Fs 0), stW G (S 1) (cs 1) (Fs 1), stW G (S 2) (cs 2) (Fs 2), stW G (S 3) c F2_25, stW G (S 4) (cs 4) (Fs 4), stW G a c F] : List va_W).flatten
        exact s_vret C E dX0_prepare_28 ⟨(fun k => if k = 3 then c else cs k), (fun k => if k = 3 then F2_25 else Fs k), rfl, rfl, (hH.prep hj_23 hq0_25).1, (hH.prep hj_23 hq0_25).2⟩
      · refine s_aldq (z := ps) C dX0_prepare_23 1 rfl (by omega) (by omega) (by omega) (by rw [hq, hj_23]) ?_
        refine s_aload_n 1 C dX0_prepare_24 rfl 1 rfl ?_
        refine s_callVP (As := [.ref (a 0)]) (rest := []) (segs := [[cO h0 0 [.ref h1, vI ps]], [cQ h1 G.2.1.2.2.2.1 5 Q], stW G (S 0) (cs 0) (Fs 0), stW G (S 1) (cs 1) (Fs 1), stW G (S 2) (cs 2) (Fs 2), stW G (S 3) (cs 3) (Fs 3), stW G (S 4) (cs 4) (Fs 4), stW G a c F]) C dX0_prepare_25 (w_X4_copyFrom l G (S 4) a c (cs 4) F (Fs 4) B f (by first | assumption | omega) (by first | assumption | omega) (by first | assumption | omega) (hH.J (i := 4) (by omega))) gX0_prepare_X4_copyFrom rfl 1 (by decide +kernel) (by decide) 50 4 rfl rfl rfl [6, 7] [0, 1, 2, 3, 4, 5] rfl rfl rfl (Nat.le_of_ble_eq_true rfl) ⟨Nat.zero_le _, Nat.zero_le _⟩ ?_
        intro v0 w0 hq
        obtain ⟨F2_25, rfl, rfl, hq0_25⟩ := hq
        refine ⟨(fst_k (fst_k (fst_k (fst_k (fst_k (fst_k (fst_k (fst_k (fst_k (fst_k (fst_k (fst_k rfl)))))))))))), [[cO h0 0 [.ref h1, vI ps]], [cQ h1 G.2.1.2.2.2.1 5 Q], stW G (S 0) (cs 0) (Fs 0), stW G (S 1) (cs 1) (Fs 1), stW G (S 2) (cs 2) (Fs 2), stW G (S 3) (cs 3) (Fs 3), stW G (S 4) c F2_25, stW G a c F], (rfl : (8 : Nat) = 8), rfl, Eq.trans (b := ([[cO h0 0 [.ref h1, vI ps]], [cQ h1 G.2.1.2.2.2.1 5 Q], stW G (S 0) (cs 0) (Fs 0), stW G (S 1) (cs 1) (Fs 1), stW G (S 2) (cs 2) (Fs 2), stW G (S 3) (cs 3) (Fs 3)] : List va_W)) rfl rfl, ?_⟩
        show fSt l G X 0 0 28 [(0, .ref h0), (1, .ref (a 0))] [] ([[cO h0 0 [.ref h1, vI ps]], [cQ h1 G.2.1.2.2.2.1 5 Q], stW G (S 0) (cs 0) (Fs 0), stW G (S 1) (cs 1) (Fs 1), stW G (S 2) (cs 2) (Fs 2), stW G (S 3) (cs 3) (Fs 3), stW G (S 4) c F2_25, stW G a c F] : List va_W).flatten
        exact s_vret C E dX0_prepare_28 ⟨(fun k => if k = 4 then c else cs k), (fun k => if k = 4 then F2_25 else Fs k), rfl, rfl, (hH.prep hj_23 hq0_25).1, (hH.prep hj_23 hq0_25).2⟩

set_option maxHeartbeats 4000000 in
set_option maxRecDepth 100000 in
theorem c_X0_keep (l : Launch) (G : fG) (h0 h1 : Nat) (ps : Int) (Q : Nat → Option Nat) (S : Nat → Nat → Nat) (cs : Nat → Nat → Int) (Fs : Nat → Nat → Int → Int) (hps : 0 ≤ ps ∧ ps ≤ 4) (hQ : ∀ i, i < 5 → Q i = some (S 0 0) ∨ Q i = some (S 1 0) ∨ Q i = some (S 2 0) ∨ Q i = some (S 3 0) ∨ Q i = some (S 4 0)) : fCt l G yX0_keep wsX0_keep 0 0 0 0 [.ref h0] ([[cO h0 0 [.ref h1, vI ps]], [cQ h1 G.2.1.2.2.2.1 5 Q], stW G (S 0) (cs 0) (Fs 0), stW G (S 1) (cs 1) (Fs 1), stW G (S 2) (cs 2) (Fs 2), stW G (S 3) (cs 3) (Fs 3), stW G (S 4) (cs 4) (Fs 4)] : List va_W).flatten (fun (v0 : Option Value) (w0 : va_W) => ∃ (Q2 : Nat → Option Nat) (ps2 : Int), v0 = none ∧ w0 = ([[cO h0 0 [.ref h1, vI ps2]], [cQ h1 G.2.1.2.2.2.1 5 Q2], stW G (S 0) (cs 0) (Fs 0), stW G (S 1) (cs 1) (Fs 1), stW G (S 2) (cs 2) (Fs 2), stW G (S 3) (cs 3) (Fs 3), stW G (S 4) (cs 4) (Fs 4)] : List va_W).flatten ∧ (ps2 = pQ ps) ∧ (∀ i, i < 5 → Q2 i = if ps = 4 then Q (if i = 4 then 0 else i + 1) else Q i)) := by
  refine fs_met (cc := cX0_keep) (nL := 3) (ret := none) (by decide) rfl (Nat.le_of_ble_eq_true rfl) ?_
  intro X C E
  show fSt l G X 0 0 0 [(0, .ref h0)] [] ([[cO h0 0 [.ref h1, vI ps]], [cQ h1 G.2.1.2.2.2.1 5 Q], stW G (S 0) (cs 0) (Fs 0), stW G (S 1) (cs 1) (Fs 1), stW G (S 2) (cs 2) (Fs 2), stW G (S 3) (cs 3) (Fs 3), stW G (S 4) (cs 4) (Fs 4)] : List va_W).flatten
  have hinX0 : ∀ w ∈ u_ws RX0 TX0 2, w ∈ wsX0_keep := by decide +kernel
  obtain ⟨v0, hv0, ht0⟩ : ∃ v, Q 0 = some v ∧ (v = S 0 0 ∨ v = S 1 0 ∨ v = S 2 0 ∨ v = S 3 0 ∨ v = S 4 0) := by rcases hQ 0 (by omega) with q | q | q | q | q <;> exact ⟨_, q, by simp⟩
  obtain ⟨v1, hv1, ht1⟩ : ∃ v, Q 1 = some v ∧ (v = S 0 0 ∨ v = S 1 0 ∨ v = S 2 0 ∨ v = S 3 0 ∨ v = S 4 0) := by rcases hQ 1 (by omega) with q | q | q | q | q <;> exact ⟨_, q, by simp⟩
  obtain ⟨v2, hv2, ht2⟩ : ∃ v, Q 2 = some v ∧ (v = S 0 0 ∨ v = S 1 0 ∨ v = S 2 0 ∨ v = S 3 0 ∨ v = S 4 0) := by rcases hQ 2 (by omega) with q | q | q | q | q <;> exact ⟨_, q, by simp⟩
  obtain ⟨v3, hv3, ht3⟩ : ∃ v, Q 3 = some v ∧ (v = S 0 0 ∨ v = S 1 0 ∨ v = S 2 0 ∨ v = S 3 0 ∨ v = S 4 0) := by rcases hQ 3 (by omega) with q | q | q | q | q <;> exact ⟨_, q, by simp⟩
  obtain ⟨v4, hv4, ht4⟩ : ∃ v, Q 4 = some v ∧ (v = S 0 0 ∨ v = S 1 0 ∨ v = S 2 0 ∨ v = S 3 0 ∨ v = S 4 0) := by rcases hQ 4 (by omega) with q | q | q | q | q <;> exact ⟨_, q, by simp⟩
  refine s_aload_n 0 C dX0_keep_0 rfl 0 rfl ?_
  refine s_get C dX0_keep_1 0 rfl hinX0 0 rfl 1 (by decide) (by decide +kernel) rfl ?_
  refine s_iconst C dX0_keep_4 ?_
  refine s_icmp_ge 19 C dX0_keep_5 (by decide) (by omega) (by omega) (fun h_5 => ?_) (fun h_5 => ?_)
  · refine s_aload_n 0 C dX0_keep_19 rfl 0 rfl ?_
    refine s_get C dX0_keep_20 0 rfl hinX0 0 rfl 0 (by decide) (by decide +kernel) rfl ?_
    refine s_iconst C dX0_keep_23 ?_
    refine s_aldq (z := 0) C dX0_keep_24 1 rfl (by omega) (by omega) (by omega) hv0 ?_
    refine s_astore_n 1 [(1, .ref v0), (0, .ref h0)] C dX0_keep_25 rfl (by decide) rfl ?_
    refine s_iconst C dX0_keep_26 ?_
    refine s_istore_n 2 [(2, vI 0), (1, .ref v0), (0, .ref h0)] C dX0_keep_27 rfl (by decide) rfl ?_
    refine s_iload_n 2 C dX0_keep_28 rfl 0 rfl ?_
    refine s_iconst C dX0_keep_29 ?_
    refine s_icmp_ge 53 C dX0_keep_30 (by decide) (by decide) (by decide) (fun h => absurd h (by decide)) (fun h => ?_)
    refine s_aload_n 0 C dX0_keep_33 rfl 2 rfl ?_
    refine s_get C dX0_keep_34 0 rfl hinX0 0 rfl 0 (by decide) (by decide +kernel) rfl ?_
    refine s_iload_n 2 C dX0_keep_37 rfl 0 rfl ?_
    refine s_aload_n 0 C dX0_keep_38 rfl 2 rfl ?_
    refine s_get C dX0_keep_39 0 rfl hinX0 0 rfl 0 (by decide) (by decide +kernel) rfl ?_
    refine s_iload_n 2 C dX0_keep_42 rfl 0 rfl ?_
    refine s_iconst C dX0_keep_43 ?_
    refine s_iadd C dX0_keep_44 ?_
    refine s_aldq (z := 0 + 1) C dX0_keep_45 1 rfl (by omega) (by omega) (by omega) hv1 ?_
    obtain ⟨qk0, vs0, hk0⟩ : ∃ (qk : Nat) (vs : List Value), (([[cO h0 0 [.ref h1, vI ps]], [cQ h1 G.2.1.2.2.2.1 5 Q], stW G (S 0) (cs 0) (Fs 0), stW G (S 1) (cs 1) (Fs 1), stW G (S 2) (cs 2) (Fs 2), stW G (S 3) (cs 3) (Fs 3), stW G (S 4) (cs 4) (Fs 4)] : List va_W).flatten : va_W)[qk]? = some (v1, .inr (4, vs)) := by rcases ht1 with e | e | e | e | e; (· exact ⟨2, _, by rw [e]; rfl⟩); (· exact ⟨14, _, by rw [e]; rfl⟩); (· exact ⟨26, _, by rw [e]; rfl⟩); (· exact ⟨38, _, by rw [e]; rfl⟩); (· exact ⟨50, _, by rw [e]; rfl⟩)
    refine s_astq (z := 0) ([[cO h0 0 [.ref h1, vI ps]], [cQ h1 G.2.1.2.2.2.1 5 (va_up Q (0 : Int).toNat (some v1))], stW G (S 0) (cs 0) (Fs 0), stW G (S 1) (cs 1) (Fs 1), stW G (S 2) (cs 2) (Fs 2), stW G (S 3) (cs 3) (Fs 3), stW G (S 4) (cs 4) (Fs 4)] : List va_W).flatten C dX0_keep_46 1 qk0 rfl hk0 rfl (by omega) (by omega) (by omega) rfl ?_
    refine s_iinc [(2, vI (0 + 1)), (1, .ref v0), (0, .ref h0)] C dX0_keep_47 0 rfl (by decide) rfl ?_
    refine s_goto 28 C dX0_keep_50 (by decide) ?_
    refine s_iload_n 2 C dX0_keep_28 rfl 0 rfl ?_
    refine s_iconst C dX0_keep_29 ?_
    refine s_icmp_ge 53 C dX0_keep_30 (by decide) (by decide) (by decide) (fun h => absurd h (by decide)) (fun h => ?_)
    refine s_aload_n 0 C dX0_keep_33 rfl 2 rfl ?_
    refine s_get C dX0_keep_34 0 rfl hinX0 0 rfl 0 (by decide) (by decide +kernel) rfl ?_
    refine s_iload_n 2 C dX0_keep_37 rfl 0 rfl ?_
    refine s_aload_n 0 C dX0_keep_38 rfl 2 rfl ?_
    refine s_get C dX0_keep_39 0 rfl hinX0 0 rfl 0 (by decide) (by decide +kernel) rfl ?_
    refine s_iload_n 2 C dX0_keep_42 rfl 0 rfl ?_
    refine s_iconst C dX0_keep_43 ?_
    refine s_iadd C dX0_keep_44 ?_
    refine s_aldq (z := 0 + 1 + 1) C dX0_keep_45 1 rfl (by omega) (by omega) (by omega) hv2 ?_
    obtain ⟨qk1, vs1, hk1⟩ : ∃ (qk : Nat) (vs : List Value), (([[cO h0 0 [.ref h1, vI ps]], [cQ h1 G.2.1.2.2.2.1 5 (va_up Q (0 : Int).toNat (some v1))], stW G (S 0) (cs 0) (Fs 0), stW G (S 1) (cs 1) (Fs 1), stW G (S 2) (cs 2) (Fs 2), stW G (S 3) (cs 3) (Fs 3), stW G (S 4) (cs 4) (Fs 4)] : List va_W).flatten : va_W)[qk]? = some (v2, .inr (4, vs)) := by rcases ht2 with e | e | e | e | e; (· exact ⟨2, _, by rw [e]; rfl⟩); (· exact ⟨14, _, by rw [e]; rfl⟩); (· exact ⟨26, _, by rw [e]; rfl⟩); (· exact ⟨38, _, by rw [e]; rfl⟩); (· exact ⟨50, _, by rw [e]; rfl⟩)
    refine s_astq (z := 0 + 1) ([[cO h0 0 [.ref h1, vI ps]], [cQ h1 G.2.1.2.2.2.1 5 (va_up (va_up Q (0 : Int).toNat (some v1)) (0 + 1 : Int).toNat (some v2))], stW G (S 0) (cs 0) (Fs 0), stW G (S 1) (cs 1) (Fs 1), stW G (S 2) (cs 2) (Fs 2), stW G (S 3) (cs 3) (Fs 3), stW G (S 4) (cs 4) (Fs 4)] : List va_W).flatten C dX0_keep_46 1 qk1 rfl hk1 rfl (by omega) (by omega) (by omega) rfl ?_
    refine s_iinc [(2, vI (0 + 1 + 1)), (1, .ref v0), (0, .ref h0)] C dX0_keep_47 0 rfl (by decide) rfl ?_
    refine s_goto 28 C dX0_keep_50 (by decide) ?_
    refine s_iload_n 2 C dX0_keep_28 rfl 0 rfl ?_
    refine s_iconst C dX0_keep_29 ?_
    refine s_icmp_ge 53 C dX0_keep_30 (by decide) (by decide) (by decide) (fun h => absurd h (by decide)) (fun h => ?_)
    refine s_aload_n 0 C dX0_keep_33 rfl 2 rfl ?_
    refine s_get C dX0_keep_34 0 rfl hinX0 0 rfl 0 (by decide) (by decide +kernel) rfl ?_
    refine s_iload_n 2 C dX0_keep_37 rfl 0 rfl ?_
    refine s_aload_n 0 C dX0_keep_38 rfl 2 rfl ?_
    refine s_get C dX0_keep_39 0 rfl hinX0 0 rfl 0 (by decide) (by decide +kernel) rfl ?_
    refine s_iload_n 2 C dX0_keep_42 rfl 0 rfl ?_
    refine s_iconst C dX0_keep_43 ?_
    refine s_iadd C dX0_keep_44 ?_
    refine s_aldq (z := 0 + 1 + 1 + 1) C dX0_keep_45 1 rfl (by omega) (by omega) (by omega) hv3 ?_
    obtain ⟨qk2, vs2, hk2⟩ : ∃ (qk : Nat) (vs : List Value), (([[cO h0 0 [.ref h1, vI ps]], [cQ h1 G.2.1.2.2.2.1 5 (va_up (va_up Q (0 : Int).toNat (some v1)) (0 + 1 : Int).toNat (some v2))], stW G (S 0) (cs 0) (Fs 0), stW G (S 1) (cs 1) (Fs 1), stW G (S 2) (cs 2) (Fs 2), stW G (S 3) (cs 3) (Fs 3), stW G (S 4) (cs 4) (Fs 4)] : List va_W).flatten : va_W)[qk]? = some (v3, .inr (4, vs)) := by rcases ht3 with e | e | e | e | e; (· exact ⟨2, _, by rw [e]; rfl⟩); (· exact ⟨14, _, by rw [e]; rfl⟩); (· exact ⟨26, _, by rw [e]; rfl⟩); (· exact ⟨38, _, by rw [e]; rfl⟩); (· exact ⟨50, _, by rw [e]; rfl⟩)
    refine s_astq (z := 0 + 1 + 1) ([[cO h0 0 [.ref h1, vI ps]], [cQ h1 G.2.1.2.2.2.1 5 (va_up (va_up (va_up Q (0 : Int).toNat (some v1)) (0 + 1 : Int).toNat (some v2)) (0 + 1 + 1 : Int).toNat (some v3))], stW G (S 0) (cs 0) (Fs 0), stW G (S 1) (cs 1) (Fs 1), stW G (S 2) (cs 2) (Fs 2), stW G (S 3) (cs 3) (Fs 3), stW G (S 4) (cs 4) (Fs 4)] : List va_W).flatten C dX0_keep_46 1 qk2 rfl hk2 rfl (by omega) (by omega) (by omega) rfl ?_
    refine s_iinc [(2, vI (0 + 1 + 1 + 1)), (1, .ref v0), (0, .ref h0)] C dX0_keep_47 0 rfl (by decide) rfl ?_
    refine s_goto 28 C dX0_keep_50 (by decide) ?_
    refine s_iload_n 2 C dX0_keep_28 rfl 0 rfl ?_
    refine s_iconst C dX0_keep_29 ?_
    refine s_icmp_ge 53 C dX0_keep_30 (by decide) (by decide) (by decide) (fun h => absurd h (by decide)) (fun h => ?_)
    refine s_aload_n 0 C dX0_keep_33 rfl 2 rfl ?_
    refine s_get C dX0_keep_34 0 rfl hinX0 0 rfl 0 (by decide) (by decide +kernel) rfl ?_
    refine s_iload_n 2 C dX0_keep_37 rfl 0 rfl ?_
    refine s_aload_n 0 C dX0_keep_38 rfl 2 rfl ?_
    refine s_get C dX0_keep_39 0 rfl hinX0 0 rfl 0 (by decide) (by decide +kernel) rfl ?_
    refine s_iload_n 2 C dX0_keep_42 rfl 0 rfl ?_
    refine s_iconst C dX0_keep_43 ?_
    refine s_iadd C dX0_keep_44 ?_
    refine s_aldq (z := 0 + 1 + 1 + 1 + 1) C dX0_keep_45 1 rfl (by omega) (by omega) (by omega) hv4 ?_
    obtain ⟨qk3, vs3, hk3⟩ : ∃ (qk : Nat) (vs : List Value), (([[cO h0 0 [.ref h1, vI ps]], [cQ h1 G.2.1.2.2.2.1 5 (va_up (va_up (va_up Q (0 : Int).toNat (some v1)) (0 + 1 : Int).toNat (some v2)) (0 + 1 + 1 : Int).toNat (some v3))], stW G (S 0) (cs 0) (Fs 0), stW G (S 1) (cs 1) (Fs 1), stW G (S 2) (cs 2) (Fs 2), stW G (S 3) (cs 3) (Fs 3), stW G (S 4) (cs 4) (Fs 4)] : List va_W).flatten : va_W)[qk]? = some (v4, .inr (4, vs)) := by rcases ht4 with e | e | e | e | e; (· exact ⟨2, _, by rw [e]; rfl⟩); (· exact ⟨14, _, by rw [e]; rfl⟩); (· exact ⟨26, _, by rw [e]; rfl⟩); (· exact ⟨38, _, by rw [e]; rfl⟩); (· exact ⟨50, _, by rw [e]; rfl⟩)
    refine s_astq (z := 0 + 1 + 1 + 1) ([[cO h0 0 [.ref h1, vI ps]], [cQ h1 G.2.1.2.2.2.1 5 (va_up (va_up (va_up (va_up Q (0 : Int).toNat (some v1)) (0 + 1 : Int).toNat (some v2)) (0 + 1 + 1 : Int).toNat (some v3)) (0 + 1 + 1 + 1 : Int).toNat (some v4))], stW G (S 0) (cs 0) (Fs 0), stW G (S 1) (cs 1) (Fs 1), stW G (S 2) (cs 2) (Fs 2), stW G (S 3) (cs 3) (Fs 3), stW G (S 4) (cs 4) (Fs 4)] : List va_W).flatten C dX0_keep_46 1 qk3 rfl hk3 rfl (by omega) (by omega) (by omega) rfl ?_
    refine s_iinc [(2, vI (0 + 1 + 1 + 1 + 1)), (1, .ref v0), (0, .ref h0)] C dX0_keep_47 0 rfl (by decide) rfl ?_
    refine s_goto 28 C dX0_keep_50 (by decide) ?_
    refine s_iload_n 2 C dX0_keep_28 rfl 0 rfl ?_
    refine s_iconst C dX0_keep_29 ?_
    refine s_icmp_ge 53 C dX0_keep_30 (by decide) (by decide) (by decide) (fun h => ?_) (fun h => absurd h (by decide))
    refine s_aload_n 0 C dX0_keep_53 rfl 2 rfl ?_
    refine s_get C dX0_keep_54 0 rfl hinX0 0 rfl 0 (by decide) (by decide +kernel) rfl ?_
    refine s_iconst C dX0_keep_57 ?_
    refine s_aload_n 1 C dX0_keep_58 rfl 1 rfl ?_
    obtain ⟨qk4, vs4, hk4⟩ : ∃ (qk : Nat) (vs : List Value), (([[cO h0 0 [.ref h1, vI ps]], [cQ h1 G.2.1.2.2.2.1 5 (va_up (va_up (va_up (va_up Q (0 : Int).toNat (some v1)) (0 + 1 : Int).toNat (some v2)) (0 + 1 + 1 : Int).toNat (some v3)) (0 + 1 + 1 + 1 : Int).toNat (some v4))], stW G (S 0) (cs 0) (Fs 0), stW G (S 1) (cs 1) (Fs 1), stW G (S 2) (cs 2) (Fs 2), stW G (S 3) (cs 3) (Fs 3), stW G (S 4) (cs 4) (Fs 4)] : List va_W).flatten : va_W)[qk]? = some (v0, .inr (4, vs)) := by rcases ht0 with e | e | e | e | e; (· exact ⟨2, _, by rw [e]; rfl⟩); (· exact ⟨14, _, by rw [e]; rfl⟩); (· exact ⟨26, _, by rw [e]; rfl⟩); (· exact ⟨38, _, by rw [e]; rfl⟩); (· exact ⟨50, _, by rw [e]; rfl⟩)
    refine s_astq (z := 4) ([[cO h0 0 [.ref h1, vI ps]], [cQ h1 G.2.1.2.2.2.1 5 (va_up (va_up (va_up (va_up (va_up Q (0 : Int).toNat (some v1)) (0 + 1 : Int).toNat (some v2)) (0 + 1 + 1 : Int).toNat (some v3)) (0 + 1 + 1 + 1 : Int).toNat (some v4)) (4 : Int).toNat (some v0))], stW G (S 0) (cs 0) (Fs 0), stW G (S 1) (cs 1) (Fs 1), stW G (S 2) (cs 2) (Fs 2), stW G (S 3) (cs 3) (Fs 3), stW G (S 4) (cs 4) (Fs 4)] : List va_W).flatten C dX0_keep_59 1 qk4 rfl hk4 rfl (by omega) (by omega) (by omega) rfl ?_
    exact s_vret C E dX0_keep_60 ⟨(va_up (va_up (va_up (va_up (va_up Q (0 : Int).toNat (some v1)) (0 + 1 : Int).toNat (some v2)) (0 + 1 + 1 : Int).toNat (some v3)) (0 + 1 + 1 + 1 : Int).toNat (some v4)) (4 : Int).toNat (some v0)), ps, rfl, rfl, (by rw [pQ, if_pos (by omega)]; omega), (fun i hi => by rcases (by omega : i = 0 ∨ i = 1 ∨ i = 2 ∨ i = 3 ∨ i = 4) with e | e | e | e | e <;> subst e <;> rw [if_pos (by omega)]; (· exact hv1.symm); (· exact hv2.symm); (· exact hv3.symm); (· exact hv4.symm); (· exact hv0.symm))⟩
  · refine s_aload_n 0 C dX0_keep_8 rfl 0 rfl ?_
    refine s_dup C dX0_keep_9 rfl ?_
    refine s_get C dX0_keep_10 0 rfl hinX0 0 rfl 1 (by decide) (by decide +kernel) rfl ?_
    refine s_iconst C dX0_keep_13 ?_
    refine s_iadd C dX0_keep_14 ?_
    refine s_put ([[cO h0 0 [.ref h1, vI (ps + 1)]], [cQ h1 G.2.1.2.2.2.1 5 Q], stW G (S 0) (cs 0) (Fs 0), stW G (S 1) (cs 1) (Fs 1), stW G (S 2) (cs 2) (Fs 2), stW G (S 3) (cs 3) (Fs 3), stW G (S 4) (cs 4) (Fs 4)] : List va_W).flatten C dX0_keep_15 0 rfl hinX0 tyX0 tyX0_ok nmX0 0 rfl 1 (by decide) (by decide +kernel) rfl rfl rfl (Nat.le_of_ble_eq_true rfl) rfl ?_
    exact s_vret C E dX0_keep_18 ⟨Q, (ps + 1), rfl, rfl, (by rw [pQ, if_neg (by omega)]), (fun i hi => by rw [if_neg (by omega)])⟩

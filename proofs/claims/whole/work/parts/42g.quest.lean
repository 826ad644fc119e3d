set_option maxHeartbeats 4000000 in
set_option maxRecDepth 100000 in
theorem c_X6_undo (l : Launch) (G : fG) (x0 h0 h1 : Nat) (y2 y3 y4 y5 : Value) (ps : Int) (Q : Nat → Option Nat) (S : Nat → Nat → Nat) (cs : Nat → Nat → Int) (Fs : Nat → Nat → Int → Int) (p a : Nat → Nat) (c : Nat → Int) (F : Nat → Int → Int) (B : Int) (P : Int → Int) (hB : B ≤ 1073000000) (hH : HRel B P ps S Q p cs Fs) (hJ : Jb F) : fCt l G yX6_undo wsX6_undo 4 104 0 0 [.ref x0] ([[cO x0 6 [.ref (a 0), .ref h0, y2, y3, y4, y5]], [cO h0 0 [.ref h1, vI ps]], [cQ h1 G.2.1.2.2.2 5 Q], stW G (S 0) (cs 0) (Fs 0), stW G (S 1) (cs 1) (Fs 1), stW G (S 2) (cs 2) (Fs 2), stW G (S 3) (cs 3) (Fs 3), stW G (S 4) (cs 4) (Fs 4), stW G a c F] : List va_W).flatten (fun (v0 : Option Value) (w0 : va_W) => ∃ (z ps2 : Int) (c2 : Nat → Int) (F2 : Nat → Int → Int), v0 = some (vI z) ∧ w0 = ([[cO x0 6 [.ref (a 0), .ref h0, y2, y3, y4, y5]], [cO h0 0 [.ref h1, vI ps2]], [cQ h1 G.2.1.2.2.2 5 Q], stW G (S 0) (cs 0) (Fs 0), stW G (S 1) (cs 1) (Fs 1), stW G (S 2) (cs 2) (Fs 2), stW G (S 3) (cs 3) (Fs 3), stW G (S 4) (cs 4) (Fs 4), stW G a c2 F2] : List va_W).flatten ∧ ((ps = 0 ∧ z = -1000002 ∧ ps2 = ps ∧ c2 = c ∧ F2 = F) ∨ (0 < ps ∧ z = ps - 1 ∧ ps2 = ps - 1 ∧ RSb (undF P (ps - 1)) c2 F2))) := by
  refine fs_met (cc := cX6_undo) (nL := 1) (ret := (some .int)) (by decide) rfl (Nat.le_of_ble_eq_true rfl) ?_
  intro X C E
  show fSt l G X 0 0 0 [(0, .ref x0)] [] ([[cO x0 6 [.ref (a 0), .ref h0, y2, y3, y4, y5]], [cO h0 0 [.ref h1, vI ps]], [cQ h1 G.2.1.2.2.2 5 Q], stW G (S 0) (cs 0) (Fs 0), stW G (S 1) (cs 1) (Fs 1), stW G (S 2) (cs 2) (Fs 2), stW G (S 3) (cs 3) (Fs 3), stW G (S 4) (cs 4) (Fs 4), stW G a c F] : List va_W).flatten
  have hinX0 : ∀ w ∈ u_ws RX0 TX0 2, w ∈ wsX6_undo := by decide +kernel
  have hinX6 : ∀ w ∈ u_ws RX6 TX6 6, w ∈ wsX6_undo := by decide +kernel
  have hps := hH.ps
  refine s_aload_n 0 C dX6_undo_0 rfl 0 rfl ?_
  refine s_get C dX6_undo_1 6 rfl hinX6 0 rfl 1 (by decide) (by decide +kernel) rfl ?_
  refine s_aload_n 0 C dX6_undo_4 rfl 0 rfl ?_
  refine s_get C dX6_undo_5 6 rfl hinX6 0 rfl 0 (by decide) (by decide +kernel) rfl ?_
  refine s_callVP (As := [.ref (a 0)]) (rest := []) (segs := [[cO x0 6 [.ref (a 0), .ref h0, y2, y3, y4, y5]], [cO h0 0 [.ref h1, vI ps]], [cQ h1 G.2.1.2.2.2 5 Q], stW G (S 0) (cs 0) (Fs 0), stW G (S 1) (cs 1) (Fs 1), stW G (S 2) (cs 2) (Fs 2), stW G (S 3) (cs 3) (Fs 3), stW G (S 4) (cs 4) (Fs 4), stW G a c F]) C dX6_undo_8 (c_X0_restore l G h0 h1 ps Q S cs Fs p a c F B P (by first | assumption | omega) (by first | assumption | omega) (by first | assumption | omega)) gX6_undo_X0_restore rfl 1 (by decide +kernel) (by decide) 1 0 rfl rfl rfl [1, 2, 3, 4, 5, 6, 7, 8] [0] rfl rfl rfl (Nat.le_of_ble_eq_true rfl) ⟨Nat.zero_le _, Nat.zero_le _⟩ ?_
  intro v0 w0 hq
  obtain ⟨z_8, ps2_8, c2_8, F2_8, rfl, rfl, hq0_8⟩ := hq
  refine ⟨(fst_f (fst_c (fst_k rfl) (fst_c rfl (fst_c rfl (fst_c rfl (fst_c rfl (fst_c rfl (fst_c rfl (fst_c stW_fst rfl))))))))), [[cO x0 6 [.ref (a 0), .ref h0, y2, y3, y4, y5]], [cO h0 0 [.ref h1, vI ps2_8]], [cQ h1 G.2.1.2.2.2 5 Q], stW G (S 0) (cs 0) (Fs 0), stW G (S 1) (cs 1) (Fs 1), stW G (S 2) (cs 2) (Fs 2), stW G (S 3) (cs 3) (Fs 3), stW G (S 4) (cs 4) (Fs 4), stW G a c2_8 F2_8], (rfl : (9 : Nat) = 9), rfl, Eq.trans (b := ([[cO x0 6 [.ref (a 0), .ref h0, y2, y3, y4, y5]]] : List va_W)) rfl rfl, ?_⟩
  show fSt l G X 0 0 11 [(0, .ref x0)] [vI z_8] ([[cO x0 6 [.ref (a 0), .ref h0, y2, y3, y4, y5]], [cO h0 0 [.ref h1, vI ps2_8]], [cQ h1 G.2.1.2.2.2 5 Q], stW G (S 0) (cs 0) (Fs 0), stW G (S 1) (cs 1) (Fs 1), stW G (S 2) (cs 2) (Fs 2), stW G (S 3) (cs 3) (Fs 3), stW G (S 4) (cs 4) (Fs 4), stW G a c2_8 F2_8] : List va_W).flatten
  refine s_if_eq 24 C dX6_undo_11 (by decide) (by rcases hq0_8 with q | q <;> omega) (fun h_11 => ?_) (fun h_11 => ?_)
  · refine s_ldc (z := -1000002) C (by decide +kernel) dX6_undo_24 ?_
    exact s_iret C E dX6_undo_26 ⟨(-1000002), ps2_8, c2_8, F2_8, rfl, rfl, (by rcases hq0_8 with ⟨q1, q2, q3, q4, q5⟩ | ⟨q1, q2, q3, q4⟩; (· exact Or.inl ⟨q1, (by omega), q3, q4, q5⟩); (· exact Or.inr ⟨q1, (by omega), q3, q4⟩))⟩
  · refine s_aload_n 0 C dX6_undo_14 rfl 0 rfl ?_
    refine s_get C dX6_undo_15 6 rfl hinX6 0 rfl 1 (by decide) (by decide +kernel) rfl ?_
    refine s_get C dX6_undo_18 0 rfl hinX0 1 rfl 1 (by decide) (by decide +kernel) rfl ?_
    refine s_goto 26 C dX6_undo_21 (by decide) ?_
    exact s_iret C E dX6_undo_26 ⟨ps2_8, ps2_8, c2_8, F2_8, rfl, rfl, (by rcases hq0_8 with ⟨q1, q2, q3, q4, q5⟩ | ⟨q1, q2, q3, q4⟩; (· exact Or.inl ⟨q1, (by omega), q3, q4, q5⟩); (· exact Or.inr ⟨q1, (by omega), q3, q4⟩))⟩

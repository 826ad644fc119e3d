set_option maxHeartbeats 4000000 in
set_option maxRecDepth 100000 in
theorem c_L_low (l : Launch) (G : fG) (x y : Int) (hy : 0 < y ∧ y < 2147483648) : fCt l G yL_low wsL_low 0 0 0 0 [vI x, vI y] [] (fun (v0 : Option Value) (w0 : va_W) => ∃ (z : Int), v0 = some (vI z) ∧ w0 = [] ∧ (0 ≤ z ∧ z < y)) := by
  refine fs_met (cc := cL_low) (nL := 2) (ret := (some .int)) (by decide) rfl (Nat.le_of_ble_eq_true rfl) ?_
  intro X C E
  show fSt l G X 0 0 0 [(0, vI x), (1, vI y)] [] []
  refine s_iload_n 0 C dL_low_0 rfl 0 rfl ?_
  refine s_ldc (z := 2147483647) C (by decide +kernel) dL_low_1 ?_
  refine s_iandM C dL_low_3 (fun z3 hz3 => ?_)
  refine s_iload_n 1 C dL_low_4 rfl 1 rfl ?_
  refine s_irem C dL_low_5 hz3 hy ?_
  exact s_iret C E dL_low_6 ⟨(z3 % y), rfl, rfl, ⟨Int.emod_nonneg _ (by omega), Int.emod_lt_of_pos _ (by omega)⟩⟩

set_option maxHeartbeats 4000000 in
set_option maxRecDepth 100000 in
theorem c_L_cell (l : Launch) (G : fG) (k : Int) (hk : 0 ≤ k ∧ k < 1000000) (hL : G.2.2.2.1 ≤ 260) : fCt l G yL_cell wsL_cell 0 0 0 0 [.ref G.2.2.1, vI k] [] (fun (v0 : Option Value) (w0 : va_W) => ∃ (z : Int), v0 = some (vI z) ∧ w0 = []) := by
  refine fs_met (cc := cL_cell) (nL := 2) (ret := (some .int)) (by decide) rfl (Nat.le_of_ble_eq_true rfl) ?_
  intro X C E
  show fSt l G X 0 0 0 [(0, .ref G.2.2.1), (1, vI k)] [] []
  refine s_iload_n 1 C dL_cell_0 rfl 1 rfl ?_
  refine s_aload_n 0 C dL_cell_1 rfl 0 rfl ?_
  refine s_glen C dL_cell_2 ?_
  refine s_icmp_ge 12 C dL_cell_3 (by decide) (by omega) (by omega) (fun h_3 => ?_) (fun h_3 => ?_)
  · refine s_ldc (z := 40503) C (by decide +kernel) dL_cell_12 ?_
    refine s_iload_n 1 C dL_cell_14 rfl 1 rfl ?_
    refine s_iconst C dL_cell_15 ?_
    refine s_iadd C dL_cell_16 ?_
    refine s_imul C dL_cell_17 ?_
    exact s_iret C E dL_cell_18 ⟨(40503 * (k + 3)), rfl, rfl⟩
  · refine s_aload_n 0 C dL_cell_6 rfl 0 rfl ?_
    refine s_iload_n 1 C dL_cell_7 rfl 1 rfl ?_
    refine s_gld C dL_cell_8 (by omega) (by omega) (by omega) (fun z8 hz8 => ?_)
    refine s_goto 18 C dL_cell_9 (by decide) ?_
    exact s_iret C E dL_cell_18 ⟨z8, rfl, rfl⟩

set_option maxHeartbeats 4000000 in
set_option maxRecDepth 100000 in
theorem c_L_kind (l : Launch) (G : fG) (r0 : Nat) (lr : Int → Nat) (k : Int) (hk : 0 ≤ k ∧ k < 64) (hl : lr k < 9223372036854775808) : fCt l G yL_kind wsL_kind 0 0 0 0 [.ref r0, vI k] [cLg r0 G.2.1.2.2.2.2 64 lr] (fun (v0 : Option Value) (w0 : va_W) => v0 = some (vI (((lr k) % 4 : Nat) : Int)) ∧ w0 = [cLg r0 G.2.1.2.2.2.2 64 lr]) := by
  refine fs_met (cc := cL_kind) (nL := 2) (ret := (some .int)) (by decide) rfl (Nat.le_of_ble_eq_true rfl) ?_
  intro X C E
  show fSt l G X 0 0 0 [(0, .ref r0), (1, vI k)] [] [cLg r0 G.2.1.2.2.2.2 64 lr]
  refine s_aload_n 0 C dL_kind_0 rfl 0 rfl ?_
  refine s_iload_n 1 C dL_kind_1 rfl 1 rfl ?_
  refine s_lald C dL_kind_2 0 rfl k rfl (by omega) (by omega) (by omega) ?_
  refine s_ldc2 (v := 4) C (by decide +kernel) dL_kind_3 ?_
  refine s_lrem C dL_kind_6 (by omega) (by decide) (by decide) ?_
  refine s_l2i C dL_kind_7 ?_
  exact s_iret C E dL_kind_8 ⟨rfl, rfl⟩

set_option maxHeartbeats 4000000 in
set_option maxRecDepth 100000 in
theorem c_L_key (l : Launch) (G : fG) (r0 : Nat) (lr : Int → Nat) (k : Int) (hk : 0 ≤ k ∧ k < 64) (hl : lr k < 9223372036854775808) : fCt l G yL_key wsL_key 0 0 0 0 [.ref r0, vI k] [cLg r0 G.2.1.2.2.2.2 64 lr] (fun (v0 : Option Value) (w0 : va_W) => v0 = some (vI ((((lr k) / 4) % 32 : Nat) : Int)) ∧ w0 = [cLg r0 G.2.1.2.2.2.2 64 lr]) := by
  refine fs_met (cc := cL_key) (nL := 2) (ret := (some .int)) (by decide) rfl (Nat.le_of_ble_eq_true rfl) ?_
  intro X C E
  show fSt l G X 0 0 0 [(0, .ref r0), (1, vI k)] [] [cLg r0 G.2.1.2.2.2.2 64 lr]
  refine s_aload_n 0 C dL_key_0 rfl 0 rfl ?_
  refine s_iload_n 1 C dL_key_1 rfl 1 rfl ?_
  refine s_lald C dL_key_2 0 rfl k rfl (by omega) (by omega) (by omega) ?_
  refine s_ldc2 (v := 4) C (by decide +kernel) dL_key_3 ?_
  refine s_ldiv C dL_key_6 (by omega) (by decide) (by decide) ?_
  refine s_ldc2 (v := 32) C (by decide +kernel) dL_key_7 ?_
  refine s_lrem C dL_key_10 (by omega) (by decide) (by decide) ?_
  refine s_l2i C dL_key_11 ?_
  exact s_iret C E dL_key_12 ⟨rfl, rfl⟩

set_option maxHeartbeats 4000000 in
set_option maxRecDepth 100000 in
theorem c_L_value (l : Launch) (G : fG) (r0 : Nat) (lr : Int → Nat) (k : Int) (hk : 0 ≤ k ∧ k < 64) (hl : lr k < 9223372036854775808) : fCt l G yL_value wsL_value 0 0 0 0 [.ref r0, vI k] [cLg r0 G.2.1.2.2.2.2 64 lr] (fun (v0 : Option Value) (w0 : va_W) => v0 = some (vI ((((lr k) / 128) % 1000 : Nat) : Int)) ∧ w0 = [cLg r0 G.2.1.2.2.2.2 64 lr]) := by
  refine fs_met (cc := cL_value) (nL := 2) (ret := (some .int)) (by decide) rfl (Nat.le_of_ble_eq_true rfl) ?_
  intro X C E
  show fSt l G X 0 0 0 [(0, .ref r0), (1, vI k)] [] [cLg r0 G.2.1.2.2.2.2 64 lr]
  refine s_aload_n 0 C dL_value_0 rfl 0 rfl ?_
  refine s_iload_n 1 C dL_value_1 rfl 1 rfl ?_
  refine s_lald C dL_value_2 0 rfl k rfl (by omega) (by omega) (by omega) ?_
  refine s_ldc2 (v := 128) C (by decide +kernel) dL_value_3 ?_
  refine s_ldiv C dL_value_6 (by omega) (by decide) (by decide) ?_
  refine s_ldc2 (v := 1000) C (by decide +kernel) dL_value_7 ?_
  refine s_lrem C dL_value_10 (by omega) (by decide) (by decide) ?_
  refine s_l2i C dL_value_11 ?_
  exact s_iret C E dL_value_12 ⟨rfl, rfl⟩

set_option maxHeartbeats 4000000 in
set_option maxRecDepth 100000 in
theorem c_L_by (l : Launch) (G : fG) (r0 : Nat) (lr : Int → Nat) (k : Int) (hk : 0 ≤ k ∧ k < 64) (hl : lr k < 9223372036854775808) : fCt l G yL_by wsL_by 0 0 0 0 [.ref r0, vI k] [cLg r0 G.2.1.2.2.2.2 64 lr] (fun (v0 : Option Value) (w0 : va_W) => v0 = some (vI ((((lr k) / 128000) % 1000 : Nat) : Int)) ∧ w0 = [cLg r0 G.2.1.2.2.2.2 64 lr]) := by
  refine fs_met (cc := cL_by) (nL := 2) (ret := (some .int)) (by decide) rfl (Nat.le_of_ble_eq_true rfl) ?_
  intro X C E
  show fSt l G X 0 0 0 [(0, .ref r0), (1, vI k)] [] [cLg r0 G.2.1.2.2.2.2 64 lr]
  refine s_aload_n 0 C dL_by_0 rfl 0 rfl ?_
  refine s_iload_n 1 C dL_by_1 rfl 1 rfl ?_
  refine s_lald C dL_by_2 0 rfl k rfl (by omega) (by omega) (by omega) ?_
  refine s_ldc2 (v := 128000) C (by decide +kernel) dL_by_3 ?_
  refine s_ldiv C dL_by_6 (by omega) (by decide) (by decide) ?_
  refine s_ldc2 (v := 1000) C (by decide +kernel) dL_by_7 ?_
  refine s_lrem C dL_by_10 (by omega) (by decide) (by decide) ?_
  refine s_l2i C dL_by_11 ?_
  exact s_iret C E dL_by_12 ⟨rfl, rfl⟩

set_option maxHeartbeats 4000000 in
set_option maxRecDepth 100000 in
theorem c_L_at (l : Launch) (G : fG) (r0 : Nat) (lr : Int → Nat) (k : Int) (hk : 0 ≤ k ∧ k < 64) (hl : lr k < 9223372036854775808) : fCt l G yL_at wsL_at 0 0 0 0 [.ref r0, vI k] [cLg r0 G.2.1.2.2.2.2 64 lr] (fun (v0 : Option Value) (w0 : va_W) => v0 = some (vI (((lr k) / 128000000 : Nat) : Int)) ∧ w0 = [cLg r0 G.2.1.2.2.2.2 64 lr]) := by
  refine fs_met (cc := cL_at) (nL := 2) (ret := (some .int)) (by decide) rfl (Nat.le_of_ble_eq_true rfl) ?_
  intro X C E
  show fSt l G X 0 0 0 [(0, .ref r0), (1, vI k)] [] [cLg r0 G.2.1.2.2.2.2 64 lr]
  refine s_aload_n 0 C dL_at_0 rfl 0 rfl ?_
  refine s_iload_n 1 C dL_at_1 rfl 1 rfl ?_
  refine s_lald C dL_at_2 0 rfl k rfl (by omega) (by omega) (by omega) ?_
  refine s_ldc2 (v := 128000000) C (by decide +kernel) dL_at_3 ?_
  refine s_ldiv C dL_at_6 (by omega) (by decide) (by decide) ?_
  refine s_l2i C dL_at_7 ?_
  exact s_iret C E dL_at_8 ⟨rfl, rfl⟩

set_option maxHeartbeats 4000000 in
set_option maxRecDepth 100000 in
theorem c_L_write (l : Launch) (G : fG) (g0 r0 : Nat) (f : Int → Int) (lr : Int → Nat) (kd y x t : Int) (hn : 0 ≤ f 0 ∧ f 0 ≤ 61) (hkd : 0 ≤ kd ∧ kd < 1000) (hy : 0 ≤ y ∧ y < 1000) (hx : 0 ≤ x ∧ x < 1000) (ht : 0 ≤ t ∧ t < 1000) (ha : 0 ≤ f 1 ∧ f 1 < 2147483648) : fCt l G yL_write wsL_write 0 0 0 0 [.ref g0, .ref r0, vI kd, vI y, vI x, vI t] [cA g0 G.2.1.1 18 f, cLg r0 G.2.1.2.2.2.2 64 lr] (fun (v0 : Option Value) (w0 : va_W) => v0 = none ∧ w0 = [cA g0 G.2.1.1 18 (uZ f 0 (f 0 + 1)), cLg r0 G.2.1.2.2.2.2 64 (uLg lr (f 0 + 1) (wrN kd y x t (f 1)))]) := by
  refine fs_met (cc := cL_write) (nL := 6) (ret := none) (by decide) rfl (Nat.le_of_ble_eq_true rfl) ?_
  intro X C E
  show fSt l G X 0 0 0 [(0, .ref g0), (1, .ref r0), (2, vI kd), (3, vI y), (4, vI x), (5, vI t)] [] [cA g0 G.2.1.1 18 f, cLg r0 G.2.1.2.2.2.2 64 lr]
  refine s_aload_n 0 C dL_write_0 rfl 0 rfl ?_
  refine s_iconst C dL_write_1 ?_
  refine s_dup2 C dL_write_2 rfl rfl ?_
  refine s_iald C dL_write_3 0 rfl 0 rfl (by omega) (by omega) (by omega) ?_
  refine s_iconst C dL_write_4 ?_
  refine s_iadd C dL_write_5 ?_
  refine s_iast [cA g0 G.2.1.1 18 (uZ f 0 ((f 0) + 1)), cLg r0 G.2.1.2.2.2.2 64 lr] C dL_write_6 0 rfl 0 rfl (by omega) (by omega) (by omega) rfl ?_
  refine s_aload_n 1 C dL_write_7 rfl 1 rfl ?_
  refine s_aload_n 0 C dL_write_8 rfl 0 rfl ?_
  refine s_iconst C dL_write_9 ?_
  refine s_iald C dL_write_10 0 rfl 0 rfl (by omega) (by omega) (by omega) ?_
  refine s_top ((f 0) + 1) uZ_s ?_
  refine s_iload_n 2 C dL_write_11 rfl 2 rfl ?_
  refine s_i2l C dL_write_12 (by omega) ?_
  refine s_ldc2 (v := 4) C (by decide +kernel) dL_write_13 ?_
  refine s_iload_n 3 C dL_write_16 rfl 3 rfl ?_
  refine s_i2l C dL_write_17 (by omega) ?_
  refine s_lmul C dL_write_18 ?_
  refine s_ladd C dL_write_19 ?_
  refine s_ldc2 (v := 128) C (by decide +kernel) dL_write_20 ?_
  refine s_iload C dL_write_23 4 rfl ?_
  refine s_i2l C dL_write_25 (by omega) ?_
  refine s_lmul C dL_write_26 ?_
  refine s_ladd C dL_write_27 ?_
  refine s_ldc2 (v := 128000) C (by decide +kernel) dL_write_28 ?_
  refine s_iload C dL_write_31 5 rfl ?_
  refine s_i2l C dL_write_33 (by omega) ?_
  refine s_lmul C dL_write_34 ?_
  refine s_ladd C dL_write_35 ?_
  refine s_ldc2 (v := 128000000) C (by decide +kernel) dL_write_36 ?_
  refine s_aload_n 0 C dL_write_39 rfl 0 rfl ?_
  refine s_iconst C dL_write_40 ?_
  refine s_iald C dL_write_41 0 rfl 1 rfl (by omega) (by omega) (by omega) ?_
  refine s_top (f 1) (uZ_n (by omega)) ?_
  refine s_i2l C dL_write_42 (by omega) ?_
  refine s_lmul C dL_write_43 ?_
  refine s_ladd C dL_write_44 ?_
  refine s_last [cA g0 G.2.1.1 18 (uZ f 0 ((f 0) + 1)), cLg r0 G.2.1.2.2.2.2 64 (uLg lr ((f 0) + 1) ((((((kd : Int).toNat) + (4 * ((y : Int).toNat))) + (128 * ((x : Int).toNat))) + (128000 * ((t : Int).toNat))) + (128000000 * ((f 1 : Int).toNat))))] C dL_write_45 1 rfl ((f 0) + 1) rfl (by omega) (by omega) (by omega) rfl ?_
  exact s_vret C E dL_write_46 ⟨rfl, rfl⟩

set_option maxHeartbeats 4000000 in
set_option maxRecDepth 100000 in
theorem c_L_commits (l : Launch) (G : fG) (r0 : Nat) (lr : Int → Nat) (f : Int → Int) (B p n : Int) (hPI : PI B f) (hR : RR f lr) (hp : 0 ≤ p ∧ p ≤ n) (hn : n ≤ f 0) : fCt l G yL_commits wsL_commits 1 21 0 0 [.ref r0, vI p, vI n] [cLg r0 G.2.1.2.2.2.2 64 lr] (fun (v0 : Option Value) (w0 : va_W) => v0 = some (vI (mB f (p + 1) n)) ∧ w0 = [cLg r0 G.2.1.2.2.2.2 64 lr]) := by
  refine fs_met (cc := cL_commits) (nL := 5) (ret := (some .int)) (by decide) rfl (Nat.le_of_ble_eq_true rfl) ?_
  intro X C E
  show fSt l G X 0 0 0 [(0, .ref r0), (1, vI p), (2, vI n)] [] [cLg r0 G.2.1.2.2.2.2 64 lr]
  have hb := hPI.2.2.1
  refine s_iconst C dL_commits_0 ?_
  refine s_istore_n 3 [(3, vI 0), (0, .ref r0), (1, vI p), (2, vI n)] C dL_commits_1 rfl (by decide) rfl ?_
  refine s_iload_n 1 C dL_commits_2 rfl 2 rfl ?_
  refine s_iconst C dL_commits_3 ?_
  refine s_iadd C dL_commits_4 ?_
  refine s_istore [(4, vI (p + 1)), (3, vI 0), (0, .ref r0), (1, vI p), (2, vI n)] C dL_commits_5 (by decide) rfl ?_
  have loop_7 : ∀ (fuel : Nat) (k c : Int), (p + 1 ≤ k ∧ k ≤ n + 1) → (c = cnt (fun r => decide (oR f r 0 = 1)) (p + 1) (k - (p + 1)).toNat) → (n + 1 - k < (fuel : Int)) → fSt l G X 0 0 7 [(0, .ref r0), (1, vI p), (2, vI n), (3, vI c), (4, vI k)] [] [cLg r0 G.2.1.2.2.2.2 64 lr] := by
    intro fuel
    induction fuel with
    | zero =>
      intro k c hk hc hm
      exfalso
      omega
    | succ fuel ih_7 =>
      intro k c hk hc hm
      refine s_iload C dL_commits_7 4 rfl ?_
      refine s_iload_n 2 C dL_commits_9 rfl 2 rfl ?_
      refine s_icmp_gt 37 C dL_commits_10 (by decide) (by omega) (by omega) (fun h_10 => ?_) (fun h_10 => ?_)
      · refine s_iload_n 3 C dL_commits_37 rfl 3 rfl ?_
        exact s_iret C E dL_commits_38 ⟨congrArg (fun z => some (vI z)) (by rw [hc, mB, show n + 1 - (p + 1) = k - (p + 1) by omega]), rfl⟩
      · refine s_iload_n 3 C dL_commits_13 rfl 3 rfl ?_
        refine s_aload_n 0 C dL_commits_14 rfl 0 rfl ?_
        refine s_iload C dL_commits_15 4 rfl ?_
        refine s_callS (As := [.ref r0, vI k]) (rest := [vI c]) C dL_commits_17 (c_L_kind l G r0 lr k (by first | assumption | omega) (rk_lt hPI hR (by omega) (by omega))) gL_commits_L_kind rfl 2 (by decide +kernel) (by decide) [0] rfl (by decide) rfl (Nat.le_of_ble_eq_true rfl) ⟨Nat.zero_le _, Nat.zero_le _⟩ ?_
        intro v0 w0 hq
        obtain ⟨rfl, rfl⟩ := hq
        refine ⟨rfl, ?_⟩
        show fSt l G X 0 0 20 [(0, .ref r0), (1, vI p), (2, vI n), (3, vI c), (4, vI k)] [vI (((lr k) % 4 : Nat) : Int), vI c] [cLg r0 G.2.1.2.2.2.2 64 lr]
        refine s_top (oR f k 0) (rk_kd hPI hR (by omega) (by omega)) ?_
        have hRk := hPI.1.R k (by omega) (by omega)
        refine s_iconst C dL_commits_20 ?_
        refine s_icmp_ne 28 C dL_commits_21 (by decide) (by omega) (by omega) (fun h_21 => ?_) (fun h_21 => ?_)
        · refine s_iconst C dL_commits_28 ?_
          refine s_iadd C dL_commits_29 ?_
          refine s_istore_n 3 [(3, vI (c + 0)), (0, .ref r0), (1, vI p), (2, vI n), (4, vI k)] C dL_commits_30 rfl (by decide) rfl ?_
          refine s_iinc [(4, vI (k + 1)), (3, vI (c + 0)), (0, .ref r0), (1, vI p), (2, vI n)] C dL_commits_31 4 rfl (by decide) rfl ?_
          refine s_goto 7 C dL_commits_34 (by decide) ?_
          refine s_lv [(0, .ref r0), (1, vI p), (2, vI n), (3, vI (c + 0)), (4, vI (k + 1))] [2, 3, 4, 1, 0] rfl ?_
          exact ih_7 (k + 1) (c + 0) (by omega) (cnt_nx (by omega) hc (Or.inr ⟨(by simp only [decide_eq_true_eq]; omega), by omega⟩)) (by omega)
        · refine s_iconst C dL_commits_24 ?_
          refine s_goto 29 C dL_commits_25 (by decide) ?_
          refine s_iadd C dL_commits_29 ?_
          refine s_istore_n 3 [(3, vI (c + 1)), (0, .ref r0), (1, vI p), (2, vI n), (4, vI k)] C dL_commits_30 rfl (by decide) rfl ?_
          refine s_iinc [(4, vI (k + 1)), (3, vI (c + 1)), (0, .ref r0), (1, vI p), (2, vI n)] C dL_commits_31 4 rfl (by decide) rfl ?_
          refine s_goto 7 C dL_commits_34 (by decide) ?_
          refine s_lv [(0, .ref r0), (1, vI p), (2, vI n), (3, vI (c + 1)), (4, vI (k + 1))] [2, 3, 4, 1, 0] rfl ?_
          exact ih_7 (k + 1) (c + 1) (by omega) (cnt_nx (by omega) hc (Or.inl ⟨(by simp only [decide_eq_true_eq]; omega), by omega⟩)) (by omega)
  refine s_lv [(0, .ref r0), (1, vI p), (2, vI n), (3, vI 0), (4, vI (p + 1))] [2, 3, 4, 1, 0] rfl ?_
  exact loop_7 (n + 1 - (p + 1) + 1 : Int).toNat (p + 1) 0 (by omega) (by rw [show p + 1 - (p + 1) = 0 by omega]; rfl) (by omega)

set_option maxHeartbeats 4000000 in
set_option maxRecDepth 100000 in
theorem c_L_ones (l : Launch) (G : fG) (m : Nat) (hm : m < 4611686018427387904) : fCt l G yL_ones wsL_ones 0 0 0 0 [vLg m] [] (fun (v0 : Option Value) (w0 : va_W) => v0 = some (vI ((pcN 62 m : Nat) : Int)) ∧ w0 = []) := by
  refine fs_met (cc := cL_ones) (nL := 5) (ret := (some .int)) (by decide) rfl (Nat.le_of_ble_eq_true rfl) ?_
  intro X C E
  show fSt l G X 0 0 0 [(0, vLg m)] [] []
  refine s_iconst C dL_ones_0 ?_
  refine s_istore_n 2 [(2, vI 0), (0, vLg m)] C dL_ones_1 rfl (by decide) rfl ?_
  refine s_lload_n 0 C dL_ones_2 rfl 1 rfl ?_
  refine s_lstore_n 3 [(3, vLg m), (2, vI 0), (0, vLg m)] C dL_ones_3 rfl (by decide) rfl ?_
  have loop_4 : ∀ (fuel : Nat) (n : Int) (w : Nat), (n + ((pcN 62 w : Nat) : Int) = ((pcN 62 m : Nat) : Int)) → (w < 4611686018427387904) → ((w : Int) < (fuel : Int)) → fSt l G X 0 0 4 [(0, vLg m), (2, vI n), (3, vLg w)] [] [] := by
    intro fuel
    induction fuel with
    | zero =>
      intro n w hc hw hm
      exfalso
      omega
    | succ fuel ih_4 =>
      intro n w hc hw hm
      refine s_lload_n 3 C dL_ones_4 rfl 2 rfl ?_
      refine s_lconst (v := 0) C dL_ones_5 rfl ?_
      refine s_lcmp C dL_ones_6 (by omega) (by omega) ?_
      refine s_if_eq 22 C dL_ones_7 (by decide) lcZ_rg (fun h_7 => ?_) (fun h_7 => ?_)
      · have h_7 := lcZ_0.mp h_7
        refine s_iload_n 2 C dL_ones_22 rfl 1 rfl ?_
        exact s_iret C E dL_ones_23 ⟨congrArg (fun z => some (vI z)) (by rw [h_7, pcN_0] at hc; omega), rfl⟩
      · have h_7 := mt lcZ_0.mpr h_7
        have h8 := pcN_step 62 w h_7 (by omega)
        have h9 : w &&& (w - 1) ≤ w - 1 := Nat.and_le_right
        refine s_iinc [(2, vI (n + 1)), (0, vLg m), (3, vLg w)] C dL_ones_10 1 rfl (by decide) rfl ?_
        refine s_lload_n 3 C dL_ones_13 rfl 2 rfl ?_
        refine s_lload_n 3 C dL_ones_14 rfl 2 rfl ?_
        refine s_lconst (v := 1) C dL_ones_15 rfl ?_
        refine s_lsub C dL_ones_16 (by omega) ?_
        refine s_land C dL_ones_17 (by omega) (by omega) ?_
        refine s_lstore_n 3 [(3, vLg (w &&& (w - 1))), (2, vI (n + 1)), (0, vLg m)] C dL_ones_18 rfl (by decide) rfl ?_
        refine s_goto 4 C dL_ones_19 (by decide) ?_
        refine s_lv [(0, vLg m), (2, vI (n + 1)), (3, vLg (w &&& (w - 1)))] [2, 1, 0] rfl ?_
        exact ih_4 (n + 1) (w &&& (w - 1)) (by omega) (by omega) (by omega)
  refine s_lv [(0, vLg m), (2, vI 0), (3, vLg m)] [2, 1, 0] rfl ?_
  exact loop_4 ((m : Int) + 1 : Int).toNat 0 m (by omega) hm (by omega)

set_option maxHeartbeats 4000000 in
set_option maxRecDepth 100000 in
theorem c_L_applies (l : Launch) (G : fG) (g0 r0 m0 : Nat) (f : Int → Int) (lr lm : Int → Nat) (T0 b p t rt : Int) (hT : TI f T0) (hb : 0 ≤ b ∧ b ≤ 1) (hp : 0 ≤ p ∧ p ≤ oS f b 0) (hr61 : oS f b 0 ≤ 61) (ht : 0 ≤ t ∧ t ≤ 1073741823) (hrt : 0 ≤ rt ∧ rt ≤ 20) (hrec : ∀ k : Int, 1 ≤ k → k ≤ oS f b 0 → lr k < 9223372036854775808 ∧ (((lr k) / 128000000 : Nat) : Int) = oR f k 4) (hmB : BM f b (lm b)) (hg : ∀ r : Int, 62 ≤ r → r ≤ 100 → ¬ oG f b r = 1) : fCt l G yL_applies wsL_applies 1 21 0 0 [.ref g0, .ref r0, .ref m0, vI b, vI p, vI t, vI rt] [cA g0 G.2.1.1 18 f, cLg r0 G.2.1.2.2.2.2 64 lr, cLg m0 G.2.1.2.2.2.2 2 lm] (fun (v0 : Option Value) (w0 : va_W) => v0 = some (vI (go f b p t rt)) ∧ w0 = [cA g0 G.2.1.1 18 f, cLg r0 G.2.1.2.2.2.2 64 lr, cLg m0 G.2.1.2.2.2.2 2 lm]) := by
  refine fs_met (cc := cL_applies) (nL := 8) (ret := (some .int)) (by decide) rfl (Nat.le_of_ble_eq_true rfl) ?_
  intro X C E
  show fSt l G X 0 0 0 [(0, .ref g0), (1, .ref r0), (2, .ref m0), (3, vI b), (4, vI p), (5, vI t), (6, vI rt)] [] [cA g0 G.2.1.1 18 f, cLg r0 G.2.1.2.2.2.2 64 lr, cLg m0 G.2.1.2.2.2.2 2 lm]
  have hf := hT.1
  have hS := hT.S hb
  have h8 := hT.2.2.2.1
  have hl0 : f (3 * b + 12) = oS f b 0 := congrArg f (by omega)
  have hl2 : f (3 * b + 14) = oS f b 2 := congrArg f (by omega)
  refine s_iconst C dL_applies_0 ?_
  refine s_istore [(7, vI 0), (0, .ref g0), (1, .ref r0), (2, .ref m0), (3, vI b), (4, vI p), (5, vI t), (6, vI rt)] C dL_applies_1 (by decide) rfl ?_
  have loop_3 : ∀ (fuel : Nat) (n : Int), (0 ≤ n ∧ n ≤ rt) → (n = 0 ∨ (oS f b 2 = 0 ∧ p + n ≤ oS f b 0)) → (adv (ok f b t) p n.toNat = p + n) → (rt - n < (fuel : Int)) → fSt l G X 0 0 3 [(0, .ref g0), (1, .ref r0), (2, .ref m0), (3, vI b), (4, vI p), (5, vI t), (6, vI rt), (7, vI n)] [] [cA g0 G.2.1.1 18 f, cLg r0 G.2.1.2.2.2.2 64 lr, cLg m0 G.2.1.2.2.2.2 2 lm] := by
    intro fuel
    induction fuel with
    | zero =>
      intro n hn hc ha hm
      exfalso
      omega
    | succ fuel ih_3 =>
      intro n hn hc ha hm
      refine s_iload C dL_applies_3 7 rfl ?_
      refine s_iload C dL_applies_5 6 rfl ?_
      refine s_icmp_ge 82 C dL_applies_7 (by decide) (by omega) (by omega) (fun h_7 => ?_) (fun h_7 => ?_)
      · refine s_iload C dL_applies_82 7 rfl ?_
        exact s_iret C E dL_applies_84 ⟨congrArg (fun z => some (vI z)) (by first | (have e9 : n = rt := (by omega); by_cases e2 : oS f b 2 = 0; (· rw [e9] at ha; rw [go_full e2 ha, e9]); (· rw [go, if_neg e2]; omega)) | (have e2 : ¬ oS f b 2 = 0 := (by omega); rw [go, if_neg e2]; omega) | (exact (go_end (by omega) ha (by omega) (by simp only [ok, Bool.and_eq_false_iff, decide_eq_false_iff_not]; omega)).symm)), rfl⟩
      · refine s_aload_n 0 C dL_applies_10 rfl 0 rfl ?_
        refine s_bipush (z := 14) C dL_applies_11 rfl ?_
        refine s_iconst C dL_applies_13 ?_
        refine s_iload_n 3 C dL_applies_14 rfl 3 rfl ?_
        refine s_imul C dL_applies_15 ?_
        refine s_iadd C dL_applies_16 ?_
        refine s_iald C dL_applies_17 0 rfl (3 * b + 14) (by omega) (by omega) (by omega) (by omega) ?_
        refine s_if_ne 82 C dL_applies_18 (by decide) (hf _) (fun h_18 => ?_) (fun h_18 => ?_)
        · refine s_iload C dL_applies_82 7 rfl ?_
          exact s_iret C E dL_applies_84 ⟨congrArg (fun z => some (vI z)) (by first | (have e9 : n = rt := (by omega); by_cases e2 : oS f b 2 = 0; (· rw [e9] at ha; rw [go_full e2 ha, e9]); (· rw [go, if_neg e2]; omega)) | (have e2 : ¬ oS f b 2 = 0 := (by omega); rw [go, if_neg e2]; omega) | (exact (go_end (by omega) ha (by omega) (by simp only [ok, Bool.and_eq_false_iff, decide_eq_false_iff_not]; omega)).symm)), rfl⟩
        · refine s_iload C dL_applies_21 4 rfl ?_
          refine s_iload C dL_applies_23 7 rfl ?_
          refine s_iadd C dL_applies_25 ?_
          refine s_aload_n 0 C dL_applies_26 rfl 0 rfl ?_
          refine s_bipush (z := 12) C dL_applies_27 rfl ?_
          refine s_iconst C dL_applies_29 ?_
          refine s_iload_n 3 C dL_applies_30 rfl 3 rfl ?_
          refine s_imul C dL_applies_31 ?_
          refine s_iadd C dL_applies_32 ?_
          refine s_iald C dL_applies_33 0 rfl (3 * b + 12) (by omega) (by omega) (by omega) (by omega) ?_
          refine s_icmp_ge 82 C dL_applies_34 (by decide) (by omega) (hf _) (fun h_34 => ?_) (fun h_34 => ?_)
          · refine s_iload C dL_applies_82 7 rfl ?_
            exact s_iret C E dL_applies_84 ⟨congrArg (fun z => some (vI z)) (by first | (have e9 : n = rt := (by omega); by_cases e2 : oS f b 2 = 0; (· rw [e9] at ha; rw [go_full e2 ha, e9]); (· rw [go, if_neg e2]; omega)) | (have e2 : ¬ oS f b 2 = 0 := (by omega); rw [go, if_neg e2]; omega) | (exact (go_end (by omega) ha (by omega) (by simp only [ok, Bool.and_eq_false_iff, decide_eq_false_iff_not]; omega)).symm)), rfl⟩
          · have hlt : p + n < oS f b 0 := by omega
            have hbit := hmB.bit (hg 62 (by omega) (by omega)) (k := p + n + 1) (by omega) (by omega)
            have hmb := hmB.1
            have hdv : lm b / 2 ^ (p + n + 1 : Int).toNat ≤ lm b := Nat.div_le_self _ _
            refine s_aload_n 2 C dL_applies_37 rfl 2 rfl ?_
            refine s_iload_n 3 C dL_applies_38 rfl 3 rfl ?_
            refine s_lald C dL_applies_39 2 rfl b rfl (by omega) (by omega) (by omega) ?_
            refine s_iload C dL_applies_40 4 rfl ?_
            refine s_iload C dL_applies_42 7 rfl ?_
            refine s_iadd C dL_applies_44 ?_
            refine s_iconst C dL_applies_45 ?_
            refine s_iadd C dL_applies_46 ?_
            refine s_lshr C dL_applies_47 (by omega) (by omega) ?_
            refine s_lconst (v := 1) C dL_applies_48 rfl ?_
            refine s_land1 C dL_applies_49 (by omega) ?_
            refine s_lconst (v := 0) C dL_applies_50 rfl ?_
            refine s_lcmp C dL_applies_51 (by omega) (by omega) ?_
            refine s_if_ne 82 C dL_applies_52 (by decide) lcZ_rg (fun h_52 => ?_) (fun h_52 => ?_)
            · have h_52 := mt lcZ_0.mpr h_52
              refine s_iload C dL_applies_82 7 rfl ?_
              exact s_iret C E dL_applies_84 ⟨congrArg (fun z => some (vI z)) (by first | (have e9 : n = rt := (by omega); by_cases e2 : oS f b 2 = 0; (· rw [e9] at ha; rw [go_full e2 ha, e9]); (· rw [go, if_neg e2]; omega)) | (have e2 : ¬ oS f b 2 = 0 := (by omega); rw [go, if_neg e2]; omega) | (exact (go_end (by omega) ha (by omega) (by simp only [ok, Bool.and_eq_false_iff, decide_eq_false_iff_not]; omega)).symm)), rfl⟩
            · have h_52 := lcZ_0.mp h_52
              refine s_aload_n 1 C dL_applies_55 rfl 1 rfl ?_
              refine s_iload C dL_applies_56 4 rfl ?_
              refine s_iload C dL_applies_58 7 rfl ?_
              refine s_iadd C dL_applies_60 ?_
              refine s_iconst C dL_applies_61 ?_
              refine s_iadd C dL_applies_62 ?_
              refine s_callS (As := [.ref r0, vI (p + n + 1)]) (rest := []) C dL_applies_63 (c_L_at l G r0 lr (p + n + 1) (by first | assumption | omega) (hrec _ (by omega) (by omega)).1) gL_applies_L_at rfl 2 (by decide +kernel) (by decide) [1] rfl (by decide) rfl (Nat.le_of_ble_eq_true rfl) ⟨Nat.zero_le _, Nat.zero_le _⟩ ?_
              intro v0 w0 hq
              obtain ⟨rfl, rfl⟩ := hq
              refine ⟨rfl, ?_⟩
              show fSt l G X 0 0 66 [(0, .ref g0), (1, .ref r0), (2, .ref m0), (3, vI b), (4, vI p), (5, vI t), (6, vI rt), (7, vI n)] [vI (((lr (p + n + 1)) / 128000000 : Nat) : Int)] [cA g0 G.2.1.1 18 f, cLg r0 G.2.1.2.2.2.2 64 lr, cLg m0 G.2.1.2.2.2.2 2 lm]
              refine s_top (oR f (p + n + 1) 4) (hrec _ (by omega) (by omega)).2 ?_
              have hAt := hT.A (r := p + n + 1) hb (by omega) (by omega)
              refine s_aload_n 0 C dL_applies_66 rfl 0 rfl ?_
              refine s_bipush (z := 8) C dL_applies_67 rfl ?_
              refine s_iald C dL_applies_69 0 rfl 8 rfl (by omega) (by omega) (by omega) ?_
              refine s_iadd C dL_applies_70 ?_
              refine s_iload C dL_applies_71 5 rfl ?_
              refine s_icmp_gt 82 C dL_applies_73 (by decide) (by omega) (by omega) (fun h_73 => ?_) (fun h_73 => ?_)
              · refine s_iload C dL_applies_82 7 rfl ?_
                exact s_iret C E dL_applies_84 ⟨congrArg (fun z => some (vI z)) (by first | (have e9 : n = rt := (by omega); by_cases e2 : oS f b 2 = 0; (· rw [e9] at ha; rw [go_full e2 ha, e9]); (· rw [go, if_neg e2]; omega)) | (have e2 : ¬ oS f b 2 = 0 := (by omega); rw [go, if_neg e2]; omega) | (exact (go_end (by omega) ha (by omega) (by simp only [ok, Bool.and_eq_false_iff, decide_eq_false_iff_not]; omega)).symm)), rfl⟩
              · refine s_iinc [(7, vI (n + 1)), (0, .ref g0), (1, .ref r0), (2, .ref m0), (3, vI b), (4, vI p), (5, vI t), (6, vI rt)] C dL_applies_76 7 rfl (by decide) rfl ?_
                refine s_goto 3 C dL_applies_79 (by decide) ?_
                refine s_lv [(0, .ref g0), (1, .ref r0), (2, .ref m0), (3, vI b), (4, vI p), (5, vI t), (6, vI rt), (7, vI (n + 1))] [1, 2, 3, 4, 5, 6, 7, 0] rfl ?_
                exact ih_3 (n + 1) (by omega) (by omega) (go_more ha (by omega) (by simp only [ok, Bool.and_eq_true, decide_eq_true_eq]; omega)) (by omega)
  refine s_lv [(0, .ref g0), (1, .ref r0), (2, .ref m0), (3, vI b), (4, vI p), (5, vI t), (6, vI rt), (7, vI 0)] [1, 2, 3, 4, 5, 6, 7, 0] rfl ?_
  exact loop_3 (rt - 0 + 1 : Int).toNat 0 (by omega) (by omega) (by rw [show (0 : Int).toNat = 0 from rfl, adv]; omega) (by omega)

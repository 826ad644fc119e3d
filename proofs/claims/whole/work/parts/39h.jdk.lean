/-! ===== the machine's own String: four texts, by their places ===== -/
section FJ
variable {l : Launch} {G : fG} {X : fX} {own : String} {cc : ByteArray} {Ts : List Cond} {nL fr lo mc ms k n pc idx : Nat} {lv : List (Nat × Value)} {st rest : List Value} {ws : va_W}
theorem s_getJ {o nm d : String} {a : Nat} {v : Value} (C0 : fC G X own cc Ts nL fr lo mc ms) (hdg : decode cc pc = .ok (.getfield idx, 3)) (hlink : Cond.fieldLink own idx o nm d ∈ Ts) (hZ : ∀ (A : Nat → Prop) (U : State) (H : Heap), fEn G A U H → va_OF o nm d v a A U H) (K : fSt l G X k n (pc + 3) lv (v :: st) ws) : fSt l G X k n pc lv (.ref a :: st) ws := by
  obtain ⟨p, e, R, s, m, args, below, meth, c, Q, A, H0, nL'⟩ := X
  obtain ⟨hx, hb, hml, rfl, hown, hts, hE, hA, rfl, rfl⟩ := C0
  intro H locs ls hP hD hS hl
  exact vk_getf hx hb (hZ _ _ _ hE) hS hown (hts _ hlink) (fun _ h => h) hdg (K H locs ls hP hD hS hl)
theorem s_gets {o nm d : String} {v : Value} (C0 : fC G X own cc Ts nL fr lo mc ms) (hdg : decode cc pc = .ok (.getstatic idx, 3)) (hlink : Cond.fieldLink own idx o nm d ∈ Ts) (hZ : ∀ (A : Nat → Prop) (U : State) (H : Heap), fEn G A U H → va_Z o nm d v A U H) (K : fSt l G X k n (pc + 3) lv (v :: st) ws) : fSt l G X k n pc lv st ws := by
  obtain ⟨p, e, R, s, m, args, below, meth, c, Q, A, H0, nL'⟩ := X
  obtain ⟨hx, hb, hml, rfl, hown, hts, hE, hA, rfl, rfl⟩ := C0
  intro H locs ls hP hD hS hl
  exact va_gets hx hb (hZ _ _ _ hE) hS hown (hts _ hlink) (fun _ h => h) hdg (K H locs ls hP hD hS hl)
theorem s_getsq {o nm d : String} (C0 : fC G X own cc Ts nL fr lo mc ms) (hdg : decode cc pc = .ok (.getstatic idx, 3)) (hlink : Cond.fieldLink own idx o nm d ∈ Ts) (hZ : ∀ (A : Nat → Prop) (U : State) (H : Heap), fEn G A U H → va_Zq o nm d A U H) (K0 : fSt l G X k n (pc + 3) lv (.null :: st) ws) (K : ∀ t : Nat, fSt l G X k n (pc + 3) lv (.ref t :: st) ws) : fSt l G X k n pc lv st ws := by
  obtain ⟨p, e, R, s, m, args, below, meth, c, Q, A, H0, nL'⟩ := X
  obtain ⟨hx, hb, hml, rfl, hown, hts, hE, hA, rfl, rfl⟩ := C0
  intro H locs ls hP hD hS hl
  rcases hZ _ _ _ hE with h | ⟨t, h⟩
  · exact va_gets hx hb h hS hown (hts _ hlink) (fun _ h => h) hdg (K0 H locs ls hP hD hS hl)
  · exact va_gets hx hb h hS hown (hts _ hlink) (fun _ h => h) hdg (K t H locs ls hP hD hS hl)
theorem s_tlen {ty : FieldType} {t N : Nat} {g : Nat → Value} (C0 : fC G X own cc Ts nL fr lo mc ms) (hdg : decode cc pc = .ok (.arraylength, 1)) (hZ : ∀ (A : Nat → Prop) (U : State) (H : Heap), fEn G A U H → va_T ty t N g A U H) (K : fSt l G X k n (pc + 1) lv (vI N :: st) ws) : fSt l G X k n pc lv (.ref t :: st) ws := by
  obtain ⟨p, e, R, s, m, args, below, meth, c, Q, A, H0, nL'⟩ := X
  obtain ⟨hx, hb, hml, rfl, hown, hts, hE, hA, rfl, rfl⟩ := C0
  intro H locs ls hP hD hS hl
  exact va_tlen hx hb (hZ _ _ _ hE) hS (iZ_nI N) hdg (K H locs ls hP hD hS hl)
theorem s_tbld {t N : Nat} {g : Nat → Value} {z : Int} {v : Value} (C0 : fC G X own cc Ts nL fr lo mc ms) (hdg : decode cc pc = .ok (.baload, 1)) (hZ : ∀ (A : Nat → Prop) (U : State) (H : Heap), fEn G A U H → va_T .byte t N g A U H) (h0 : 0 ≤ z) (h1 : z < N) (hN : N ≤ 2147483648) (hv : g z.toNat = v) (K : fSt l G X k n (pc + 1) lv (v :: st) ws) : fSt l G X k n pc lv (vI z :: .ref t :: st) ws := by
  obtain ⟨p, e, R, s, m, args, below, meth, c, Q, A, H0, nL'⟩ := X
  obtain ⟨hx, hb, hml, rfl, hown, hts, hE, hA, rfl, rfl⟩ := C0
  intro H locs ls hP hD hS hl
  exact va_tb hx hb (hZ _ _ _ hE) hS (i := iZ z) (iZ_in h0 h1 hN) (v := v) (by rw [iZ_cl h0 (by omega)]; exact hv) hdg (K H locs ls hP hD hS hl)
theorem s_ishr {x y : Int32} {z : Int} (C0 : fC G X own cc Ts nL fr lo mc ms) (hdg : decode cc pc = .ok (.ishr, 1)) (hv : x >>> (y &&& 31) = iZ z) (K : fSt l G X k n (pc + 1) lv (vI z :: st) ws) : fSt l G X k n pc lv (.int y :: .int x :: st) ws := by
  obtain ⟨p, e, R, s, m, args, below, meth, c, Q, A, H0, nL'⟩ := X
  obtain ⟨hx, hb, -⟩ := C0
  intro H locs ls hP hD hS hl
  refine lv_ishr hx hb hdg ?_
  rw [hv]
  exact K H locs ls hP hD hS hl
theorem s_iand {x y : Int32} {z : Int} (C0 : fC G X own cc Ts nL fr lo mc ms) (hdg : decode cc pc = .ok (.iand, 1)) (hv : x &&& y = iZ z) (K : fSt l G X k n (pc + 1) lv (vI z :: st) ws) : fSt l G X k n pc lv (.int y :: .int x :: st) ws := by
  obtain ⟨p, e, R, s, m, args, below, meth, c, Q, A, H0, nL'⟩ := X
  obtain ⟨hx, hb, -⟩ := C0
  intro H locs ls hP hD hS hl
  refine lv_iand hx hb hdg ?_
  rw [hv]
  exact K H locs ls hP hD hS hl
theorem s_pop {x : Int} (C0 : fC G X own cc Ts nL fr lo mc ms) (hdg : decode cc pc = .ok (.pop, 1)) (K : fSt l G X k n (pc + 1) lv st ws) : fSt l G X k n pc lv (vI x :: st) ws := by
  obtain ⟨p, e, R, s, m, args, below, meth, c, Q, A, H0, nL'⟩ := X
  obtain ⟨hx, hb, -⟩ := C0
  intro H locs ls hP hD hS hl
  exact lv_pop hx hb hdg rfl (K H locs ls hP hD hS hl)
theorem s_ldcS {tx : String} {a : Nat} (C0 : fC G X own cc Ts nL fr lo mc ms) (hdg : decode cc pc = .ok (.ldc idx, 2)) (hZ : ∀ (A : Nat → Prop) (U : State) (H : Heap), fEn G A U H → vk_R own idx tx a U) (K : fSt l G X k n (pc + 2) lv (.ref a :: st) ws) : fSt l G X k n pc lv st ws := by
  obtain ⟨p, e, R, s, m, args, below, meth, c, Q, A, H0, nL'⟩ := X
  obtain ⟨hx, hb, hml, rfl, hown, hts, hE, hA, rfl, rfl⟩ := C0
  intro H locs ls hP hD hS hl
  exact va_ldcS hx hb hown (hZ _ _ _ hE) hdg (K H locs ls hP hD hS hl)
/-- a call of a text's own method -/
theorem s_callJ {y : MethodName} {bytes : ByteArray} {maxL fr' lo' : Nat} {ret' : Option FieldType} {wc ws'' : List Cond} {As : List Value} {post' : Option Value → va_W → Prop} (i : Nat) (hi : i < 4) (C0 : fC G X own cc Ts nL fr lo mc ms) (hdg : decode cc pc = .ok (.invokevirtual idx, 3)) (hM : fCt l G y wc fr' lo' 0 0 (.ref (G.2.2.1 i) :: As) [] post') (hG : GoodIn Ts (wsV own idx y.cls y wc)) (hw : wc = Cond.code y bytes maxL ret' :: ws'') (na : Nat)
    (hd : y.cls ≠ "java/lang/invoke/MethodHandle" ∧ y.cls ≠ "java/lang/invoke/VarHandle" ∧ (parseMethodDescriptor y.desc).map (fun d => d.parameters.length) = some na) (hR : fr' + 1 ≤ fr ∧ 8 + (maxL + 11) + lo' ≤ lo) (hcl : y.cls = "java/lang/String")
    (hAs : As.length = na) (hst : (rest.map fun v => v.category).sum ≤ 8) (hkn : k ≤ mc ∧ n ≤ ms)
    (kk : ∀ (v : Option Value) (w : va_W), post' v w → w = [] ∧ fSt l G X k n (pc + 3) lv (v.toList ++ rest) ws) : fSt l G X k n pc lv (As.reverse ++ .ref (G.2.2.1 i) :: rest) ws := by
  obtain ⟨p, e, R, s, m, args, below, meth, c, Q, A, H0, nL'⟩ := X
  obtain ⟨hx, hb, hml, rfl, hown, hts, hE, hA, rfl, rfl⟩ := C0
  intro H locs ls hP hD hS hl
  have hC : ([] : List Nat).map (fun i => ws[i]?) = ([] : va_W).map some := rfl
  have hF := va_free hD hS hA [] hC
  have hPc := fs_subP hP [] hC
  have hDc := fs_sub hD [] hC rfl
  have hrec := vk_recv hE.2.2.2.1 hi hS
  rw [← hcl] at hrec
  refine fs_after (va_runV (As := As) (rest := rest) ⟨hx, hb, hml, hown, hts⟩ (hM H.size) (cwV na hts hG hw rfl rfl ⟨rfl, hd⟩ hR) ⟨fPc.blind, hrec, fs_PreS (ws := ws) hE hS hF hPc hDc⟩ rfl hAs hl.1 rfl (lv_room hst) hdg hkn) hS hF (fun v w H1 locs1 hp hP1 hD1 hk1 hS1 => ?_)
  obtain ⟨ha, K⟩ := kk v w hp
  subst ha
  obtain ⟨hP2, hD2⟩ := fs_rep_ok [] hP hD hC rfl hk1 hP1
  exact K H1 locs1 ls hP2 hD2 hS1 hl
end FJ
/-! ===== the four texts' lengths and characters ===== -/
def lS (i : Nat) : Nat := ([2, 6, 4, 0] : List Nat).getD i 0
def cS (i : Nat) (k : Int) : Int := (([[35, 59], [35, 44, 35, 61, 35, 59], [35, 44, 35, 59], []] : List (List Int)).getD i []).getD k.toNat 0
def bS (i j : Nat) : Int32 := (([[35, 59], [35, 44, 35, 61, 35, 59], [35, 44, 35, 59], []] : List (List Int32)).getD i []).getD j 0
theorem cS_all : ∀ i, i < 4 → ∀ j, j < lS i → (bS i j = iZ (cS i j) ∧ bS i j &&& iZ 255 = iZ (cS i j) ∧ 0 ≤ cS i j ∧ cS i j < 65536) := by decide +kernel
theorem lS_all : ∀ i, i < 4 → iZ (lS i : Nat) >>> (iZ 0 &&& 31) = iZ (lS i : Nat) ∧ lS i < 100 := by decide +kernel
theorem c_J0_coder (l : Launch) (G : fG) (i : Nat) (hi : i < 4) : fCt l G yJ0_coder_7d493 wsJ0_coder_7d493 0 0 0 0 [.ref (G.2.2.1 i)] [] (fun (v0 : Option Value) (w0 : va_W) => v0 = some (vI 0) ∧ w0 = []) := by
  refine fs_met (cc := cJ0_coder_7d493) (nL := 1) (ret := (some .byte)) (by decide) rfl (Nat.le_of_ble_eq_true rfl) ?_
  intro X C E
  show fSt l G X 0 0 0 [(0, .ref (G.2.2.1 i))] [] []
  refine s_gets (v := vI 1) C dJ0_coder_7d493_0 (by decide +kernel) (fun A U H h => h.2.2.2.2.1) ?_
  refine s_if_eq 13 C dJ0_coder_7d493_3 (by decide) (by decide) (fun h => absurd h (by decide)) (fun h => ?_)
  refine s_aload_n 0 C dJ0_coder_7d493_6 rfl 0 rfl ?_
  refine s_getJ (v := vI 0) C dJ0_coder_7d493_7 (by decide +kernel) (fun A U H h => (h.2.2.2.1.1 i hi).2.1) ?_
  refine s_goto 14 C dJ0_coder_7d493_10 (by decide) ?_
  exact s_zret C E dJ0_coder_7d493_14 rfl ⟨rfl, rfl⟩
theorem c_J0_isLatin1 (l : Launch) (G : fG) (i : Nat) (hi : i < 4) : fCt l G yJ0_isLatin1_aae02 wsJ0_isLatin1_aae02 0 0 0 0 [.ref (G.2.2.1 i)] [] (fun (v0 : Option Value) (w0 : va_W) => v0 = some (vI 1) ∧ w0 = []) := by
  refine fs_met (cc := cJ0_isLatin1_aae02) (nL := 1) (ret := (some .boolean)) (by decide) rfl (Nat.le_of_ble_eq_true rfl) ?_
  intro X C E
  show fSt l G X 0 0 0 [(0, .ref (G.2.2.1 i))] [] []
  refine s_gets (v := vI 1) C dJ0_isLatin1_aae02_0 (by decide +kernel) (fun A U H h => h.2.2.2.2.1) ?_
  refine s_if_eq 17 C dJ0_isLatin1_aae02_3 (by decide) (by decide) (fun h => absurd h (by decide)) (fun h => ?_)
  refine s_aload_n 0 C dJ0_isLatin1_aae02_6 rfl 0 rfl ?_
  refine s_getJ (v := vI 0) C dJ0_isLatin1_aae02_7 (by decide +kernel) (fun A U H h => (h.2.2.2.1.1 i hi).2.1) ?_
  refine s_if_ne 17 C dJ0_isLatin1_aae02_10 (by decide) (by decide) (fun h => absurd h (by decide)) (fun h => ?_)
  refine s_iconst (z := 1) C dJ0_isLatin1_aae02_13 ?_
  refine s_goto 18 C dJ0_isLatin1_aae02_14 (by decide) ?_
  exact s_zret C E dJ0_isLatin1_aae02_18 rfl ⟨rfl, rfl⟩
theorem c_J0_isEmpty (l : Launch) (G : fG) (i : Nat) (hi : i < 4) : fCt l G yJ0_isEmpty_aae02 wsJ0_isEmpty_aae02 0 0 0 0 [.ref (G.2.2.1 i)] [] (fun (v0 : Option Value) (w0 : va_W) => v0 = some (vI (bI ((lS i : Int) = 0))) ∧ w0 = []) := by
  have hl := lS_all i hi
  refine fs_met (cc := cJ0_isEmpty_aae02) (nL := 1) (ret := (some .boolean)) (by decide) rfl (Nat.le_of_ble_eq_true rfl) ?_
  intro X C E
  show fSt l G X 0 0 0 [(0, .ref (G.2.2.1 i))] [] []
  refine s_aload_n 0 C dJ0_isEmpty_aae02_0 rfl 0 rfl ?_
  refine s_getJ (v := .ref (G.2.2.2 i)) C dJ0_isEmpty_aae02_1 (by decide +kernel) (fun A U H h => (h.2.2.2.1.1 i hi).2.2.1) ?_
  refine s_tlen (N := lS i) C dJ0_isEmpty_aae02_4 (fun A U H h => (h.2.2.2.1.1 i hi).2.2.2) ?_
  refine s_if_ne 12 C dJ0_isEmpty_aae02_5 (by decide) (by omega) (fun h => ?_) (fun h => ?_)
  · refine s_iconst (z := 0) C dJ0_isEmpty_aae02_12 ?_
    exact s_zret C E dJ0_isEmpty_aae02_13 rfl ⟨congrArg (fun z => some (vI z)) (bI_0 h), rfl⟩
  · refine s_iconst (z := 1) C dJ0_isEmpty_aae02_8 ?_
    refine s_goto 13 C dJ0_isEmpty_aae02_9 (by decide) ?_
    exact s_zret C E dJ0_isEmpty_aae02_13 rfl ⟨congrArg (fun z => some (vI z)) (bI_1 h), rfl⟩
theorem c_J0_length (l : Launch) (G : fG) (i : Nat) (hi : i < 4) : fCt l G yJ0_length_8abf5 wsJ0_length_8abf5 1 20 0 0 [.ref (G.2.2.1 i)] [] (fun (v0 : Option Value) (w0 : va_W) => v0 = some (vI (lS i : Int)) ∧ w0 = []) := by
  have hl := lS_all i hi
  refine fs_met (cc := cJ0_length_8abf5) (nL := 1) (ret := (some .int)) (by decide) rfl (Nat.le_of_ble_eq_true rfl) ?_
  intro X C E
  show fSt l G X 0 0 0 [(0, .ref (G.2.2.1 i))] [] []
  refine s_aload_n 0 C dJ0_length_8abf5_0 rfl 0 rfl ?_
  refine s_getJ (v := .ref (G.2.2.2 i)) C dJ0_length_8abf5_1 (by decide +kernel) (fun A U H h => (h.2.2.2.1.1 i hi).2.2.1) ?_
  refine s_tlen (N := lS i) C dJ0_length_8abf5_4 (fun A U H h => (h.2.2.2.1.1 i hi).2.2.2) ?_
  refine s_aload_n 0 C dJ0_length_8abf5_5 rfl 0 rfl ?_
  refine s_callJ (As := []) (rest := [vI (lS i : Int)]) i hi C dJ0_length_8abf5_6 (c_J0_coder l G i hi) gJ0_length_8abf5_J0_coder_7d493 rfl 0 (by decide +kernel) (by decide) rfl rfl (Nat.le_of_ble_eq_true rfl) ⟨Nat.zero_le _, Nat.zero_le _⟩ ?_
  intro v0 w0 hq
  obtain ⟨rfl, rfl⟩ := hq
  refine ⟨rfl, ?_⟩
  show fSt l G X 0 0 9 [(0, .ref (G.2.2.1 i))] [vI 0, vI (lS i : Int)] []
  refine s_ishr (z := (lS i : Int)) C dJ0_length_8abf5_9 hl.1 ?_
  exact s_iret C E dJ0_length_8abf5_10 ⟨rfl, rfl⟩
theorem c_J3_checkIndex (l : Launch) (G : fG) (x y : Int) (v : Value) (hv : v = .null ∨ ∃ t : Nat, v = .ref t) (hx : 0 ≤ x ∧ x < y ∧ y < 2147483648) : fCt l G yJ3_checkIndex_8e157 wsJ3_checkIndex_8e157 0 0 0 0 [vI x, vI y, v] [] (fun (v0 : Option Value) (w0 : va_W) => v0 = some (vI x) ∧ w0 = []) := by
  rcases hv with rfl | ⟨t, rfl⟩
  · refine fs_met (cc := cJ3_checkIndex_8e157) (nL := 3) (ret := (some .int)) (by decide) rfl (Nat.le_of_ble_eq_true rfl) ?_
    intro X C E
    show fSt l G X 0 0 0 [(0, vI x), (1, vI y), (2, .null)] [] []
    refine s_iload_n 0 C dJ3_checkIndex_8e157_0 rfl 0 rfl ?_
    refine s_if_lt 9 C dJ3_checkIndex_8e157_1 (by decide) (by omega) (fun h => absurd h (by omega)) (fun h => ?_)
    refine s_iload_n 0 C dJ3_checkIndex_8e157_4 rfl 0 rfl ?_
    refine s_iload_n 1 C dJ3_checkIndex_8e157_5 rfl 1 rfl ?_
    refine s_icmp_lt 16 C dJ3_checkIndex_8e157_6 (by decide) (by omega) (by omega) (fun h => ?_) (fun h => absurd h (by omega))
    refine s_iload_n 0 C dJ3_checkIndex_8e157_16 rfl 0 rfl ?_
    exact s_iret C E dJ3_checkIndex_8e157_17 ⟨rfl, rfl⟩
  · refine fs_met (cc := cJ3_checkIndex_8e157) (nL := 3) (ret := (some .int)) (by decide) rfl (Nat.le_of_ble_eq_true rfl) ?_
    intro X C E
    show fSt l G X 0 0 0 [(0, vI x), (1, vI y), (2, .ref t)] [] []
    refine s_iload_n 0 C dJ3_checkIndex_8e157_0 rfl 0 rfl ?_
    refine s_if_lt 9 C dJ3_checkIndex_8e157_1 (by decide) (by omega) (fun h => absurd h (by omega)) (fun h => ?_)
    refine s_iload_n 0 C dJ3_checkIndex_8e157_4 rfl 0 rfl ?_
    refine s_iload_n 1 C dJ3_checkIndex_8e157_5 rfl 1 rfl ?_
    refine s_icmp_lt 16 C dJ3_checkIndex_8e157_6 (by decide) (by omega) (by omega) (fun h => ?_) (fun h => absurd h (by omega))
    refine s_iload_n 0 C dJ3_checkIndex_8e157_16 rfl 0 rfl ?_
    exact s_iret C E dJ3_checkIndex_8e157_17 ⟨rfl, rfl⟩
theorem c_J0_checkIndex (l : Launch) (G : fG) (x y : Int) (hx : 0 ≤ x ∧ x < y ∧ y < 2147483648) : fCt l G yJ0_checkIndex_df160 wsJ0_checkIndex_df160 1 22 0 0 [vI x, vI y] [] (fun (v0 : Option Value) (w0 : va_W) => v0 = none ∧ w0 = []) := by
  refine fs_met (cc := cJ0_checkIndex_df160) (nL := 2) (ret := none) (by decide) rfl (Nat.le_of_ble_eq_true rfl) ?_
  intro X C E
  show fSt l G X 0 0 0 [(0, vI x), (1, vI y)] [] []
  refine s_iload_n 0 C dJ0_checkIndex_df160_0 rfl 0 rfl ?_
  refine s_iload_n 1 C dJ0_checkIndex_df160_1 rfl 1 rfl ?_
  refine s_getsq C dJ0_checkIndex_df160_2 (by decide +kernel) (fun A U H h => h.2.2.2.2.2) ?_ (fun t => ?_)
  · refine s_callS (As := [vI x, vI y, .null]) (rest := []) C dJ0_checkIndex_df160_5 (c_J3_checkIndex l G x y .null (Or.inl rfl) hx) gJ0_checkIndex_df160_J3_checkIndex_8e157 rfl 3 (by decide +kernel) (by decide) [] rfl rfl rfl (Nat.le_of_ble_eq_true rfl) ⟨Nat.zero_le _, Nat.zero_le _⟩ ?_
    intro v0 w0 hq
    obtain ⟨rfl, rfl⟩ := hq
    refine ⟨rfl, ?_⟩
    show fSt l G X 0 0 8 [(0, vI x), (1, vI y)] [vI x] []
    refine s_pop C dJ0_checkIndex_df160_8 ?_
    exact s_vret C E dJ0_checkIndex_df160_9 ⟨rfl, rfl⟩
  · refine s_callS (As := [vI x, vI y, .ref t]) (rest := []) C dJ0_checkIndex_df160_5 (c_J3_checkIndex l G x y (.ref t) (Or.inr ⟨t, rfl⟩) hx) gJ0_checkIndex_df160_J3_checkIndex_8e157 rfl 3 (by decide +kernel) (by decide) [] rfl rfl rfl (Nat.le_of_ble_eq_true rfl) ⟨Nat.zero_le _, Nat.zero_le _⟩ ?_
    intro v0 w0 hq
    obtain ⟨rfl, rfl⟩ := hq
    refine ⟨rfl, ?_⟩
    show fSt l G X 0 0 8 [(0, vI x), (1, vI y)] [vI x] []
    refine s_pop C dJ0_checkIndex_df160_8 ?_
    exact s_vret C E dJ0_checkIndex_df160_9 ⟨rfl, rfl⟩
theorem c_J1_charAt (l : Launch) (G : fG) (i : Nat) (z : Int) (hi : i < 4) (hz : 0 ≤ z ∧ z < (lS i : Int)) : fCt l G yJ1_charAt_3b067 wsJ1_charAt_3b067 2 43 0 0 [.ref (G.2.2.2 i), vI z] [] (fun (v0 : Option Value) (w0 : va_W) => v0 = some (vI (cS i z)) ∧ w0 = []) := by
  have hl := lS_all i hi
  have hc := cS_all i hi z.toNat (by omega)
  rw [Int.toNat_of_nonneg hz.1] at hc
  refine fs_met (cc := cJ1_charAt_3b067) (nL := 2) (ret := (some .char)) (by decide) rfl (Nat.le_of_ble_eq_true rfl) ?_
  intro X C E
  show fSt l G X 0 0 0 [(0, .ref (G.2.2.2 i)), (1, vI z)] [] []
  refine s_iload_n 1 C dJ1_charAt_3b067_0 rfl 1 rfl ?_
  refine s_aload_n 0 C dJ1_charAt_3b067_1 rfl 0 rfl ?_
  refine s_tlen (N := lS i) C dJ1_charAt_3b067_2 (fun A U H h => (h.2.2.2.1.1 i hi).2.2.2) ?_
  refine s_callS (As := [vI z, vI (lS i : Int)]) (rest := []) C dJ1_charAt_3b067_3 (c_J0_checkIndex l G z (lS i : Int) (by omega)) gJ1_charAt_3b067_J0_checkIndex_df160 rfl 2 (by decide +kernel) (by decide) [] rfl rfl rfl (Nat.le_of_ble_eq_true rfl) ⟨Nat.zero_le _, Nat.zero_le _⟩ ?_
  intro v0 w0 hq
  obtain ⟨rfl, rfl⟩ := hq
  refine ⟨rfl, ?_⟩
  show fSt l G X 0 0 6 [(0, .ref (G.2.2.2 i)), (1, vI z)] [] []
  refine s_aload_n 0 C dJ1_charAt_3b067_6 rfl 0 rfl ?_
  refine s_iload_n 1 C dJ1_charAt_3b067_7 rfl 1 rfl ?_
  refine s_tbld (N := lS i) (v := .int (bS i z.toNat)) C dJ1_charAt_3b067_8 (fun A U H h => (h.2.2.2.1.1 i hi).2.2.2) hz.1 hz.2 (by omega) rfl ?_
  refine s_sipush (z := 255) C dJ1_charAt_3b067_9 rfl ?_
  refine s_iand (z := cS i z) C dJ1_charAt_3b067_12 hc.2.1 ?_
  refine s_i2c C dJ1_charAt_3b067_13 hc.2.2.1 hc.2.2.2 ?_
  exact s_zret C E dJ1_charAt_3b067_14 (narC hc.2.2.1 hc.2.2.2) ⟨rfl, rfl⟩
theorem c_J0_charAt (l : Launch) (G : fG) (i : Nat) (z : Int) (hi : i < 4) (hz : 0 ≤ z ∧ z < (lS i : Int)) : fCt l G yJ0_charAt_5068e wsJ0_charAt_5068e 3 64 0 0 [.ref (G.2.2.1 i), vI z] [] (fun (v0 : Option Value) (w0 : va_W) => v0 = some (vI (cS i z)) ∧ w0 = []) := by
  have hl := lS_all i hi
  have hc := cS_all i hi z.toNat (by omega)
  rw [Int.toNat_of_nonneg hz.1] at hc
  refine fs_met (cc := cJ0_charAt_5068e) (nL := 2) (ret := (some .char)) (by decide) rfl (Nat.le_of_ble_eq_true rfl) ?_
  intro X C E
  show fSt l G X 0 0 0 [(0, .ref (G.2.2.1 i)), (1, vI z)] [] []
  refine s_aload_n 0 C dJ0_charAt_5068e_0 rfl 0 rfl ?_
  refine s_callJ (As := []) (rest := []) i hi C dJ0_charAt_5068e_1 (c_J0_isLatin1 l G i hi) gJ0_charAt_5068e_J0_isLatin1_aae02 rfl 0 (by decide +kernel) (by decide) rfl rfl (Nat.le_of_ble_eq_true rfl) ⟨Nat.zero_le _, Nat.zero_le _⟩ ?_
  intro v0 w0 hq
  obtain ⟨rfl, rfl⟩ := hq
  refine ⟨rfl, ?_⟩
  show fSt l G X 0 0 4 [(0, .ref (G.2.2.1 i)), (1, vI z)] [vI 1] []
  refine s_if_eq 16 C dJ0_charAt_5068e_4 (by decide) (by decide) (fun h => absurd h (by decide)) (fun h => ?_)
  refine s_aload_n 0 C dJ0_charAt_5068e_7 rfl 0 rfl ?_
  refine s_getJ (v := .ref (G.2.2.2 i)) C dJ0_charAt_5068e_8 (by decide +kernel) (fun A U H h => (h.2.2.2.1.1 i hi).2.2.1) ?_
  refine s_iload_n 1 C dJ0_charAt_5068e_11 rfl 1 rfl ?_
  refine s_callS (As := [.ref (G.2.2.2 i), vI z]) (rest := []) C dJ0_charAt_5068e_12 (c_J1_charAt l G i z hi hz) gJ0_charAt_5068e_J1_charAt_3b067 rfl 2 (by decide +kernel) (by decide) [] rfl rfl rfl (Nat.le_of_ble_eq_true rfl) ⟨Nat.zero_le _, Nat.zero_le _⟩ ?_
  intro v0 w0 hq
  obtain ⟨rfl, rfl⟩ := hq
  refine ⟨rfl, ?_⟩
  show fSt l G X 0 0 15 [(0, .ref (G.2.2.1 i)), (1, vI z)] [vI (cS i z)] []
  exact s_zret C E dJ0_charAt_5068e_15 (narC hc.2.2.1 hc.2.2.2) ⟨rfl, rfl⟩

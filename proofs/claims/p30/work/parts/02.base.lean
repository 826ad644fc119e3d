/-! ===== the machine's ints as integers ===== -/
def iZ (z : Int) : Int32 := Int32.ofInt z
theorem iZ_add (x y : Int) : iZ x + iZ y = iZ (x + y) := (Int32.ofInt_add x y).symm
theorem iZ_sub (x y : Int) : iZ x - iZ y = iZ (x - y) := (Int32.ofInt_sub x y).symm
theorem iZ_mul (x y : Int) : iZ x * iZ y = iZ (x * y) := (Int32.ofInt_mul x y).symm
theorem iZ_int {z : Int} (h : -2147483648 ≤ z ∧ z < 2147483648) : (iZ z).toInt = z := Int32.toInt_ofInt_of_le h.1 h.2
theorem iZ_of (x : Int32) : iZ x.toInt = x := Int32.ofInt_toInt x
theorem iZ_rng (x : Int32) : -2147483648 ≤ x.toInt ∧ x.toInt < 2147483648 := ⟨Int32.le_toInt x, Int32.toInt_lt x⟩
theorem iZ_eq {x y : Int} (hx : -2147483648 ≤ x ∧ x < 2147483648) (hy : -2147483648 ≤ y ∧ y < 2147483648) : iZ x = iZ y ↔ x = y := by rw [← Int32.toInt_inj, iZ_int hx, iZ_int hy]
theorem iZ_lt {x y : Int} (hx : -2147483648 ≤ x ∧ x < 2147483648) (hy : -2147483648 ≤ y ∧ y < 2147483648) : iZ x < iZ y ↔ x < y := by rw [Int32.lt_iff_toInt_lt, iZ_int hx, iZ_int hy]
theorem iZ_le {x y : Int} (hx : -2147483648 ≤ x ∧ x < 2147483648) (hy : -2147483648 ≤ y ∧ y < 2147483648) : iZ x ≤ iZ y ↔ x ≤ y := by rw [Int32.le_iff_toInt_le, iZ_int hx, iZ_int hy]
theorem iZ_nI (n : Nat) : nI n = iZ n := Int32.ofInt_eq_ofNat.symm
theorem iZ_cl {z : Int} (h0 : 0 ≤ z) (h1 : z < 2147483648) : (iZ z).toNatClampNeg = z.toNat := Int32.toNatClampNeg_ofInt_of_le (by omega) h1
theorem iZ_neg {z : Int} (h0 : 0 ≤ z) (h1 : z < 2147483648) : ¬ iZ z < 0 := by
  rw [show (0 : Int32) = iZ 0 from rfl, iZ_lt (by omega) (by omega)]
  omega
theorem iZ_in {z : Int} {N : Nat} (h0 : 0 ≤ z) (h1 : z < N) (hN : N ≤ 2147483648) : vp_in (iZ z) N := by
  rintro (h | h)
  · exact iZ_neg h0 (by omega) h
  · rw [iZ_cl h0 (by omega)] at h
    omega
def aZ (f : Int → Int) : Nat → Int32 := fun j => iZ (f (j : Int))
def uZ (f : Int → Int) (k v : Int) : Int → Int := fun j => if j = k then v else f j
theorem uZ_s {f : Int → Int} {k v : Int} : uZ f k v k = v := if_pos rfl
theorem uZ_n {f : Int → Int} {k v j : Int} (h : j ≠ k) : uZ f k v j = f j := if_neg h
theorem aZ_at {f : Int → Int} {z : Int} (h0 : 0 ≤ z) (h1 : z < 2147483648) : aZ f (iZ z).toNatClampNeg = iZ (f z) := by
  rw [iZ_cl h0 h1]
  simp only [aZ]
  rw [Int.toNat_of_nonneg h0]
theorem aZ_up {f : Int → Int} {z v : Int} (h0 : 0 ≤ z) (h1 : z < 2147483648) : upd (aZ f) (iZ z).toNatClampNeg (iZ v) = aZ (uZ f z v) := by
  rw [iZ_cl h0 h1]
  funext j
  simp only [upd, aZ, uZ]
  by_cases h : j = z.toNat
  · rw [if_pos h, if_pos (by omega)]
  · rw [if_neg h, if_neg (by omega)]
theorem nar_z {v : Int} (h : v = 0 ∨ v = 1) : vp_nar .boolean (iZ v) = iZ v := by
  rcases h with rfl | rfl <;> rfl
theorem nar_c {v : Int} (h0 : 0 ≤ v) (h1 : v < 65536) : vp_nar .char (iZ v) = iZ v := by
  have h := (pk_charN (q := v.toNat) (by omega)).1
  rw [iZ_nI, Int.toNat_of_nonneg h0] at h
  unfold vp_nar
  rw [h]
theorem i2c_z {v : Int} (h0 : 0 ≤ v) (h1 : v < 65536) : ((iZ v).toUInt32 % 65536).toInt32 = iZ v := by
  have e : iZ v = nI v.toNat := by rw [iZ_nI, Int.toNat_of_nonneg h0]
  rw [e, pk_char, pk_tn (by omega), Nat.mod_eq_of_lt (by omega)]
/-! ===== cells ===== -/
abbrev vI (z : Int) : Value := .int (iZ z)
abbrev cA (a : Nat) (c : ClassId) (N : Nat) (f : Int → Int) : Nat × va_E := (a, .inl (c, N, .inl (aZ f)))
abbrev cQ (a : Nat) (c : ClassId) (N : Nat) (f : Nat → Option Nat) : Nat × va_E := (a, .inl (c, N, .inr (.inr (.inr (.inr f)))))
abbrev cO (a ci : Nat) (vs : List Value) : Nat × va_E := (a, .inr (ci, vs))
abbrev tCs : Type := ClassId × ClassId × ClassId × ClassId × ClassId
abbrev tT (cs : tCs) : List (ClassId × FieldType) := [(cs.1, .int), (cs.2.1, .boolean), (cs.2.2.1, .char), (cs.2.2.2.1, .object "FencedStandbys$Store"), (cs.2.2.2.2, .long)]
abbrev fG : Type := va_G × tCs × Nat × Nat × (Nat → Int32)
/-! ===== what a method may take for granted of the machine's tables and constants ===== -/
def fNL : List (String × Nat × MethodName × String) := [(RX6, 9, yX4_init, RX6), (RX4, 11, yX1_init, RX6), (RX4, 20, yX3_init, RX6), (RX0, 21, yX4_init, RX6), (RX6, 25, yX2_init, RX6), (RX6, 32, yX5_init, RX6), (RX5, 11, yX4_init, RX6), (RX4, 60, yX6_isSlot, RX6), (RX4, 66, yX6_isKey, RX6), (RX4, 77, yX6_isStandby, RX6), (RX4, 114, yX6_isTicks, RX6)]
def fEn (G : fG) (A : Nat → Prop) (U : State) (H : Heap) : Prop :=
  va_K G.1 vwCl (tT G.2.1) U ∧ (∀ q ∈ fNL, va_Nw (.methodLinkNest q.1 q.2.1 q.2.2.1 q.2.2.2) U) ∧ va_X G.2.2.1 G.2.2.2.1 G.2.2.2.2 U H ∧ G.2.2.1 < H.size ∧ ¬ A G.2.2.1
theorem fEn.warm {G : fG} {A A1 : Nat → Prop} {s U : State} {H : Heap} {locs : List Loc} (h : fEn G A s s.heap) (hS : va_S A s.heap H locs) (hA : ∀ q, A1 q → A q) (hW : s.WarmedH U.vm) : fEn G A1 U H := by
  obtain ⟨h1, h2, h3, h4, h5⟩ := h
  exact ⟨va_K.moved hW.alike h1, fun q hq => va_Nw.warmM hW (h2 q hq), va_X.moved hW.alike (va_X.kept h3 (hS.2.1 _ h4 h5)), Nat.lt_of_lt_of_le h4 hS.1, fun q => h5 (hA _ q)⟩
theorem fEn.blind {G : fG} {A : Nat → Prop} {U : State} {H : Heap} (g : JFrame) (mk : MethodId) (a : Array Value) (h : fEn G A U H) : fEn G A (U.calling g mk a) H := by
  obtain ⟨h1, h2, h3, h4, h5⟩ := h
  have ha : U.vm.Alike (U.calling g mk a).vm := Vm.Alike.refl U.vm
  exact ⟨va_K.moved ha h1, fun q hq => va_Nw.same rfl rfl (h2 q hq), va_X.moved ha h3, h4, h5⟩
/-! ===== a contract: from the cells W0, with what fEn says, the answer and the cells behind are as post says; only W0's cells and new ones are written ===== -/
def fQ (D : va_G) (post : Option Value → va_W → Prop) (A : Nat → Prop) : Array Value → State → Outcome → State → Prop := fun _ st oc t => (∃ (v : Option Value) (w : va_W), oc = .returned v ∧ post v w ∧ va_P D vwCl w t.heap ∧ va_D A w) ∧ va_F A st t
def fPc (G : fG) (av : List Value) (W0 : va_W) (sz : Nat) : Array Value → State → Prop := va_Pc av (fun U => U.heap.size = sz ∧ va_P G.1 vwCl W0 U.heap ∧ va_D (fun _ => True) W0 ∧ fEn G (va_A W0 sz) U U.heap)
def fCt (l : Launch) (G : fG) (y : MethodName) (wc : List Cond) (fr lo mc ms : Nat) (av : List Value) (W0 : va_W) (post : Option Value → va_W → Prop) : Prop :=
  ∀ sz : Nat, Met l y wc { frames := fr, cells := mc, slots := ms, locals := lo } (fPc G av W0 sz) (fQ G.1 post (va_A W0 sz)) mc ms (va_A W0 sz)
theorem fPc.blind {G : fG} {av : List Value} {W0 : va_W} {sz : Nat} : FrameBlind (fPc G av W0 sz) := fun a U g mk q => by
  obtain ⟨q0, q1, q2, q3, q4⟩ := q
  exact ⟨q0, q1, q2, q3, q4.blind g mk a⟩
/-! ===== the state of a walk ===== -/
abbrev fX : Type := Program × Env × Room × State × MethodId × Array Value × List Frame × Method × Code × (State → Prop) × (Nat → Prop) × Heap × Nat
def fSt (l : Launch) (G : fG) (X : fX) (k n pc : Nat) (lv : List (Nat × Value)) (st : List Value) (ws : va_W) : Prop :=
  match X with
  | (p, e, R, s, m, args, below, meth, c, Q, A, H0, nL) => ∀ (H : Heap) (locs : List Loc) (ls : Array Slot), va_P G.1 vwCl ws H → va_D A ws → va_S A H0 H locs → lv_has ls nL lv → W p l e R s m args below meth c H locs k n Q (F0 m pc ls st)
def fC (G : fG) (X : fX) (own : String) (cc : ByteArray) (Ts : List Cond) (nL fr lo mc ms : Nat) : Prop :=
  match X with
  | (p, e, R, s, m, args, below, meth, c, Q, A, H0, nL') => p.tables.exec = Jvm.exec ∧ c.code = cc ∧ c.maxLocals = nL' ∧ nL' = nL ∧ s.vm.findClass own = some m.cls ∧ (∀ w ∈ Ts, w.before args s = true) ∧ fEn G A s s.heap ∧ (∀ q, H0.size ≤ q → A q) ∧ H0 = s.heap ∧ R = { frames := fr, cells := mc, slots := ms, locals := lo }
def fE (G : fG) (X : fX) (ret : Option FieldType) (nm : String) (post : Option Value → va_W → Prop) (mc ms : Nat) : Prop :=
  match X with
  | (p, e, R, s, m, args, below, meth, c, Q, A, H0, nL) => meth.sig.returnType = ret ∧ meth.locks = false ∧ meth.name = nm ∧ Q = MQ below (fQ G.1 post A) args s mc ms A
theorem fs_met {l : Launch} {G : fG} {y : MethodName} {cc : ByteArray} {nL : Nat} {ret : Option FieldType} {wc ws' : List Cond} {fr lo mc ms : Nat} {av : List Value} {W0 : va_W} {post : Option Value → va_W → Prop}
    (hy : plainName y.cls = true) (hw : wc = Cond.code y cc nL ret :: ws') (hn : (lg_sl av).length ≤ nL)
    (body : ∀ X : fX, fC G X y.cls cc wc nL fr lo mc ms → fE G X ret y.name post mc ms → fSt l G X 0 0 0 (lv_args 0 av) [] W0) : fCt l G y wc fr lo mc ms av W0 post := by
  intro sz
  refine Met.ofW (cc := cc) (maxL := nL) (ret := ret) hy hw ?_
  intro p e s m args below meth c s₁ B hml hv
  obtain ⟨rfl, hsz, hP, hD0, hE⟩ := hv
  subst hsz
  have hD := hD0.self (sz := s.heap.size)
  have hA : ∀ q : Nat, s.heap.size ≤ q → va_A W0 s.heap.size q := fun q h => Or.inr h
  have b := body (p, e, (headSpec wc { frames := fr, cells := mc, slots := ms, locals := lo }).room, s, m, av.toArray, below, meth, c, MQ below (fQ G.1 post (va_A W0 s.heap.size)) av.toArray s mc ms (va_A W0 s.heap.size), va_A W0 s.heap.size, s.heap, nL)
    ⟨B.exec, B.bytes, hml, rfl, findClass_of_methodNamed B.named, atoms_spec (ws := wc) B.pre, hE, hA, rfl, rfl⟩ ⟨B.returns, B.notSynchronized, (name_of_methodNamed B.named B.method).1, rfl⟩
  rw [lg_entry_eq]
  exact b s.heap [] _ hP hD va_S.rf (lv_entry av hn)
/-! ===== the rows ===== -/
section FS
variable {l : Launch} {G : fG} {X : fX} {own : String} {cc : ByteArray} {Ts : List Cond} {nL fr lo mc ms k n pc : Nat} {lv : List (Nat × Value)} {st : List Value} {ws : va_W}
theorem s_iconst {z : Int} (C : fC G X own cc Ts nL fr lo mc ms) (hdg : decode cc pc = .ok (.iconst z, 1)) (K : fSt l G X k n (pc + 1) lv (vI z :: st) ws) : fSt l G X k n pc lv st ws := by
  obtain ⟨p, e, R, s, m, args, below, meth, c, Q, A, H0, nL'⟩ := X
  obtain ⟨hx, hb, -⟩ := C
  intro H locs ls hP hD hS hl
  exact lv_iconst hx hb hdg rfl (K H locs ls hP hD hS hl)
theorem s_bipush {z : Int} (C : fC G X own cc Ts nL fr lo mc ms) (hdg : decode cc pc = .ok (.bipush z, 2)) (hv : (Int8.ofInt z).toInt32 = iZ z) (K : fSt l G X k n (pc + 2) lv (vI z :: st) ws) : fSt l G X k n pc lv st ws := by
  obtain ⟨p, e, R, s, m, args, below, meth, c, Q, A, H0, nL'⟩ := X
  obtain ⟨hx, hb, -⟩ := C
  intro H locs ls hP hD hS hl
  exact lv_bipush hx hb hdg hv (K H locs ls hP hD hS hl)
theorem s_sipush {z : Int} (C : fC G X own cc Ts nL fr lo mc ms) (hdg : decode cc pc = .ok (.sipush z, 3)) (hv : (Int16.ofInt z).toInt32 = iZ z) (K : fSt l G X k n (pc + 3) lv (vI z :: st) ws) : fSt l G X k n pc lv st ws := by
  obtain ⟨p, e, R, s, m, args, below, meth, c, Q, A, H0, nL'⟩ := X
  obtain ⟨hx, hb, -⟩ := C
  intro H locs ls hP hD hS hl
  exact lv_sipush hx hb hdg hv (K H locs ls hP hD hS hl)
theorem s_ldc {z : Int} {idx : Nat} (C : fC G X own cc Ts nL fr lo mc ms) (hm : Cond.constant own idx (iZ z) ∈ Ts) (hdg : decode cc pc = .ok (.ldc idx, 2)) (K : fSt l G X k n (pc + 2) lv (vI z :: st) ws) : fSt l G X k n pc lv st ws := by
  obtain ⟨p, e, R, s, m, args, below, meth, c, Q, A, H0, nL'⟩ := X
  obtain ⟨hx, hb, -, -, hown, hts, -⟩ := C
  intro H locs ls hP hD hS hl
  exact lv_ldc hx hb hown (hts _ hm) hdg (K H locs ls hP hD hS hl)
theorem s_iload_n {f4 : Fin 4} (i : Nat) {z : Int} (C : fC G X own cc Ts nL fr lo mc ms) (hdg : decode cc pc = .ok (.iload_n f4, 1)) (hi : (f4 : Nat) = i) (j : Nat) (hj : lv[j]? = some (i, vI z)) (K : fSt l G X k n (pc + 1) lv (vI z :: st) ws) : fSt l G X k n pc lv st ws := by
  obtain ⟨p, e, R, s, m, args, below, meth, c, Q, A, H0, nL'⟩ := X
  obtain ⟨hx, hb, -⟩ := C
  intro H locs ls hP hD hS hl
  exact lv_iload_n hx hb hdg hi (lv_at hl j hj) (K H locs ls hP hD hS hl)
theorem s_iload {i : Nat} {z : Int} (C : fC G X own cc Ts nL fr lo mc ms) (hdg : decode cc pc = .ok (.iload i, 2)) (j : Nat) (hj : lv[j]? = some (i, vI z)) (K : fSt l G X k n (pc + 2) lv (vI z :: st) ws) : fSt l G X k n pc lv st ws := by
  obtain ⟨p, e, R, s, m, args, below, meth, c, Q, A, H0, nL'⟩ := X
  obtain ⟨hx, hb, -⟩ := C
  intro H locs ls hP hD hS hl
  exact lv_iload hx hb hdg (lv_at hl j hj) (K H locs ls hP hD hS hl)
theorem s_aload_n {f4 : Fin 4} (i : Nat) {z : Nat} (C : fC G X own cc Ts nL fr lo mc ms) (hdg : decode cc pc = .ok (.aload_n f4, 1)) (hi : (f4 : Nat) = i) (j : Nat) (hj : lv[j]? = some (i, .ref z)) (K : fSt l G X k n (pc + 1) lv (.ref z :: st) ws) : fSt l G X k n pc lv st ws := by
  obtain ⟨p, e, R, s, m, args, below, meth, c, Q, A, H0, nL'⟩ := X
  obtain ⟨hx, hb, -⟩ := C
  intro H locs ls hP hD hS hl
  exact lv_aload_n hx hb hdg hi (lv_at hl j hj) (K H locs ls hP hD hS hl)
theorem s_aload {i : Nat} {z : Nat} (C : fC G X own cc Ts nL fr lo mc ms) (hdg : decode cc pc = .ok (.aload i, 2)) (j : Nat) (hj : lv[j]? = some (i, .ref z)) (K : fSt l G X k n (pc + 2) lv (.ref z :: st) ws) : fSt l G X k n pc lv st ws := by
  obtain ⟨p, e, R, s, m, args, below, meth, c, Q, A, H0, nL'⟩ := X
  obtain ⟨hx, hb, -⟩ := C
  intro H locs ls hP hD hS hl
  exact lv_aload hx hb hdg (lv_at hl j hj) (K H locs ls hP hD hS hl)
theorem s_istore_n {f4 : Fin 4} (i : Nat) {z : Int} (lv' : List (Nat × Value)) (C : fC G X own cc Ts nL fr lo mc ms) (hdg : decode cc pc = .ok (.istore_n f4, 1)) (hi : (f4 : Nat) = i) (hn : i < nL) (hl' : (i, vI z) :: lv.filter (fun q => !(q.1 == i) && !(q.1 + 1 == i && q.2.category == 2)) = lv') (K : fSt l G X k n (pc + 1) lv' st ws) : fSt l G X k n pc lv (vI z :: st) ws := by
  obtain ⟨p, e, R, s, m, args, below, meth, c, Q, A, H0, nL'⟩ := X
  obtain ⟨hx, hb, -, rfl, -⟩ := C
  intro H locs ls hP hD hS hl
  exact lv_istore_n hx hb hdg hi hl hn hl' (fun ls hl => K H locs ls hP hD hS hl)
theorem s_istore {i : Nat} {z : Int} (lv' : List (Nat × Value)) (C : fC G X own cc Ts nL fr lo mc ms) (hdg : decode cc pc = .ok (.istore i, 2)) (hn : i < nL) (hl' : (i, vI z) :: lv.filter (fun q => !(q.1 == i) && !(q.1 + 1 == i && q.2.category == 2)) = lv') (K : fSt l G X k n (pc + 2) lv' st ws) : fSt l G X k n pc lv (vI z :: st) ws := by
  obtain ⟨p, e, R, s, m, args, below, meth, c, Q, A, H0, nL'⟩ := X
  obtain ⟨hx, hb, -, rfl, -⟩ := C
  intro H locs ls hP hD hS hl
  exact lv_istore hx hb hdg hl hn hl' (fun ls hl => K H locs ls hP hD hS hl)
theorem s_astore_n {f4 : Fin 4} (i : Nat) {z : Nat} (lv' : List (Nat × Value)) (C : fC G X own cc Ts nL fr lo mc ms) (hdg : decode cc pc = .ok (.astore_n f4, 1)) (hi : (f4 : Nat) = i) (hn : i < nL) (hl' : (i, Value.ref z) :: lv.filter (fun q => !(q.1 == i) && !(q.1 + 1 == i && q.2.category == 2)) = lv') (K : fSt l G X k n (pc + 1) lv' st ws) : fSt l G X k n pc lv (.ref z :: st) ws := by
  obtain ⟨p, e, R, s, m, args, below, meth, c, Q, A, H0, nL'⟩ := X
  obtain ⟨hx, hb, -, rfl, -⟩ := C
  intro H locs ls hP hD hS hl
  exact lv_astore_n hx hb hdg hi hl hn hl' (fun ls hl => K H locs ls hP hD hS hl)
theorem s_astore {i : Nat} {z : Nat} (lv' : List (Nat × Value)) (C : fC G X own cc Ts nL fr lo mc ms) (hdg : decode cc pc = .ok (.astore i, 2)) (hn : i < nL) (hl' : (i, Value.ref z) :: lv.filter (fun q => !(q.1 == i) && !(q.1 + 1 == i && q.2.category == 2)) = lv') (K : fSt l G X k n (pc + 2) lv' st ws) : fSt l G X k n pc lv (.ref z :: st) ws := by
  obtain ⟨p, e, R, s, m, args, below, meth, c, Q, A, H0, nL'⟩ := X
  obtain ⟨hx, hb, -, rfl, -⟩ := C
  intro H locs ls hP hD hS hl
  exact lv_astore hx hb hdg hl hn hl' (fun ls hl => K H locs ls hP hD hS hl)
theorem s_iinc {i : Nat} {d z : Int} (lv' : List (Nat × Value)) (C : fC G X own cc Ts nL fr lo mc ms) (hdg : decode cc pc = .ok (.iinc i d, 3)) (j : Nat) (hj : lv[j]? = some (i, vI z)) (hn : i < nL) (hl' : (i, vI (z + d)) :: lv.filter (fun q => !(q.1 == i) && !(q.1 + 1 == i && q.2.category == 2)) = lv') (K : fSt l G X k n (pc + 3) lv' st ws) : fSt l G X k n pc lv st ws := by
  obtain ⟨p, e, R, s, m, args, below, meth, c, Q, A, H0, nL'⟩ := X
  obtain ⟨hx, hb, -, rfl, -⟩ := C
  intro H locs ls hP hD hS hl
  exact lv_iinc hx hb hdg hl hj (iZ_add z d) hn hl' (fun ls hl => K H locs ls hP hD hS hl)
theorem s_iadd {x y : Int} (C : fC G X own cc Ts nL fr lo mc ms) (hdg : decode cc pc = .ok (.iadd, 1)) (K : fSt l G X k n (pc + 1) lv (vI (x + y) :: st) ws) : fSt l G X k n pc lv (vI y :: vI x :: st) ws := by
  obtain ⟨p, e, R, s, m, args, below, meth, c, Q, A, H0, nL'⟩ := X
  obtain ⟨hx, hb, -⟩ := C
  intro H locs ls hP hD hS hl
  refine lv_iadd hx hb hdg ?_
  rw [iZ_add]
  exact K H locs ls hP hD hS hl
theorem s_isub {x y : Int} (C : fC G X own cc Ts nL fr lo mc ms) (hdg : decode cc pc = .ok (.isub, 1)) (K : fSt l G X k n (pc + 1) lv (vI (x - y) :: st) ws) : fSt l G X k n pc lv (vI y :: vI x :: st) ws := by
  obtain ⟨p, e, R, s, m, args, below, meth, c, Q, A, H0, nL'⟩ := X
  obtain ⟨hx, hb, -⟩ := C
  intro H locs ls hP hD hS hl
  refine lv_isub hx hb hdg ?_
  rw [iZ_sub]
  exact K H locs ls hP hD hS hl
theorem s_imul {x y : Int} (C : fC G X own cc Ts nL fr lo mc ms) (hdg : decode cc pc = .ok (.imul, 1)) (K : fSt l G X k n (pc + 1) lv (vI (x * y) :: st) ws) : fSt l G X k n pc lv (vI y :: vI x :: st) ws := by
  obtain ⟨p, e, R, s, m, args, below, meth, c, Q, A, H0, nL'⟩ := X
  obtain ⟨hx, hb, -⟩ := C
  intro H locs ls hP hD hS hl
  refine lv_imul hx hb hdg ?_
  rw [iZ_mul]
  exact K H locs ls hP hD hS hl
theorem s_i2c {x : Int} (C : fC G X own cc Ts nL fr lo mc ms) (hdg : decode cc pc = .ok (.i2c, 1)) (h0 : 0 ≤ x) (h1 : x < 65536) (K : fSt l G X k n (pc + 1) lv (vI x :: st) ws) : fSt l G X k n pc lv (vI x :: st) ws := by
  obtain ⟨p, e, R, s, m, args, below, meth, c, Q, A, H0, nL'⟩ := X
  obtain ⟨hx, hb, -⟩ := C
  intro H locs ls hP hD hS hl
  exact lv_i2c hx hb hdg (i2c_z h0 h1) (K H locs ls hP hD hS hl)
theorem s_dup {v : Value} (C : fC G X own cc Ts nL fr lo mc ms) (hdg : decode cc pc = .ok (.dup, 1)) (hv : v.category = 1) (K : fSt l G X k n (pc + 1) lv (v :: v :: st) ws) : fSt l G X k n pc lv (v :: st) ws := by
  obtain ⟨p, e, R, s, m, args, below, meth, c, Q, A, H0, nL'⟩ := X
  obtain ⟨hx, hb, -⟩ := C
  intro H locs ls hP hD hS hl
  exact lv_dup hx hb hdg hv (K H locs ls hP hD hS hl)
theorem s_dup2 {v w : Value} (C : fC G X own cc Ts nL fr lo mc ms) (hdg : decode cc pc = .ok (.dup2, 1)) (hv : v.category = 1) (hw : w.category = 1) (K : fSt l G X k n (pc + 1) lv (v :: w :: v :: w :: st) ws) : fSt l G X k n pc lv (v :: w :: st) ws := by
  obtain ⟨p, e, R, s, m, args, below, meth, c, Q, A, H0, nL'⟩ := X
  obtain ⟨hx, hb, -⟩ := C
  intro H locs ls hP hD hS hl
  exact lv_dup2_11 hx hb hdg hv hw (K H locs ls hP hD hS hl)
theorem s_goto {off : Int} (tgt : Nat) (C : fC G X own cc Ts nL fr lo mc ms) (hdg : decode cc pc = .ok (.goto off, 3)) (ht : (pc : Int) + off = (tgt : Int)) (K : fSt l G X k n tgt lv st ws) : fSt l G X k n pc lv st ws := by
  obtain ⟨p, e, R, s, m, args, below, meth, c, Q, A, H0, nL'⟩ := X
  obtain ⟨hx, hb, -⟩ := C
  intro H locs ls hP hD hS hl
  exact lv_goto hx hb hdg ht (K H locs ls hP hD hS hl)
theorem s_if_eq {x off : Int} (tgt : Nat) (C : fC G X own cc Ts nL fr lo mc ms) (hdg : decode cc pc = .ok (.ifCond .eq off, 3)) (ht : (pc : Int) + off = (tgt : Int)) (hx0 : -2147483648 ≤ x ∧ x < 2147483648) (kt : x = 0 → fSt l G X k n tgt lv st ws) (kf : ¬ x = 0 → fSt l G X k n (pc + 3) lv st ws) : fSt l G X k n pc lv (vI x :: st) ws := by
  obtain ⟨p, e, R, s, m, args, below, meth, c, Q, A, H0, nL'⟩ := X
  obtain ⟨hx, hb, -⟩ := C
  intro H locs ls hP hD hS hl
  have e0 := iZ_eq hx0 (by omega : -2147483648 ≤ (0:Int) ∧ (0:Int) < 2147483648)
  rw [show iZ 0 = 0 from rfl] at e0
  refine lv_if_eq hx hb hdg ht (fun h => kt ?_ H locs ls hP hD hS hl) (fun h => kf ?_ H locs ls hP hD hS hl)
  · first
      | exact e0.mp h
      | exact mt e0.mpr h
  · first
      | exact e0.mp h
      | exact mt e0.mpr h
      | exact Int.not_lt.mp (mt e0.mpr h)
      | exact Int.not_le.mp (mt e0.mpr h)
theorem s_if_ne {x off : Int} (tgt : Nat) (C : fC G X own cc Ts nL fr lo mc ms) (hdg : decode cc pc = .ok (.ifCond .ne off, 3)) (ht : (pc : Int) + off = (tgt : Int)) (hx0 : -2147483648 ≤ x ∧ x < 2147483648) (kt : x ≠ 0 → fSt l G X k n tgt lv st ws) (kf : x = 0 → fSt l G X k n (pc + 3) lv st ws) : fSt l G X k n pc lv (vI x :: st) ws := by
  obtain ⟨p, e, R, s, m, args, below, meth, c, Q, A, H0, nL'⟩ := X
  obtain ⟨hx, hb, -⟩ := C
  intro H locs ls hP hD hS hl
  have e0 := iZ_eq hx0 (by omega : -2147483648 ≤ (0:Int) ∧ (0:Int) < 2147483648)
  rw [show iZ 0 = 0 from rfl] at e0
  refine lv_if_ne hx hb hdg ht (fun h => kt ?_ H locs ls hP hD hS hl) (fun h => kf ?_ H locs ls hP hD hS hl)
  · first
      | exact e0.mp h
      | exact mt e0.mpr h
  · first
      | exact e0.mp h
      | exact mt e0.mpr h
      | exact Int.not_lt.mp (mt e0.mpr h)
      | exact Int.not_le.mp (mt e0.mpr h)
theorem s_if_lt {x off : Int} (tgt : Nat) (C : fC G X own cc Ts nL fr lo mc ms) (hdg : decode cc pc = .ok (.ifCond .lt off, 3)) (ht : (pc : Int) + off = (tgt : Int)) (hx0 : -2147483648 ≤ x ∧ x < 2147483648) (kt : x < 0 → fSt l G X k n tgt lv st ws) (kf : 0 ≤ x → fSt l G X k n (pc + 3) lv st ws) : fSt l G X k n pc lv (vI x :: st) ws := by
  obtain ⟨p, e, R, s, m, args, below, meth, c, Q, A, H0, nL'⟩ := X
  obtain ⟨hx, hb, -⟩ := C
  intro H locs ls hP hD hS hl
  have e0 := iZ_lt hx0 (by omega : -2147483648 ≤ (0:Int) ∧ (0:Int) < 2147483648)
  rw [show iZ 0 = 0 from rfl] at e0
  refine lv_if_lt hx hb hdg ht (fun h => kt ?_ H locs ls hP hD hS hl) (fun h => kf ?_ H locs ls hP hD hS hl)
  · first
      | exact e0.mp h
      | exact mt e0.mpr h
  · first
      | exact e0.mp h
      | exact mt e0.mpr h
      | exact Int.not_lt.mp (mt e0.mpr h)
      | exact Int.not_le.mp (mt e0.mpr h)
theorem s_if_ge {x off : Int} (tgt : Nat) (C : fC G X own cc Ts nL fr lo mc ms) (hdg : decode cc pc = .ok (.ifCond .ge off, 3)) (ht : (pc : Int) + off = (tgt : Int)) (hx0 : -2147483648 ≤ x ∧ x < 2147483648) (kt : 0 ≤ x → fSt l G X k n tgt lv st ws) (kf : x < 0 → fSt l G X k n (pc + 3) lv st ws) : fSt l G X k n pc lv (vI x :: st) ws := by
  obtain ⟨p, e, R, s, m, args, below, meth, c, Q, A, H0, nL'⟩ := X
  obtain ⟨hx, hb, -⟩ := C
  intro H locs ls hP hD hS hl
  have e0 := iZ_le (by omega : -2147483648 ≤ (0:Int) ∧ (0:Int) < 2147483648) hx0
  rw [show iZ 0 = 0 from rfl] at e0
  refine lv_if_ge hx hb hdg ht (fun h => kt ?_ H locs ls hP hD hS hl) (fun h => kf ?_ H locs ls hP hD hS hl)
  · first
      | exact e0.mp h
      | exact mt e0.mpr h
  · first
      | exact e0.mp h
      | exact mt e0.mpr h
      | exact Int.not_lt.mp (mt e0.mpr h)
      | exact Int.not_le.mp (mt e0.mpr h)
theorem s_if_gt {x off : Int} (tgt : Nat) (C : fC G X own cc Ts nL fr lo mc ms) (hdg : decode cc pc = .ok (.ifCond .gt off, 3)) (ht : (pc : Int) + off = (tgt : Int)) (hx0 : -2147483648 ≤ x ∧ x < 2147483648) (kt : 0 < x → fSt l G X k n tgt lv st ws) (kf : x ≤ 0 → fSt l G X k n (pc + 3) lv st ws) : fSt l G X k n pc lv (vI x :: st) ws := by
  obtain ⟨p, e, R, s, m, args, below, meth, c, Q, A, H0, nL'⟩ := X
  obtain ⟨hx, hb, -⟩ := C
  intro H locs ls hP hD hS hl
  have e0 := iZ_lt (by omega : -2147483648 ≤ (0:Int) ∧ (0:Int) < 2147483648) hx0
  rw [show iZ 0 = 0 from rfl] at e0
  refine lv_if_gt hx hb hdg ht (fun h => kt ?_ H locs ls hP hD hS hl) (fun h => kf ?_ H locs ls hP hD hS hl)
  · first
      | exact e0.mp h
      | exact mt e0.mpr h
  · first
      | exact e0.mp h
      | exact mt e0.mpr h
      | exact Int.not_lt.mp (mt e0.mpr h)
      | exact Int.not_le.mp (mt e0.mpr h)
theorem s_if_le {x off : Int} (tgt : Nat) (C : fC G X own cc Ts nL fr lo mc ms) (hdg : decode cc pc = .ok (.ifCond .le off, 3)) (ht : (pc : Int) + off = (tgt : Int)) (hx0 : -2147483648 ≤ x ∧ x < 2147483648) (kt : x ≤ 0 → fSt l G X k n tgt lv st ws) (kf : 0 < x → fSt l G X k n (pc + 3) lv st ws) : fSt l G X k n pc lv (vI x :: st) ws := by
  obtain ⟨p, e, R, s, m, args, below, meth, c, Q, A, H0, nL'⟩ := X
  obtain ⟨hx, hb, -⟩ := C
  intro H locs ls hP hD hS hl
  have e0 := iZ_le hx0 (by omega : -2147483648 ≤ (0:Int) ∧ (0:Int) < 2147483648)
  rw [show iZ 0 = 0 from rfl] at e0
  refine lv_if_le hx hb hdg ht (fun h => kt ?_ H locs ls hP hD hS hl) (fun h => kf ?_ H locs ls hP hD hS hl)
  · first
      | exact e0.mp h
      | exact mt e0.mpr h
  · first
      | exact e0.mp h
      | exact mt e0.mpr h
      | exact Int.not_lt.mp (mt e0.mpr h)
      | exact Int.not_le.mp (mt e0.mpr h)
theorem s_icmp_eq {x y off : Int} (tgt : Nat) (C : fC G X own cc Ts nL fr lo mc ms) (hdg : decode cc pc = .ok (.if_icmp .eq off, 3)) (ht : (pc : Int) + off = (tgt : Int)) (hx0 : -2147483648 ≤ x ∧ x < 2147483648) (hy0 : -2147483648 ≤ y ∧ y < 2147483648) (kt : x = y → fSt l G X k n tgt lv st ws) (kf : ¬ x = y → fSt l G X k n (pc + 3) lv st ws) : fSt l G X k n pc lv (vI y :: vI x :: st) ws := by
  obtain ⟨p, e, R, s, m, args, below, meth, c, Q, A, H0, nL'⟩ := X
  obtain ⟨hx, hb, -⟩ := C
  intro H locs ls hP hD hS hl
  have e0 := iZ_eq hx0 hy0
  refine lv_icmp_eq hx hb hdg ht (fun h => kt ?_ H locs ls hP hD hS hl) (fun h => kf ?_ H locs ls hP hD hS hl)
  · first
      | exact e0.mp h
      | exact mt e0.mpr h
  · first
      | exact e0.mp h
      | exact mt e0.mpr h
      | exact Int.not_lt.mp (mt e0.mpr h)
      | exact Int.not_le.mp (mt e0.mpr h)
theorem s_icmp_ne {x y off : Int} (tgt : Nat) (C : fC G X own cc Ts nL fr lo mc ms) (hdg : decode cc pc = .ok (.if_icmp .ne off, 3)) (ht : (pc : Int) + off = (tgt : Int)) (hx0 : -2147483648 ≤ x ∧ x < 2147483648) (hy0 : -2147483648 ≤ y ∧ y < 2147483648) (kt : x ≠ y → fSt l G X k n tgt lv st ws) (kf : x = y → fSt l G X k n (pc + 3) lv st ws) : fSt l G X k n pc lv (vI y :: vI x :: st) ws := by
  obtain ⟨p, e, R, s, m, args, below, meth, c, Q, A, H0, nL'⟩ := X
  obtain ⟨hx, hb, -⟩ := C
  intro H locs ls hP hD hS hl
  have e0 := iZ_eq hx0 hy0
  refine lv_icmp_ne hx hb hdg ht (fun h => kt ?_ H locs ls hP hD hS hl) (fun h => kf ?_ H locs ls hP hD hS hl)
  · first
      | exact e0.mp h
      | exact mt e0.mpr h
  · first
      | exact e0.mp h
      | exact mt e0.mpr h
      | exact Int.not_lt.mp (mt e0.mpr h)
      | exact Int.not_le.mp (mt e0.mpr h)
theorem s_icmp_lt {x y off : Int} (tgt : Nat) (C : fC G X own cc Ts nL fr lo mc ms) (hdg : decode cc pc = .ok (.if_icmp .lt off, 3)) (ht : (pc : Int) + off = (tgt : Int)) (hx0 : -2147483648 ≤ x ∧ x < 2147483648) (hy0 : -2147483648 ≤ y ∧ y < 2147483648) (kt : x < y → fSt l G X k n tgt lv st ws) (kf : y ≤ x → fSt l G X k n (pc + 3) lv st ws) : fSt l G X k n pc lv (vI y :: vI x :: st) ws := by
  obtain ⟨p, e, R, s, m, args, below, meth, c, Q, A, H0, nL'⟩ := X
  obtain ⟨hx, hb, -⟩ := C
  intro H locs ls hP hD hS hl
  have e0 := iZ_lt hx0 hy0
  refine lv_icmp_lt hx hb hdg ht (fun h => kt ?_ H locs ls hP hD hS hl) (fun h => kf ?_ H locs ls hP hD hS hl)
  · first
      | exact e0.mp h
      | exact mt e0.mpr h
  · first
      | exact e0.mp h
      | exact mt e0.mpr h
      | exact Int.not_lt.mp (mt e0.mpr h)
      | exact Int.not_le.mp (mt e0.mpr h)
theorem s_icmp_ge {x y off : Int} (tgt : Nat) (C : fC G X own cc Ts nL fr lo mc ms) (hdg : decode cc pc = .ok (.if_icmp .ge off, 3)) (ht : (pc : Int) + off = (tgt : Int)) (hx0 : -2147483648 ≤ x ∧ x < 2147483648) (hy0 : -2147483648 ≤ y ∧ y < 2147483648) (kt : y ≤ x → fSt l G X k n tgt lv st ws) (kf : x < y → fSt l G X k n (pc + 3) lv st ws) : fSt l G X k n pc lv (vI y :: vI x :: st) ws := by
  obtain ⟨p, e, R, s, m, args, below, meth, c, Q, A, H0, nL'⟩ := X
  obtain ⟨hx, hb, -⟩ := C
  intro H locs ls hP hD hS hl
  have e0 := iZ_le hy0 hx0
  refine lv_icmp_ge hx hb hdg ht (fun h => kt ?_ H locs ls hP hD hS hl) (fun h => kf ?_ H locs ls hP hD hS hl)
  · first
      | exact e0.mp h
      | exact mt e0.mpr h
  · first
      | exact e0.mp h
      | exact mt e0.mpr h
      | exact Int.not_lt.mp (mt e0.mpr h)
      | exact Int.not_le.mp (mt e0.mpr h)
theorem s_icmp_gt {x y off : Int} (tgt : Nat) (C : fC G X own cc Ts nL fr lo mc ms) (hdg : decode cc pc = .ok (.if_icmp .gt off, 3)) (ht : (pc : Int) + off = (tgt : Int)) (hx0 : -2147483648 ≤ x ∧ x < 2147483648) (hy0 : -2147483648 ≤ y ∧ y < 2147483648) (kt : y < x → fSt l G X k n tgt lv st ws) (kf : x ≤ y → fSt l G X k n (pc + 3) lv st ws) : fSt l G X k n pc lv (vI y :: vI x :: st) ws := by
  obtain ⟨p, e, R, s, m, args, below, meth, c, Q, A, H0, nL'⟩ := X
  obtain ⟨hx, hb, -⟩ := C
  intro H locs ls hP hD hS hl
  have e0 := iZ_lt hy0 hx0
  refine lv_icmp_gt hx hb hdg ht (fun h => kt ?_ H locs ls hP hD hS hl) (fun h => kf ?_ H locs ls hP hD hS hl)
  · first
      | exact e0.mp h
      | exact mt e0.mpr h
  · first
      | exact e0.mp h
      | exact mt e0.mpr h
      | exact Int.not_lt.mp (mt e0.mpr h)
      | exact Int.not_le.mp (mt e0.mpr h)
theorem s_icmp_le {x y off : Int} (tgt : Nat) (C : fC G X own cc Ts nL fr lo mc ms) (hdg : decode cc pc = .ok (.if_icmp .le off, 3)) (ht : (pc : Int) + off = (tgt : Int)) (hx0 : -2147483648 ≤ x ∧ x < 2147483648) (hy0 : -2147483648 ≤ y ∧ y < 2147483648) (kt : x ≤ y → fSt l G X k n tgt lv st ws) (kf : y < x → fSt l G X k n (pc + 3) lv st ws) : fSt l G X k n pc lv (vI y :: vI x :: st) ws := by
  obtain ⟨p, e, R, s, m, args, below, meth, c, Q, A, H0, nL'⟩ := X
  obtain ⟨hx, hb, -⟩ := C
  intro H locs ls hP hD hS hl
  have e0 := iZ_le hx0 hy0
  refine lv_icmp_le hx hb hdg ht (fun h => kt ?_ H locs ls hP hD hS hl) (fun h => kf ?_ H locs ls hP hD hS hl)
  · first
      | exact e0.mp h
      | exact mt e0.mpr h
  · first
      | exact e0.mp h
      | exact mt e0.mpr h
      | exact Int.not_lt.mp (mt e0.mpr h)
      | exact Int.not_le.mp (mt e0.mpr h)
end FS

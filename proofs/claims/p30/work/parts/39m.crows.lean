/-! ===== what new objects hold ===== -/
abbrev zF : Int → Int := fun _ => 0
abbrev zQ : Nat → Option Nat := fun _ => none
def aC (x0 x1 x2 x3 x4 x5 x6 x7 x8 x9 x10 x11 : Nat) : Nat → Nat := fun i => match i with
  | 0 => x0
  | 1 => x1
  | 2 => x2
  | 3 => x3
  | 4 => x4
  | 5 => x5
  | 6 => x6
  | 7 => x7
  | 8 => x8
  | 9 => x9
  | 10 => x10
  | _ => x11
def cI : Nat → Int := bC 0 0 1 0 0 0 0 4 2 0 0 0 0 0 0
def FI : Nat → Int → Int := fun _ => zF
def sC5 (a0 a1 a2 a3 a4 : Nat → Nat) : Nat → Nat → Nat := fun i => match i with
  | 0 => a0
  | 1 => a1
  | 2 => a2
  | 3 => a3
  | _ => a4
/-- the array class over Store is the only one of its kind: what the two constructors above an array of Stores want besides -/
def fPcA (G : fG) (av : List Value) (W0 : va_W) (sz : Nat) : Array Value → State → Prop := fun a U => fPc G av W0 sz a U ∧ va_AO "FencedStandbys$Store" U
def fCtA (l : Launch) (G : fG) (y : MethodName) (wc : List Cond) (fr lo mc ms : Nat) (av : List Value) (W0 : va_W) (post : Option Value → va_W → Prop) : Prop :=
  ∀ sz : Nat, Met l y wc { frames := fr, cells := mc, slots := ms, locals := lo } (fPcA G av W0 sz) (fQ G.1 post (va_A W0 sz)) mc ms (va_A W0 sz)
theorem fPcA.blind {G : fG} {av : List Value} {W0 : va_W} {sz : Nat} : FrameBlind (fPcA G av W0 sz) := fun a U g mk q => by
  obtain ⟨q0, q1⟩ := q
  have ha : U.vm.Alike (U.calling g mk a).vm := Vm.Alike.refl U.vm
  exact ⟨fPc.blind a U g mk q0, va_AO.moved ha q1⟩
def sZ (X : fX) : Prop := match X with
  | (p, e, R, s, m, args, below, meth, c, Q, A, H0, nL) => va_AO "FencedStandbys$Store" s
theorem fs_metA {l : Launch} {G : fG} {y : MethodName} {cc : ByteArray} {nL : Nat} {ret : Option FieldType} {wc ws' : List Cond} {fr lo mc ms : Nat} {av : List Value} {W0 : va_W} {post : Option Value → va_W → Prop}
    (hy : plainName y.cls = true) (hw : wc = Cond.code y cc nL ret :: ws') (hn : (lg_sl av).length ≤ nL)
    (body : ∀ X : fX, sZ X → fC G X y.cls cc wc nL fr lo mc ms → fE G X ret y.name post mc ms → fSt l G X 0 0 0 (lv_args 0 av) [] W0) : fCtA l G y wc fr lo mc ms av W0 post := by
  intro sz
  refine Met.ofW (cc := cc) (maxL := nL) (ret := ret) hy hw ?_
  intro p e s m args below meth c s₁ B hml hv
  obtain ⟨⟨rfl, hsz, hP, hD0, hE⟩, hZ⟩ := hv
  subst hsz
  have hD := hD0.self (sz := s.heap.size)
  have hA : ∀ q : Nat, s.heap.size ≤ q → va_A W0 s.heap.size q := fun q h => Or.inr h
  have b := body (p, e, (headSpec wc { frames := fr, cells := mc, slots := ms, locals := lo }).room, s, m, av.toArray, below, meth, c, MQ below (fQ G.1 post (va_A W0 s.heap.size)) av.toArray s mc ms (va_A W0 s.heap.size), va_A W0 s.heap.size, s.heap, nL) hZ
    ⟨B.exec, B.bytes, hml, rfl, findClass_of_methodNamed B.named, atoms_spec (ws := wc) B.pre, hE, hA, rfl, rfl⟩ ⟨B.returns, B.notSynchronized, (name_of_methodNamed B.named B.method).1, rfl⟩
  rw [lg_entry_eq]
  exact b s.heap [] _ hP hD va_S.rf (lv_entry av hn)
section FCA
variable {l : Launch} {G : fG} {X : fX} {own : String} {cc : ByteArray} {Ts : List Cond} {nL fr lo mc ms k n pc idx : Nat} {lv : List (Nat × Value)} {st st0 rest : List Value} {ws : va_W}
  {y : MethodName} {bytes : ByteArray} {maxL fr' lo' mc' ms' : Nat} {ret' : Option FieldType} {wc ws'' : List Cond} {As : List Value} {W0 : va_W} {post' : Option Value → va_W → Prop} {b : Nat}
theorem s_newaQ {N : Nat} {z : Int} (C0 : fC G X own cc Ts nL fr lo mc ms) (hZ : sZ X) (hdg : decode cc pc = .ok (.anewarray idx, 3)) (hcl : Cond.classLink own idx "FencedStandbys$Store" ∈ Ts) (hz : z = (N : Int)) (hN : N ≤ 100000) (hk : k + 1 ≤ mc) (hn : n + N ≤ ms)
    (K : ∀ q : Nat, fSt l G X (k + 1) (n + N) (pc + 3) lv (.ref q :: st) (ws ++ [cQ q G.2.1.2.2.2.1 N (fun _ => none)])) : fSt l G X k n pc lv (vI z :: st) ws := by
  subst hz
  obtain ⟨p, e, R, s, m, args, below, meth, c, Q, A, H0, nL'⟩ := X
  obtain ⟨hx, hb, hml, rfl, hown, hts, hE, hA, rfl, rfl⟩ := C0
  intro H locs ls hP hD hS hl
  refine va_newq (N' := N) hx hb hown (hts _ hcl) hZ hE.1 hP hD hS hA (iZ_neg (by omega) (by omega)) (by rw [iZ_cl (by omega) (by omega)]; omega) (by omega) hk hn hdg (fun q c1 H1 hK1 hP1 hD1 hS1 => ?_)
  obtain ⟨kA1, cp1, -, -, -, e1⟩ := (hK1.2 5 (c1, .object "FencedStandbys$Store") rfl).2
  obtain ⟨kA2, cp2, -, -, -, e2⟩ := (hE.1.2 3 (G.2.1.2.2.2.1, .object "FencedStandbys$Store") rfl).2
  have ec : c1 = G.2.1.2.2.2.1 := Option.some.inj (e1.symm.trans e2)
  subst ec
  exact K q H1 locs ls hP1 hD1 hS1 hl
theorem s_callINA {host : String} {wr : va_W} (C0 : fC G X own cc Ts nL fr lo mc ms) (hZ : sZ X) (hdg : decode cc pc = .ok (.invokespecial idx, 3)) (hM : fCtA l G y wc fr' lo' mc' ms' (.ref b :: As) W0 post') (hG : GoodIn Ts wc) (hnest : (own, idx, y, host) ∈ fNL) (hinst : Cond.instanceMethod y ∈ Ts) (hini : Cond.initialized y.cls ∈ Ts) (hy1 : y.name = "<init>") (hw : wc = Cond.code y bytes maxL none :: ws'') (na : Nat)
    (hd : y.cls ≠ "java/lang/invoke/MethodHandle" ∧ y.cls ≠ "java/lang/invoke/VarHandle" ∧ (parseMethodDescriptor y.desc).map (fun d => d.parameters.length) = some na) (hR : fr' + 1 ≤ fr ∧ 8 + (maxL + 11) + lo' ≤ lo)
    (isC isR : List Nat) (hC : isC.map (fun i => ws[i]?) = W0.map some) (hnd : va_nd isC = true) (hCR : isR.map (fun i => ws[i]?) = wr.map some) (hndR : va_nd isR = true) (hdis : ∀ i ∈ isR, i ∉ isC) (hAs : As.length = na) (hst : (rest.map fun v => v.category).sum ≤ 8) (hkn : k + mc' ≤ mc ∧ n + ms' ≤ ms)
    (kk : ∀ (v : Option Value) (w : va_W), post' v w → fSt l G X (k + mc') (n + ms') (pc + 3) lv (v.toList ++ rest) (wr ++ w)) : fSt l G X k n pc lv (As.reverse ++ .ref b :: rest) ws := by
  obtain ⟨p, e, R, s, m, args, below, meth, c, Q, A, H0, nL'⟩ := X
  obtain ⟨hx, hb, hml, rfl, hown, hts, hE, hA, rfl, rfl⟩ := C0
  intro H locs ls hP hD hS hl
  have hF := va_free hD hS hA isC hC
  have hPc := fs_subP hP isC hC
  have hDc := fs_sub hD isC hC hnd
  have hpre := fs_PreS (av := .ref b :: As) (ws := ws) hE hS hF hPc hDc
  refine fs_after (va_runIN (As := As) (rest := rest) ⟨hx, hb, hml, hown, hts⟩ (hM H.size) ⟨va_cnB na hts hG hw rfl rfl (hE.2.1 _ hnest) (hts _ hini) hd hR, hy1, hts _ hinst⟩ ⟨fPcA.blind, fun U hU hW => ⟨hpre U hU hW, va_AO.moved hW.alike hZ⟩⟩ rfl hAs hl.1 rfl (lv_room hst) hdg hkn) hS hF (fun v w H1 locs1 hp hP1 hD1 hk1 hS1 => ?_)
  obtain ⟨hP2, hD2⟩ := va_join hP hD isC isR hC hCR hndR hdis hk1 hF hP1 hD1
  exact kk v w hp H1 locs1 ls hP2 hD2 hS1 hl
theorem s_callIA {wr : va_W} (C0 : fC G X own cc Ts nL fr lo mc ms) (hZ : sZ X) (hdg : decode cc pc = .ok (.invokespecial idx, 3)) (hM : fCtA l G y wc fr' lo' mc' ms' (.ref b :: As) W0 post') (hG : GoodIn Ts wc) (hlink : Cond.methodLink own idx y ∈ Ts) (hinst : Cond.instanceMethod y ∈ Ts) (hini : Cond.initialized y.cls ∈ Ts) (hy1 : y.name = "<init>") (hw : wc = Cond.code y bytes maxL none :: ws'') (na : Nat)
    (hd : y.cls ≠ "java/lang/invoke/MethodHandle" ∧ y.cls ≠ "java/lang/invoke/VarHandle" ∧ (parseMethodDescriptor y.desc).map (fun d => d.parameters.length) = some na) (hR : fr' + 1 ≤ fr ∧ 8 + (maxL + 11) + lo' ≤ lo)
    (isC isR : List Nat) (hC : isC.map (fun i => ws[i]?) = W0.map some) (hnd : va_nd isC = true) (hCR : isR.map (fun i => ws[i]?) = wr.map some) (hndR : va_nd isR = true) (hdis : ∀ i ∈ isR, i ∉ isC) (hAs : As.length = na) (hst : (rest.map fun v => v.category).sum ≤ 8) (hkn : k + mc' ≤ mc ∧ n + ms' ≤ ms)
    (kk : ∀ (v : Option Value) (w : va_W), post' v w → fSt l G X (k + mc') (n + ms') (pc + 3) lv (v.toList ++ rest) (wr ++ w)) : fSt l G X k n pc lv (As.reverse ++ .ref b :: rest) ws := by
  obtain ⟨p, e, R, s, m, args, below, meth, c, Q, A, H0, nL'⟩ := X
  obtain ⟨hx, hb, hml, rfl, hown, hts, hE, hA, rfl, rfl⟩ := C0
  intro H locs ls hP hD hS hl
  have hF := va_free hD hS hA isC hC
  have hPc := fs_subP hP isC hC
  have hDc := fs_sub hD isC hC hnd
  have hpre := fs_PreS (av := .ref b :: As) (ws := ws) hE hS hF hPc hDc
  refine fs_after (va_runI (As := As) (rest := rest) ⟨hx, hb, hml, hown, hts⟩ (hM H.size) (cwI na hts hG hw rfl rfl (hts _ hini) (hts _ hlink) (hts _ hinst) hy1 hd hR) ⟨fPcA.blind, fun U hU hW => ⟨hpre U hU hW, va_AO.moved hW.alike hZ⟩⟩ rfl hAs hl.1 rfl (lv_room hst) hdg hkn) hS hF (fun v w H1 locs1 hp hP1 hD1 hk1 hS1 => ?_)
  obtain ⟨hP2, hD2⟩ := va_join hP hD isC isR hC hCR hndR hdis hk1 hF hP1 hD1
  exact kk v w hp H1 locs1 ls hP2 hD2 hS1 hl
end FCA

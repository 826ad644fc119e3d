/-! ===== calls ===== -/
def fs_rep (ws : va_W) (is : List Nat) (w1 : va_W) : va_W := (is.zip w1).foldl (fun w q => w.set q.1 q.2) ws
theorem fs_rep_get : ∀ (z : List (Nat × (Nat × va_E))) (ws : va_W) (i : Nat) (q : Nat × va_E), (z.foldl (fun w q => w.set q.1 q.2) ws)[i]? = some q → (i, q) ∈ z ∨ ((∀ p ∈ z, p.1 ≠ i) ∧ ws[i]? = some q) := by
  intro z
  induction z with
  | nil =>
    intro ws i q h
    exact Or.inr ⟨fun p hp => absurd hp List.not_mem_nil, h⟩
  | cons a z ih =>
    intro ws i q h
    rcases ih (ws.set a.1 a.2) i q h with h1 | ⟨h1, h2⟩
    · exact Or.inl (List.mem_cons_of_mem _ h1)
    · by_cases hi : a.1 = i
      · subst hi
        have hl : a.1 < ws.length := by
          have := (List.getElem?_eq_some_iff.mp h2).1
          simpa using this
        rw [List.getElem?_set_self hl] at h2
        cases h2
        exact Or.inl List.mem_cons_self
      · rw [List.getElem?_set_ne hi] at h2
        refine Or.inr ⟨fun p hp => ?_, h2⟩
        rcases List.mem_cons.mp hp with rfl | hp
        · exact hi
        · exact h1 p hp
theorem fs_rep_ok {D : va_G} {cl : List vw_C} {A : Nat → Prop} {ws wc w1 : va_W} {H H1 : Heap} (is : List Nat) (hP : va_P D cl ws H) (hD : va_D A ws) (hC : is.map (fun i => ws[i]?) = wc.map some) (hw : w1.map Prod.fst = wc.map Prod.fst) (hk : ∀ q : Nat, q < H.size → ¬ va_A wc H.size q → H1[q]? = H[q]?) (hP1 : va_P D cl w1 H1) : va_P D cl (fs_rep ws is w1) H1 ∧ va_D A (fs_rep ws is w1) := by
  have hlen : is.length = wc.length := by simpa using congrArg List.length hC
  have hlen1 : w1.length = wc.length := by simpa using congrArg List.length hw
  -- a place of the callee's cells
  have hat : ∀ j : Nat, j < wc.length → ∃ (i : Nat) (q : Nat × va_E) (q1 : Nat × va_E), is[j]? = some i ∧ wc[j]? = some q ∧ ws[i]? = some q ∧ w1[j]? = some q1 ∧ q1.1 = q.1 := by
    intro j hj
    obtain ⟨i, hi⟩ : ∃ i, is[j]? = some i := ⟨_, List.getElem?_eq_getElem (by omega)⟩
    obtain ⟨q, hq⟩ : ∃ q, wc[j]? = some q := ⟨_, List.getElem?_eq_getElem hj⟩
    obtain ⟨q1, hq1⟩ : ∃ q, w1[j]? = some q := ⟨_, List.getElem?_eq_getElem (by omega)⟩
    refine ⟨i, q, q1, hi, hq, ?_, hq1, ?_⟩
    · have h := congrArg (fun l => l[j]?) hC
      simp only [List.getElem?_map, hi, hq, Option.map_some] at h
      exact Option.some.inj h
    · have h := congrArg (fun l => l[j]?) hw
      simp only [List.getElem?_map, hq1, hq, Option.map_some] at h
      exact Option.some.inj h
  have hget : ∀ (i : Nat) (q : Nat × va_E), (fs_rep ws is w1)[i]? = some q → (∃ j : Nat, is[j]? = some i ∧ w1[j]? = some q ∧ ∃ q0, ws[i]? = some q0 ∧ q.1 = q0.1) ∨ ((∀ j : Nat, is[j]? ≠ some i) ∧ ws[i]? = some q) := by
    intro i q h
    rcases fs_rep_get _ _ _ _ h with h1 | ⟨h1, h2⟩
    · obtain ⟨j, hj⟩ := List.getElem?_of_mem h1
      rw [List.getElem?_zip_eq_some] at hj
      have hjl : j < wc.length := by
        have := (List.getElem?_eq_some_iff.mp hj.1).1
        omega
      obtain ⟨i', q0, q1, e1, e2, e3, e4, e5⟩ := hat j hjl
      rw [hj.1] at e1
      rw [hj.2] at e4
      cases e1
      cases e4
      exact Or.inl ⟨j, hj.1, hj.2, q0, e3, e5⟩
    · refine Or.inr ⟨fun j hj => ?_, h2⟩
      have hjl : j < wc.length := by
        have := (List.getElem?_eq_some_iff.mp hj).1
        omega
      obtain ⟨i', q0, q1, e1, e2, e3, e4, e5⟩ := hat j hjl
      have hm : (is.zip w1)[j]? = some (i', q1) := List.getElem?_zip_eq_some.mpr ⟨e1, e4⟩
      rw [hj] at e1
      cases e1
      exact h1 _ (List.mem_of_getElem? hm) rfl
  have hadr : ∀ (i : Nat) (q : Nat × va_E), (fs_rep ws is w1)[i]? = some q → ∃ q0, ws[i]? = some q0 ∧ q.1 = q0.1 := by
    intro i q h
    rcases hget i q h with ⟨j, -, -, q0, h1, h2⟩ | ⟨-, h2⟩
    · exact ⟨q0, h1, h2⟩
    · exact ⟨q, h2, rfl⟩
  refine ⟨fun i q h => ?_, fun i j x y hx hy hxy => ?_, fun i q h => ?_⟩
  · rcases hget i q h with ⟨j, -, h2, -⟩ | ⟨h1, h2⟩
    · exact hP1 j q h2
    · refine (hP i q h2).kept (hk q.1 (hP i q h2).lt (fun hA => ?_))
      rcases hA with ⟨j, e, hj⟩ | hA
      · have hjl : j < wc.length := (List.getElem?_eq_some_iff.mp hj).1
        obtain ⟨i', q0, q1, e1, e2, e3, e4, e5⟩ := hat j hjl
        rw [hj] at e2
        cases e2
        have := hD.1 i i' q _ h2 e3 rfl
        subst this
        exact h1 j e1
      · have := (hP i q h2).lt
        omega
  · obtain ⟨x0, hx0, ex⟩ := hadr i x hx
    obtain ⟨y0, hy0, ey⟩ := hadr j y hy
    exact hD.1 i j x0 y0 hx0 hy0 (by rw [← ex, ← ey, hxy])
  · obtain ⟨q0, h1, h2⟩ := hadr i q h
    rw [h2]
    exact hD.2 i q0 h1
theorem fs_after {p : Program} {l : Launch} {e : Env} {R : Room} {s : State} {m : MethodId} {args : Array Value} {below : List Frame} {meth : Method} {c : Code} {H H0 : Heap} {locs : List Loc} {k n mc' ms' pc : Nat} {ls : Array Slot} {st0 rest : List Value} {post : Option Value → va_W → Prop} {D : va_G} {A1 A0 : Nat → Prop} {a : Array Value} {Q : State → Prop}
    (hr : va_Run p l e R s m args below meth c H locs k n mc' ms' (F0 m pc ls st0) rest (fQ D post A1 a) A1) (hS : va_S A0 H0 H locs) (hA : ∀ q, A1 q → A0 q)
    (kk : ∀ (v : Option Value) (w : va_W) (H1 : Heap) (locs1 : List Loc), post v w → va_P D vwCl w H1 → va_D A1 w → (∀ q, q < H.size → ¬ A1 q → H1[q]? = H[q]?) → va_S A0 H0 H1 locs1 → W p l e R s m args below meth c H1 locs1 (k + mc') (n + ms') Q (F0 m (pc + 3) ls (v.toList ++ rest))) : W p l e R s m args below meth c H locs k n Q (F0 m pc ls st0) := by
  intro T hT X
  obtain ⟨v, st₀, t, T', L, h0, X', hL, e1, e2, ⟨⟨v', w, hv, hp, hPw, hDw⟩, hz, hk⟩, st⟩ := hr T hT X
  cases hv
  rw [h0] at hz hk
  obtain ⟨t2, a1, b1⟩ := kk v w T'.heap (locs ++ L) hp (by rw [e1]; exact hPw) hDw (fun q h1 h2 => by rw [e1]; exact hk q h1 h2)
    ⟨Nat.le_trans hS.1 (by rw [e1]; exact hz), fun q h1 h2 => by rw [e1, hk q (Nat.lt_of_lt_of_le h1 hS.1) (fun z => h2 (hA q z))]; exact hS.2.1 q h1 h2, fun q hq => by
      rcases List.mem_append.mp hq with h | h
      · exact hS.2.2 q h
      · exact hA _ (hL q h)⟩ T' rfl X'
  exact ⟨t2, st t2 a1, b1⟩
theorem fs_PreS {G : fG} {A : Nat → Prop} {s : State} {H : Heap} {locs : List Loc} {ws W0 : va_W} {av : List Value} (hE : fEn G A s s.heap) (hS : va_S A s.heap H locs) (hF : ∀ q, va_A W0 H.size q → A q) (hPc : va_P G.1 vwCl W0 H) (hDc : va_D A W0) : ∀ U : State, U.heap = H → s.WarmedH U.vm → fPc G av W0 H.size av.toArray U := fun U hU hW =>
  ⟨rfl, by rw [hU], by rw [hU]; exact hPc, hDc.weaken (fun _ _ _ _ => trivial), by rw [hU]; exact hE.warm hS hF hW⟩
theorem fs_sub {A0 : Nat → Prop} {ws wc : va_W} (hD : va_D A0 ws) (isC : List Nat) (hC : isC.map (fun i => ws[i]?) = wc.map some) (hn : va_nd isC = true) : va_D A0 wc := hD.sub isC hn hC
theorem fs_subP {D : va_G} {ws wc : va_W} {H : Heap} (hP : va_P D vwCl ws H) (isC : List Nat) (hC : isC.map (fun i => ws[i]?) = wc.map some) : va_P D vwCl wc H := by
  intro j q hq
  have h := congrArg (fun l => l[j]?) hC
  simp only [List.getElem?_map, hq, Option.map_some] at h
  cases hi : isC[j]? with
  | none => rw [hi] at h; cases h
  | some i =>
    rw [hi] at h
    exact hP i q (Option.some.inj h)
section FCALL
variable {l : Launch} {G : fG} {X : fX} {own : String} {cc : ByteArray} {Ts : List Cond} {nL fr lo mc ms k n pc idx : Nat} {lv : List (Nat × Value)} {st0 rest : List Value} {ws : va_W}
  {y : MethodName} {bytes : ByteArray} {maxL fr' lo' mc' ms' : Nat} {ret' : Option FieldType} {wc ws'' : List Cond} {As : List Value} {W0 : va_W} {post' : Option Value → va_W → Prop} {b : Nat}
/-- a virtual call that makes no cells -/
theorem s_callV (C0 : fC G X own cc Ts nL fr lo mc ms) (hdg : decode cc pc = .ok (.invokevirtual idx, 3)) (hM : fCt l G y wc fr' lo' 0 0 (.ref b :: As) W0 post') (hG : GoodIn Ts (wsV own idx y.cls y wc)) (hw : wc = Cond.code y bytes maxL ret' :: ws'') (na : Nat)
    (hd : y.cls ≠ "java/lang/invoke/MethodHandle" ∧ y.cls ≠ "java/lang/invoke/VarHandle" ∧ (parseMethodDescriptor y.desc).map (fun d => d.parameters.length) = some na) (hR : fr' + 1 ≤ fr ∧ 8 + (maxL + 11) + lo' ≤ lo) {r : vw_C} {fs : List Value} (q0 ci : Nat) (hc : vwCl[ci]? = some r) (hcl : r.1 = y.cls) (he : ws[q0]? = some (b, .inr (ci, fs)))
    (isC : List Nat) (hC : isC.map (fun i => ws[i]?) = W0.map some) (hnd : va_nd isC = true) (hAs : As.length = na) (hst : (rest.map fun v => v.category).sum ≤ 8) (hkn : k ≤ mc ∧ n ≤ ms)
    (kk : ∀ (v : Option Value) (w : va_W), post' v w → w.map Prod.fst = W0.map Prod.fst ∧ fSt l G X k n (pc + 3) lv (v.toList ++ rest) (fs_rep ws isC w)) : fSt l G X k n pc lv (As.reverse ++ .ref b :: rest) ws := by
  obtain ⟨p, e, R, s, m, args, below, meth, c, Q, A, H0, nL'⟩ := X
  obtain ⟨hx, hb, hml, rfl, hown, hts, hE, hA, rfl, rfl⟩ := C0
  intro H locs ls hP hD hS hl
  have hF := va_free hD hS hA isC hC
  have hPc := fs_subP hP isC hC
  have hDc := fs_sub hD isC hC hnd
  have hrec := va_recv (q0 := q0) hE.1 hP hc he
  rw [hcl] at hrec
  refine fs_after (va_runV (As := As) (rest := rest) ⟨hx, hb, hml, hown, hts⟩ (hM H.size) (cwV na hts hG hw rfl rfl ⟨rfl, hd⟩ hR) ⟨fPc.blind, hrec, fs_PreS (ws := ws) hE hS hF hPc hDc⟩ rfl hAs hl.1 rfl (lv_room hst) hdg hkn) hS hF (fun v w H1 locs1 hp hP1 hD1 hk1 hS1 => ?_)
  obtain ⟨ha, K⟩ := kk v w hp
  obtain ⟨hP2, hD2⟩ := fs_rep_ok isC hP hD hC ha hk1 hP1
  exact K H1 locs1 ls hP2 hD2 hS1 hl
/-- a static call, of the same class or another -/
theorem s_callS (C0 : fC G X own cc Ts nL fr lo mc ms) (hdg : decode cc pc = .ok (.invokestatic idx, 3)) (hM : fCt l G y wc fr' lo' 0 0 As W0 post') (hG : GoodIn Ts (va_wsS own idx y wc)) (hw : wc = Cond.code y bytes maxL ret' :: ws'') (na : Nat)
    (hd : y.cls ≠ "java/lang/invoke/MethodHandle" ∧ y.cls ≠ "java/lang/invoke/VarHandle" ∧ (parseMethodDescriptor y.desc).map (fun d => d.parameters.length) = some na) (hR : fr' + 1 ≤ fr ∧ 8 + (maxL + 11) + lo' ≤ lo)
    (isC : List Nat) (hC : isC.map (fun i => ws[i]?) = W0.map some) (hnd : va_nd isC = true) (hAs : As.length = na) (hst : (rest.map fun v => v.category).sum ≤ 8) (hkn : k ≤ mc ∧ n ≤ ms)
    (kk : ∀ (v : Option Value) (w : va_W), post' v w → w.map Prod.fst = W0.map Prod.fst ∧ fSt l G X k n (pc + 3) lv (v.toList ++ rest) (fs_rep ws isC w)) : fSt l G X k n pc lv (As.reverse ++ rest) ws := by
  obtain ⟨p, e, R, s, m, args, below, meth, c, Q, A, H0, nL'⟩ := X
  obtain ⟨hx, hb, hml, rfl, hown, hts, hE, hA, rfl, rfl⟩ := C0
  intro H locs ls hP hD hS hl
  have hF := va_free hD hS hA isC hC
  have hPc := fs_subP hP isC hC
  have hDc := fs_sub hD isC hC hnd
  refine fs_after (va_runS (As := As) (rest := rest) ⟨hx, hb, hml, hown, hts⟩ (hM H.size) (va_cwS na hts hG hw rfl rfl hd hR) ⟨fPc.blind, fs_PreS (ws := ws) hE hS hF hPc hDc⟩ rfl hAs hl.1 rfl (lv_room hst) hdg hkn) hS hF (fun v w H1 locs1 hp hP1 hD1 hk1 hS1 => ?_)
  obtain ⟨ha, K⟩ := kk v w hp
  obtain ⟨hP2, hD2⟩ := fs_rep_ok isC hP hD hC ha hk1 hP1
  exact K H1 locs1 ls hP2 hD2 hS1 hl
/-- a static call of a nest mate's private method -/
theorem s_callSN {host : String} (C0 : fC G X own cc Ts nL fr lo mc ms) (hdg : decode cc pc = .ok (.invokestatic idx, 3)) (hM : fCt l G y wc fr' lo' 0 0 As W0 post') (hG : GoodIn Ts wc) (hnest : (own, idx, y, host) ∈ fNL) (hstat : Cond.static y ∈ Ts) (hini : Cond.initialized y.cls ∈ Ts) (hw : wc = Cond.code y bytes maxL ret' :: ws'') (na : Nat)
    (hd : y.cls ≠ "java/lang/invoke/MethodHandle" ∧ y.cls ≠ "java/lang/invoke/VarHandle" ∧ (parseMethodDescriptor y.desc).map (fun d => d.parameters.length) = some na) (hR : fr' + 1 ≤ fr ∧ 8 + (maxL + 11) + lo' ≤ lo)
    (isC : List Nat) (hC : isC.map (fun i => ws[i]?) = W0.map some) (hnd : va_nd isC = true) (hAs : As.length = na) (hst : (rest.map fun v => v.category).sum ≤ 8) (hkn : k ≤ mc ∧ n ≤ ms)
    (kk : ∀ (v : Option Value) (w : va_W), post' v w → w.map Prod.fst = W0.map Prod.fst ∧ fSt l G X k n (pc + 3) lv (v.toList ++ rest) (fs_rep ws isC w)) : fSt l G X k n pc lv (As.reverse ++ rest) ws := by
  obtain ⟨p, e, R, s, m, args, below, meth, c, Q, A, H0, nL'⟩ := X
  obtain ⟨hx, hb, hml, rfl, hown, hts, hE, hA, rfl, rfl⟩ := C0
  intro H locs ls hP hD hS hl
  have hF := va_free hD hS hA isC hC
  have hPc := fs_subP hP isC hC
  have hDc := fs_sub hD isC hC hnd
  refine fs_after (va_runSN (As := As) (rest := rest) ⟨hx, hb, hml, hown, hts⟩ (hM H.size) ⟨va_cnB na hts hG hw rfl rfl (hE.2.1 _ hnest) (hts _ hini) hd hR, hts _ hstat, trivial⟩ ⟨fPc.blind, fs_PreS (ws := ws) hE hS hF hPc hDc⟩ rfl hAs hl.1 rfl (lv_room hst) hdg hkn) hS hF (fun v w H1 locs1 hp hP1 hD1 hk1 hS1 => ?_)
  obtain ⟨ha, K⟩ := kk v w hp
  obtain ⟨hP2, hD2⟩ := fs_rep_ok isC hP hD hC ha hk1 hP1
  exact K H1 locs1 ls hP2 hD2 hS1 hl
/-- a constructor of a nest mate; it may make cells -/
theorem s_callIN {host : String} {wr : va_W} (C0 : fC G X own cc Ts nL fr lo mc ms) (hdg : decode cc pc = .ok (.invokespecial idx, 3)) (hM : fCt l G y wc fr' lo' mc' ms' (.ref b :: As) W0 post') (hG : GoodIn Ts wc) (hnest : (own, idx, y, host) ∈ fNL) (hinst : Cond.instanceMethod y ∈ Ts) (hini : Cond.initialized y.cls ∈ Ts) (hy1 : y.name = "<init>") (hw : wc = Cond.code y bytes maxL none :: ws'') (na : Nat)
    (hd : y.cls ≠ "java/lang/invoke/MethodHandle" ∧ y.cls ≠ "java/lang/invoke/VarHandle" ∧ (parseMethodDescriptor y.desc).map (fun d => d.parameters.length) = some na) (hR : fr' + 1 ≤ fr ∧ 8 + (maxL + 11) + lo' ≤ lo)
    (isC isR : List Nat) (hC : isC.map (fun i => ws[i]?) = W0.map some) (hnd : va_nd isC = true) (hCR : isR.map (fun i => ws[i]?) = wr.map some) (hndR : va_nd isR = true) (hdis : ∀ i ∈ isR, i ∉ isC) (hAs : As.length = na) (hst : (rest.map fun v => v.category).sum ≤ 8) (hkn : k + mc' ≤ mc ∧ n + ms' ≤ ms)
    (kk : ∀ (v : Option Value) (w : va_W), post' v w → fSt l G X (k + mc') (n + ms') (pc + 3) lv (v.toList ++ rest) (wr ++ w)) : fSt l G X k n pc lv (As.reverse ++ .ref b :: rest) ws := by
  obtain ⟨p, e, R, s, m, args, below, meth, c, Q, A, H0, nL'⟩ := X
  obtain ⟨hx, hb, hml, rfl, hown, hts, hE, hA, rfl, rfl⟩ := C0
  intro H locs ls hP hD hS hl
  have hF := va_free hD hS hA isC hC
  have hPc := fs_subP hP isC hC
  have hDc := fs_sub hD isC hC hnd
  refine fs_after (va_runIN (As := As) (rest := rest) ⟨hx, hb, hml, hown, hts⟩ (hM H.size) ⟨va_cnB na hts hG hw rfl rfl (hE.2.1 _ hnest) (hts _ hini) hd hR, hy1, hts _ hinst⟩ ⟨fPc.blind, fs_PreS (ws := ws) hE hS hF hPc hDc⟩ rfl hAs hl.1 rfl (lv_room hst) hdg hkn) hS hF (fun v w H1 locs1 hp hP1 hD1 hk1 hS1 => ?_)
  obtain ⟨hP2, hD2⟩ := va_join hP hD isC isR hC hCR hndR hdis hk1 hF hP1 hD1
  exact kk v w hp H1 locs1 ls hP2 hD2 hS1 hl
/-- a public constructor -/
theorem s_callI {wr : va_W} (C0 : fC G X own cc Ts nL fr lo mc ms) (hdg : decode cc pc = .ok (.invokespecial idx, 3)) (hM : fCt l G y wc fr' lo' mc' ms' (.ref b :: As) W0 post') (hG : GoodIn Ts wc) (hlink : Cond.methodLink own idx y ∈ Ts) (hinst : Cond.instanceMethod y ∈ Ts) (hini : Cond.initialized y.cls ∈ Ts) (hy1 : y.name = "<init>") (hw : wc = Cond.code y bytes maxL none :: ws'') (na : Nat)
    (hd : y.cls ≠ "java/lang/invoke/MethodHandle" ∧ y.cls ≠ "java/lang/invoke/VarHandle" ∧ (parseMethodDescriptor y.desc).map (fun d => d.parameters.length) = some na) (hR : fr' + 1 ≤ fr ∧ 8 + (maxL + 11) + lo' ≤ lo)
    (isC isR : List Nat) (hC : isC.map (fun i => ws[i]?) = W0.map some) (hnd : va_nd isC = true) (hCR : isR.map (fun i => ws[i]?) = wr.map some) (hndR : va_nd isR = true) (hdis : ∀ i ∈ isR, i ∉ isC) (hAs : As.length = na) (hst : (rest.map fun v => v.category).sum ≤ 8) (hkn : k + mc' ≤ mc ∧ n + ms' ≤ ms)
    (kk : ∀ (v : Option Value) (w : va_W), post' v w → fSt l G X (k + mc') (n + ms') (pc + 3) lv (v.toList ++ rest) (wr ++ w)) : fSt l G X k n pc lv (As.reverse ++ .ref b :: rest) ws := by
  obtain ⟨p, e, R, s, m, args, below, meth, c, Q, A, H0, nL'⟩ := X
  obtain ⟨hx, hb, hml, rfl, hown, hts, hE, hA, rfl, rfl⟩ := C0
  intro H locs ls hP hD hS hl
  have hF := va_free hD hS hA isC hC
  have hPc := fs_subP hP isC hC
  have hDc := fs_sub hD isC hC hnd
  refine fs_after (va_runI (As := As) (rest := rest) ⟨hx, hb, hml, hown, hts⟩ (hM H.size) (cwI na hts hG hw rfl rfl (hts _ hini) (hts _ hlink) (hts _ hinst) hy1 hd hR) ⟨fPc.blind, fs_PreS (ws := ws) hE hS hF hPc hDc⟩ rfl hAs hl.1 rfl (lv_room hst) hdg hkn) hS hF (fun v w H1 locs1 hp hP1 hD1 hk1 hS1 => ?_)
  obtain ⟨hP2, hD2⟩ := va_join hP hD isC isR hC hCR hndR hdis hk1 hF hP1 hD1
  exact kk v w hp H1 locs1 ls hP2 hD2 hS1 hl
/-- Object's own constructor -/
theorem s_objInit {b : Nat} (C0 : fC G X own cc Ts nL fr lo mc ms) (hdg : decode cc pc = .ok (.invokespecial idx, 3)) (h1 : Cond.methodLink own idx objectInit ∈ Ts) (h2 : Cond.instanceMethod objectInit ∈ Ts) (h3 : Cond.code objectInit ⟨#[0xb1]⟩ 1 none ∈ Ts) (hfr : 1 ≤ fr) (hlo : 12 ≤ lo) (K : fSt l G X k n (pc + 3) lv [] ws) : fSt l G X k n pc lv [.ref b] ws := by
  obtain ⟨p, e, R, s, m, args, below, meth, c, Q, A, H0, nL'⟩ := X
  obtain ⟨hx, hb, hml, rfl, hown, hts, hE, hA, rfl, rfl⟩ := C0
  intro H locs ls hP hD hS hl
  exact W.objInit hx hb hown (hts _ h1) (hts _ h2) (hts _ h3) rfl (by rw [hml]; exact hl.1) rfl hdg hfr hlo (K H locs ls hP hD hS hl)
theorem s_mmin {x z : Int} (C0 : fC G X own cc Ts nL fr lo mc ms) (hdg : decode cc pc = .ok (.invokestatic idx, 3)) (h1 : Cond.methodLink own idx Lib.Math.min.name ∈ Ts) (h2 : Cond.static Lib.Math.min.name ∈ Ts) (h3 : Cond.initialized "java/lang/Math" ∈ Ts) (h4 : Cond.code Lib.Math.min.name Lib.Math.min.code 2 (some .int) ∈ Ts) (hfr : 1 ≤ fr) (hlo : (rest.map fun v => v.category).sum + 13 ≤ lo) (hkn : k ≤ mc ∧ n ≤ ms) (hx0 : -2147483648 ≤ x ∧ x < 2147483648) (hz0 : -2147483648 ≤ z ∧ z < 2147483648)
    (K : fSt l G X k n (pc + 3) lv (vI (if z < x then z else x) :: rest) ws) : fSt l G X k n pc lv (vI z :: vI x :: rest) ws := by
  obtain ⟨p, e, R, s, m, args, below, meth, c, Q, A, H0, nL'⟩ := X
  obtain ⟨hx, hb, hml, rfl, hown, hts, hE, hA, rfl, rfl⟩ := C0
  intro H locs ls hP hD hS hl
  refine va_mmin hx hb (hml.trans hl.1.symm) hown (hts _ h1) (hts _ h2) (hts _ h3) (hts _ h4) hfr hlo hkn.1 hkn.2 hdg ?_
  have e1 : (if iZ z < iZ x then iZ z else iZ x) = iZ (if z < x then z else x) := by
    by_cases h : z < x
    · rw [if_pos h, if_pos ((iZ_lt hz0 hx0).mpr h)]
    · rw [if_neg h, if_neg (mt (iZ_lt hz0 hx0).mp h)]
  rw [e1]
  exact K H locs ls hP hD hS hl
theorem s_mmax {x z : Int} (C0 : fC G X own cc Ts nL fr lo mc ms) (hdg : decode cc pc = .ok (.invokestatic idx, 3)) (h1 : Cond.methodLink own idx Lib.Math.max.name ∈ Ts) (h2 : Cond.static Lib.Math.max.name ∈ Ts) (h3 : Cond.initialized "java/lang/Math" ∈ Ts) (h4 : Cond.code Lib.Math.max.name Lib.Math.max.code 2 (some .int) ∈ Ts) (hfr : 1 ≤ fr) (hlo : (rest.map fun v => v.category).sum + 13 ≤ lo) (hkn : k ≤ mc ∧ n ≤ ms) (hx0 : -2147483648 ≤ x ∧ x < 2147483648) (hz0 : -2147483648 ≤ z ∧ z < 2147483648)
    (K : fSt l G X k n (pc + 3) lv (vI (if x < z then z else x) :: rest) ws) : fSt l G X k n pc lv (vI z :: vI x :: rest) ws := by
  obtain ⟨p, e, R, s, m, args, below, meth, c, Q, A, H0, nL'⟩ := X
  obtain ⟨hx, hb, hml, rfl, hown, hts, hE, hA, rfl, rfl⟩ := C0
  intro H locs ls hP hD hS hl
  refine va_mmax hx hb (hml.trans hl.1.symm) hown (hts _ h1) (hts _ h2) (hts _ h3) (hts _ h4) hfr hlo hkn.1 hkn.2 hdg ?_
  have e1 : (if iZ x < iZ z then iZ z else iZ x) = iZ (if x < z then z else x) := by
    by_cases h : x < z
    · rw [if_pos h, if_pos ((iZ_lt hx0 hz0).mpr h)]
    · rw [if_neg h, if_neg (mt (iZ_lt hx0 hz0).mp h)]
  rw [e1]
  exact K H locs ls hP hD hS hl
end FCALL

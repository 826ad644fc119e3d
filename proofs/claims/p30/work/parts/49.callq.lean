/-! ===== a call over a world in segments, the receiver told by its segment ===== -/
section FQSEG
variable {l : Launch} {G : fG} {X : fX} {own : String} {cc : ByteArray} {Ts : List Cond} {nL fr lo mc ms k n pc idx : Nat} {lv : List (Nat × Value)} {st0 rest : List Value} {segs : List va_W}
  {y : MethodName} {bytes : ByteArray} {maxL fr' lo' mc' ms' : Nat} {ret' : Option FieldType} {wc ws'' : List Cond} {As : List Value} {W0 : va_W} {post' : Option Value → va_W → Prop} {b : Nat}
theorem s_callVQ (C0 : fC G X own cc Ts nL fr lo mc ms) (hdg : decode cc pc = .ok (.invokevirtual idx, 3)) (hM : fCt l G y wc fr' lo' 0 0 (.ref b :: As) W0 post') (hG : GoodIn Ts (wsV own idx y.cls y wc)) (hw : wc = Cond.code y bytes maxL ret' :: ws'') (na : Nat)
    (hd : y.cls ≠ "java/lang/invoke/MethodHandle" ∧ y.cls ≠ "java/lang/invoke/VarHandle" ∧ (parseMethodDescriptor y.desc).map (fun d => d.parameters.length) = some na) (hR : fr' + 1 ≤ fr ∧ 8 + (maxL + 11) + lo' ≤ lo) {r : vw_C} {fs : List Value} (ci : Nat) (hc : vwCl[ci]? = some r) (hcl : r.1 = y.cls) (jr : Nat) (sg : va_W) (hj : segs[jr]? = some sg) (hm : sg[0]? = some (b, .inr (ci, fs)))
    (is js : List Nat) (N : Nat) (hN : segs.length = N) (hp : (is ++ js).isPerm (List.range N) = true) (hW0 : (pk segs is).flatten = W0) (hAs : As.length = na) (hst : (rest.map fun v => v.category).sum ≤ 8) (hkn : k ≤ mc ∧ n ≤ ms)
    (kk : ∀ (v : Option Value) (w : va_W), post' v w → w.map Prod.fst = W0.map Prod.fst ∧ ∃ segs' : List va_W, segs'.length = segs.length ∧ (pk segs' is).flatten = w ∧ pk segs' js = pk segs js ∧ fSt l G X k n (pc + 3) lv (v.toList ++ rest) segs'.flatten) : fSt l G X k n pc lv (As.reverse ++ .ref b :: rest) segs.flatten := by
  obtain ⟨q0, hq0⟩ := List.getElem?_of_mem (List.mem_flatten.mpr ⟨sg, List.mem_of_getElem? hj, List.mem_of_getElem? hm⟩)
  exact s_callVP C0 hdg hM hG hw na hd hR q0 ci hc hcl hq0 is js (by rw [hN]; exact hp) hW0 hAs hst hkn kk
end FQSEG

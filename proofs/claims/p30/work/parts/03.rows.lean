section FR
variable {l : Launch} {G : fG} {X : fX} {own : String} {cc : ByteArray} {Ts : List Cond} {nL fr lo mc ms k n pc : Nat} {lv : List (Nat × Value)} {st : List Value} {ws : va_W}
/-! ===== fields ===== -/
theorem s_get {C : String} {T : u_T} {N index a : Nat} {fs : List Value} {v : Value} (C0 : fC G X own cc Ts nL fr lo mc ms) (hdg : decode cc pc = .ok (.getfield index, 3)) (ci : Nat) (hc : vwCl[ci]? = some (C, T, N)) (hin : ∀ w ∈ u_ws C T N, w ∈ Ts) (q0 : Nat) (he : ws[q0]? = some (a, .inr (ci, fs))) (f : Nat) (hf : f < N) (hlink : Cond.fieldLink own index (T f).1 (T f).2.1 (T f).2.2.1 ∈ Ts) (hv : fs[f]? = some v)
    (K : fSt l G X k n (pc + 3) lv (v :: st) ws) : fSt l G X k n pc lv (.ref a :: st) ws := by
  obtain ⟨p, e, R, s, m, args, below, meth, c, Q, A, H0, nL'⟩ := X
  obtain ⟨hx, hb, -, -, hown, hts, hE, -⟩ := C0
  intro H locs ls hP hD hS hl
  exact va_get hx hb hts hin hown hE.1 hP q0 he hc f hf (hts _ hlink) (fun _ h => h) hv hdg (K H locs ls hP hD hS hl)
theorem s_put {C : String} {T : u_T} {N index a : Nat} {fs : List Value} {v : Value} (ws' : va_W) (C0 : fC G X own cc Ts nL fr lo mc ms) (hdg : decode cc pc = .ok (.putfield index, 3)) (ci : Nat) (hc : vwCl[ci]? = some (C, T, N)) (hin : ∀ w ∈ u_ws C T N, w ∈ Ts) (ty0 : Nat → FieldType) (hty : ∀ k, k < N → parseFieldDescriptor (T k).2.2.1 = some (ty0 k)) (hnm : ∀ a, a < N → ∀ b, b < N → a ≠ b → (T a).2.1 ≠ (T b).2.1) (q0 : Nat) (he : ws[q0]? = some (a, .inr (ci, fs))) (f : Nat) (hf : f < N) (hlink : Cond.fieldLink own index (T f).1 (T f).2.1 (T f).2.2.1 ∈ Ts) (hfin : (T f).2.2.2 = false) (hn : narrow (ty0 f) v = v) (hfit : fits (ty0 f) v = true) (hl : f < fs.length) (hws : ws.set q0 (a, .inr (ci, fs.set f v)) = ws')
    (K : fSt l G X k n (pc + 3) lv st ws') : fSt l G X k n pc lv (v :: .ref a :: st) ws := by
  subst hws
  obtain ⟨p, e, R, s, m, args, below, meth, c, Q, A, H0, nL'⟩ := X
  obtain ⟨hx, hb, -, -, hown, hts, hE, -⟩ := C0
  intro H locs ls hP hD hS hl'
  exact va_put hx hb hts hin ty0 hty hnm hown hE.1 hP hD hS q0 he hc f hf (hts _ hlink) (fun _ h => h) hfin (hty f hf) hn hfit hl hdg (fun H locs hP hD hS => K H locs ls hP hD hS hl')
theorem s_putF {C : String} {T : u_T} {N index a : Nat} {fs : List Value} {v : Value} {ret : Option FieldType} {post : Option Value → va_W → Prop} {mc' ms' : Nat} (ws' : va_W) (C0 : fC G X C cc Ts nL fr lo mc ms) (E0 : fE G X ret "<init>" post mc' ms') (hdg : decode cc pc = .ok (.putfield index, 3)) (ci : Nat) (hc : vwCl[ci]? = some (C, T, N)) (hin : ∀ w ∈ u_ws C T N, w ∈ Ts) (ty0 : Nat → FieldType) (hty : ∀ k, k < N → parseFieldDescriptor (T k).2.2.1 = some (ty0 k)) (hnm : ∀ a, a < N → ∀ b, b < N → a ≠ b → (T a).2.1 ≠ (T b).2.1) (q0 : Nat) (he : ws[q0]? = some (a, .inr (ci, fs))) (f : Nat) (hf : f < N) (hlink : Cond.fieldLink C index (T f).1 (T f).2.1 (T f).2.2.1 ∈ Ts) (hfin : (T f).2.2.2 = true) (hdc : (T f).1 = C) (hn : narrow (ty0 f) v = v) (hfit : fits (ty0 f) v = true) (hl : f < fs.length) (hws : ws.set q0 (a, .inr (ci, fs.set f v)) = ws')
    (K : fSt l G X k n (pc + 3) lv st ws') : fSt l G X k n pc lv (v :: .ref a :: st) ws := by
  subst hws
  obtain ⟨p, e, R, s, m, args, below, meth, c, Q, A, H0, nL'⟩ := X
  obtain ⟨hx, hb, -, -, hown, hts, hE, -⟩ := C0
  obtain ⟨-, -, hin2, -⟩ := E0
  intro H locs ls hP hD hS hl'
  exact va_putF hx hb hts hin ty0 hty hnm hown hE.1 hP hD hS q0 he hc f hf (hts _ hlink) (fun _ h => h) hfin hin2 hdc (hty f hf) hn hfit hl hdg (fun H locs hP hD hS => K H locs ls hP hD hS hl')
/-! ===== arrays ===== -/
theorem s_iald {a N : Nat} {F : Int → Int} {z : Int} (C0 : fC G X own cc Ts nL fr lo mc ms) (hdg : decode cc pc = .ok (.iaload, 1)) (q0 : Nat) (ha : ws[q0]? = some (cA a G.2.1.1 N F)) (z' : Int) (hz : z = z') (h0 : 0 ≤ z') (h1 : z' < N) (hN : N ≤ 2147483648) (K : fSt l G X k n (pc + 1) lv (vI (F z') :: st) ws) : fSt l G X k n pc lv (vI z :: .ref a :: st) ws := by
  subst hz
  obtain ⟨p, e, R, s, m, args, below, meth, c, Q, A, H0, nL'⟩ := X
  obtain ⟨hx, hb, -, -, hown, hts, hE, -⟩ := C0
  intro H locs ls hP hD hS hl
  refine va_iald hx hb hE.1 hP q0 0 ha rfl (iZ_in h0 h1 hN) hdg ?_
  rw [aZ_at h0 (by omega)]
  exact K H locs ls hP hD hS hl
theorem s_zald {a N : Nat} {F : Int → Int} {z : Int} (C0 : fC G X own cc Ts nL fr lo mc ms) (hdg : decode cc pc = .ok (.baload, 1)) (q0 : Nat) (ha : ws[q0]? = some (cA a G.2.1.2.1 N F)) (z' : Int) (hz : z = z') (h0 : 0 ≤ z') (h1 : z' < N) (hN : N ≤ 2147483648) (K : fSt l G X k n (pc + 1) lv (vI (F z') :: st) ws) : fSt l G X k n pc lv (vI z :: .ref a :: st) ws := by
  subst hz
  obtain ⟨p, e, R, s, m, args, below, meth, c, Q, A, H0, nL'⟩ := X
  obtain ⟨hx, hb, -, -, hown, hts, hE, -⟩ := C0
  intro H locs ls hP hD hS hl
  refine va_zald hx hb hE.1 hP q0 1 ha rfl (iZ_in h0 h1 hN) hdg ?_
  rw [aZ_at h0 (by omega)]
  exact K H locs ls hP hD hS hl
theorem s_cald {a N : Nat} {F : Int → Int} {z : Int} (C0 : fC G X own cc Ts nL fr lo mc ms) (hdg : decode cc pc = .ok (.caload, 1)) (q0 : Nat) (ha : ws[q0]? = some (cA a G.2.1.2.2.1 N F)) (z' : Int) (hz : z = z') (h0 : 0 ≤ z') (h1 : z' < N) (hN : N ≤ 2147483648) (K : fSt l G X k n (pc + 1) lv (vI (F z') :: st) ws) : fSt l G X k n pc lv (vI z :: .ref a :: st) ws := by
  subst hz
  obtain ⟨p, e, R, s, m, args, below, meth, c, Q, A, H0, nL'⟩ := X
  obtain ⟨hx, hb, -, -, hown, hts, hE, -⟩ := C0
  intro H locs ls hP hD hS hl
  refine va_cald hx hb hE.1 hP q0 2 ha rfl (iZ_in h0 h1 hN) hdg ?_
  rw [aZ_at h0 (by omega)]
  exact K H locs ls hP hD hS hl
theorem s_aldq {a N : Nat} {F : Nat → Option Nat} {z : Int} {v : Nat} (C0 : fC G X own cc Ts nL fr lo mc ms) (hdg : decode cc pc = .ok (.aaload, 1)) (q0 : Nat) (ha : ws[q0]? = some (cQ a G.2.1.2.2.2.1 N F)) (h0 : 0 ≤ z) (h1 : z < N) (hN : N ≤ 2147483648) (hv : F z.toNat = some v) (K : fSt l G X k n (pc + 1) lv (.ref v :: st) ws) : fSt l G X k n pc lv (vI z :: .ref a :: st) ws := by
  obtain ⟨p, e, R, s, m, args, below, meth, c, Q, A, H0, nL'⟩ := X
  obtain ⟨hx, hb, -, -, hown, hts, hE, -⟩ := C0
  intro H locs ls hP hD hS hl
  refine va_aldq hx hb hE.1 hP q0 3 ha rfl (iZ_in h0 h1 hN) hdg ?_
  rw [iZ_cl h0 (by omega), hv]
  exact K H locs ls hP hD hS hl
theorem s_iast {a N : Nat} {F : Int → Int} {z x : Int} (ws' : va_W) (C0 : fC G X own cc Ts nL fr lo mc ms) (hdg : decode cc pc = .ok (.iastore, 1)) (q0 : Nat) (ha : ws[q0]? = some (cA a G.2.1.1 N F)) (z' : Int) (hz : z = z') (h0 : 0 ≤ z') (h1 : z' < N) (hN : N ≤ 2147483648) (hws : ws.set q0 (cA a G.2.1.1 N (uZ F z' x)) = ws') (K : fSt l G X k n (pc + 1) lv st ws') : fSt l G X k n pc lv (vI x :: vI z :: .ref a :: st) ws := by
  subst hws
  subst hz
  obtain ⟨p, e, R, s, m, args, below, meth, c, Q, A, H0, nL'⟩ := X
  obtain ⟨hx, hb, -, -, hown, hts, hE, -⟩ := C0
  intro H locs ls hP hD hS hl
  refine va_iast hx hb hE.1 hP hD hS q0 0 ha rfl (iZ_in h0 h1 hN) hdg (fun H locs hP hD hS => ?_)
  rw [aZ_up h0 (by omega)] at hP hD
  exact K H locs ls hP hD hS hl
theorem s_zast {a N : Nat} {F : Int → Int} {z x : Int} (ws' : va_W) (C0 : fC G X own cc Ts nL fr lo mc ms) (hdg : decode cc pc = .ok (.bastore, 1)) (q0 : Nat) (ha : ws[q0]? = some (cA a G.2.1.2.1 N F)) (z' : Int) (hz : z = z') (h0 : 0 ≤ z') (h1 : z' < N) (hN : N ≤ 2147483648) (hx01 : x = 0 ∨ x = 1) (hws : ws.set q0 (cA a G.2.1.2.1 N (uZ F z' x)) = ws') (K : fSt l G X k n (pc + 1) lv st ws') : fSt l G X k n pc lv (vI x :: vI z :: .ref a :: st) ws := by
  subst hws
  subst hz
  obtain ⟨p, e, R, s, m, args, below, meth, c, Q, A, H0, nL'⟩ := X
  obtain ⟨hx, hb, -, -, hown, hts, hE, -⟩ := C0
  intro H locs ls hP hD hS hl
  refine va_zast hx hb hE.1 hP hD hS q0 1 ha rfl (iZ_in h0 h1 hN) hdg (fun H locs hP hD hS => ?_)
  rw [nar_z hx01, aZ_up h0 (by omega)] at hP hD
  exact K H locs ls hP hD hS hl
theorem s_cast {a N : Nat} {F : Int → Int} {z x : Int} (ws' : va_W) (C0 : fC G X own cc Ts nL fr lo mc ms) (hdg : decode cc pc = .ok (.castore, 1)) (q0 : Nat) (ha : ws[q0]? = some (cA a G.2.1.2.2.1 N F)) (z' : Int) (hz : z = z') (h0 : 0 ≤ z') (h1 : z' < N) (hN : N ≤ 2147483648) (hx0 : 0 ≤ x) (hx1 : x < 65536) (hws : ws.set q0 (cA a G.2.1.2.2.1 N (uZ F z' x)) = ws') (K : fSt l G X k n (pc + 1) lv st ws') : fSt l G X k n pc lv (vI x :: vI z :: .ref a :: st) ws := by
  subst hws
  subst hz
  obtain ⟨p, e, R, s, m, args, below, meth, c, Q, A, H0, nL'⟩ := X
  obtain ⟨hx, hb, -, -, hown, hts, hE, -⟩ := C0
  intro H locs ls hP hD hS hl
  refine va_cast hx hb hE.1 hP hD hS q0 2 ha rfl (iZ_in h0 h1 hN) hdg (fun H locs hP hD hS => ?_)
  rw [nar_c hx0 hx1, aZ_up h0 (by omega)] at hP hD
  exact K H locs ls hP hD hS hl
theorem s_astq {a N v ci : Nat} {F : Nat → Option Nat} {z : Int} {T : u_T} {NT : Nat} {vs : List Value} (ws' : va_W) (C0 : fC G X own cc Ts nL fr lo mc ms) (hdg : decode cc pc = .ok (.aastore, 1)) (q0 qk : Nat) (ha : ws[q0]? = some (cQ a G.2.1.2.2.2.1 N F)) (hv : ws[qk]? = some (v, .inr (ci, vs))) (hc : vwCl[ci]? = some ("FencedStandbys$Store", T, NT)) (h0 : 0 ≤ z) (h1 : z < N) (hN : N ≤ 2147483648) (hws : ws.set q0 (cQ a G.2.1.2.2.2.1 N (va_up F z.toNat (some v))) = ws') (K : fSt l G X k n (pc + 1) lv st ws') : fSt l G X k n pc lv (.ref v :: vI z :: .ref a :: st) ws := by
  subst hws
  obtain ⟨p, e, R, s, m, args, below, meth, c, Q, A, H0, nL'⟩ := X
  obtain ⟨hx, hb, -, -, hown, hts, hE, -⟩ := C0
  intro H locs ls hP hD hS hl
  refine va_astq hx hb hE.1 hP hD hS q0 3 qk ci (r := ("FencedStandbys$Store", T, NT)) ha rfl hv hc (iZ_in h0 h1 hN) hdg (fun H locs hP hD hS => ?_)
  rw [iZ_cl h0 (by omega)] at hP hD
  exact K H locs ls hP hD hS hl
theorem s_alen {a N : Nat} {x : (Nat → Int32) ⊕ (Nat → Int64) ⊕ (Nat → UInt32) ⊕ (Nat → UInt64) ⊕ (Nat → Option Nat)} {c : ClassId} {ty : FieldType} (C0 : fC G X own cc Ts nL fr lo mc ms) (hdg : decode cc pc = .ok (.arraylength, 1)) (q0 t0 : Nat) (ha : ws[q0]? = some (a, .inl (c, N, x))) (ht : (tT G.2.1)[t0]? = some (c, ty)) (K : fSt l G X k n (pc + 1) lv (vI N :: st) ws) : fSt l G X k n pc lv (.ref a :: st) ws := by
  obtain ⟨p, e, R, s, m, args, below, meth, c, Q, A, H0, nL'⟩ := X
  obtain ⟨hx, hb, -, -, hown, hts, hE, -⟩ := C0
  intro H locs ls hP hD hS hl
  exact va_alen hx hb hE.1 hP q0 t0 ha ht (iZ_nI N) hdg (K H locs ls hP hD hS hl)
/-! ===== returns ===== -/
theorem s_iret {nm : String} {post : Option Value → va_W → Prop} {v : Int32} (C0 : fC G X own cc Ts nL fr lo mc ms) (E0 : fE G X (some .int) nm post k n) (hdg : decode cc pc = .ok (.ireturn, 1)) (hp : post (some (.int v)) ws) : fSt l G X k n pc lv [.int v] ws := by
  obtain ⟨p, e, R, s, m, args, below, meth, c, Q, A, H0, nL'⟩ := X
  obtain ⟨hx, hb, -, -, hown, hts, hE, -, rfl, -⟩ := C0
  obtain ⟨hr, hlk, -, rfl⟩ := E0
  intro H locs ls hP hD hS hl
  exact W.iret (v := v) hx hb hr (fun t ht hW => ⟨⟨_, _, rfl, hp, by rw [ht]; exact hP, hD⟩, hS.F ht⟩) hS.2.2 hdg hlk
theorem s_zret {ty : FieldType} {nm : String} {post : Option Value → va_W → Prop} {v : Int32} (C0 : fC G X own cc Ts nL fr lo mc ms) (E0 : fE G X (some ty) nm post k n) (hdg : decode cc pc = .ok (.ireturn, 1)) (hn : narrow ty (.int v) = .int v) (hp : post (some (.int v)) ws) : fSt l G X k n pc lv [.int v] ws := by
  obtain ⟨p, e, R, s, m, args, below, meth, c, Q, A, H0, nL'⟩ := X
  obtain ⟨hx, hb, -, -, hown, hts, hE, -, rfl, -⟩ := C0
  obtain ⟨hr, hlk, -, rfl⟩ := E0
  intro H locs ls hP hD hS hl
  exact W.zret (v := v) hx hb hr hn (fun t ht hW => ⟨⟨_, _, rfl, hp, by rw [ht]; exact hP, hD⟩, hS.F ht⟩) hS.2.2 hdg hlk
theorem s_vret {nm : String} {post : Option Value → va_W → Prop} (C0 : fC G X own cc Ts nL fr lo mc ms) (E0 : fE G X none nm post k n) (hdg : decode cc pc = .ok (.return_, 1)) (hp : post none ws) : fSt l G X k n pc lv [] ws := by
  obtain ⟨p, e, R, s, m, args, below, meth, c, Q, A, H0, nL'⟩ := X
  obtain ⟨hx, hb, -, -, hown, hts, hE, -, rfl, -⟩ := C0
  obtain ⟨hr, hlk, -, rfl⟩ := E0
  intro H locs ls hP hD hS hl
  exact W.vret hx hb hr (fun t ht hW => ⟨⟨_, _, rfl, hp, by rw [ht]; exact hP, hD⟩, hS.F ht⟩) hS.2.2 hdg hlk
theorem s_aret {rt : FieldType} {nm : String} {post : Option Value → va_W → Prop} {a : Nat} (C0 : fC G X own cc Ts nL fr lo mc ms) (E0 : fE G X (some rt) nm post k n) (hrt : (∃ n, rt = .object n) ∨ ∃ t, rt = .array t) (hdg : decode cc pc = .ok (.areturn, 1)) (hp : post (some (.ref a)) ws) : fSt l G X k n pc lv [.ref a] ws := by
  obtain ⟨p, e, R, s, m, args, below, meth, c, Q, A, H0, nL'⟩ := X
  obtain ⟨hx, hb, -, -, hown, hts, hE, -, rfl, -⟩ := C0
  obtain ⟨hr, hlk, -, rfl⟩ := E0
  intro H locs ls hP hD hS hl
  exact W.aret hx hb hr hrt (Or.inr ⟨a, rfl⟩) (fun t ht hW => ⟨⟨_, _, rfl, hp, by rw [ht]; exact hP, hD⟩, hS.F ht⟩) hS.2.2 hdg hlk
theorem s_widen {k' n' : Nat} (hk : k ≤ k') (hn : n ≤ n') (K : fSt l G X k' n' pc lv st ws) : fSt l G X k n pc lv st ws := by
  obtain ⟨p, e, R, s, m, args, below, meth, c, Q, A, H0, nL'⟩ := X
  intro H locs ls hP hD hS hl
  exact W.widen hk hn (K H locs ls hP hD hS hl)
theorem s_top {z : Int} (z' : Int) (h : z = z') (K : fSt l G X k n pc lv (vI z' :: st) ws) : fSt l G X k n pc lv (vI z :: st) ws := h ▸ K
theorem s_wld {ws0 : va_W} (h : ws = ws0) (K : fSt l G X k n pc lv st ws0) : fSt l G X k n pc lv st ws := h ▸ K
/-- an array's function matters below its length alone -/
theorem s_agr {a N : Nat} {c : ClassId} {F : Int → Int} (ws' : va_W) (q : Nat) (ha : ws[q]? = some (cA a c N F)) (F2 : Int → Int) (h : ∀ j : Int, 0 ≤ j → j < N → F j = F2 j) (hws : ws.set q (cA a c N F2) = ws') (K : fSt l G X k n pc lv st ws') : fSt l G X k n pc lv st ws := by
  subst hws
  obtain ⟨p, e, R, s, m, args, below, meth, c', Q, A, H0, nL'⟩ := X
  intro H locs ls hP hD hS hl
  refine K H locs ls (hP.set hD ha ?_ (fun _ _ => rfl)) (hD.set ha) hS hl
  have h0 := hP q _ ha
  show H[a]? = some (vp_cell _ _)
  have e : vp_cell c (N, .inl (aZ F2)) = vp_cell c (N, .inl (aZ F)) := by
    rw [vp_cell_i, vp_cell_i]
    unfold arrV
    congr 1
    congr 1
    funext j
    simp only [aZ]
    rw [h j.val (by omega) (by omega)]
  rw [e]
  exact h0
/-- fewer locals, another order -/
theorem s_lv (lv' : List (Nat × Value)) (is : List Nat) (h : lv_pick lv is = lv') (K : fSt l G X k n pc lv' st ws) : fSt l G X k n pc lv st ws := by
  obtain ⟨p, e, R, s, m, args, below, meth, c, Q, A, H0, nL'⟩ := X
  intro H locs ls hP hD hS hl
  exact K H locs ls hP hD hS (lv_sub hl is h)
end FR

/-! ===== truth values ===== -/
abbrev bI (p : Prop) [Decidable p] : Int := if p then 1 else 0
theorem bI_t {p : Prop} [Decidable p] (h : bI p ≠ 0) : p := by
  by_cases hp : p
  · exact hp
  · exact absurd (if_neg hp) h
theorem bI_f {p : Prop} [Decidable p] (h : bI p = 0) : ¬ p := fun hp => by
  rw [bI, if_pos hp] at h
  exact absurd h (by decide)
theorem bI_01 {p : Prop} [Decidable p] : bI p = 0 ∨ bI p = 1 := by
  by_cases hp : p
  · exact Or.inr (if_pos hp)
  · exact Or.inl (if_neg hp)
theorem bI_iff {p q : Prop} [Decidable p] [Decidable q] (h : p ↔ q) : bI p = bI q := by
  by_cases hp : p
  · rw [bI, bI, if_pos hp, if_pos (h.mp hp)]
  · rw [bI, bI, if_neg hp, if_neg (mt h.mpr hp)]
theorem bI_1 {p : Prop} [Decidable p] (h : p) : 1 = bI p := (if_pos h).symm
theorem bI_0 {p : Prop} [Decidable p] (h : ¬ p) : 0 = bI p := (if_neg h).symm
theorem narB {v : Int} (h : v = 0 ∨ v = 1) : narrow .boolean (.int (iZ v)) = .int (iZ v) := by rcases h with rfl | rfl <;> rfl
theorem fitB {v : Int} (h : v = 0 ∨ v = 1) : fits .boolean (.int (iZ v)) = true := by rcases h with rfl | rfl <;> rfl
theorem narC {v : Int} (h0 : 0 ≤ v) (h1 : v < 65536) : narrow .char (.int (iZ v)) = .int (iZ v) := by
  have h := (pk_charN (q := v.toNat) (by omega)).1
  rw [iZ_nI, Int.toNat_of_nonneg h0] at h
  exact h
/-- within the machine's ints -/
def rI (z : Int) : Prop := -2147483648 ≤ z ∧ z < 2147483648
/-- a function of the machine's ints -/
def rF (f : Int → Int) : Prop := ∀ j, -2147483648 ≤ f j ∧ f j < 2147483648
theorem rF.up {f : Int → Int} {k v : Int} (h : rF f) (hv : -2147483648 ≤ v ∧ v < 2147483648) : rF (uZ f k v) := fun j => by
  by_cases hj : j = k
  · rw [hj, uZ_s]
    exact hv
  · rw [uZ_n hj]
    exact h j
/-! ===== a copy of the first cells ===== -/
def cpZ (f g : Int → Int) (n : Int) : Int → Int := fun j => if j < n then f j else g j
theorem cpZ_in {f g : Int → Int} {n j : Int} (h : j < n) : cpZ f g n j = f j := if_pos h
theorem cpZ_out {f g : Int → Int} {n j : Int} (h : n ≤ j) : cpZ f g n j = g j := if_neg (by omega)
theorem rF.cp {f g : Int → Int} {n : Int} (hf : rF f) (hg : rF g) : rF (cpZ f g n) := fun j => by
  by_cases hj : j < n
  · rw [cpZ_in hj]
    exact hf j
  · rw [cpZ_out (by omega)]
    exact hg j
theorem aZ_cp {f g : Int → Int} {n : Int} (h0 : 0 ≤ n) (h1 : n < 2147483648) : va_cpy (aZ f) (aZ g) (iZ 0).toNatClampNeg (iZ 0).toNatClampNeg (iZ n).toNatClampNeg = aZ (cpZ f g n) := by
  have e0 : (iZ 0).toNatClampNeg = 0 := iZ_cl (by omega) (by omega)
  rw [e0, iZ_cl h0 h1]
  funext j
  simp only [va_cpy, aZ, cpZ]
  by_cases h : j < n.toNat
  · rw [if_pos ⟨by omega, by omega⟩, if_pos (by omega)]
    rw [show 0 + (j - 0) = j by omega]
  · rw [if_neg (by omega), if_neg (by omega)]
section FM
variable {l : Launch} {G : fG} {X : fX} {own : String} {cc : ByteArray} {Ts : List Cond} {nL fr lo mc ms k n pc idx : Nat} {lv : List (Nat × Value)} {st rest : List Value} {ws : va_W}
theorem s_acopy {a0 a1 N0 N1 : Nat} {c0 : ClassId} {F0' F1 : Int → Int} {ty : FieldType} {z : Int} (ws' : va_W) (C0 : fC G X own cc Ts nL fr lo mc ms) (hdg : decode cc pc = .ok (.invokestatic idx, 3)) (h1 : Cond.methodLink own idx arraycopyName ∈ Ts) (h2 : Cond.native arraycopyName ∈ Ts) (h3 : Cond.static arraycopyName ∈ Ts) (h4 : Cond.initialized "java/lang/System" ∈ Ts)
    (q0 q1 t0 : Nat) (ha0 : ws[q0]? = some (a0, .inl (c0, N0, .inl (aZ F0')))) (ha1 : ws[q1]? = some (a1, .inl (c0, N1, .inl (aZ F1)))) (ht : (tT G.2.1)[t0]? = some (c0, ty)) (hpr : refKind ty = false) (hz0 : 0 ≤ z) (hz1 : z ≤ N0) (hz2 : z ≤ N1 ∧ z < 2147483648) (hfit : ∀ i : Int, 0 ≤ i ∧ i < z → fits ty (.int (iZ (F0' i))) = true) (hfr : 1 ≤ fr) (hlo : (rest.map fun v => v.category).sum + 18 ≤ lo) (hws : ws.set q1 (a1, .inl (c0, N1, .inl (aZ (cpZ F0' F1 z)))) = ws')
    (K : fSt l G X k n (pc + 3) lv rest ws') : fSt l G X k n pc lv (vI z :: vI 0 :: .ref a1 :: vI 0 :: .ref a0 :: rest) ws := by
  subst hws
  obtain ⟨p, e, R, s, m, args, below, meth, c, Q, A, H0, nL'⟩ := X
  obtain ⟨hx, hb, hml, rfl, hown, hts, hE, hA, rfl, rfl⟩ := C0
  intro H locs ls hP hD hS hl
  have e0 : (iZ 0).toNatClampNeg = 0 := iZ_cl (by omega) (by omega)
  have ez : (iZ z).toNatClampNeg = z.toNat := iZ_cl hz0 hz2.2
  refine va_copyi hx hb (hml.trans hl.1.symm) hown (hts _ h1) (hts _ h2) (hts _ h3) (hts _ h4) hE.1 hP hD hS q0 q1 t0 t0 ha0 ha1 ht ht hpr (sp := iZ 0) (dp := iZ 0) (n := iZ z) (iZ_neg (by omega) (by omega)) (iZ_neg (by omega) (by omega)) (iZ_neg hz0 hz2.2) (by rw [e0, ez]; omega) (by rw [e0, ez]; omega) (fun i hi => ?_) hfr hlo hdg (fun H locs hP hD hS => ?_)
  · rw [e0, Nat.zero_add]
    rw [ez] at hi
    exact hfit i (by omega)
  · rw [aZ_cp hz0 hz2.2] at hP hD
    exact K H locs ls hP hD hS hl
/-- a switch: within the table, outside it, by a list -/
theorem s_tabIn {z d0 lw hi off : Int} {offs : Array Int} {len : Nat} (tgt : Nat) (C0 : fC G X own cc Ts nL fr lo mc ms) (hdg : decode cc pc = .ok (.tableswitch d0 lw hi offs, len)) (hz : -2147483648 ≤ z ∧ z < 2147483648) (h1 : lw ≤ z) (h2 : z ≤ hi) (ho : offs[(z - lw).toNat]? = some off) (ht : (pc : Int) + off = (tgt : Int)) (K : fSt l G X k n tgt lv st ws) : fSt l G X k n pc lv (vI z :: st) ws := by
  obtain ⟨p, e, R, s, m, args, below, meth, c, Q, A, H0, nL'⟩ := X
  obtain ⟨hx, hb, -⟩ := C0
  intro H locs ls hP hD hS hl
  exact lv_tableIn hx hb hdg (by rw [iZ_int hz]; omega) (by rw [iZ_int hz]; omega) (by rw [iZ_int hz]; exact ho) ht (K H locs ls hP hD hS hl)
theorem s_tabOut {z d0 lw hi : Int} {offs : Array Int} {len : Nat} (tgt : Nat) (C0 : fC G X own cc Ts nL fr lo mc ms) (hdg : decode cc pc = .ok (.tableswitch d0 lw hi offs, len)) (hz : -2147483648 ≤ z ∧ z < 2147483648) (h1 : z < lw ∨ hi < z) (ht : (pc : Int) + d0 = (tgt : Int)) (K : fSt l G X k n tgt lv st ws) : fSt l G X k n pc lv (vI z :: st) ws := by
  obtain ⟨p, e, R, s, m, args, below, meth, c, Q, A, H0, nL'⟩ := X
  obtain ⟨hx, hb, -⟩ := C0
  intro H locs ls hP hD hS hl
  exact lv_tableOut hx hb hdg (by rw [iZ_int hz]; exact h1) ht (K H locs ls hP hD hS hl)
theorem s_look {z d0 off : Int} {ps : Array (Int × Int)} {len : Nat} (tgt : Nat) (C0 : fC G X own cc Ts nL fr lo mc ms) (hdg : decode cc pc = .ok (.lookupswitch d0 ps, len)) (hp : (ps.toList.zip (ps.toList.drop 1)).all (fun (a, next) => a.1 < next.1) = true) (hz : -2147483648 ≤ z ∧ z < 2147483648) (ho : Op.lookupswitch.offset ps.toList d0 z = off) (ht : (pc : Int) + off = (tgt : Int)) (K : fSt l G X k n tgt lv st ws) : fSt l G X k n pc lv (vI z :: st) ws := by
  obtain ⟨p, e, R, s, m, args, below, meth, c, Q, A, H0, nL'⟩ := X
  obtain ⟨hx, hb, -⟩ := C0
  intro H locs ls hP hD hS hl
  exact lv_lookup hx hb hdg hp (by rw [iZ_int hz]; exact ho) ht (K H locs ls hP hD hS hl)
/-- a new object -/
theorem s_new {C : String} {T : u_T} {N : Nat} {fs : List Value} (C0 : fC G X own cc Ts nL fr lo mc ms) (hdg : decode cc pc = .ok (.new idx, 3)) (ci : Nat) (hc : vwCl[ci]? = some (C, T, N)) (hin : ∀ w ∈ u_ws C T N, w ∈ Ts) (ty : Nat → FieldType) (hty : ∀ k, k < N → parseFieldDescriptor (T k).2.2.1 = some (ty k)) (h1 : Cond.classLink own idx C ∈ Ts) (h2 : Cond.instantiable C N ∈ Ts) (h3 : Cond.initialized C ∈ Ts) (fs : List Value) (hfs : ∀ j, j < N → defaultValue (ty j) = vp_V fs j) (hk : k + 1 ≤ mc) (hn : n + N ≤ ms)
    (K : ∀ q : Nat, fSt l G X (k + 1) (n + N) (pc + 3) lv (.ref q :: st) (ws ++ [(q, .inr (ci, fs))])) : fSt l G X k n pc lv st ws := by
  obtain ⟨p, e, R, s, m, args, below, meth, c, Q, A, H0, nL'⟩ := X
  obtain ⟨hx, hb, hml, rfl, hown, hts, hE, hA, rfl, rfl⟩ := C0
  intro H locs ls hP hD hS hl
  exact va_new hx hb hts hin ty hty hown (hts _ h1) (hts _ h2) (hts _ h3) hE.1 hP hD hS hA hc hfs hk hn hdg (fun q H1 hP hD hS => K q H1 locs ls hP hD hS hl)
theorem s_newa_int {N : Nat} {z : Int} (C0 : fC G X own cc Ts nL fr lo mc ms) (hdg : decode cc pc = .ok (.newarray .int, 2)) (harr : Cond.arrayClass .int ∈ Ts) (hz : z = (N : Int)) (hN : N ≤ 100000) (hk : k + 1 ≤ mc) (hn : n + N ≤ ms)
    (K : ∀ q : Nat, fSt l G X (k + 1) (n + N) (pc + 2) lv (.ref q :: st) (ws ++ [cA q G.2.1.1 N (fun _ => 0)])) : fSt l G X k n pc lv (vI z :: st) ws := by
  subst hz
  obtain ⟨p, e, R, s, m, args, below, meth, c, Q, A, H0, nL'⟩ := X
  obtain ⟨hx, hb, hml, rfl, hown, hts, hE, hA, rfl, rfl⟩ := C0
  intro H locs ls hP hD hS hl
  refine va_newa (atype := .int) (ty := .int) (N' := N) (a0 := (N, .inl (aZ fun _ => 0))) hx hb (hts _ harr) rfl hE.1 hP hD hS hA (fun _ => rfl) (iZ_neg (by omega) (by omega)) (by rw [iZ_cl (by omega) (by omega)]; omega) (by simp only [componentBytes]; omega) hk hn hdg (fun q c1 H1 hK1 hP1 hD1 hS1 => ?_)
  have e1 := (hK1.2 5 (c1, .int) rfl).2
  have e2 := (hE.1.2 0 (G.2.1.1, .int) rfl).2
  have ec : c1 = G.2.1.1 := Option.some.inj (e1.symm.trans e2)
  subst ec
  exact K q H1 locs ls hP1 hD1 hS1 hl
theorem s_newa_boolean {N : Nat} {z : Int} (C0 : fC G X own cc Ts nL fr lo mc ms) (hdg : decode cc pc = .ok (.newarray .boolean, 2)) (harr : Cond.arrayClass .boolean ∈ Ts) (hz : z = (N : Int)) (hN : N ≤ 100000) (hk : k + 1 ≤ mc) (hn : n + N ≤ ms)
    (K : ∀ q : Nat, fSt l G X (k + 1) (n + N) (pc + 2) lv (.ref q :: st) (ws ++ [cA q G.2.1.2.1 N (fun _ => 0)])) : fSt l G X k n pc lv (vI z :: st) ws := by
  subst hz
  obtain ⟨p, e, R, s, m, args, below, meth, c, Q, A, H0, nL'⟩ := X
  obtain ⟨hx, hb, hml, rfl, hown, hts, hE, hA, rfl, rfl⟩ := C0
  intro H locs ls hP hD hS hl
  refine va_newa (atype := .boolean) (ty := .boolean) (N' := N) (a0 := (N, .inl (aZ fun _ => 0))) hx hb (hts _ harr) rfl hE.1 hP hD hS hA (fun _ => rfl) (iZ_neg (by omega) (by omega)) (by rw [iZ_cl (by omega) (by omega)]; omega) (by simp only [componentBytes]; omega) hk hn hdg (fun q c1 H1 hK1 hP1 hD1 hS1 => ?_)
  have e1 := (hK1.2 5 (c1, .boolean) rfl).2
  have e2 := (hE.1.2 1 (G.2.1.2.1, .boolean) rfl).2
  have ec : c1 = G.2.1.2.1 := Option.some.inj (e1.symm.trans e2)
  subst ec
  exact K q H1 locs ls hP1 hD1 hS1 hl
theorem s_newa_char {N : Nat} {z : Int} (C0 : fC G X own cc Ts nL fr lo mc ms) (hdg : decode cc pc = .ok (.newarray .char, 2)) (harr : Cond.arrayClass .char ∈ Ts) (hz : z = (N : Int)) (hN : N ≤ 100000) (hk : k + 1 ≤ mc) (hn : n + N ≤ ms)
    (K : ∀ q : Nat, fSt l G X (k + 1) (n + N) (pc + 2) lv (.ref q :: st) (ws ++ [cA q G.2.1.2.2.1 N (fun _ => 0)])) : fSt l G X k n pc lv (vI z :: st) ws := by
  subst hz
  obtain ⟨p, e, R, s, m, args, below, meth, c, Q, A, H0, nL'⟩ := X
  obtain ⟨hx, hb, hml, rfl, hown, hts, hE, hA, rfl, rfl⟩ := C0
  intro H locs ls hP hD hS hl
  refine va_newa (atype := .char) (ty := .char) (N' := N) (a0 := (N, .inl (aZ fun _ => 0))) hx hb (hts _ harr) rfl hE.1 hP hD hS hA (fun _ => rfl) (iZ_neg (by omega) (by omega)) (by rw [iZ_cl (by omega) (by omega)]; omega) (by simp only [componentBytes]; omega) hk hn hdg (fun q c1 H1 hK1 hP1 hD1 hS1 => ?_)
  have e1 := (hK1.2 5 (c1, .char) rfl).2
  have e2 := (hE.1.2 2 (G.2.1.2.2.1, .char) rfl).2
  have ec : c1 = G.2.1.2.2.1 := Option.some.inj (e1.symm.trans e2)
  subst ec
  exact K q H1 locs ls hP1 hD1 hS1 hl
end FM
theorem bI_rng {p : Prop} [Decidable p] : -2147483648 ≤ bI p ∧ bI p < 2147483648 := by
  rcases bI_01 (p := p) with h | h <;> rw [h] <;> decide

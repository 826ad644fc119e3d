/-! ===== longs that aren't negative, and rows of them ===== -/
abbrev vLg (n : Nat) : Value := .long (lN n)
abbrev aLg (f : Int → Nat) : Nat → Int64 := fun j => lN (f (j : Int))
abbrev cLg (a : Nat) (c : ClassId) (N : Nat) (f : Int → Nat) : Nat × va_E := (a, .inl (c, N, .inr (.inl (aLg f))))
def uLg (f : Int → Nat) (k : Int) (v : Nat) : Int → Nat := fun j => if j = k then v else f j
theorem uLg_s {f : Int → Nat} {k : Int} {v : Nat} : uLg f k v k = v := if_pos rfl
theorem uLg_n {f : Int → Nat} {k j : Int} {v : Nat} (h : j ≠ k) : uLg f k v j = f j := if_neg h
theorem aLg_at {f : Int → Nat} {z : Int} (h0 : 0 ≤ z) (h1 : z < 2147483648) : aLg f (iZ z).toNatClampNeg = lN (f z) := by
  rw [iZ_cl h0 h1]
  simp only [aLg]
  rw [Int.toNat_of_nonneg h0]
theorem aLg_up {f : Int → Nat} {z : Int} {v : Nat} (h0 : 0 ≤ z) (h1 : z < 2147483648) : vp_updL (aLg f) (iZ z).toNatClampNeg (lN v) = aLg (uLg f z v) := by
  rw [iZ_cl h0 h1]
  funext j
  simp only [vp_updL, aLg, uLg]
  by_cases h : j = z.toNat
  · rw [if_pos h, if_pos (by omega)]
  · rw [if_neg h, if_neg (by omega)]
theorem iZ_N {z : Int} (h0 : 0 ≤ z) : iZ z = nI z.toNat := by rw [iZ_nI, Int.toNat_of_nonneg h0]
theorem iZ_val (x : Int32) : Value.int x = vI x.toInt := congrArg Value.int (iZ_of x).symm
/-- three answers of a comparison -/
def lcZ (x y : Nat) : Int := if y < x then 1 else if x = y then 0 else -1
theorem lcZ_0 {x y : Nat} : lcZ x y = 0 ↔ x = y := by
  unfold lcZ
  split
  · omega
  · split <;> omega
theorem lcZ_rg {x y : Nat} : -2147483648 ≤ lcZ x y ∧ lcZ x y < 2147483648 := by
  unfold lcZ
  split
  · omega
  · split <;> omega
theorem lcZ_cmp {x y : Nat} (hx : x < 2 ^ 63) (hy : y < 2 ^ 63) : lg_cmp (lN x) (lN y) = iZ (lcZ x y) := by
  unfold lcZ
  by_cases h1 : y < x
  · rw [if_pos h1]
    have h2 : lN y < lN x := (pk_lLT hy hx).mpr h1
    simp [lg_cmp, h2]
    rfl
  · rw [if_neg h1]
    have h2 : ¬ lN y < lN x := mt (pk_lLT hy hx).mp h1
    by_cases h3 : x = y
    · rw [if_pos h3, h3]
      simp [lg_cmp]
      rfl
    · rw [if_neg h3]
      have h4 : ¬ lN x = lN y := mt (pk_lEQ hx hy).mp h3
      simp [lg_cmp, h2, h4]
      rfl
section FLG
variable {l : Launch} {G : fG} {X : fX} {own : String} {cc : ByteArray} {Ts : List Cond} {nL fr lo mc ms k n pc idx : Nat} {lv : List (Nat × Value)} {st : List Value} {ws : va_W}
theorem s_ldc2 {v : Nat} (C : fC G X own cc Ts nL fr lo mc ms) (hm : Cond.constantLong own idx (lN v) ∈ Ts) (hdg : decode cc pc = .ok (.ldc2_w idx, 3)) (K : fSt l G X k n (pc + 3) lv (vLg v :: st) ws) : fSt l G X k n pc lv st ws := by
  obtain ⟨p, e, R, s, m, args, below, meth, c, Q, A, H0, nL'⟩ := X
  obtain ⟨hx, hb, -, -, hown, hts, -⟩ := C
  intro H locs ls hP hD hS hl
  exact lv_ldc2 hx hb hown (hts _ hm) hdg (K H locs ls hP hD hS hl)
theorem s_lconst {v : Nat} {f2 : Fin 2} (C : fC G X own cc Ts nL fr lo mc ms) (hdg : decode cc pc = .ok (.lconst f2, 1)) (hv : (f2 : Nat) = v) (K : fSt l G X k n (pc + 1) lv (vLg v :: st) ws) : fSt l G X k n pc lv st ws := by
  obtain ⟨p, e, R, s, m, args, below, meth, c, Q, A, H0, nL'⟩ := X
  obtain ⟨hx, hb, -⟩ := C
  intro H locs ls hP hD hS hl
  exact lv_lconst hx hb hdg (v := lN v) (by rw [hv]; rfl) (K H locs ls hP hD hS hl)
theorem s_lload_n {f4 : Fin 4} (i : Nat) {v : Nat} (C : fC G X own cc Ts nL fr lo mc ms) (hdg : decode cc pc = .ok (.lload_n f4, 1)) (hi : (f4 : Nat) = i) (j : Nat) (hj : lv[j]? = some (i, vLg v)) (K : fSt l G X k n (pc + 1) lv (vLg v :: st) ws) : fSt l G X k n pc lv st ws := by
  obtain ⟨p, e, R, s, m, args, below, meth, c, Q, A, H0, nL'⟩ := X
  obtain ⟨hx, hb, -⟩ := C
  intro H locs ls hP hD hS hl
  exact lv_lload_n hx hb hdg hi (lv_at hl j hj) (K H locs ls hP hD hS hl)
theorem s_lstore_n {f4 : Fin 4} (i : Nat) {v : Nat} (lv' : List (Nat × Value)) (C : fC G X own cc Ts nL fr lo mc ms) (hdg : decode cc pc = .ok (.lstore_n f4, 1)) (hi : (f4 : Nat) = i) (hn : i + 1 < nL) (hl' : (i, vLg v) :: lv.filter (fun q => !(q.1 == i) && (!(q.1 == i + 1) && !(q.1 + 1 == i && q.2.category == 2))) = lv') (K : fSt l G X k n (pc + 1) lv' st ws) : fSt l G X k n pc lv (vLg v :: st) ws := by
  obtain ⟨p, e, R, s, m, args, below, meth, c, Q, A, H0, nL'⟩ := X
  obtain ⟨hx, hb, -, rfl, -⟩ := C
  intro H locs ls hP hD hS hl
  exact lv_lstore_n hx hb hdg hi hl hn hl' (fun ls hl => K H locs ls hP hD hS hl)
theorem s_lald {a N : Nat} {F : Int → Nat} {z : Int} (C0 : fC G X own cc Ts nL fr lo mc ms) (hdg : decode cc pc = .ok (.laload, 1)) (q0 : Nat) (ha : ws[q0]? = some (cLg a G.2.1.2.2.2.2 N F)) (z' : Int) (hz : z = z') (h0 : 0 ≤ z') (h1 : z' < N) (hN : N ≤ 2147483648) (K : fSt l G X k n (pc + 1) lv (vLg (F z') :: st) ws) : fSt l G X k n pc lv (vI z :: .ref a :: st) ws := by
  subst hz
  obtain ⟨p, e, R, s, m, args, below, meth, c, Q, A, H0, nL'⟩ := X
  obtain ⟨hx, hb, -, -, hown, hts, hE, -⟩ := C0
  intro H locs ls hP hD hS hl
  refine va_lald hx hb hE.1 hP q0 4 ha rfl (iZ_in h0 h1 hN) hdg ?_
  rw [aLg_at h0 (by omega)]
  exact K H locs ls hP hD hS hl
theorem s_last {a N : Nat} {F : Int → Nat} {z : Int} {x : Nat} (ws' : va_W) (C0 : fC G X own cc Ts nL fr lo mc ms) (hdg : decode cc pc = .ok (.lastore, 1)) (q0 : Nat) (ha : ws[q0]? = some (cLg a G.2.1.2.2.2.2 N F)) (z' : Int) (hz : z = z') (h0 : 0 ≤ z') (h1 : z' < N) (hN : N ≤ 2147483648) (hws : ws.set q0 (cLg a G.2.1.2.2.2.2 N (uLg F z' x)) = ws') (K : fSt l G X k n (pc + 1) lv st ws') : fSt l G X k n pc lv (vLg x :: vI z :: .ref a :: st) ws := by
  subst hws
  subst hz
  obtain ⟨p, e, R, s, m, args, below, meth, c, Q, A, H0, nL'⟩ := X
  obtain ⟨hx, hb, -, -, hown, hts, hE, -⟩ := C0
  intro H locs ls hP hD hS hl
  refine va_last hx hb hE.1 hP hD hS q0 4 ha rfl (iZ_in h0 h1 hN) hdg (fun H locs hP hD hS => ?_)
  rw [aLg_up h0 (by omega)] at hP hD
  exact K H locs ls hP hD hS hl
theorem s_ladd {x y : Nat} (C : fC G X own cc Ts nL fr lo mc ms) (hdg : decode cc pc = .ok (.ladd, 1)) (K : fSt l G X k n (pc + 1) lv (vLg (x + y) :: st) ws) : fSt l G X k n pc lv (vLg y :: vLg x :: st) ws := by
  obtain ⟨p, e, R, s, m, args, below, meth, c, Q, A, H0, nL'⟩ := X
  obtain ⟨hx, hb, -⟩ := C
  intro H locs ls hP hD hS hl
  refine lv_ladd hx hb hdg ?_
  rw [lN_add]
  exact K H locs ls hP hD hS hl
theorem s_lmul {x y : Nat} (C : fC G X own cc Ts nL fr lo mc ms) (hdg : decode cc pc = .ok (.lmul, 1)) (K : fSt l G X k n (pc + 1) lv (vLg (x * y) :: st) ws) : fSt l G X k n pc lv (vLg y :: vLg x :: st) ws := by
  obtain ⟨p, e, R, s, m, args, below, meth, c, Q, A, H0, nL'⟩ := X
  obtain ⟨hx, hb, -⟩ := C
  intro H locs ls hP hD hS hl
  refine lv_lmul hx hb hdg ?_
  rw [lN_mul]
  exact K H locs ls hP hD hS hl
theorem s_lsub {x y : Nat} (C : fC G X own cc Ts nL fr lo mc ms) (hdg : decode cc pc = .ok (.lsub, 1)) (h : y ≤ x) (K : fSt l G X k n (pc + 1) lv (vLg (x - y) :: st) ws) : fSt l G X k n pc lv (vLg y :: vLg x :: st) ws := by
  obtain ⟨p, e, R, s, m, args, below, meth, c, Q, A, H0, nL'⟩ := X
  obtain ⟨hx, hb, -⟩ := C
  intro H locs ls hP hD hS hl
  refine lv_lsub hx hb hdg ?_
  rw [lN_sub h]
  exact K H locs ls hP hD hS hl
theorem lN_ne {y : Nat} (h0 : 0 < y) (hy : y < 2 ^ 63) : ¬ lN y = 0 := fun q => by
  have h := (pk_lEQ (a := y) (b := 0) hy (by decide)).mp q
  omega
theorem s_ldiv {x y : Nat} (C : fC G X own cc Ts nL fr lo mc ms) (hdg : decode cc pc = .ok (.ldiv, 1)) (h : x < 2 ^ 63) (h0 : 0 < y) (hy : y < 2 ^ 63) (K : fSt l G X k n (pc + 1) lv (vLg (x / y) :: st) ws) : fSt l G X k n pc lv (vLg y :: vLg x :: st) ws := by
  obtain ⟨p, e, R, s, m, args, below, meth, c, Q, A, H0, nL'⟩ := X
  obtain ⟨hx, hb, -⟩ := C
  intro H locs ls hP hD hS hl
  refine lv_ldiv hx hb hdg (lN_ne h0 hy) ?_
  rw [pk_lDiv h h0 hy]
  exact K H locs ls hP hD hS hl
theorem s_lrem {x y : Nat} (C : fC G X own cc Ts nL fr lo mc ms) (hdg : decode cc pc = .ok (.lrem, 1)) (h : x < 2 ^ 63) (h0 : 0 < y) (hy : y < 2 ^ 63) (K : fSt l G X k n (pc + 1) lv (vLg (x % y) :: st) ws) : fSt l G X k n pc lv (vLg y :: vLg x :: st) ws := by
  obtain ⟨p, e, R, s, m, args, below, meth, c, Q, A, H0, nL'⟩ := X
  obtain ⟨hx, hb, -⟩ := C
  intro H locs ls hP hD hS hl
  refine lv_lrem hx hb hdg (lN_ne h0 hy) ?_
  rw [pk_lRem h h0 hy]
  exact K H locs ls hP hD hS hl
theorem s_land {x y : Nat} (C : fC G X own cc Ts nL fr lo mc ms) (hdg : decode cc pc = .ok (.land, 1)) (h : x < 2 ^ 64) (hy : y < 2 ^ 64) (K : fSt l G X k n (pc + 1) lv (vLg (x &&& y) :: st) ws) : fSt l G X k n pc lv (vLg y :: vLg x :: st) ws := by
  obtain ⟨p, e, R, s, m, args, below, meth, c, Q, A, H0, nL'⟩ := X
  obtain ⟨hx, hb, -⟩ := C
  intro H locs ls hP hD hS hl
  refine lv_land hx hb hdg ?_
  rw [wb_and h hy]
  exact K H locs ls hP hD hS hl
theorem s_land1 {x : Nat} (C : fC G X own cc Ts nL fr lo mc ms) (hdg : decode cc pc = .ok (.land, 1)) (h : x < 2 ^ 64) (K : fSt l G X k n (pc + 1) lv (vLg (x % 2) :: st) ws) : fSt l G X k n pc lv (vLg 1 :: vLg x :: st) ws := by
  obtain ⟨p, e, R, s, m, args, below, meth, c, Q, A, H0, nL'⟩ := X
  obtain ⟨hx, hb, -⟩ := C
  intro H locs ls hP hD hS hl
  refine lv_land hx hb hdg ?_
  rw [show lN x &&& lN 1 = lN (x % 2) from wb_a1 h]
  exact K H locs ls hP hD hS hl
theorem s_lor {x y : Nat} (C : fC G X own cc Ts nL fr lo mc ms) (hdg : decode cc pc = .ok (.lor, 1)) (h : x < 2 ^ 64) (hy : y < 2 ^ 64) (K : fSt l G X k n (pc + 1) lv (vLg (x ||| y) :: st) ws) : fSt l G X k n pc lv (vLg y :: vLg x :: st) ws := by
  obtain ⟨p, e, R, s, m, args, below, meth, c, Q, A, H0, nL'⟩ := X
  obtain ⟨hx, hb, -⟩ := C
  intro H locs ls hP hD hS hl
  refine lv_lor hx hb hdg ?_
  rw [wb_or h hy]
  exact K H locs ls hP hD hS hl
theorem s_lshl {x : Nat} {z : Int} (C : fC G X own cc Ts nL fr lo mc ms) (hdg : decode cc pc = .ok (.lshl, 1)) (hz : 0 ≤ z ∧ z < 64) (K : fSt l G X k n (pc + 1) lv (vLg (x * 2 ^ z.toNat) :: st) ws) : fSt l G X k n pc lv (vI z :: vLg x :: st) ws := by
  obtain ⟨p, e, R, s, m, args, below, meth, c, Q, A, H0, nL'⟩ := X
  obtain ⟨hx, hb, -⟩ := C
  intro H locs ls hP hD hS hl
  exact lv_lshl hx hb hdg (v := lN (x * 2 ^ z.toNat)) (by rw [iZ_N hz.1]; exact wb_shl x (by omega)) (K H locs ls hP hD hS hl)
theorem s_lshr {x : Nat} {z : Int} (C : fC G X own cc Ts nL fr lo mc ms) (hdg : decode cc pc = .ok (.lshr, 1)) (h : x < 2 ^ 62) (hz : 0 ≤ z ∧ z < 64) (K : fSt l G X k n (pc + 1) lv (vLg (x / 2 ^ z.toNat) :: st) ws) : fSt l G X k n pc lv (vI z :: vLg x :: st) ws := by
  obtain ⟨p, e, R, s, m, args, below, meth, c, Q, A, H0, nL'⟩ := X
  obtain ⟨hx, hb, -⟩ := C
  intro H locs ls hP hD hS hl
  refine lv_lshr hx hb hdg (v := lN (x / 2 ^ z.toNat)) ?_ (K H locs ls hP hD hS hl)
  rw [iZ_N hz.1, wb_c _ (by omega)]
  refine pf_shr ?_ h
  rw [wb_tb, wb_sm _ (by omega), BitVec.toNat_ofNat, Nat.mod_eq_of_lt (by omega)]
theorem s_i2l {z : Int} (C : fC G X own cc Ts nL fr lo mc ms) (hdg : decode cc pc = .ok (.i2l, 1)) (hz : 0 ≤ z ∧ z < 2147483648) (K : fSt l G X k n (pc + 1) lv (vLg z.toNat :: st) ws) : fSt l G X k n pc lv (vI z :: st) ws := by
  obtain ⟨p, e, R, s, m, args, below, meth, c, Q, A, H0, nL'⟩ := X
  obtain ⟨hx, hb, -⟩ := C
  intro H locs ls hP hD hS hl
  exact lv_i2l hx hb hdg (v := lN z.toNat) (by rw [iZ_N hz.1]; exact nI_l (by omega)) (K H locs ls hP hD hS hl)
theorem s_l2i {x : Nat} (C : fC G X own cc Ts nL fr lo mc ms) (hdg : decode cc pc = .ok (.l2i, 1)) (K : fSt l G X k n (pc + 1) lv (vI (x : Int) :: st) ws) : fSt l G X k n pc lv (vLg x :: st) ws := by
  obtain ⟨p, e, R, s, m, args, below, meth, c, Q, A, H0, nL'⟩ := X
  obtain ⟨hx, hb, -⟩ := C
  intro H locs ls hP hD hS hl
  exact lv_l2i hx hb hdg (v := iZ (x : Int)) (by rw [lN_i, iZ_nI]) (K H locs ls hP hD hS hl)
theorem s_lcmp {x y : Nat} (C : fC G X own cc Ts nL fr lo mc ms) (hdg : decode cc pc = .ok (.lcmp, 1)) (h : x < 2 ^ 63) (hy : y < 2 ^ 63) (K : fSt l G X k n (pc + 1) lv (vI (lcZ x y) :: st) ws) : fSt l G X k n pc lv (vLg y :: vLg x :: st) ws := by
  obtain ⟨p, e, R, s, m, args, below, meth, c, Q, A, H0, nL'⟩ := X
  obtain ⟨hx, hb, -⟩ := C
  intro H locs ls hP hD hS hl
  refine W.lcmp hx hb hdg ?_
  rw [lcZ_cmp h hy]
  exact K H locs ls hP hD hS hl
theorem s_topL {x : Nat} (x' : Nat) (h : x = x') (K : fSt l G X k n pc lv (vLg x' :: st) ws) : fSt l G X k n pc lv (vLg x :: st) ws := h ▸ K
/-! ===== ints: quotients and rests of what isn't negative; what any int becomes ===== -/
theorem s_idiv {x y : Int} (C : fC G X own cc Ts nL fr lo mc ms) (hdg : decode cc pc = .ok (.idiv, 1)) (h : 0 ≤ x ∧ x < 2147483648) (hy : 0 < y ∧ y < 2147483648) (K : fSt l G X k n (pc + 1) lv (vI (x / y) :: st) ws) : fSt l G X k n pc lv (vI y :: vI x :: st) ws := by
  obtain ⟨p, e, R, s, m, args, below, meth, c, Q, A, H0, nL'⟩ := X
  obtain ⟨hx, hb, -⟩ := C
  intro H locs ls hP hD hS hl
  have e1 : iZ x / iZ y = iZ (x / y) := by
    rw [iZ_N h.1, iZ_N (by omega : 0 ≤ y), pk_div (by omega) (by omega) (by omega), iZ_nI]
    congr 1
    rw [Int.natCast_ediv, Int.toNat_of_nonneg h.1, Int.toNat_of_nonneg (by omega)]
  refine lv_idiv hx hb hdg ?_ ?_
  · rw [iZ_N (by omega : 0 ≤ y)]
    exact nI_ne0 (by omega) (by omega)
  · rw [e1]
    exact K H locs ls hP hD hS hl
theorem s_irem {x y : Int} (C : fC G X own cc Ts nL fr lo mc ms) (hdg : decode cc pc = .ok (.irem, 1)) (h : 0 ≤ x ∧ x < 2147483648) (hy : 0 < y ∧ y < 2147483648) (K : fSt l G X k n (pc + 1) lv (vI (x % y) :: st) ws) : fSt l G X k n pc lv (vI y :: vI x :: st) ws := by
  obtain ⟨p, e, R, s, m, args, below, meth, c, Q, A, H0, nL'⟩ := X
  obtain ⟨hx, hb, -⟩ := C
  intro H locs ls hP hD hS hl
  have e1 : iZ x - iZ x / iZ y * iZ y = iZ (x % y) := by
    rw [iZ_N h.1, iZ_N (by omega : 0 ≤ y), pk_rem (by omega) (by omega) (by omega), iZ_nI]
    congr 1
    rw [Int.natCast_emod, Int.toNat_of_nonneg h.1, Int.toNat_of_nonneg (by omega)]
  refine lv_irem hx hb hdg ?_ ?_
  · rw [iZ_N (by omega : 0 ≤ y)]
    exact nI_ne0 (by omega) (by omega)
  · rw [e1]
    exact K H locs ls hP hD hS hl
theorem s_iandM {x : Int} (C : fC G X own cc Ts nL fr lo mc ms) (hdg : decode cc pc = .ok (.iand, 1)) (K : ∀ z : Int, 0 ≤ z ∧ z < 2147483648 → fSt l G X k n (pc + 1) lv (vI z :: st) ws) : fSt l G X k n pc lv (vI 2147483647 :: vI x :: st) ws := by
  obtain ⟨p, e, R, s, m, args, below, meth, c, Q, A, H0, nL'⟩ := X
  obtain ⟨hx, hb, -⟩ := C
  intro H locs ls hP hD hS hl
  obtain ⟨j, hj, e1⟩ := pk_andE (iZ x) (m := iZ 2147483647) 31 (by decide)
  refine lv_iand hx hb hdg ?_
  rw [e1, iZ_nI]
  exact K (j : Int) (by omega) H locs ls hP hD hS hl
theorem s_ishrA {x y : Int} (C : fC G X own cc Ts nL fr lo mc ms) (hdg : decode cc pc = .ok (.ishr, 1)) (K : ∀ z : Int, -2147483648 ≤ z ∧ z < 2147483648 → fSt l G X k n (pc + 1) lv (vI z :: st) ws) : fSt l G X k n pc lv (vI y :: vI x :: st) ws := by
  obtain ⟨p, e, R, s, m, args, below, meth, c, Q, A, H0, nL'⟩ := X
  obtain ⟨hx, hb, -⟩ := C
  intro H locs ls hP hD hS hl
  refine lv_ishr hx hb hdg ?_
  rw [iZ_val]
  exact K _ (iZ_rng _) H locs ls hP hD hS hl
theorem s_ixorA {x y : Int} (C : fC G X own cc Ts nL fr lo mc ms) (hdg : decode cc pc = .ok (.ixor, 1)) (K : ∀ z : Int, -2147483648 ≤ z ∧ z < 2147483648 → fSt l G X k n (pc + 1) lv (vI z :: st) ws) : fSt l G X k n pc lv (vI y :: vI x :: st) ws := by
  obtain ⟨p, e, R, s, m, args, below, meth, c, Q, A, H0, nL'⟩ := X
  obtain ⟨hx, hb, -⟩ := C
  intro H locs ls hP hD hS hl
  refine lv_ixor hx hb hdg ?_
  rw [iZ_val]
  exact K _ (iZ_rng _) H locs ls hP hD hS hl
/-! ===== the script, out of what every method may take for granted ===== -/
theorem s_glen (C0 : fC G X own cc Ts nL fr lo mc ms) (hdg : decode cc pc = .ok (.arraylength, 1)) (K : fSt l G X k n (pc + 1) lv (vI (G.2.2.2.1 : Int) :: st) ws) : fSt l G X k n pc lv (.ref G.2.2.1 :: st) ws := by
  obtain ⟨p, e, R, s, m, args, below, meth, c, Q, A, H0, nL'⟩ := X
  obtain ⟨hx, hb, hml, rfl, hown, hts, ⟨-, -, hXs, hbl, hbA⟩, hA, rfl, rfl⟩ := C0
  intro H locs ls hP hD hS hl
  refine va_slen hx hb hXs hbl hbA hS hdg ?_
  have e1 : Int32.ofNat G.2.2.2.1 = iZ (G.2.2.2.1 : Int) := iZ_nI G.2.2.2.1
  rw [e1]
  exact K H locs ls hP hD hS hl
theorem s_gld {z : Int} (C0 : fC G X own cc Ts nL fr lo mc ms) (hdg : decode cc pc = .ok (.iaload, 1)) (h0 : 0 ≤ z) (h1 : z < (G.2.2.2.1 : Int)) (h2 : z < 2147483648) (K : ∀ v : Int, -2147483648 ≤ v ∧ v < 2147483648 → fSt l G X k n (pc + 1) lv (vI v :: st) ws) : fSt l G X k n pc lv (vI z :: .ref G.2.2.1 :: st) ws := by
  obtain ⟨p, e, R, s, m, args, below, meth, c, Q, A, H0, nL'⟩ := X
  obtain ⟨hx, hb, hml, rfl, hown, hts, ⟨-, -, hXs, hbl, hbA⟩, hA, rfl, rfl⟩ := C0
  intro H locs ls hP hD hS hl
  refine va_sld hx hb hXs hbl hbA hS (i := iZ z) ?_ hdg ?_
  · rintro (h | h)
    · exact iZ_neg h0 h2 h
    · rw [iZ_cl h0 h2] at h
      omega
  · rw [iZ_val]
    exact K _ (iZ_rng _) H locs ls hP hD hS hl
theorem s_newa_long {N : Nat} {z : Int} (C0 : fC G X own cc Ts nL fr lo mc ms) (hdg : decode cc pc = .ok (.newarray .long, 2)) (harr : Cond.arrayClass .long ∈ Ts) (hz : z = (N : Int)) (hN : N ≤ 100000) (hk : k + 1 ≤ mc) (hn : n + N ≤ ms)
    (K : ∀ q : Nat, fSt l G X (k + 1) (n + N) (pc + 2) lv (.ref q :: st) (ws ++ [cLg q G.2.1.2.2.2.2 N (fun _ => 0)])) : fSt l G X k n pc lv (vI z :: st) ws := by
  subst hz
  obtain ⟨p, e, R, s, m, args, below, meth, c, Q, A, H0, nL'⟩ := X
  obtain ⟨hx, hb, hml, rfl, hown, hts, hE, hA, rfl, rfl⟩ := C0
  intro H locs ls hP hD hS hl
  refine va_newa (atype := .long) (ty := .long) (N' := N) (a0 := (N, .inr (.inl (aLg fun _ => 0)))) hx hb (hts _ harr) rfl hE.1 hP hD hS hA (fun _ => rfl) (iZ_neg (by omega) (by omega)) (by rw [iZ_cl (by omega) (by omega)]; omega) (by simp only [componentBytes]; omega) hk hn hdg (fun q c1 H1 hK1 hP1 hD1 hS1 => ?_)
  have e1 := (hK1.2 5 (c1, .long) rfl).2
  have e2 := (hE.1.2 4 (G.2.1.2.2.2.2, .long) rfl).2
  have ec : c1 = G.2.1.2.2.2.2 := Option.some.inj (e1.symm.trans e2)
  subst ec
  exact K q H1 locs ls hP1 hD1 hS1 hl
end FLG
/-! ===== a static call over a world in segments ===== -/
section FSS
variable {l : Launch} {G : fG} {X : fX} {own : String} {cc : ByteArray} {Ts : List Cond} {nL fr lo mc ms k n pc idx : Nat} {lv : List (Nat × Value)} {st0 rest : List Value} {segs : List va_W}
  {y : MethodName} {bytes : ByteArray} {maxL fr' lo' mc' ms' : Nat} {ret' : Option FieldType} {wc ws'' : List Cond} {As : List Value} {W0 : va_W} {post' : Option Value → va_W → Prop} {b : Nat}
theorem s_callSQ (C0 : fC G X own cc Ts nL fr lo mc ms) (hdg : decode cc pc = .ok (.invokestatic idx, 3)) (hM : fCt l G y wc fr' lo' 0 0 As W0 post') (hG : GoodIn Ts (va_wsS own idx y wc)) (hw : wc = Cond.code y bytes maxL ret' :: ws'') (na : Nat)
    (hd : y.cls ≠ "java/lang/invoke/MethodHandle" ∧ y.cls ≠ "java/lang/invoke/VarHandle" ∧ (parseMethodDescriptor y.desc).map (fun d => d.parameters.length) = some na) (hR : fr' + 1 ≤ fr ∧ 8 + (maxL + 11) + lo' ≤ lo)
    (is js : List Nat) (N : Nat) (hN : segs.length = N) (hp : (is ++ js).isPerm (List.range N) = true) (hW0 : (pk segs is).flatten = W0) (hAs : As.length = na) (hst : (rest.map fun v => v.category).sum ≤ 8) (hkn : k ≤ mc ∧ n ≤ ms)
    (kk : ∀ (v : Option Value) (w : va_W), post' v w → w.map Prod.fst = W0.map Prod.fst ∧ ∃ segs' : List va_W, segs'.length = segs.length ∧ (pk segs' is).flatten = w ∧ pk segs' js = pk segs js ∧ fSt l G X k n (pc + 3) lv (v.toList ++ rest) segs'.flatten) : fSt l G X k n pc lv (As.reverse ++ rest) segs.flatten := by
  have hp2 : (is ++ js).isPerm (List.range segs.length) = true := by rw [hN]; exact hp
  have hpm := perm_pick segs is js hp2
  rw [hW0] at hpm
  refine s_perm _ hpm ?_
  refine s_callS C0 hdg hM hG hw na hd hR (List.range' 0 W0.length) (rg_get W0 [] _) (rg_nd _ _) hAs hst hkn (fun v w hpv => ?_)
  obtain ⟨h1, segs', e1, e2, e3, K⟩ := kk v w hpv
  refine ⟨h1, ?_⟩
  have hlen : w.length = W0.length := by
    have := congrArg List.length h1
    simpa using this
  have e4 : fs_rep (W0 ++ (pk segs js).flatten) (List.range' 0 W0.length) w = w ++ (pk segs js).flatten := rg_rep w W0 [] _ hlen
  rw [e4]
  refine s_perm _ ?_ K
  have hpm2 := perm_pick segs' is js (by rw [e1]; exact hp2)
  rw [e2, e3] at hpm2
  exact hpm2.symm
end FSS

/-! ===== the law's own rows: its script, and two answers that are one ===== -/
def scI (xs : Nat → Int32) (z : Int) : Int := (xs z.toNat).toInt
theorem scI_rg {xs : Nat → Int32} {z : Int} : -2147483648 ≤ scI xs z ∧ scI xs z < 2147483648 := iZ_rng _
/-- the script lies where nothing is written -/
def sX (X : fX) (sb L : Nat) (xs : Nat → Int32) : Prop := match X with
  | (p, e, R, s, m, args, below, meth, c, Q, A, H0, nL) => va_X sb L xs s s.heap ∧ sb < s.heap.size ∧ ¬ A sb
section FL
variable {l : Launch} {G : fG} {X : fX} {own : String} {cc : ByteArray} {Ts : List Cond} {nL fr lo mc ms k n pc : Nat} {lv : List (Nat × Value)} {st : List Value} {ws : va_W} {sb L : Nat} {xs : Nat → Int32}
theorem s_sld {z : Int} (C0 : fC G X own cc Ts nL fr lo mc ms) (hX9 : sX X sb L xs) (hdg : decode cc pc = .ok (.iaload, 1)) (h0 : 0 ≤ z) (h1 : z < L ∧ (L : Int) ≤ 2048) (K : fSt l G X k n (pc + 1) lv (vI (scI xs z) :: st) ws) : fSt l G X k n pc lv (vI z :: .ref sb :: st) ws := by
  obtain ⟨p, e, R, s, m, args, below, meth, c, Q, A, H0, nL'⟩ := X
  obtain ⟨hx, hb, hml, rfl, hown, hts, hE, hA, rfl, rfl⟩ := C0
  obtain ⟨hXs, hbl, hbA⟩ := hX9
  intro H locs ls hP hD hS hl
  refine va_sld hx hb hXs hbl hbA hS (i := iZ z) (iZ_in h0 h1.1 (by omega)) hdg ?_
  rw [iZ_cl h0 (by omega)]
  have e1 : (Value.int (xs z.toNat)) = vI (scI xs z) := congrArg Value.int (iZ_of (xs z.toNat)).symm
  rw [e1]
  exact K H locs ls hP hD hS hl
theorem s_slen (C0 : fC G X own cc Ts nL fr lo mc ms) (hX9 : sX X sb L xs) (hdg : decode cc pc = .ok (.arraylength, 1)) (K : fSt l G X k n (pc + 1) lv (vI L :: st) ws) : fSt l G X k n pc lv (.ref sb :: st) ws := by
  obtain ⟨p, e, R, s, m, args, below, meth, c, Q, A, H0, nL'⟩ := X
  obtain ⟨hx, hb, hml, rfl, hown, hts, hE, hA, rfl, rfl⟩ := C0
  obtain ⟨hXs, hbl, hbA⟩ := hX9
  intro H locs ls hP hD hS hl
  refine va_slen hx hb hXs hbl hbA hS hdg ?_
  have e1 : Int32.ofNat L = iZ (L : Int) := iZ_nI L
  rw [e1]
  exact K H locs ls hP hD hS hl
theorem s_icmp_same {z off : Int} (tgt : Nat) (C0 : fC G X own cc Ts nL fr lo mc ms) (hdg : decode cc pc = .ok (.if_icmp .eq off, 3)) (ht : (pc : Int) + off = (tgt : Int)) (K : fSt l G X k n tgt lv st ws) : fSt l G X k n pc lv (vI z :: vI z :: st) ws := by
  obtain ⟨p, e, R, s, m, args, below, meth, c, Q, A, H0, nL'⟩ := X
  obtain ⟨hx, hb, -⟩ := C0
  intro H locs ls hP hD hS hl
  exact lv_icmp_eq hx hb hdg ht (fun _ => K H locs ls hP hD hS hl) (fun h => absurd rfl h)
theorem s_and31 {x : Int} (C0 : fC G X own cc Ts nL fr lo mc ms) (hdg : decode cc pc = .ok (.iand, 1)) (K : ∀ z : Int, 0 ≤ z ∧ z ≤ 31 → fSt l G X k n (pc + 1) lv (vI z :: st) ws) : fSt l G X k n pc lv (vI 31 :: vI x :: st) ws := by
  obtain ⟨j, hj, e⟩ := pk_andE (iZ x) (m := iZ 31) 5 (by decide)
  have hj2 : j < 32 := hj
  exact s_iand (z := (j : Int)) C0 hdg (e.trans (iZ_nI j)) (K (j : Int) (by omega))
end FL

/-! ===== worlds in segments ===== -/
def pk (segs : List va_W) (is : List Nat) : List va_W := is.map fun i => segs.getD i []
theorem pk_range : ∀ (segs : List va_W), pk segs (List.range segs.length) = segs := fun segs => by
  apply List.ext_getElem?
  intro i
  simp only [pk, List.getElem?_map, List.getD_eq_getElem?_getD]
  by_cases h : i < segs.length
  · rw [List.getElem?_range h]
    simp [h]
  · rw [List.getElem?_eq_none (by simp; omega), List.getElem?_eq_none (by omega)]
    rfl
theorem perm_pick (segs : List va_W) (is js : List Nat) (h : (is ++ js).isPerm (List.range segs.length) = true) : segs.flatten.Perm ((pk segs is).flatten ++ (pk segs js).flatten) := by
  have h1 : (is ++ js).Perm (List.range segs.length) := List.isPerm_iff.mp h
  have h2 : (pk segs (is ++ js)).Perm (pk segs (List.range segs.length)) := h1.map _
  rw [pk_range] at h2
  have h3 : (pk segs is).flatten ++ (pk segs js).flatten = (pk segs (is ++ js)).flatten := by
    rw [pk, pk, pk, List.map_append, List.flatten_append]
  rw [h3]
  exact h2.flatten.symm
theorem perm_P {D : va_G} {ws ws' : va_W} {H : Heap} (h : ws.Perm ws') (hP : va_P D vwCl ws H) : va_P D vwCl ws' H := fun k q hq => by
  obtain ⟨i, hi⟩ := List.getElem?_of_mem (h.mem_iff.mpr (List.mem_of_getElem? hq))
  exact hP i q hi
theorem nd_iff (ws : va_W) : (∀ (i j : Nat) (p q : Nat × va_E), ws[i]? = some p → ws[j]? = some q → p.1 = q.1 → i = j) ↔ (ws.map Prod.fst).Nodup := by
  rw [List.Nodup, List.pairwise_iff_getElem]
  constructor
  · intro h i j hi hj hij he
    rw [List.getElem_map, List.getElem_map] at he
    rw [List.length_map] at hi hj
    have := h i j _ _ (List.getElem?_eq_getElem hi) (List.getElem?_eq_getElem hj) he
    omega
  · intro h i j p q hi hj he
    obtain ⟨li, ei⟩ := List.getElem?_eq_some_iff.mp hi
    obtain ⟨lj, ej⟩ := List.getElem?_eq_some_iff.mp hj
    have mi : i < (ws.map Prod.fst).length := by rw [List.length_map]; exact li
    have mj : j < (ws.map Prod.fst).length := by rw [List.length_map]; exact lj
    by_cases hij : i = j
    · exact hij
    · rcases Nat.lt_or_gt_of_ne hij with hlt | hgt
      · exact absurd (by rw [List.getElem_map, List.getElem_map, ei, ej, he]) (h i j mi mj hlt)
      · exact absurd (by rw [List.getElem_map, List.getElem_map, ei, ej, he]) (h j i mj mi hgt)
theorem perm_D {A : Nat → Prop} {ws ws' : va_W} (h : ws.Perm ws') (hD : va_D A ws) : va_D A ws' := by
  refine ⟨(nd_iff ws').mpr ((h.map Prod.fst).nodup_iff.mp ((nd_iff ws).mp hD.1)), fun k q hq => ?_⟩
  obtain ⟨i, hi⟩ := List.getElem?_of_mem (h.mem_iff.mpr (List.mem_of_getElem? hq))
  exact hD.2 i q hi
theorem s_perm {l : Launch} {G : fG} {X : fX} {k n pc : Nat} {lv : List (Nat × Value)} {st : List Value} {ws : va_W} (ws' : va_W) (h : ws.Perm ws') (K : fSt l G X k n pc lv st ws') : fSt l G X k n pc lv st ws := by
  obtain ⟨p, e, R, s, m, args, below, meth, c, Q, A, H0, nL'⟩ := X
  intro H locs ls hP hD hS hl
  exact K H locs ls (perm_P h hP) (perm_D h hD) hS hl
theorem rg_get : ∀ (W0 pre R : va_W), (List.range' pre.length W0.length).map (fun i => (pre ++ W0 ++ R)[i]?) = W0.map some
  | [], pre, R => rfl
  | x :: W0, pre, R => by
    have h := rg_get W0 (pre ++ [x]) R
    rw [List.length_append, List.length_singleton, List.append_assoc pre [x] W0] at h
    rw [List.length_cons, List.range'_succ, List.map_cons, List.map_cons]
    congr 1
    simp
theorem rg_nd : ∀ (n a : Nat), va_nd (List.range' a n) = true
  | 0, a => rfl
  | n + 1, a => by
    rw [List.range'_succ, va_nd, rg_nd n (a + 1), Bool.and_true, decide_eq_true_eq, List.mem_range'_1]
    omega
theorem rg_rep : ∀ (w W0 pre R : va_W), w.length = W0.length → ((List.range' pre.length W0.length).zip w).foldl (fun w q => w.set q.1 q.2) (pre ++ W0 ++ R) = pre ++ w ++ R
  | [], [], pre, R, _ => rfl
  | [], _ :: _, pre, R, h => by cases h
  | _ :: _, [], pre, R, h => by cases h
  | y :: w, x :: W0, pre, R, h => by
    have ih := rg_rep w W0 (pre ++ [y]) R (by simpa using h)
    rw [List.length_append, List.length_singleton] at ih
    rw [List.length_cons, List.range'_succ, List.zip_cons_cons, List.foldl_cons]
    have e : (pre ++ x :: W0 ++ R).set pre.length y = pre ++ [y] ++ W0 ++ R := by
      rw [List.append_assoc, List.set_append_right _ _ (Nat.le_refl _), Nat.sub_self]
      simp
    rw [e, ih]
    simp
section FSEG
variable {l : Launch} {G : fG} {X : fX} {own : String} {cc : ByteArray} {Ts : List Cond} {nL fr lo mc ms k n pc idx : Nat} {lv : List (Nat × Value)} {st0 rest : List Value} {segs : List va_W}
  {y : MethodName} {bytes : ByteArray} {maxL fr' lo' mc' ms' : Nat} {ret' : Option FieldType} {wc ws'' : List Cond} {As : List Value} {W0 : va_W} {post' : Option Value → va_W → Prop} {b : Nat}
theorem s_callVP (C0 : fC G X own cc Ts nL fr lo mc ms) (hdg : decode cc pc = .ok (.invokevirtual idx, 3)) (hM : fCt l G y wc fr' lo' 0 0 (.ref b :: As) W0 post') (hG : GoodIn Ts (wsV own idx y.cls y wc)) (hw : wc = Cond.code y bytes maxL ret' :: ws'') (na : Nat)
    (hd : y.cls ≠ "java/lang/invoke/MethodHandle" ∧ y.cls ≠ "java/lang/invoke/VarHandle" ∧ (parseMethodDescriptor y.desc).map (fun d => d.parameters.length) = some na) (hR : fr' + 1 ≤ fr ∧ 8 + (maxL + 11) + lo' ≤ lo) {r : vw_C} {fs : List Value} (q0 ci : Nat) (hc : vwCl[ci]? = some r) (hcl : r.1 = y.cls) (he : segs.flatten[q0]? = some (b, .inr (ci, fs)))
    (is js : List Nat) (hp : (is ++ js).isPerm (List.range segs.length) = true) (hW0 : (pk segs is).flatten = W0) (hAs : As.length = na) (hst : (rest.map fun v => v.category).sum ≤ 8) (hkn : k ≤ mc ∧ n ≤ ms)
    (kk : ∀ (v : Option Value) (w : va_W), post' v w → w.map Prod.fst = W0.map Prod.fst ∧ ∃ segs' : List va_W, segs'.length = segs.length ∧ (pk segs' is).flatten = w ∧ pk segs' js = pk segs js ∧ fSt l G X k n (pc + 3) lv (v.toList ++ rest) segs'.flatten) : fSt l G X k n pc lv (As.reverse ++ .ref b :: rest) segs.flatten := by
  have hpm := perm_pick segs is js hp
  rw [hW0] at hpm
  refine s_perm _ hpm ?_
  obtain ⟨q1, hq1⟩ := List.getElem?_of_mem (hpm.mem_iff.mp (List.mem_of_getElem? he))
  refine s_callV C0 hdg hM hG hw na hd hR q1 ci hc hcl hq1 (List.range' 0 W0.length) (rg_get W0 [] _) (rg_nd _ _) hAs hst hkn (fun v w hpv => ?_)
  obtain ⟨h1, segs', e1, e2, e3, K⟩ := kk v w hpv
  refine ⟨h1, ?_⟩
  have hlen : w.length = W0.length := by
    have := congrArg List.length h1
    simpa using this
  have e4 : fs_rep (W0 ++ (pk segs js).flatten) (List.range' 0 W0.length) w = w ++ (pk segs js).flatten := rg_rep w W0 [] _ hlen
  rw [e4]
  refine s_perm _ ?_ K
  have hpm2 := perm_pick segs' is js (by rw [e1]; exact hp)
  rw [e2, e3] at hpm2
  exact hpm2.symm
end FSEG
/-- a Store's twelve cells -/
def stW (G : fG) (a : Nat → Nat) (c : Nat → Int) (F : Nat → Int → Int) : va_W := [cO (a 0) 4 [.ref (a 1), .ref (a 7), .ref (a 9), .ref (a 11), vI (c 1), vI (c 2), vI (c 3), vI (c 4), vI (c 5), vI (c 6), vI (c 7), vI (c 8)], cO (a 1) 1 [vI (c 0), .ref (a 2), .ref (a 3), .ref (a 4), .ref (a 5), .ref (a 6)], cA (a 2) G.2.1.1 100 (F 3), cA (a 3) G.2.1.1 100 (F 4), cA (a 4) G.2.1.1 100 (F 5), cA (a 5) G.2.1.1 100 (F 6), cA (a 6) G.2.1.1 100 (F 7), cO (a 7) 3 [vI (c 9), vI (c 10), vI (c 11), .ref (a 8)], cA (a 8) G.2.1.2.1 101 (F 1), cO (a 9) 3 [vI (c 12), vI (c 13), vI (c 14), .ref (a 10)], cA (a 10) G.2.1.2.1 101 (F 2), cA (a 11) G.2.1.1 3 (F 0)]
theorem stW_fst {G : fG} {a : Nat → Nat} {c c2 : Nat → Int} {F F2 : Nat → Int → Int} : (stW G a c F).map Prod.fst = (stW G a c2 F2).map Prod.fst := rfl

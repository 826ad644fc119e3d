/-! ===== what the law's start gives ===== -/
theorem fnl_tbl : ∀ q ∈ fNL, Cond.methodLinkNest q.1 q.2.1 q.2.2.1 q.2.2.2 ∈ lw_tbl := by decide +kernel
theorem law_arr {s : State} {args : Array Value} {ty : FieldType} (h : (Cond.arrayClass ty).before args s = true) : ∃ c : ClassId, ArrOfT s c ty ∧ s.vm.findClass ("[" ++ ty.toString) = some c := by
  obtain ⟨c, k, comp, h1, h2, h3⟩ := Cond.arrayClass_spec h
  exact ⟨c, fun n z => ⟨fun k h => (by cases h), k, h2, comp, h3⟩, h1⟩
theorem law_arrQ {s : State} {args : Array Value} (h : (Cond.arrayOver (.object "FencedStandbys$Store")).before args s = true) : ∃ c : ClassId, ArrOfT s c (.object "FencedStandbys$Store") ∧ va_RA s c (.object "FencedStandbys$Store") := by
  obtain ⟨comp, c, k, h1, -, h3, h4, h5⟩ := Cond.arrayOver_spec h
  exact ⟨c, fun n z => ⟨fun k h => (by cases h), k, h3, comp, h4⟩, k, comp, h3, h4, h1, h5⟩
theorem law_cls {s : State} {args : Array Value} (hts : ∀ w ∈ lw_tbl, w.before args s = true) : ∃ (dC : Nat → ClassId) (dI : Nat → Nat → Nat), ∀ (k : Nat) (q : vw_C), vwCl[k]? = some q → u_Kn s q.1 q.2.1 q.2.2 (dC k) (dI k) := by
  obtain ⟨c0, i0, k0⟩ := u_known (C := RX0) (T := TX0) (N := 2) (n := 2) hts (fun w h => (lw_in_wsX00 w h).1) (hts (.instantiable RX0 2) (by decide +kernel))
  obtain ⟨c1, i1, k1⟩ := u_known (C := RX1) (T := TX1) (N := 6) (n := 6) hts (fun w h => (lw_in_wsX10 w h).1) (hts (.instantiable RX1 6) (by decide +kernel))
  obtain ⟨c2, i2, k2⟩ := u_known (C := RX2) (T := TX2) (N := 6) (n := 6) hts (fun w h => (lw_in_wsX20 w h).1) (hts (.instantiable RX2 6) (by decide +kernel))
  obtain ⟨c3, i3, k3⟩ := u_known (C := RX3) (T := TX3) (N := 4) (n := 4) hts (fun w h => (lw_in_wsX30 w h).1) (hts (.instantiable RX3 4) (by decide +kernel))
  obtain ⟨c4, i4, k4⟩ := u_known (C := RX4) (T := TX4) (N := 12) (n := 12) hts (fun w h => (lw_in_wsX40 w h).1) (hts (.instantiable RX4 12) (by decide +kernel))
  obtain ⟨c5, i5, k5⟩ := u_known (C := RX5) (T := TX5) (N := 5) (n := 5) hts (fun w h => (lw_in_wsX50 w h).1) (hts (.instantiable RX5 5) (by decide +kernel))
  obtain ⟨c6, i6, k6⟩ := u_known (C := RX6) (T := TX6) (N := 6) (n := 6) hts (fun w h => (lw_in_wsX60 w h).1) (hts (.instantiable RX6 6) (by decide +kernel))
  refine ⟨fun k => match k with | 0 => c0 | 1 => c1 | 2 => c2 | 3 => c3 | 4 => c4 | 5 => c5 | _ => c6, fun k => match k with | 0 => i0 | 1 => i1 | 2 => i2 | 3 => i3 | 4 => i4 | 5 => i5 | _ => i6, ?_⟩
  intro k q hq
  match k, hq with
  | 0, hq => cases hq; exact k0
  | 1, hq => cases hq; exact k1
  | 2, hq => cases hq; exact k2
  | 3, hq => cases hq; exact k3
  | 4, hq => cases hq; exact k4
  | 5, hq => cases hq; exact k5
  | 6, hq => cases hq; exact k6
  | k + 7, hq => simp [vwCl] at hq
theorem law_env {s : State} {args : Array Value} {b L : Nat} {xs : Nat → Int32} (hts : ∀ w ∈ lw_tbl, w.before args s = true) (hX : va_X b L xs s s.heap) (hb : b < s.heap.size) : ∃ G : fG, fEn G (fun q : Nat => s.heap.size ≤ q) s s.heap ∧ va_AO "FencedStandbys$Store" s ∧ G.2.2.1 = b ∧ G.2.2.2.1 = L := by
  obtain ⟨dC, dI, hKc⟩ := law_cls hts
  obtain ⟨aI, hI1, hI2⟩ := law_arr (ty := .int) (hts (.arrayClass .int) (by decide +kernel))
  obtain ⟨aZ', hZ1, hZ2⟩ := law_arr (ty := .boolean) (hts (.arrayClass .boolean) (by decide +kernel))
  obtain ⟨aC', hC1, hC2⟩ := law_arr (ty := .char) (hts (.arrayClass .char) (by decide +kernel))
  obtain ⟨aL, hL1, hL2⟩ := law_arr (ty := .long) (hts (.arrayClass .long) (by decide +kernel))
  have hov := hts (.arrayOver (.object "FencedStandbys$Store")) (by decide +kernel)
  obtain ⟨aQ, hQ1, hQ2⟩ := law_arrQ hov
  refine ⟨((dC, dI), (aI, aZ', aC', aQ, aL), b, L, xs), ⟨⟨hKc, ?_⟩, fun q hq => va_Nw.of rfl (hts _ (fnl_tbl q hq)), hX, hb, Nat.not_le.mpr hb⟩, va_AO.of hov, rfl, rfl⟩
  intro k q hq
  match k, hq with
  | 0, hq => cases hq; exact ⟨hI1, hI2⟩
  | 1, hq => cases hq; exact ⟨hZ1, hZ2⟩
  | 2, hq => cases hq; exact ⟨hC1, hC2⟩
  | 3, hq => cases hq; exact ⟨hQ1, hQ2⟩
  | 4, hq => cases hq; exact ⟨hL1, hL2⟩
  | k + 5, hq => simp [tT] at hq

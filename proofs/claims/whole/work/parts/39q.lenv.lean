/-! ===== what the law's start gives ===== -/
def tmS (i : Nat) : Term := match i with
  | 0 => .string "FencedStandbys$OrderText" 56
  | 1 => .string "FencedStandbys$OrderText" 58
  | 2 => .string "FencedStandbys$OrderText" 60
  | _ => .string "FencedStandbys$OrderText" 62
theorem fnl_tbl : ∀ q ∈ fNL, Cond.methodLinkNest q.1 q.2.1 q.2.2.1 q.2.2.2 ∈ lw_tbl := by decide +kernel
theorem law_str {s : State} {args : Array Value} (hn : ∀ c ∈ flatC (Jvm.Cond.and given_1 narrow_1), c.before args s = true) (hA : ∀ a : Nat, a < s.heap.size → ¬ (fun q : Nat => s.heap.size ≤ q) a) : ∃ adK adV : Nat → Nat, vk_S 4 [2, 6, 4, 0] [[35, 59], [35, 44, 35, 61, 35, 59], [35, 44, 35, 59], []] adK adV (fun q : Nat => s.heap.size ≤ q) s s.heap ∧ ∀ i : Nat, i < 4 → (tmS i).eval args s none [] s = some (.ref (adK i)) := by
  refine vk_Sof (args := args) (s := s) (N := 4) (tm := tmS) (len := [2, 6, 4, 0]) (byt := [[35, 59], [35, 44, 35, 61, 35, 59], [35, 44, 35, 59], []]) ?_ ?_ ?_ ?_ ?_ ?_ ?_ hA
  · intro i hi
    rcases (by omega : i = 0 ∨ i = 1 ∨ i = 2 ∨ i = 3) with rfl | rfl | rfl | rfl <;> decide +kernel
  · intro i hi
    rcases (by omega : i = 0 ∨ i = 1 ∨ i = 2 ∨ i = 3) with rfl | rfl | rfl | rfl <;> exact hn _ (by decide +kernel)
  · intro i hi
    rcases (by omega : i = 0 ∨ i = 1 ∨ i = 2 ∨ i = 3) with rfl | rfl | rfl | rfl <;> exact hn _ (by decide +kernel)
  · intro i hi
    rcases (by omega : i = 0 ∨ i = 1 ∨ i = 2 ∨ i = 3) with rfl | rfl | rfl | rfl <;> exact hn _ (by decide +kernel)
  · intro i hi
    rcases (by omega : i = 0 ∨ i = 1 ∨ i = 2 ∨ i = 3) with rfl | rfl | rfl | rfl <;> exact hn _ (by decide +kernel)
  · intro i hi j hj
    rcases (by omega : i = 0 ∨ i = 1 ∨ i = 2 ∨ i = 3) with rfl | rfl | rfl | rfl
    · have hj2 : j < 2 := hj
      rcases (by omega : j = 0 ∨ j = 1) with rfl | rfl <;> exact hn _ (by decide +kernel)
    · have hj2 : j < 6 := hj
      rcases (by omega : j = 0 ∨ j = 1 ∨ j = 2 ∨ j = 3 ∨ j = 4 ∨ j = 5) with rfl | rfl | rfl | rfl | rfl | rfl <;> exact hn _ (by decide +kernel)
    · have hj2 : j < 4 := hj
      rcases (by omega : j = 0 ∨ j = 1 ∨ j = 2 ∨ j = 3) with rfl | rfl | rfl | rfl <;> exact hn _ (by decide +kernel)
    · have hj2 : j < 0 := hj
      omega
  · intro i j hi hj hij
    rcases (by omega : i = 0 ∨ i = 1 ∨ i = 2 ∨ i = 3) with rfl | rfl | rfl | rfl <;> rcases (by omega : j = 0 ∨ j = 1 ∨ j = 2 ∨ j = 3) with rfl | rfl | rfl | rfl <;> first | exact absurd rfl hij | exact Or.inl (hn _ (by decide +kernel)) | exact Or.inr (hn _ (by decide +kernel))
theorem law_arr {s : State} {args : Array Value} {ty : FieldType} (h : (Cond.arrayClass ty).before args s = true) : ∃ c : ClassId, ArrOfT s c ty ∧ s.vm.findClass ("[" ++ ty.toString) = some c := by
  obtain ⟨c, k, comp, h1, h2, h3⟩ := Cond.arrayClass_spec h
  exact ⟨c, fun n z => ⟨fun k h => (by cases h), k, h2, comp, h3⟩, h1⟩
theorem law_arrQ {s : State} {args : Array Value} (h : (Cond.arrayOver (.object "FencedStandbys$Store")).before args s = true) : ∃ c : ClassId, ArrOfT s c (.object "FencedStandbys$Store") ∧ va_RA s c (.object "FencedStandbys$Store") := by
  obtain ⟨comp, c, k, h1, -, h3, h4, h5⟩ := Cond.arrayOver_spec h
  exact ⟨c, fun n z => ⟨fun k h => (by cases h), k, h3, comp, h4⟩, k, comp, h3, h4, h1, h5⟩
theorem law_cls {s : State} {args : Array Value} (hts : ∀ w ∈ lw_tbl, w.before args s = true) : ∃ (dC : Nat → ClassId) (dI : Nat → Nat → Nat), ∀ (k : Nat) (q : vw_C), vwCl[k]? = some q → u_Kn s q.1 q.2.1 q.2.2 (dC k) (dI k) := by
  obtain ⟨c0, i0, k0⟩ := u_known (C := RX0) (T := TX0) (N := 2) (n := 2) hts (fun w h => (lw_in_wsX00 w h).1) (hts (.instantiable RX0 2) (by decide +kernel))
  obtain ⟨c1, i1, k1⟩ := u_known (C := RX1) (T := TX1) (N := 6) (n := 6) hts (fun w h => (lw_in_wsX10 w h).1) (hts (.instantiable RX1 6) (by decide +kernel))
  obtain ⟨c2, i2, k2⟩ := u_known (C := RX2) (T := TX2) (N := 6) (n := 6) hts (fun w h => (lw_in_wsX20 w h).1) (hts (.instantiable RX2 6) (by decide +kernel))
  obtain ⟨c3, i3, k3⟩ := u_known (C := RX3) (T := TX3) (N := 4) (n := 4) hts (fun w h => (lw_in_wsX30 w h).1) (hts (.instantiable RX3 4) (by decide +kernel))
  obtain ⟨c4, i4, k4⟩ := u_known (C := RX4) (T := TX4) (N := 12) (n := 12) hts (fun w h => (lw_in_wsX40 w h).1) (hts (.instantiable RX4 12) (by decide +kernel))
  obtain ⟨c5, i5, k5⟩ := u_known (C := RX5) (T := TX5) (N := 5) (n := 5) hts (fun w h => (lw_in_wsX50 w h).1) (hts (.instantiable RX5 5) (by decide +kernel))
  obtain ⟨c6, i6, k6⟩ := u_known (C := RX6) (T := TX6) (N := 6) (n := 6) hts (fun w h => (lw_in_wsX60 w h).1) (hts (.instantiable RX6 6) (by decide +kernel))
  obtain ⟨c7, i7, k7⟩ := u_known (C := RX7) (T := TX7) (N := 14) (n := 14) hts (fun w h => (lw_in_wsX70 w h).1) (hts (.instantiable RX7 14) (by decide +kernel))
  refine ⟨fun k => match k with | 0 => c0 | 1 => c1 | 2 => c2 | 3 => c3 | 4 => c4 | 5 => c5 | 6 => c6 | _ => c7, fun k => match k with | 0 => i0 | 1 => i1 | 2 => i2 | 3 => i3 | 4 => i4 | 5 => i5 | 6 => i6 | _ => i7, ?_⟩
  intro k q hq
  match k, hq with
  | 0, hq => cases hq; exact k0
  | 1, hq => cases hq; exact k1
  | 2, hq => cases hq; exact k2
  | 3, hq => cases hq; exact k3
  | 4, hq => cases hq; exact k4
  | 5, hq => cases hq; exact k5
  | 6, hq => cases hq; exact k6
  | 7, hq => cases hq; exact k7
  | k + 8, hq => simp [vwCl] at hq
theorem law_env {s : State} {args : Array Value} (hts : ∀ w ∈ lw_tbl, w.before args s = true) (hgv : (Jvm.Cond.and given_1 narrow_1).before args s = true) : ∃ G : fG, fEn G (fun q : Nat => s.heap.size ≤ q) s s.heap ∧ va_AO "FencedStandbys$Store" s := by
  have hA : ∀ a : Nat, a < s.heap.size → ¬ (fun q : Nat => s.heap.size ≤ q) a := fun a h => Nat.not_le.mpr h
  have hn := flat_of_before _ hgv
  obtain ⟨dC, dI, hKc⟩ := law_cls hts
  obtain ⟨aI, hI1, hI2⟩ := law_arr (ty := .int) (hts (.arrayClass .int) (by decide +kernel))
  obtain ⟨aZ', hZ1, hZ2⟩ := law_arr (ty := .boolean) (hts (.arrayClass .boolean) (by decide +kernel))
  obtain ⟨aC', hC1, hC2⟩ := law_arr (ty := .char) (hts (.arrayClass .char) (by decide +kernel))
  have hov := hts (.arrayOver (.object "FencedStandbys$Store")) (by decide +kernel)
  obtain ⟨aQ, hQ1, hQ2⟩ := law_arrQ hov
  obtain ⟨adK, adV, hS, hT⟩ := law_str hn hA
  have hZ : va_Z "java/lang/String" "COMPACT_STRINGS" "Z" (.int 1) (fun q : Nat => s.heap.size ≤ q) s s.heap := va_Zof (hts (.laysStatic "java/lang/String" "COMPACT_STRINGS" "Z") (by decide +kernel)) (hts (.initialized "java/lang/String") (by decide +kernel)) (va_eqi (hn (.eq (.static "java/lang/String" "COMPACT_STRINGS" "Z") (.int 1)) (by decide +kernel))) hA
  have hZq : va_Zq "jdk/internal/util/Preconditions" "SIOOBE_FORMATTER" "Ljava/util/function/BiFunction;" (fun q : Nat => s.heap.size ≤ q) s s.heap := va_Zqof (hts (.laysStatic "jdk/internal/util/Preconditions" "SIOOBE_FORMATTER" "Ljava/util/function/BiFunction;") (by decide +kernel)) (hts (.initialized "jdk/internal/util/Preconditions") (by decide +kernel)) (hn (.isRef (.static "jdk/internal/util/Preconditions" "SIOOBE_FORMATTER" "Ljava/util/function/BiFunction;")) (by decide +kernel)) hA
  refine ⟨((dC, dI), (aI, aZ', aC', aQ), adK, adV), ⟨⟨hKc, ?_⟩, fun q hq => va_Nw.of rfl (hts _ (fnl_tbl q hq)), ⟨vk_R.of (hts (.stringRef RX2 56 "#;") (by decide +kernel)) (hT 0 (by omega)), vk_R.of (hts (.stringRef RX2 58 "#,#=#;") (by decide +kernel)) (hT 1 (by omega)), vk_R.of (hts (.stringRef RX2 60 "#,#;") (by decide +kernel)) (hT 2 (by omega)), vk_R.of (hts (.stringRef RX2 62 "") (by decide +kernel)) (hT 3 (by omega))⟩, hS, hZ, hZq⟩, va_AO.of hov⟩
  intro k q hq
  match k, hq with
  | 0, hq => cases hq; exact ⟨hI1, hI2⟩
  | 1, hq => cases hq; exact ⟨hZ1, hZ2⟩
  | 2, hq => cases hq; exact ⟨hC1, hC2⟩
  | 3, hq => cases hq; exact ⟨hQ1, hQ2⟩
  | k + 4, hq => simp [tT] at hq

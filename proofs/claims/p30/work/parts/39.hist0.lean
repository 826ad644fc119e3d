/-! ===== rows that agree below 718; the history ===== -/
theorem RS.cg {f f2 : Int → Int} {n tk ln tr lc lo ap rt dl r0 p0 q0 r1 p1 q1 : Int} {sl g0 g1 K T Y V A : Int → Int} (h : RS f n tk ln tr lc lo ap rt dl r0 p0 q0 r1 p1 q1 sl g0 g1 K T Y V A) (hn : f 0 ≤ 100) (e : ∀ j : Int, 0 ≤ j → j < 718 → f2 j = f j) : RS f2 n tk ln tr lc lo ap rt dl r0 p0 q0 r1 p1 q1 sl g0 g1 K T Y V A := by
  have e0 := e 0 (by omega) (by omega)
  refine ⟨h.e_n.trans (e 0 (by omega) (by omega)).symm, h.e_tk.trans (e 1 (by omega) (by omega)).symm, h.e_ln.trans (e 2 (by omega) (by omega)).symm, h.e_tr.trans (e 3 (by omega) (by omega)).symm, h.e_lc.trans (e 4 (by omega) (by omega)).symm, h.e_lo.trans (e 5 (by omega) (by omega)).symm, h.e_ap.trans (e 6 (by omega) (by omega)).symm, h.e_rt.trans (e 7 (by omega) (by omega)).symm, h.e_dl.trans (e 8 (by omega) (by omega)).symm, h.e_r0.trans (e 12 (by omega) (by omega)).symm, h.e_p0.trans (e 13 (by omega) (by omega)).symm, h.e_q0.trans (e 14 (by omega) (by omega)).symm, h.e_r1.trans (e 15 (by omega) (by omega)).symm, h.e_p1.trans (e 16 (by omega) (by omega)).symm, h.e_q1.trans (e 17 (by omega) (by omega)).symm, fun k h1 h2 => ?_, fun r h1 h2 => ?_, fun r h1 h2 => ?_, fun r h1 h2 => ?_, h.hrK, h.hrT, h.hrY, h.hrV, h.hrA, h.hrs, h.hG0, h.hG1⟩
  · rw [e _ (by omega) (by omega)]
    exact h.hsl k h1 h2
  · rw [oG, e _ (by omega) (by omega)]
    exact h.hg0 r h1 h2
  · rw [oG, e _ (by omega) (by omega)]
    exact h.hg1 r h1 h2
  · have hr := h.hrec r h1 (by omega)
    simp only [oR] at hr ⊢
    rw [e (5 * r + 0 + 213) (by omega) (by omega), e (5 * r + 1 + 213) (by omega) (by omega), e (5 * r + 2 + 213) (by omega) (by omega), e (5 * r + 3 + 213) (by omega) (by omega), e (5 * r + 4 + 213) (by omega) (by omega)]
    exact hr
theorem Inv.cg {B : Int} {f f2 : Int → Int} (h : Inv B f) (hr : rF f2) (e : ∀ j : Int, 0 ≤ j → j < 718 → f2 j = f j) : Inv B f2 := by
  have hn := h.n
  have e0 := e 0 (by omega) (by omega)
  have e1 := e 1 (by omega) (by omega)
  have e3 := e 3 (by omega) (by omega)
  have es : ∀ b w, 0 ≤ b → b ≤ 1 → 0 ≤ w → w ≤ 2 → oS f2 b w = oS f b w := fun b w h1 h2 h3 h4 => e _ (by omega) (by omega)
  have eg : ∀ b r, 0 ≤ b → b ≤ 1 → 1 ≤ r → r ≤ 100 → oG f2 b r = oG f b r := fun b w h1 h2 h3 h4 => e _ (by omega) (by omega)
  have er : ∀ r w, 1 ≤ r → r ≤ f 0 → 0 ≤ w → w ≤ 4 → oR f2 r w = oR f r w := fun b w h1 h2 h3 h4 => e _ (by omega) (by omega)
  have ek : ∀ k, 0 ≤ k → k ≤ 2 → f2 (k + 9) = f (k + 9) := fun k h1 h2 => e _ (by omega) (by omega)
  refine ⟨hr, by rw [e0]; exact h.n, by rw [e1]; exact h.tk, by rw [e 2 (by omega) (by omega)]; exact h.ln, by rw [e3]; exact h.tr, by rw [e 4 (by omega) (by omega)]; exact h.lc, by rw [e 5 (by omega) (by omega)]; exact h.lo, by rw [e 6 (by omega) (by omega)]; exact h.ap, by rw [e 7 (by omega) (by omega)]; exact h.rt, by rw [e 8 (by omega) (by omega)]; exact h.dl, fun k h1 h2 => ?_, fun k k' h1 h2 h3 => ?_, fun b h1 h2 => ?_, fun b r h1 h2 h3 h4 => ?_, fun r h1 h2 => ?_, fun r h1 h2 => ?_, fun r h1 h2 => ?_, fun r r' h1 h2 h3 => ?_, fun k r h1 h2 h3 h4 => ?_⟩
  · rw [ek k h1 h2, e3]
    exact h.sl k h1 h2
  · rw [ek k h1 (by omega), ek k' (by omega) h3]
    exact h.sd k k' h1 h2 h3
  · rw [es b 0 h1 h2 (by omega) (by omega), es b 1 h1 h2 (by omega) (by omega), es b 2 h1 h2 (by omega) (by omega), e0]
    exact h.S b h1 h2
  · rw [es b 0 h1 h2 (by omega) (by omega), es b 1 h1 h2 (by omega) (by omega), eg b r h1 h2 h3 h4]
    exact h.G b r h1 h2 h3 h4
  · rw [er r 0 h1 (by omega) (by omega) (by omega), er r 1 h1 (by omega) (by omega) (by omega), er r 4 h1 (by omega) (by omega) (by omega), e3, e1]
    exact h.R r h1 (by omega)
  · rw [er r 0 h1 (by omega) (by omega) (by omega), er r 2 h1 (by omega) (by omega) (by omega), er r 3 h1 (by omega) (by omega) (by omega)]
    exact h.Rp r h1 (by omega)
  · rw [er r 0 h1 (by omega) (by omega) (by omega), er r 2 h1 (by omega) (by omega) (by omega), er r 3 h1 (by omega) (by omega) (by omega)]
    exact h.Re r h1 (by omega)
  · rw [er r 0 h1 (by omega) (by omega) (by omega), er r 1 h1 (by omega) (by omega) (by omega), er r' 1 (by omega) (by omega) (by omega) (by omega)]
    exact h.Rt r r' h1 h2 (by omega)
  · rw [er r 0 h3 (by omega) (by omega) (by omega), er r 1 h3 (by omega) (by omega) (by omega), ek k h1 h2]
    exact h.Rs k r h1 h2 h3 (by omega)
def HRel (B : Int) (P : Int → Int) (ps : Int) (S : Nat → Nat → Nat) (Q : Nat → Option Nat) (p : Nat → Nat) (cs : Nat → Nat → Int) (Fs : Nat → Nat → Int → Int) : Prop :=
  (0 ≤ ps ∧ ps ≤ 4) ∧ (∀ i, i < 5 → Q i = some (S (p i) 0)) ∧ (∀ i, i < 5 → p i = 0 ∨ p i = 1 ∨ p i = 2 ∨ p i = 3 ∨ p i = 4) ∧ (∀ i j, i < 5 → j < 5 → p i = p j → i = j) ∧ (∀ k, k < 5 → Jb (Fs k)) ∧ (∀ i : Int, 0 ≤ i → i < ps → RSb (undF P i) (cs (p i.toNat)) (Fs (p i.toNat)) ∧ Inv B (undF P i)) ∧ rF P
theorem HRel.ps {B : Int} {P : Int → Int} {ps : Int} {S : Nat → Nat → Nat} {Q : Nat → Option Nat} {p : Nat → Nat} {cs : Nat → Nat → Int} {Fs : Nat → Nat → Int → Int} (h : HRel B P ps S Q p cs Fs) : 0 ≤ ps ∧ ps ≤ 4 := h.1
theorem HRel.q {B : Int} {P : Int → Int} {ps : Int} {S : Nat → Nat → Nat} {Q : Nat → Option Nat} {p : Nat → Nat} {cs : Nat → Nat → Int} {Fs : Nat → Nat → Int → Int} (h : HRel B P ps S Q p cs Fs) {i : Nat} (hi : i < 5) : Q i = some (S (p i) 0) := h.2.1 i hi
theorem HRel.p {B : Int} {P : Int → Int} {ps : Int} {S : Nat → Nat → Nat} {Q : Nat → Option Nat} {p : Nat → Nat} {cs : Nat → Nat → Int} {Fs : Nat → Nat → Int → Int} (h : HRel B P ps S Q p cs Fs) {i : Nat} (hi : i < 5) : p i = 0 ∨ p i = 1 ∨ p i = 2 ∨ p i = 3 ∨ p i = 4 := h.2.2.1 i hi
theorem HRel.J {B : Int} {P : Int → Int} {ps : Int} {S : Nat → Nat → Nat} {Q : Nat → Option Nat} {p : Nat → Nat} {cs : Nat → Nat → Int} {Fs : Nat → Nat → Int → Int} (h : HRel B P ps S Q p cs Fs) {i : Nat} (hi : i < 5) : Jb (Fs i) := h.2.2.2.2.1 i hi
theorem HRel.b {B : Int} {P : Int → Int} {ps : Int} {S : Nat → Nat → Nat} {Q : Nat → Option Nat} {p : Nat → Nat} {cs : Nat → Nat → Int} {Fs : Nat → Nat → Int → Int} (h : HRel B P ps S Q p cs Fs) {i : Int} (h0 : 0 ≤ i) (h1 : i < ps) : RSb (undF P i) (cs (p i.toNat)) (Fs (p i.toNat)) ∧ Inv B (undF P i) := h.2.2.2.2.2.1 i h0 h1
theorem HRel.prep {B : Int} {P : Int → Int} {ps : Int} {S : Nat → Nat → Nat} {Q : Nat → Option Nat} {p : Nat → Nat} {cs : Nat → Nat → Int} {Fs : Nat → Nat → Int → Int} (h : HRel B P ps S Q p cs Fs) {j : Nat} (hj : p ps.toNat = j) {c : Nat → Int} {F : Nat → Int → Int} {f : Int → Int} (hR : RSb f c F) : HRel B P ps S Q p (fun k => if k = j then c else cs k) (fun k => if k = j then F else Fs k) ∧ RSb f ((fun k => if k = j then c else cs k) (p ps.toNat)) ((fun k => if k = j then F else Fs k) (p ps.toNat)) := by
  obtain ⟨h1, h2, h3, h4, h5, h6, h7⟩ := h
  refine ⟨⟨h1, h2, h3, h4, fun k hk => ?_, fun i h8 h9 => ?_, h7⟩, ?_⟩
  · show Jb (if k = j then F else Fs k)
    by_cases e : k = j
    · rw [if_pos e]
      exact hR.J
    · rw [if_neg e]
      exact h5 k hk
  · have hne : ¬ p i.toNat = j := fun e => by
      have := h4 i.toNat ps.toNat (by omega) (by omega) (e.trans hj.symm)
      omega
    show RSb (undF P i) (if p i.toNat = j then c else cs (p i.toNat)) (if p i.toNat = j then F else Fs (p i.toNat)) ∧ Inv B (undF P i)
    rw [if_neg hne, if_neg hne]
    exact h6 i h8 h9
  · show RSb f (if p ps.toNat = j then c else cs (p ps.toNat)) (if p ps.toNat = j then F else Fs (p ps.toNat))
    rw [if_pos hj, if_pos hj]
    exact hR
theorem HRel.keep {B : Int} {P : Int → Int} {ps ps2 : Int} {S : Nat → Nat → Nat} {Q Q2 : Nat → Option Nat} {p : Nat → Nat} {cs : Nat → Nat → Int} {Fs : Nat → Nat → Int → Int} (h : HRel B P ps S Q p cs Fs) {f : Int → Int} (hR : RSb f (cs (p ps.toNat)) (Fs (p ps.toNat))) (hI : Inv B f) (hp2 : ps2 = pQ ps) (hQ : ∀ i, i < 5 → Q2 i = if ps = 4 then Q (if i = 4 then 0 else i + 1) else Q i) : HRel B (pS P ps f) ps2 S Q2 (fun i => if ps = 4 then p (if i = 4 then 0 else i + 1) else p i) cs Fs := by
  obtain ⟨h1, h2, h3, h4, h5, h6, h7⟩ := h
  have hrF : rF (pS P ps f) := fun j => by
    rw [pS]
    split
    · exact hI.rf _
    · split
      · exact h7 _
      · exact h7 _
  subst hp2
  by_cases h8 : ps = 4
  · have e : pQ ps = 4 := by rw [pQ, if_pos h8]
    refine ⟨by omega, fun i hi => ?_, fun i hi => ?_, fun i j hi hj he => ?_, h5, fun i hi0 hi1 => ?_, hrF⟩
    · show Q2 i = some (S (if ps = 4 then p (if i = 4 then 0 else i + 1) else p i) 0)
      rw [hQ i hi, if_pos h8, if_pos h8]
      split
      · exact h2 0 (by omega)
      · exact h2 (i + 1) (by omega)
    · show (if ps = 4 then p (if i = 4 then 0 else i + 1) else p i) = 0 ∨ (if ps = 4 then p (if i = 4 then 0 else i + 1) else p i) = 1 ∨ (if ps = 4 then p (if i = 4 then 0 else i + 1) else p i) = 2 ∨ (if ps = 4 then p (if i = 4 then 0 else i + 1) else p i) = 3 ∨ (if ps = 4 then p (if i = 4 then 0 else i + 1) else p i) = 4
      rw [if_pos h8]
      split
      · exact h3 0 (by omega)
      · exact h3 (i + 1) (by omega)
    · have he2 : (if ps = 4 then p (if i = 4 then 0 else i + 1) else p i) = (if ps = 4 then p (if j = 4 then 0 else j + 1) else p j) := he
      rw [if_pos h8, if_pos h8] at he2
      have := h4 _ _ (by split <;> omega) (by split <;> omega) he2
      split at this <;> split at this <;> omega
    · show RSb (undF (pS P ps f) i) (cs (if ps = 4 then p (if i.toNat = 4 then 0 else i.toNat + 1) else p i.toNat)) (Fs (if ps = 4 then p (if i.toNat = 4 then 0 else i.toNat + 1) else p i.toNat)) ∧ Inv B (undF (pS P ps f) i)
      rw [if_pos h8, if_neg (by omega)]
      by_cases h9 : i = 3
      · have ea : ∀ j : Int, 0 ≤ j → j < 718 → undF (pS P ps f) i j = f j := fun j j0 j1 => by
          rw [undF, pS, e, if_pos (by omega)]
          congr 1
          omega
        rw [show i.toNat + 1 = ps.toNat by omega]
        exact ⟨RS.cg hR hI.n.2 ea, hI.cg (fun j => hrF _) ea⟩
      · have ea : ∀ j : Int, 0 ≤ j → j < 718 → undF (pS P ps f) i j = undF P (i + 1) j := fun j j0 j1 => by
          rw [undF, pS, e, if_neg (by omega), if_pos (by omega), undF]
          congr 1
          omega
        have h10 := h6 (i + 1) (by omega) (by omega)
        rw [show (i + 1).toNat = i.toNat + 1 by omega] at h10
        exact ⟨RS.cg h10.1 h10.2.n.2 ea, h10.2.cg (fun j => hrF _) ea⟩
  · have e : pQ ps = ps + 1 := by rw [pQ, if_neg h8]
    refine ⟨by omega, fun i hi => ?_, fun i hi => ?_, fun i j hi hj he => ?_, h5, fun i hi0 hi1 => ?_, hrF⟩
    · show Q2 i = some (S (if ps = 4 then p (if i = 4 then 0 else i + 1) else p i) 0)
      rw [hQ i hi, if_neg h8, if_neg h8]
      exact h2 i hi
    · show (if ps = 4 then p (if i = 4 then 0 else i + 1) else p i) = 0 ∨ (if ps = 4 then p (if i = 4 then 0 else i + 1) else p i) = 1 ∨ (if ps = 4 then p (if i = 4 then 0 else i + 1) else p i) = 2 ∨ (if ps = 4 then p (if i = 4 then 0 else i + 1) else p i) = 3 ∨ (if ps = 4 then p (if i = 4 then 0 else i + 1) else p i) = 4
      rw [if_neg h8]
      exact h3 i hi
    · have he2 : (if ps = 4 then p (if i = 4 then 0 else i + 1) else p i) = (if ps = 4 then p (if j = 4 then 0 else j + 1) else p j) := he
      rw [if_neg h8, if_neg h8] at he2
      exact h4 _ _ hi hj he2
    · show RSb (undF (pS P ps f) i) (cs (if ps = 4 then p (if i.toNat = 4 then 0 else i.toNat + 1) else p i.toNat)) (Fs (if ps = 4 then p (if i.toNat = 4 then 0 else i.toNat + 1) else p i.toNat)) ∧ Inv B (undF (pS P ps f) i)
      rw [if_neg h8]
      by_cases h9 : i = ps
      · have ea : ∀ j : Int, 0 ≤ j → j < 718 → undF (pS P ps f) i j = f j := fun j j0 j1 => by
          rw [undF, pS, e, if_pos (by omega)]
          congr 1
          omega
        rw [h9] at ea ⊢
        exact ⟨RS.cg hR hI.n.2 ea, hI.cg (fun j => hrF _) ea⟩
      · have ea : ∀ j : Int, 0 ≤ j → j < 718 → undF (pS P ps f) i j = undF P i j := fun j j0 j1 => by
          rw [undF, pS, e, if_neg (by omega), if_neg (by omega), undF]
        have h10 := h6 i hi0 (by omega)
        exact ⟨RS.cg h10.1 h10.2.n.2 ea, h10.2.cg (fun j => hrF _) ea⟩

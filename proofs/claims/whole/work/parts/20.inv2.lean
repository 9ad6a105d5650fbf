/-- β differs from α, among pieces, at p alone; it is the same tenth -/
def Lc (p : Nat) (α β : Al) : Prop := (∀ j, j ≠ p → aI β 25 j = aI α 25 j ∧ aI β 26 j = aI α 26 j ∧ aI β 27 j = aI α 27 j) ∧ (∀ j, aI β 28 j = aI α 28 j) ∧ aI β 0 35 = aI α 0 35
theorem Lc.rf {p : Nat} {α : Al} : Lc p α α := ⟨fun _ _ => ⟨rfl, rfl, rfl⟩, fun _ => rfl, rfl⟩
theorem Lc.tr {p : Nat} {α β γ : Al} (h1 : Lc p α β) (h2 : Lc p β γ) : Lc p α γ := ⟨fun j h => ⟨(h2.1 j h).1.trans (h1.1 j h).1, (h2.1 j h).2.1.trans (h1.1 j h).2.1, (h2.1 j h).2.2.trans (h1.1 j h).2.2⟩, fun j => (h2.2.1 j).trans (h1.2.1 j), h2.2.2.trans h1.2.2⟩
theorem Lc.I {p : Nat} {α β : Al} {a j : Nat} {v : Int32} (h : Lc p α β) (h1 : j = p ∨ (a ≠ 25 ∧ a ≠ 26 ∧ a ≠ 27)) (h2 : a ≠ 28) (h3 : ¬ (0 = a ∧ 35 = j)) : Lc p α (qI β a j v) := by
  refine h.tr ⟨fun z hz => ⟨qI_I (fun q => ?_), qI_I (fun q => ?_), qI_I (fun q => ?_)⟩, fun z => qI_I (fun q => h2 q.1.symm), qI_I h3⟩
  · rcases h1 with h1 | h1
    · exact hz (q.2.trans h1)
    · exact h1.1 q.1.symm
  · rcases h1 with h1 | h1
    · exact hz (q.2.trans h1)
    · exact h1.2.1 q.1.symm
  · rcases h1 with h1 | h1
    · exact hz (q.2.trans h1)
    · exact h1.2.2 q.1.symm
theorem Lc.J {p : Nat} {α β : Al} {a j : Nat} {v : Int64} (h : Lc p α β) : Lc p α (qJ β a j v) := h
theorem Lc.D {p : Nat} {α β : Al} {a j : Nat} {v : UInt64} (h : Lc p α β) : Lc p α (qD β a j v) := h
theorem Lc.note {q : Nat} {α β : Al} {p w h : Int32} (H : Lc q α β) : Lc q α (noteF β p w h) := by
  unfold noteF
  split
  · exact H.I (Or.inr (by decide)) (by decide) (by decide)
  · exact ((((H.I (Or.inr (by decide)) (by decide) (by omega)).I (Or.inr (by decide)) (by decide) (by omega)).I (Or.inr (by decide)) (by decide) (by omega)).I (Or.inr (by decide)) (by decide) (by omega)).I (Or.inr (by decide)) (by decide) (by decide)
theorem Lc.lose {α β : Al} {p c : Nat} {w h : Int32} (H : Lc p α β) : Lc p α (loseF β p c w h) := ((H.I (Or.inl rfl) (by decide) (by omega)).J).note
theorem Lc.pass {q : Nat} {α β : Al} {p : Nat} (H : Lc q α β) : ∀ h, Lc q α (passL β p h)
  | 0 => H
  | h + 1 => by
    unfold passL
    split
    · exact (Lc.pass H h).note
    · exact Lc.pass H h
theorem Lc.jam {α β : Al} {p b np : Nat} (H : Lc p α β) : Lc p α (jamF β p b np) := (((((((H.I (Or.inr (by decide)) (by decide) (by omega)).I (Or.inr (by decide)) (by decide) (by omega)).I (Or.inr (by decide)) (by decide) (by omega)).I (Or.inr (by decide)) (by decide) (by omega)).I (Or.inr (by decide)) (by decide) (by decide)).J).I (Or.inr (by decide)) (by decide) (by omega)).lose
theorem Lc.set {α β : Al} {p b : Nat} (H : Lc p α β) : Lc p α (setF β p b) := ((H.I (Or.inl rfl) (by decide) (by omega)).I (Or.inl rfl) (by decide) (by omega)).I (Or.inl rfl) (by decide) (by omega)
theorem Lc.enter {α β : Al} {p b : Nat} (H : Lc p α β) : Lc p α (enterF β p b) := by
  have H0 : Lc p α (qI β 25 p 0) := H.I (Or.inl rfl) (by decide) (by omega)
  unfold enterF
  split
  · split
    · exact (H0.set.note).pass _
    · exact H0.jam
  · exact H0.lose
theorem Lc.tR {α β : Al} {p r : Nat} (H : Lc p α β) : Lc p α (takR β p r) := (H.I (Or.inl rfl) (by decide) (by omega)).note
theorem Lc.tP {α β : Al} {p h : Nat} (H : Lc p α β) : Lc p α (takP β p h) := (((H.I (Or.inr (by decide)) (by decide) (by omega)).I (Or.inr (by decide)) (by decide) (by omega)).I (Or.inl rfl) (by decide) (by omega)).note
theorem Lc.gap {q : Nat} {α β : Al} {a : Nat} (H : Lc q α β) : Lc q α (gapF β a) := by
  unfold gapF
  split
  · exact H
  · exact (H.I (Or.inr (by decide)) (by decide) (by omega)).I (Or.inr (by decide)) (by decide) (by omega)
theorem Lc.out {α β : Al} {p a : Nat} (H : Lc p α β) : Lc p α (outF β p a) := (((H.gap.I (Or.inr (by decide)) (by decide) (by omega)).I (Or.inr (by decide)) (by decide) (by omega)).I (Or.inl rfl) (by decide) (by omega)).note
theorem Lc.fill {α β : Al} {p k : Nat} (H : Lc p α β) : Lc p α (fillF β p k) := by
  unfold fillF
  split
  · exact H.lose
  · exact (H.D.I (Or.inl rfl) (by decide) (by omega)).note
theorem Lc.go {α β : Al} {p : Nat} {to : Int32} (H : Lc p α β) : Lc p α (goF β p to) := by
  unfold goF
  split
  · split
    · exact H.out
    · exact H.fill
  · exact H.enter
theorem Lc.end {α β : Al} {p : Nat} (H : Lc p α β) : Lc p α (endF β p) := by
  unfold endF
  split
  · unfold takenF
    split
    · rename_i γ hγ
      revert hγ
      split
      · intro hγ; cases hγ; exact H.tR
      · split
        · intro hγ; cases hγ; exact H.tP
        · intro hγ; cases hγ
    · exact H.go
  · exact H
theorem Lc.actA {α β : Al} {p : Nat} (H : Lc p α β) : Lc p α (act1 β p) := by
  unfold act1
  split
  · exact H.enter
  · split
    · exact H
    · exact (H.pass _).end
/-- the line as it was told -/
def Cf (α : Al) (nb nh nu nr nk np : Nat) : Prop := (aI α 0 1 = nI nb ∧ nb ≤ 6) ∧ (aI α 0 9 = nI nh ∧ nh ≤ 8) ∧ (aI α 0 13 = nI nu ∧ nu ≤ 4) ∧ (aI α 0 16 = nI nr ∧ nr ≤ 4) ∧ (aI α 0 20 = nI nk ∧ nk ≤ 4) ∧ (aI α 0 26 = nI np ∧ np ≤ 60) ∧
  (∀ b, b < nb → (∃ t, aI α 1 b = nI t ∧ 1 ≤ t ∧ t ≤ 1000) ∧ dNz (aD α 2 b) ∧ ((∃ t, aI α 3 b = nI t ∧ t < nb) ∨ aI α 3 b = -1 ∨ ∃ k, aI α 3 b = -2 - nI k ∧ k < nu) ∧ (aI α 4 b = 0 ∨ aI α 4 b = 1)) ∧
  (∀ h, h < nh → ∃ b, aI α 8 h = nI b ∧ b < nb) ∧ (∀ r, r < nr → ∃ b, aI α 13 r = nI b ∧ b < nb) ∧ (∀ k, k < nk → (∃ b, aI α 16 k = nI b ∧ b < nb) ∧ ∀ w, w ≤ 60 → PkOk (aD α 17 k) (aD α 18 k) (nI w)) ∧
  ∀ j, j < np → (∃ kd, aI α 21 j = nI kd ∧ kd < 5) ∧ dFn (aD α 22 j) ∧ (∃ b, aI α 24 j = nI b ∧ b < nb) ∧ ∃ e, aI α 23 j = nI e ∧ 1 ≤ e ∧ e ≤ 10000
theorem Cf.sm {α β : Al} {nb nh nu nr nk np : Nat} (h : Cf α nb nh nu nr nk np) (s : Sm α β) : Cf β nb nh nu nr nk np := by
  obtain ⟨h1, h2, h3, h4, h5, h6, h7, h8, h9, h10, h11⟩ := h
  obtain ⟨s1, s2, s3, s4⟩ := s
  refine ⟨by rw [s2 1 rfl]; exact h1, by rw [s2 9 rfl]; exact h2, by rw [s2 13 rfl]; exact h3, by rw [s2 16 rfl]; exact h4, by rw [s2 20 rfl]; exact h5, by rw [s2 26 rfl]; exact h6, fun b hb => ?_, fun x hx => ?_, fun x hx => ?_, fun x hx => ?_, fun x hx => ?_⟩
  · rw [s1 1 b rfl, s4 2 b (by decide), s1 3 b rfl, s1 4 b rfl]
    exact h7 b hb
  · rw [s1 8 x rfl]
    exact h8 x hx
  · rw [s1 13 x rfl]
    exact h9 x hx
  · rw [s1 16 x rfl, s4 17 x (by decide), s4 18 x (by decide)]
    exact h10 x hx
  · rw [s1 21 x rfl, s4 22 x (by decide), s1 24 x rfl, s1 23 x rfl]
    exact h11 x hx
/-- what a run keeps -/
def Dn (α : Al) (nb nk np n : Nat) : Prop := (∃ t, aI α 0 35 = nI t ∧ t ≤ 10000) ∧ (∀ j, j < np → ∃ s, aI α 25 j = nI s ∧ s ≤ 5) ∧ (∀ j, j < np → aI α 25 j = 1 → ∃ b, aI α 26 j = nI b ∧ b < nb) ∧ (∃ jm, aI α 0 38 = nI jm ∧ jm ≤ ctF α 5 np) ∧ (∀ k, k < 4 → dNn (aD α 12 k)) ∧ (∀ k, k < nk → ∃ w, aI α 20 k = nI w ∧ w ≤ ctF α 4 np) ∧ TT α n
theorem Dn.to {α β : Al} {nb nk np n n' p s : Nat} (h : Dn α nb nk np n) (L : Lc p α β) (hp : p < np) (ho4 : ¬ aI α 25 p = 4) (ho5 : ¬ aI α 25 p = 5) (hs : aI β 25 p = nI s) (hs5 : s ≤ 5) (hb : s = 1 → ∃ b, aI β 26 p = nI b ∧ b < nb) (hj : aI β 0 38 = aI α 0 38 ∨ (s = 5 ∧ aI β 0 38 = aI α 0 38 + 1)) (hf : ∀ k, k < 4 → dNn (aD β 12 k)) (ht : ∀ k, k < nk → aI β 20 k = aI α 20 k ∨ (s = 4 ∧ aI β 20 k = aI α 20 k + 1)) (hT : TT β n') : Dn β nb nk np n' := by
  obtain ⟨h1, h2, h3, ⟨jm, h4, h4'⟩, h5, h6, h7⟩ := h
  have ec : ∀ x, ctF β x np = ctF (qI α 25 p (nI s)) x np := fun x => ctF_congr (fun j => by
    by_cases hjp : j = p
    · subst hjp
      rw [hs, qI_s]
    · rw [(L.1 j hjp).1, qI_I (fun q => hjp q.2)]) np
  have e4 := ctF_set (α := α) (s := 4) (v := nI s) (p := p) np
  have e5 := ctF_set (α := α) (s := 5) (v := nI s) (p := p) np
  simp only [hp, ho4, ho5, and_false, if_false, true_and, Nat.add_zero] at e4 e5
  refine ⟨by rw [L.2.2]; exact h1, fun j hjn => ?_, fun j hjn hj1 => ?_, ?_, hf, fun k hk => ?_, hT⟩
  · by_cases hjp : j = p
    · subst hjp
      exact ⟨s, hs, hs5⟩
    · rw [(L.1 j hjp).1]
      exact h2 j hjn
  · by_cases hjp : j = p
    · subst hjp
      refine hb ?_
      rw [hs] at hj1
      exact (nI_eq (by omega) (by decide)).mp (hj1.trans (show (1 : Int32) = nI 1 from rfl))
    · rw [(L.1 j hjp).1] at hj1
      rw [(L.1 j hjp).2.1]
      exact h3 j hjn hj1
  · rcases hj with hj | ⟨hs', hj⟩
    · exact ⟨jm, hj.trans h4, by rw [ec, e5]; omega⟩
    · refine ⟨jm + 1, by rw [hj, h4]; exact nI_1 jm, ?_⟩
      rw [ec, e5, hs', if_pos (show nI 5 = (5 : Int32) from rfl)]
      omega
  · obtain ⟨w, hw, hw'⟩ := h6 k hk
    rcases ht k hk with ht | ⟨hs', ht⟩
    · exact ⟨w, ht.trans hw, by rw [ec, e4]; omega⟩
    · refine ⟨w + 1, by rw [ht, hw]; exact nI_1 w, ?_⟩
      rw [ec, e4, hs', if_pos (show nI 4 = (4 : Int32) from rfl)]
      omega

theorem qJ_I {α : Al} {a j : Nat} {v : Int64} : aI (qJ α a j v) = aI α := rfl
theorem qD_I {α : Al} {a j : Nat} {v : UInt64} : aI (qD α a j v) = aI α := rfl
theorem loseF_I {α : Al} {p c : Nat} {w h : Int32} {k j : Nat} (h1 : k ≠ 29) (h2 : ¬ (k = 0 ∧ j = 36)) (h3 : ¬ (k = 25 ∧ j = p)) : aI (loseF α p c w h) k j = aI α k j := by
  unfold loseF
  rw [noteF_I h1 h2]
  exact qI_I h3
theorem loseF_s {α : Al} {p c : Nat} {w h : Int32} : aI (loseF α p c w h) 25 p = 5 := by
  unfold loseF
  rw [noteF_I (by decide) (by omega)]
  exact qI_s
theorem loseF_D {α : Al} {p c : Nat} {w h : Int32} : aD (loseF α p c w h) = aD α := by
  unfold loseF
  rw [noteF_D]
  rfl
theorem loseF_T {α : Al} {p c n : Nat} {w h : Int32} (H : TT α n) : TT (loseF α p c w h) (n + 1) := TT.note (H.same rfl)
theorem jamF_I {β : Al} {p b np k j : Nat} (h1 : k ≠ 29) (h2 : k ≠ 30) (h3 : k ≠ 7) (h4 : ¬ (k = 0 ∧ (j = 36 ∨ j = 38))) (h5 : ¬ (k = 25 ∧ j = p)) : aI (jamF β p b np) k j = aI β k j := by
  unfold jamF
  rw [loseF_I h1 (fun q => h4 ⟨q.1, Or.inl q.2⟩) h5, qI_I (fun q => h3 q.1), qJ_I]
  rw [qI_I (fun q => h4 ⟨q.1, Or.inr q.2⟩), qI_I (fun q => h2 q.1), qI_I (fun q => h2 q.1), qI_I (fun q => h2 q.1), qI_I (fun q => h2 q.1)]
theorem jamF_s {β : Al} {p b np : Nat} : aI (jamF β p b np) 25 p = 5 := loseF_s
theorem jamF_j {β : Al} {p b np : Nat} : aI (jamF β p b np) 0 38 = aI β 0 38 + 1 := by
  unfold jamF
  rw [loseF_I (by decide) (by omega) (by omega), qI_I (by omega), qJ_I]
  exact qI_s
theorem jamF_D {β : Al} {p b np : Nat} : aD (jamF β p b np) = aD β := by
  unfold jamF
  rw [loseF_D]
  rfl
theorem jamF_T {β : Al} {p b np n : Nat} (H : TT β n) : TT (jamF β p b np) (n + 1) := loseF_T (H.same (by
  rw [qI_I (by omega), qJ_I, qI_I (by omega), qI_I (by omega), qI_I (by omega), qI_I (by omega), qI_I (by omega)]))
theorem Dn.enter {α : Al} {nb nk np n nh p b : Nat} (h : Dn α nb nk np n) (hnh : aI α 0 9 = nI nh) (h8 : nh ≤ 8) (hp : p < np) (hb : b < nb) (ho4 : ¬ aI α 25 p = 4) (ho5 : ¬ aI α 25 p = 5) : Dn (enterF α p b) nb nk np (n + 9) := by
  have hT := h.2.2.2.2.2.2
  have hf := h.2.2.2.2.1
  have L := Lc.enter (p := p) (b := b) (Lc.rf (α := α))
  have e9 : nn (aI α 0 9) = nh := by rw [hnh]; exact nn_nI (by omega)
  revert L
  unfold enterF
  split
  · split
    · intro L
      rw [e9] at L ⊢
      refine h.to (s := 1) L hp ho4 ho5 ?_ (by omega) (fun _ => ⟨b, ?_, hb⟩) (Or.inl ?_) (fun k hk => ?_) (fun k hk => Or.inl ?_) ?_
      · rw [passL_I (by decide) (by omega), noteF_I (by decide) (by omega)]
        show aI (qI (qI (qI (qI α 25 p 0) 25 p 1) 26 p (nI b)) 27 p 0) 25 p = _
        rw [qI_I (by omega), qI_I (by omega), qI_s]
        rfl
      · rw [passL_I (by decide) (by omega), noteF_I (by decide) (by omega)]
        show aI (qI (qI (qI (qI α 25 p 0) 25 p 1) 26 p (nI b)) 27 p 0) 26 p = _
        rw [qI_I (by omega), qI_s]
      · rw [passL_I (by decide) (by omega), noteF_I (by decide) (by omega)]
        rfl
      · rw [passL_D, noteF_D]
        exact hf k hk
      · rw [passL_I (by decide) (by omega), noteF_I (by decide) (by omega)]
        rfl
      · have h0 : TT (setF (qI α 25 p 0) p b) n := hT.same rfl
        exact (passL_T h0.note nh).mono (by omega)
    · intro L
      refine h.to (s := 5) L hp ho4 ho5 jamF_s (by omega) (fun q => by cases q) (Or.inr ⟨rfl, jamF_j⟩) (fun k hk => ?_) (fun k hk => Or.inl ?_) ?_
      · rw [jamF_D]
        exact hf k hk
      · rw [jamF_I (by decide) (by decide) (by decide) (by omega) (by omega)]
        rfl
      · have h0 : TT (qI α 25 p 0) n := hT.same rfl
        exact (jamF_T h0).mono (by omega)
  · intro L
    refine h.to (s := 5) L hp ho4 ho5 loseF_s (by omega) (fun q => by cases q) (Or.inl ?_) (fun k hk => ?_) (fun k hk => Or.inl ?_) ?_
    · rw [loseF_I (by decide) (by omega) (by omega)]
      rfl
    · rw [loseF_D]
      exact hf k hk
    · rw [loseF_I (by decide) (by omega) (by omega)]
      rfl
    · have h0 : TT (qI α 25 p 0) n := hT.same rfl
      exact (loseF_T h0).mono (by omega)
theorem Dn.tR {α : Al} {nb nk np n p r : Nat} (h : Dn α nb nk np n) (hp : p < np) (ho4 : ¬ aI α 25 p = 4) (ho5 : ¬ aI α 25 p = 5) : Dn (takR α p r) nb nk np (n + 1) := by
  refine h.to (s := 4) (Lc.tR Lc.rf) hp ho4 ho5 ?_ (by omega) (fun q => by cases q) (Or.inl ?_) (fun k hk => ?_) (fun k hk => Or.inl ?_) (TT.note (h.2.2.2.2.2.2.same rfl))
  · unfold takR
    rw [noteF_I (by decide) (by omega), qI_s]
    rfl
  · unfold takR
    rw [noteF_I (by decide) (by omega)]
    rfl
  · unfold takR
    rw [noteF_D]
    exact h.2.2.2.2.1 k hk
  · unfold takR
    rw [noteF_I (by decide) (by omega)]
    rfl
theorem Dn.tP {α : Al} {nb nk np n p h0 : Nat} (h : Dn α nb nk np n) (hp : p < np) (ho4 : ¬ aI α 25 p = 4) (ho5 : ¬ aI α 25 p = 5) : Dn (takP α p h0) nb nk np (n + 1) := by
  refine h.to (s := 4) (Lc.tP Lc.rf) hp ho4 ho5 ?_ (by omega) (fun q => by cases q) (Or.inl ?_) (fun k hk => ?_) (fun k hk => ?_) (TT.note (h.2.2.2.2.2.2.same rfl))
  · unfold takP
    rw [noteF_I (by decide) (by omega), qI_s]
    rfl
  · unfold takP
    rw [noteF_I (by decide) (by omega)]
    rfl
  · unfold takP
    rw [noteF_D]
    exact h.2.2.2.2.1 k hk
  · unfold takP
    rw [noteF_I (by decide) (by omega), qI_I (by omega)]
    by_cases hk0 : k = h0
    · subst hk0
      exact Or.inr ⟨rfl, qI_s⟩
    · refine Or.inl ?_
      rw [qI_I (by omega), qI_I (by omega)]
theorem gapF_I {α : Al} {a k j : Nat} (h1 : k ≠ 34) (h2 : k ≠ 35) : aI (gapF α a) k j = aI α k j := by
  unfold gapF
  split
  · rfl
  · rw [qI_I (fun q => h2 q.1), qI_I (fun q => h1 q.1)]
theorem gapF_D {α : Al} {a : Nat} : aD (gapF α a) = aD α := by
  unfold gapF
  split <;> rfl
theorem gapF_J {α : Al} {a : Nat} : aJ (gapF α a) = aJ α := by
  unfold gapF
  split <;> rfl
theorem outF_I {α : Al} {p a k j : Nat} (h1 : k ≠ 29) (h2 : ¬ (k = 0 ∧ j = 36)) (h3 : ¬ (k = 25 ∧ j = p)) (h4 : k ≠ 32 ∧ k ≠ 33 ∧ k ≠ 34 ∧ k ≠ 35) : aI (outF α p a) k j = aI α k j := by
  unfold outF
  rw [noteF_I h1 h2, qI_I h3, qI_I (fun q => h4.2.1 q.1), qI_I (fun q => h4.1 q.1), gapF_I h4.2.2.1 h4.2.2.2]
theorem Dn.out {α : Al} {nb nk np n p a : Nat} (h : Dn α nb nk np n) (hp : p < np) (ho4 : ¬ aI α 25 p = 4) (ho5 : ¬ aI α 25 p = 5) : Dn (outF α p a) nb nk np (n + 1) := by
  refine h.to (s := 3) (Lc.out Lc.rf) hp ho4 ho5 ?_ (by omega) (fun q => by cases q) (Or.inl ?_) (fun k hk => ?_) (fun k hk => Or.inl ?_) (TT.note (h.2.2.2.2.2.2.same ?_))
  · unfold outF
    rw [noteF_I (by decide) (by omega), qI_s]
    rfl
  · exact outF_I (by decide) (by omega) (by omega) (by decide)
  · unfold outF
    rw [noteF_D]
    show dNn (aD (gapF α a) 12 k)
    rw [gapF_D]
    exact h.2.2.2.2.1 k hk
  · exact outF_I (by decide) (by omega) (by omega) (by decide)
  · rw [qI_I (by omega), qI_I (by omega), qI_I (by omega), gapF_I (by decide) (by decide)]
theorem Dn.fill {α : Al} {nb nk np n p k0 : Nat} (h : Dn α nb nk np n) (hp : p < np) (hs : dNn (aD α 22 p)) (hk0 : k0 < 4) (ho4 : ¬ aI α 25 p = 4) (ho5 : ¬ aI α 25 p = 5) : Dn (fillF α p k0) nb nk np (n + 1) := by
  have L := Lc.fill (p := p) (k := k0) (Lc.rf (α := α))
  revert L
  unfold fillF
  split
  · intro L
    refine h.to (s := 5) L hp ho4 ho5 loseF_s (by omega) (fun q => by cases q) (Or.inl (loseF_I (by decide) (by omega) (by omega))) (fun k hk => ?_) (fun k hk => Or.inl (loseF_I (by decide) (by omega) (by omega))) (loseF_T h.2.2.2.2.2.2)
    rw [loseF_D]
    exact h.2.2.2.2.1 k hk
  · intro L
    refine h.to (s := 2) L hp ho4 ho5 ?_ (by omega) (fun q => by cases q) (Or.inl ?_) (fun k hk => ?_) (fun k hk => Or.inl ?_) (TT.note (h.2.2.2.2.2.2.same rfl))
    · rw [noteF_I (by decide) (by omega), qI_s]
      rfl
    · rw [noteF_I (by decide) (by omega)]
      rfl
    · rw [noteF_D]
      show dNn (aD (qD α 12 k0 _) 12 k)
      by_cases hkk : k = k0
      · subst hkk
        rw [qD_s]
        exact dadd_nn (h.2.2.2.2.1 k hk) hs
      · rw [qD_D (by omega)]
        exact h.2.2.2.2.1 k hk
    · rw [noteF_I (by decide) (by omega)]
      rfl
theorem Dn.keep {α β : Al} {nb nk np n n' : Nat} (h : Dn α nb nk np n) (h1 : aI β 0 35 = aI α 0 35) (h2 : ∀ j, aI β 25 j = aI α 25 j) (h3 : ∀ j, aI β 26 j = aI α 26 j) (h4 : aI β 0 38 = aI α 0 38) (h5 : ∀ k, aD β 12 k = aD α 12 k) (h6 : ∀ k, aI β 20 k = aI α 20 k) (hT : TT β n') : Dn β nb nk np n' := by
  obtain ⟨g1, g2, g3, g4, g5, g6, g7⟩ := h
  refine ⟨by rw [h1]; exact g1, fun j hj => by rw [h2]; exact g2 j hj, fun j hj => by rw [h2, h3]; exact g3 j hj, by rw [h4, ctF_congr h2]; exact g4, fun k hk => by rw [h5]; exact g5 k hk, fun k hk => by rw [h6, ctF_congr h2]; exact g6 k hk, hT⟩
theorem Dn.pass {α : Al} {nb nk np n p : Nat} (h : Dn α nb nk np n) (m : Nat) : Dn (passL α p m) nb nk np (n + m) := h.keep (passL_I (by decide) (by omega) m) (fun _ => passL_I (by decide) (by omega) m) (fun _ => passL_I (by decide) (by omega) m) (passL_I (by decide) (by omega) m) (fun _ => by rw [passL_D]) (fun _ => passL_I (by decide) (by omega) m) (passL_T h.2.2.2.2.2.2 m)
theorem ff_lt {P : Nat → Bool} : ∀ {m i r : Nat}, ff P m i = some r → r < i + m
  | 0, i, r, h => by cases h
  | m + 1, i, r, h => by
    unfold ff at h
    cases hp : P i with
    | true => rw [hp] at h; cases h; omega
    | false =>
      rw [hp] at h
      have := ff_lt (P := P) (m := m) (i := i + 1) (r := r) h
      omega
theorem Dn.end {α : Al} {nb nh nu nr nk np n p : Nat} (c : Cf α nb nh nu nr nk np) (h : Dn α nb nk np n) (hp : p < np) (h1 : aI α 25 p = 1) : Dn (endF α p) nb nk np (n + 9) := by
  have ho4 : ¬ aI α 25 p = 4 := by rw [h1]; decide
  have ho5 : ¬ aI α 25 p = 5 := by rw [h1]; decide
  have up : ∀ {β : Al}, Dn β nb nk np (n + 1) → Dn β nb nk np (n + 9) := fun q => ⟨q.1, q.2.1, q.2.2.1, q.2.2.2.1, q.2.2.2.2.1, q.2.2.2.2.2.1, q.2.2.2.2.2.2.mono (by omega)⟩
  obtain ⟨b, hb, hbn⟩ := h.2.2.1 p hp h1
  have e1 : nn (aI α 26 p) = b := by rw [hb]; exact nn_nI (by have := c.1.2; omega)
  unfold endF
  split
  · unfold takenF
    split
    · rename_i γ hγ
      revert hγ
      split
      · intro hγ; cases hγ; exact up (h.tR hp ho4 ho5)
      · split
        · intro hγ; cases hγ; exact up (h.tP hp ho4 ho5)
        · intro hγ; cases hγ
    · rw [e1]
      unfold goF
      split
      · split
        · exact up (h.out hp ho4 ho5)
        · rename_i q1 q2
          rcases (c.2.2.2.2.2.2.1 b hbn).2.2.1 with ⟨t, ht, htn⟩ | ht | ⟨k, hk, hkn⟩
          · exact absurd (by rw [← ht]; exact q1) (nI_pos (n := t) (by have := c.1.2; omega))
          · exact absurd ht q2
          · have hk4 : k < 4 := by have := c.2.2.1.2; omega
            rw [hk, m2_2 hk4, nn_nI (by omega)]
            exact up (h.fill hp (c.2.2.2.2.2.2.2.2.2.2 p hp).2.1.nn hk4 ho4 ho5)
      · rename_i q1
        rcases (c.2.2.2.2.2.2.1 b hbn).2.2.1 with ⟨t, ht, htn⟩ | ht | ⟨k, hk, hkn⟩
        · rw [ht, nn_nI (by have := c.1.2; omega)]
          exact h.enter c.2.1.1 c.2.1.2 hp htn ho4 ho5
        · exact absurd (by rw [ht]; decide) q1
        · exact absurd (by rw [hk]; exact m2_n (by have := c.2.2.1.2; omega)) q1
  · exact ⟨h.1, h.2.1, h.2.2.1, h.2.2.2.1, h.2.2.2.2.1, h.2.2.2.2.2.1, h.2.2.2.2.2.2.mono (by omega)⟩
/-- a piece that moved is on a belt -/
def Mv (α : Al) (i np : Nat) : Prop := ∀ j, i ≤ j → j < np → ¬ aI α 28 j = 0 → aI α 25 j = 1
theorem Dn.actA {α : Al} {nb nh nu nr nk np n p : Nat} (c : Cf α nb nh nu nr nk np) (h : Dn α nb nk np n) (m : Mv α p np) (hp : p < np) : Dn (act1 α p) nb nk np (n + 17) ∧ Mv (act1 α p) (p + 1) np := by
  have e9 : nn (aI α 0 9) = nh := by rw [c.2.1.1]; exact nn_nI (by have := c.2.1.2; omega)
  have up : ∀ {β : Al} {k : Nat}, k ≤ n + 17 → Dn β nb nk np k → Dn β nb nk np (n + 17) := fun hk q => ⟨q.1, q.2.1, q.2.2.1, q.2.2.2.1, q.2.2.2.2.1, q.2.2.2.2.2.1, q.2.2.2.2.2.2.mono hk⟩
  refine ⟨?_, fun j hj hjn hm => ?_⟩
  · unfold act1
    split
    · rename_i q
      obtain ⟨b, hb, hbn⟩ := (c.2.2.2.2.2.2.2.2.2.2 p hp).2.2.1
      rw [hb, nn_nI (by have := c.1.2; omega)]
      exact up (by omega) (h.enter c.2.1.1 c.2.1.2 hp hbn (by rw [q.1]; decide) (by rw [q.1]; decide))
    · split
      · exact up (by omega) h
      · rename_i q1 q2
        have h1 : aI α 25 p = 1 := m p (Nat.le_refl _) hp q2
        rw [e9]
        have hq := (h.pass (p := p) nh).end (c.sm (Sm.rf.pass nh)) hp ((passL_I (by decide) (by omega) nh).trans h1)
        exact up (by have := c.2.1.2; omega) hq
  · have L := Lc.actA (p := p) (Lc.rf (α := α))
    rw [(L.1 j (by omega)).1]
    rw [L.2.1 j] at hm
    exact m j (by omega) hjn hm

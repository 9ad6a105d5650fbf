theorem enterF_I {α : Al} {p b k j : Nat} (h1 : k ≠ 29) (h2 : k ≠ 30) (h3 : k ≠ 7) (h4 : ¬ (k = 0 ∧ (j = 36 ∨ j = 38))) (h5 : ¬ (j = p ∧ (k = 25 ∨ k = 26 ∨ k = 27))) : aI (enterF α p b) k j = aI α k j := by
  have h36 : ¬ (k = 0 ∧ j = 36) := fun q => h4 ⟨q.1, Or.inl q.2⟩
  have h25 : ¬ (k = 25 ∧ j = p) := fun q => h5 ⟨q.2, Or.inl q.1⟩
  unfold enterF
  split
  · split
    · rw [passL_I h1 h36, noteF_I h1 h36, setF_I h5, qI_I h25]
    · rw [jamF_I h1 h2 h3 h4 h25, qI_I h25]
  · rw [loseF_I h1 h36 h25, qI_I h25]
theorem enterF_s {α : Al} {p b : Nat} : aI (enterF α p b) 25 p = 1 ∨ aI (enterF α p b) 25 p = 5 := by
  unfold enterF
  split
  · split
    · refine Or.inl ?_
      rw [passL_I (by decide) (by omega), noteF_I (by decide) (by omega)]
      unfold setF
      rw [qI_I (by omega), qI_I (by omega), qI_s]
    · exact Or.inr jamF_s
  · exact Or.inr loseF_s
theorem enterF_0 {α : Al} {p b : Nat} : ¬ aI (enterF α p b) 25 p = 0 := by
  rcases enterF_s (α := α) (p := p) (b := b) with h | h <;> (rw [h]; decide)
theorem fillF_I {α : Al} {p k0 k j : Nat} (h1 : k ≠ 29) (h2 : ¬ (k = 0 ∧ j = 36)) (h3 : ¬ (k = 25 ∧ j = p)) : aI (fillF α p k0) k j = aI α k j := by
  unfold fillF
  split
  · exact loseF_I h1 h2 h3
  · rw [noteF_I h1 h2, qI_I h3]
    rfl
theorem fillF_0 {α : Al} {p k0 : Nat} : ¬ aI (fillF α p k0) 25 p = 0 := by
  unfold fillF
  split
  · rw [loseF_s]; decide
  · rw [noteF_I (by decide) (by omega), qI_s]; decide
theorem outF_0 {α : Al} {p a : Nat} : ¬ aI (outF α p a) 25 p = 0 := by
  unfold outF
  rw [noteF_I (by decide) (by omega), qI_s]; decide
theorem takR_I {α : Al} {p r k j : Nat} (h1 : k ≠ 29) (h2 : ¬ (k = 0 ∧ j = 36)) (h3 : ¬ (k = 25 ∧ j = p)) : aI (takR α p r) k j = aI α k j := by
  unfold takR
  rw [noteF_I h1 h2, qI_I h3]
theorem takP_I {α : Al} {p h k j : Nat} (h1 : k ≠ 29) (h2 : ¬ (k = 0 ∧ j = 36)) (h3 : ¬ (k = 25 ∧ j = p)) (h4 : k ≠ 19) (h5 : k ≠ 20) : aI (takP α p h) k j = aI α k j := by
  unfold takP
  rw [noteF_I h1 h2, qI_I h3, qI_I (fun q => h5 q.1), qI_I (fun q => h4 q.1)]
theorem takR_0 {α : Al} {p r : Nat} : ¬ aI (takR α p r) 25 p = 0 := by
  unfold takR
  rw [noteF_I (by decide) (by omega), qI_s]; decide
theorem takP_0 {α : Al} {p h : Nat} : ¬ aI (takP α p h) 25 p = 0 := by
  unfold takP
  rw [noteF_I (by decide) (by omega), qI_s]; decide
theorem goF_0 {α : Al} {p : Nat} {to : Int32} : ¬ aI (goF α p to) 25 p = 0 := by
  unfold goF
  split
  · split
    · exact outF_0
    · exact fillF_0
  · exact enterF_0
theorem end_0 {α : Al} {p : Nat} (h : aI α 25 p = 1) : ¬ aI (endF α p) 25 p = 0 := by
  unfold endF
  split
  · unfold takenF
    split
    · rename_i γ hγ
      revert hγ
      split
      · intro hγ; cases hγ; exact takR_0
      · split
        · intro hγ; cases hγ; exact takP_0
        · intro hγ; cases hγ
    · exact goF_0
  · rw [h]; decide
/-- at most n pieces of each kind went out of each belt -/
def Oc (α : Al) (n : Nat) : Prop := ∀ a, ∃ c, aI α 32 a = nI c ∧ c ≤ n
theorem Oc.same {α β : Al} {n n' : Nat} (h : Oc α n) (e : ∀ a, aI β 32 a = aI α 32 a) (hn : n ≤ n') : Oc β n' := fun a => by
  obtain ⟨c, h1, h2⟩ := h a
  exact ⟨c, (e a).trans h1, Nat.le_trans h2 hn⟩
theorem Oc.out {α : Al} {n p a0 : Nat} (h : Oc α n) : Oc (outF α p a0) (n + 1) := fun a => by
  obtain ⟨c, h1, h2⟩ := h a
  unfold outF
  rw [noteF_I (by decide) (by omega), qI_I (by omega), qI_I (by omega)]
  by_cases q : a = a0
  · subst q
    rw [qI_s]
    exact ⟨c + 1, by rw [h1]; exact nI_1 c, by omega⟩
  · rw [qI_I (by omega), gapF_I (by decide) (by decide)]
    exact ⟨c, h1, by omega⟩
theorem Oc.end {α : Al} {n p : Nat} (h : Oc α n) : Oc (endF α p) (n + 1) := by
  unfold endF
  split
  · unfold takenF
    split
    · rename_i γ hγ
      revert hγ
      split
      · intro hγ; cases hγ; exact h.same (fun a => takR_I (by decide) (by omega) (by omega)) (by omega)
      · split
        · intro hγ; cases hγ; exact h.same (fun a => takP_I (by decide) (by omega) (by omega) (by decide) (by decide)) (by omega)
        · intro hγ; cases hγ
    · unfold goF
      split
      · split
        · exact h.out
        · exact h.same (fun a => fillF_I (by decide) (by omega) (by omega)) (by omega)
      · exact h.same (fun a => enterF_I (by decide) (by decide) (by decide) (by omega) (by omega)) (by omega)
  · exact h.same (fun _ => rfl) (by omega)
theorem Oc.act {α : Al} {n p : Nat} (h : Oc α n) : Oc (act1 α p) (n + 1) := by
  unfold act1
  split
  · exact h.same (fun a => enterF_I (by decide) (by decide) (by decide) (by omega) (by omega)) (by omega)
  · split
    · exact h.same (fun _ => rfl) (by omega)
    · exact (h.same (β := passL α p (nn (aI α 0 9))) (fun _ => passL_I (by decide) (by omega) _) (Nat.le_refl _)).end
theorem Oc.actB {α : Al} {n : Nat} (h : Oc α n) : ∀ i, Oc (actL α i) (n + i)
  | 0 => h
  | i + 1 => (Oc.actB h i).act
theorem Oc.pos {α : Al} {n a : Nat} (h : Oc α n) (hn : n < 2 ^ 31) : ¬ aI α 32 a < 0 := by
  obtain ⟨c, h1, h2⟩ := h a
  rw [h1]
  exact nI_pos (by omega)
theorem Oc.tenth {α : Al} {n np : Nat} (h : Oc α n) (hp : nn (aI α 0 26) = np) : Oc (tenthF α) (n + np) := by
  unfold tenthF
  rw [hp]
  exact Oc.actB (h.same (fun a => by rw [mvL_I (by decide) (by decide), qI_I (by omega)]) (Nat.le_refl _)) np
theorem i_tri {a b : Int32} (h1 : ¬ a < b) (h2 : ¬ a = b) : b < a := by
  rw [Int32.lt_iff_toInt_lt] at h1 ⊢
  have : ¬ a.toInt = b.toInt := fun q => h2 (Int32.toInt_inj.mp q)
  omega
theorem i_asy {a b : Int32} (h : a < b) : ¬ b < a := by
  rw [Int32.lt_iff_toInt_lt] at h ⊢
  omega
theorem i_irr {a b : Int32} (h : a = b) : ¬ a < b := by
  rw [Int32.lt_iff_toInt_lt, h]
  omega
/-- a piece waits just until its time; the first i have had their turn in this tenth -/
def Wt (α : Al) (i np : Nat) : Prop := ∀ j, j < np → (j < i → (aI α 25 j = 0 ↔ aI α 0 35 < aI α 23 j)) ∧ (i ≤ j → (aI α 25 j = 0 ↔ ¬ aI α 23 j < aI α 0 35))
theorem Wt.act {α : Al} {p np : Nat} (w : Wt α p np) (m : Mv α p np) (hp : p < np) : Wt (act1 α p) (p + 1) np := by
  intro j hj
  have L := Lc.actA (p := p) (Lc.rf (α := α))
  rw [L.2.2, (Sm.rf.actA (p := p) : Sm α (act1 α p)).1 23 j rfl]
  by_cases q : j = p
  · subst q
    refine ⟨fun _ => ?_, fun z => by omega⟩
    have w0 := (w j hj).2 (Nat.le_refl _)
    unfold act1
    split
    · rename_i h
      refine ⟨fun z => absurd z enterF_0, fun z => absurd z (i_irr h.2.symm)⟩
    · rename_i h
      split
      · refine ⟨fun z => i_tri (w0.mp z) (fun e => h ⟨z, e⟩), fun z => w0.mpr (i_asy z)⟩
      · rename_i h2
        have h1 : aI α 25 j = 1 := m j (Nat.le_refl _) hj h2
        refine ⟨fun z => absurd z (end_0 ((passL_I (by decide) (by omega) _).trans h1)), fun z => ?_⟩
        have := w0.mpr (i_asy z)
        rw [h1] at this
        exact absurd this (by decide)
  · rw [(L.1 j q).1]
    exact ⟨fun z => (w j hj).1 (by omega), fun z => (w j hj).2 (by omega)⟩
theorem Wt.actB {α : Al} {nb nh nu nr nk np n : Nat} (c : Cf α nb nh nu nr nk np) (h : Dn α nb nk np n) (m : Mv α 0 np) (w : Wt α 0 np) : ∀ i, i ≤ np → Wt (actL α i) i np
  | 0, _ => w
  | i + 1, hi => (Wt.actB c h m w i (by omega)).act (Dn.actB c h m i (by omega)).2 (by omega)
theorem Wt.tick {α : Al} {nb nh nu nr nk np t m : Nat} (c : Cf α nb nh nu nr nk np) (w : Wt α np np) (ht : aI α 0 35 = nI t) (h1 : t < 10000) : Wt (mvL (qI α 0 35 (aI α 0 35 + 1)) m) 0 np := by
  intro j hj
  obtain ⟨e, e1, e2, e3⟩ := (c.2.2.2.2.2.2.2.2.2.2 j hj).2.2.2
  refine ⟨fun z => by omega, fun _ => ?_⟩
  rw [mvL_I (by decide) (by decide), mvL_I (by decide) (by decide), mvL_I (by decide) (by decide), qI_I (by omega), qI_I (by omega), qI_s]
  rw [((w j hj).1 hj), e1, ht, nI_1, nI_ltI (by omega) (by omega), nI_ltI (by omega) (by omega)]
  omega
theorem Wt.tenth {α : Al} {nb nh nu nr nk np t : Nat} (c : Cf α nb nh nu nr nk np) (d : Dn α nb nk np (1020 * t)) (w : Wt α np np) (ht : aI α 0 35 = nI t) (h1 : t < 10000) : Wt (tenthF α) np np := by
  unfold tenthF
  rw [show nn (aI α 0 26) = np from by rw [c.2.2.2.2.2.1.1]; exact nn_nI (by have := c.2.2.2.2.2.1.2; omega)]
  have s1 : Sm α (qI α 0 35 (aI α 0 35 + 1)) := Sm.rf.I rfl (Or.inr rfl)
  exact Wt.actB (c.sm (s1.mvB np)) ((d.tick ht h1).mv np) mvL_Mv (w.tick c ht h1) np (Nat.le_refl _)
/-! when all is at rest -/
theorem ct_sum {α : Al} {np : Nat} (h : ∀ j, j < np → ∃ s, aI α 25 j = nI s ∧ s ≤ 5) : ∀ n, n ≤ np → ctF α 0 n + ctF α 1 n + ctF α 2 n + ctF α 3 n + ctF α 4 n + ctF α 5 n = n
  | 0, _ => rfl
  | n + 1, hn => by
    have ih := ct_sum h n (by omega)
    obtain ⟨s, h1, h2⟩ := h n (by omega)
    unfold ctF
    rw [h1]
    match s, h2 with
    | 0, _ => rw [if_pos (by decide), if_neg (by decide), if_neg (by decide), if_neg (by decide), if_neg (by decide), if_neg (by decide)]; omega
    | 1, _ => rw [if_neg (by decide), if_pos (by decide), if_neg (by decide), if_neg (by decide), if_neg (by decide), if_neg (by decide)]; omega
    | 2, _ => rw [if_neg (by decide), if_neg (by decide), if_pos (by decide), if_neg (by decide), if_neg (by decide), if_neg (by decide)]; omega
    | 3, _ => rw [if_neg (by decide), if_neg (by decide), if_neg (by decide), if_pos (by decide), if_neg (by decide), if_neg (by decide)]; omega
    | 4, _ => rw [if_neg (by decide), if_neg (by decide), if_neg (by decide), if_neg (by decide), if_pos (by decide), if_neg (by decide)]; omega
    | 5, _ => rw [if_neg (by decide), if_neg (by decide), if_neg (by decide), if_neg (by decide), if_neg (by decide), if_pos (by decide)]; omega
theorem ct_no {α : Al} {s : Int32} : ∀ {n : Nat}, ctF α s n = 0 → ∀ j, j < n → ¬ aI α 25 j = s
  | 0, _, j, hj => absurd hj (Nat.not_lt_zero _)
  | n + 1, h, j, hj => by
    unfold ctF at h
    by_cases q : aI α 25 n = s
    · rw [if_pos q] at h; omega
    · by_cases e : j = n
      · subst e; exact q
      · exact ct_no (n := n) (by omega) j (by omega)
/-- alike but for who moved -/
def E28 (α β : Al) : Prop := ∃ g : Nat → Int32, β = (fun k j => if k = 28 then g j else aI α k j, aJ α, aD α)
theorem E28.I {α β : Al} (h : E28 α β) {k j : Nat} (hk : k ≠ 28) : aI β k j = aI α k j := by
  obtain ⟨g, rfl⟩ := h
  exact if_neg hk
theorem E28.of {α β : Al} (h1 : ∀ k j, k ≠ 28 → aI β k j = aI α k j) (h2 : aJ β = aJ α) (h3 : aD β = aD α) : E28 α β := by
  refine ⟨aI β 28, ?_⟩
  obtain ⟨I, J, D⟩ := β
  have e2 : J = aJ α := h2
  have e3 : D = aD α := h3
  rw [e2, e3]
  refine Prod.ext ?_ rfl
  funext k j
  show I k j = if k = 28 then I 28 j else aI α k j
  by_cases q : k = 28
  · rw [if_pos q, q]
  · rw [if_neg q]; exact h1 k j q
theorem E28.J {α β : Al} (h : E28 α β) : aJ β = aJ α := by obtain ⟨g, rfl⟩ := h; rfl
theorem E28.D {α β : Al} (h : E28 α β) : aD β = aD α := by obtain ⟨g, rfl⟩ := h; rfl
theorem E28.rf {α : Al} : E28 α α := E28.of (fun _ _ _ => rfl) rfl rfl
theorem E28.tr {α β γ : Al} (h : E28 α β) (g : E28 β γ) : E28 α γ := E28.of (fun _ _ q => (g.I q).trans (h.I q)) (g.J.trans h.J) (g.D.trans h.D)
theorem Cd.e28 {S : St} {α β : Al} {nb nu nk np : Nat} (d : Cd S α nb nu nk np) (h : E28 α β) : Cd S β nb nu nk np := by
  have ht := ct4 (S := S) (np := np) (fun j => h.I (k := 25) (j := j) (by decide)) (fun c _ => by rw [h.J]) d.2.2.2.2.2.2.2.2.2.2
  obtain ⟨g, rfl⟩ := h
  obtain ⟨d1, d2, d3, d4, d5, d6, d7, d8, d9, d10, d11⟩ := d
  exact ⟨d1, d2, d3, d4, d5, d6, d7, d8, d9, d10, ht⟩
def Rs (α : Al) (np : Nat) : Prop := ∀ j, j < np → ¬ aI α 25 j = 0 ∧ ¬ aI α 25 j = 1
theorem mvL_rs {α : Al} {np : Nat} (h : Rs α np) : ∀ n, n ≤ np → E28 α (mvL α n) ∧ ∀ j, j < n → aI (mvL α n) 28 j = 0
  | 0, _ => ⟨E28.rf, fun j hj => absurd hj (Nat.not_lt_zero _)⟩
  | n + 1, hn => by
    obtain ⟨h1, h2⟩ := mvL_rs h n (by omega)
    have e : mvL α (n + 1) = qI (mvL α n) 28 n 0 := by
      rw [mv_n1 (by rw [h1.I (by decide)]; exact (h n (by omega)).2), Int32.add_zero]
      exact qI_id (qI_I (by omega))
    rw [e]
    refine ⟨h1.tr (E28.of (fun k j q => qI_I (fun z => q z.1)) rfl rfl), fun j hj => ?_⟩
    by_cases q : j = n
    · subst q; exact qI_s
    · rw [qI_I (by omega)]; exact h2 j (by omega)
theorem actL_rs {γ : Al} {np : Nat} (h : Rs γ np) (h2 : ∀ j, j < np → aI γ 28 j = 0) : ∀ n, n ≤ np → actL γ n = γ
  | 0, _ => rfl
  | n + 1, hn => by
    have ih := actL_rs h h2 n (by omega)
    rw [act_s (by rw [ih]; exact fun q => (h n (by omega)).1 q.1) (by rw [ih]; exact h2 n (by omega)), ih]
theorem tenth_rs {α : Al} {np : Nat} (h : Rs α np) (hp : nn (aI α 0 26) = np) : E28 (qI α 0 35 (aI α 0 35 + 1)) (tenthF α) := by
  have h' : Rs (qI α 0 35 (aI α 0 35 + 1)) np := fun j hj => by rw [qI_I (by omega)]; exact h j hj
  obtain ⟨g1, g2⟩ := mvL_rs h' np (Nat.le_refl _)
  unfold tenthF
  rw [hp, actL_rs (fun j hj => by rw [g1.I (by decide)]; exact h' j hj) g2 np (Nat.le_refl _)]
  exact g1
theorem run_add {α : Al} {i : Nat} : ∀ m, runL α (i + m) = runL (runL α i) m
  | 0 => rfl
  | m + 1 => congrArg tenthF (run_add m)
theorem run_rs {α : Al} {np t : Nat} (h : Rs α np) (hp : nn (aI α 0 26) = np) (ht : aI α 0 35 = nI t) : ∀ m, E28 (qI α 0 35 (nI (t + m))) (runL α m)
  | 0 => by
    rw [Nat.add_zero, qI_id ht]
    exact E28.rf
  | m + 1 => by
    have ih := run_rs h hp ht m
    have e35 : aI (runL α m) 0 35 = nI (t + m) := (ih.I (by decide)).trans qI_s
    have g := tenth_rs (α := runL α m) (np := np) (fun j hj => by rw [ih.I (by decide), qI_I (by omega)]; exact h j hj) (by rw [ih.I (by decide), qI_I (by omega)]; exact hp)
    refine E28.tr (E28.of (fun k j q => ?_) ?_ ?_) g
    · by_cases z : k = 0 ∧ j = 35
      · obtain ⟨rfl, rfl⟩ := z
        rw [qI_s, qI_s, e35]
        exact nI_1 _
      · rw [qI_I z, qI_I z, ih.I q, qI_I z]
    · exact ih.J
    · exact ih.D

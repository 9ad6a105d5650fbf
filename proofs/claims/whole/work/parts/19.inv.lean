/-! what stays, and what is kept -/
def sk (k : Nat) : Bool := match k with
  | 0 => false
  | 7 => false
  | 19 => false
  | 20 => false
  | 25 => false
  | 26 => false
  | 27 => false
  | 28 => false
  | 29 => false
  | 30 => false
  | 32 => false
  | 33 => false
  | 34 => false
  | 35 => false
  | _ => true
def sf (j : Nat) : Bool := match j with
  | 35 => false
  | 36 => false
  | 38 => false
  | _ => true
/-- β has the line that α has: only what a run moves may be another -/
def Sm (α β : Al) : Prop := (∀ k j, sk k = true → aI β k j = aI α k j) ∧ (∀ j, sf j = true → aI β 0 j = aI α 0 j) ∧ (∀ k j, k ≠ 31 → aJ β k j = aJ α k j) ∧ ∀ k j, k ≠ 12 → aD β k j = aD α k j
theorem Sm.rf {α : Al} : Sm α α := ⟨fun _ _ _ => rfl, fun _ _ => rfl, fun _ _ _ => rfl, fun _ _ _ => rfl⟩
theorem Sm.tr {α β γ : Al} (h1 : Sm α β) (h2 : Sm β γ) : Sm α γ := ⟨fun k j h => (h2.1 k j h).trans (h1.1 k j h), fun j h => (h2.2.1 j h).trans (h1.2.1 j h), fun k j h => (h2.2.2.1 k j h).trans (h1.2.2.1 k j h), fun k j h => (h2.2.2.2 k j h).trans (h1.2.2.2 k j h)⟩
theorem Sm.I {α β : Al} {a j : Nat} {v : Int32} (h : Sm α β) (h1 : sk a = false) (h2 : a ≠ 0 ∨ sf j = false) : Sm α (qI β a j v) := by
  refine h.tr ⟨fun k z hk => qI_I (fun q => by rw [q.1, h1] at hk; cases hk), fun z hz => qI_I (fun q => ?_), fun _ _ _ => rfl, fun _ _ _ => rfl⟩
  rcases h2 with h2 | h2
  · exact h2 q.1.symm
  · rw [q.2, h2] at hz
    cases hz
theorem Sm.J {α β : Al} {j : Nat} {v : Int64} (h : Sm α β) : Sm α (qJ β 31 j v) := h.tr ⟨fun _ _ _ => rfl, fun _ _ => rfl, fun k z hk => qJ_J (fun q => hk q.1), fun _ _ _ => rfl⟩
theorem Sm.D {α β : Al} {j : Nat} {v : UInt64} (h : Sm α β) : Sm α (qD β 12 j v) := h.tr ⟨fun _ _ _ => rfl, fun _ _ => rfl, fun _ _ _ => rfl, fun k z hk => qD_D (fun q => hk q.1)⟩
theorem Sm.note {α β : Al} {p w h : Int32} (H : Sm α β) : Sm α (noteF β p w h) := by
  unfold noteF
  split
  · exact H.I rfl (Or.inr rfl)
  · exact ((((H.I rfl (Or.inl (by decide))).I rfl (Or.inl (by decide))).I rfl (Or.inl (by decide))).I rfl (Or.inl (by decide))).I rfl (Or.inr rfl)
theorem Sm.lose {α β : Al} {p c : Nat} {w h : Int32} (H : Sm α β) : Sm α (loseF β p c w h) := ((H.I rfl (Or.inl (by decide))).J).note
theorem Sm.pass {α β : Al} {p : Nat} (H : Sm α β) : ∀ h, Sm α (passL β p h)
  | 0 => H
  | h + 1 => by
    unfold passL
    split
    · exact (Sm.pass H h).note
    · exact Sm.pass H h
theorem Sm.jam {α β : Al} {p b np : Nat} (H : Sm α β) : Sm α (jamF β p b np) := (((((((H.I rfl (Or.inl (by decide))).I rfl (Or.inl (by decide))).I rfl (Or.inl (by decide))).I rfl (Or.inl (by decide))).I rfl (Or.inr rfl)).J).I rfl (Or.inl (by decide))).lose
theorem Sm.set {α β : Al} {p b : Nat} (H : Sm α β) : Sm α (setF β p b) := ((H.I rfl (Or.inl (by decide))).I rfl (Or.inl (by decide))).I rfl (Or.inl (by decide))
theorem Sm.enter {α β : Al} {p b : Nat} (H : Sm α β) : Sm α (enterF β p b) := by
  have H0 : Sm α (qI β 25 p 0) := H.I rfl (Or.inl (by decide))
  unfold enterF
  split
  · split
    · exact (H0.set.note).pass _
    · exact H0.jam
  · exact H0.lose
theorem Sm.tR {α β : Al} {p r : Nat} (H : Sm α β) : Sm α (takR β p r) := (H.I rfl (Or.inl (by decide))).note
theorem Sm.tP {α β : Al} {p h : Nat} (H : Sm α β) : Sm α (takP β p h) := (((H.I rfl (Or.inl (by decide))).I rfl (Or.inl (by decide))).I rfl (Or.inl (by decide))).note
theorem Sm.gap {α β : Al} {a : Nat} (H : Sm α β) : Sm α (gapF β a) := by
  unfold gapF
  split
  · exact H
  · exact (H.I rfl (Or.inl (by decide))).I rfl (Or.inl (by decide))
theorem Sm.out {α β : Al} {p a : Nat} (H : Sm α β) : Sm α (outF β p a) := (((H.gap.I rfl (Or.inl (by decide))).I rfl (Or.inl (by decide))).I rfl (Or.inl (by decide))).note
theorem Sm.fill {α β : Al} {p k : Nat} (H : Sm α β) : Sm α (fillF β p k) := by
  unfold fillF
  split
  · exact H.lose
  · exact (H.D.I rfl (Or.inl (by decide))).note
theorem Sm.go {α β : Al} {p : Nat} {to : Int32} (H : Sm α β) : Sm α (goF β p to) := by
  unfold goF
  split
  · split
    · exact H.out
    · exact H.fill
  · exact H.enter
theorem Sm.end {α β : Al} {p : Nat} (H : Sm α β) : Sm α (endF β p) := by
  unfold endF
  split
  · unfold takenF
    split
    · rename_i γ hγ
      revert hγ
      split
      · intro hγ; cases hγ; exact H.tR
      · split
        · intro hγ; cases hγ; exact H.tP
        · intro hγ; cases hγ
    · exact H.go
  · exact H
theorem Sm.mvA {α β : Al} {j : Nat} (H : Sm α β) : Sm α (mv1 β j) := (H.I rfl (Or.inl (by decide))).I rfl (Or.inl (by decide))
theorem Sm.mvB {α β : Al} (H : Sm α β) : ∀ n, Sm α (mvL β n)
  | 0 => H
  | n + 1 => (Sm.mvB H n).mvA
theorem Sm.actA {α β : Al} {p : Nat} (H : Sm α β) : Sm α (act1 β p) := by
  unfold act1
  split
  · exact H.enter
  · split
    · exact H
    · exact (H.pass _).end
theorem Sm.actB {α β : Al} (H : Sm α β) : ∀ n, Sm α (actL β n)
  | 0 => H
  | n + 1 => (Sm.actB H n).actA
theorem Sm.tenth {α β : Al} (H : Sm α β) : Sm α (tenthF β) := ((H.I rfl (Or.inr rfl)).mvB _).actB _
/-- how many are in a state, when one changes its own -/
theorem ctF_set {α : Al} {s v : Int32} {p : Nat} : ∀ n, ctF (qI α 25 p v) s n + (if p < n ∧ aI α 25 p = s then 1 else 0) = ctF α s n + (if p < n ∧ v = s then 1 else 0)
  | 0 => by simp [ctF]
  | n + 1 => by
    have ih := ctF_set (α := α) (s := s) (v := v) (p := p) n
    unfold ctF
    by_cases hp : n = p
    · subst hp
      rw [qI_s]
      have h0 : ¬ n < n := Nat.lt_irrefl _
      have h1 : n < n + 1 := Nat.lt_succ_self _
      simp only [h0, h1, false_and, true_and, if_false] at ih ⊢
      omega
    · rw [qI_I (fun q => hp q.2)]
      have h1 : p < n + 1 ↔ p < n := by omega
      simp only [h1]
      omega
theorem ctF_congr {α β : Al} {s : Int32} (h : ∀ j, aI β 25 j = aI α 25 j) : ∀ n, ctF β s n = ctF α s n
  | 0 => rfl
  | n + 1 => by
    unfold ctF
    rw [ctF_congr h n, h]
theorem ctF_lt {α : Al} {s : Int32} {p n : Nat} (hp : p < n) (h : ¬ aI α 25 p = s) : ctF α s n < n := by
  have h1 := ctF_set (α := α) (s := s) (v := s) (p := p) n
  have h2 := ctF_le (α := qI α 25 p s) (s := s) n
  simp only [hp, h, and_false, if_false, true_and, if_true] at h1
  omega

def dW (k j : Nat) : Bool := match k with
  | 6 => Nat.beq j 6 || Nat.beq j 7
  | k => dI k j
theorem dW_0 {k j : Nat} (h : 20 ≤ k) : dW k j = false := by
  unfold dW
  split
  · omega
  · unfold dI
    split <;> first | omega | rfl
theorem dW_I {k j : Nat} (h : dW k j = false) : dI k j = false := by
  unfold dW at h
  split at h
  · show Nat.beq j 6 = false
    cases q : Nat.beq j 6 with
    | false => rfl
    | true => rw [q] at h; cases h
  · exact h
/-- S' has the line that S has: only what a run moves may be another, whether a piece came on among it -/
def Sw (S S' : St) : Prop := sC S' = sC S ∧ sA S' = sA S ∧ sN S' = sN S ∧ (∀ k i j, dW k j = false → sI S' k i j = sI S k i j) ∧ (∀ k i j, k ≠ 19 → sJ S' k i j = sJ S k i j) ∧ (∀ k i j, ¬ (k = 1 ∧ j = 2) → sD S' k i j = sD S k i j) ∧ ∀ k i j, ¬ (k = 6 ∧ j = 5) → sR S' k i j = sR S k i j
theorem Sw.rf {S : St} : Sw S S := ⟨rfl, rfl, rfl, fun _ _ _ _ => rfl, fun _ _ _ _ => rfl, fun _ _ _ _ => rfl, fun _ _ _ _ => rfl⟩
theorem Sw.tr {S T U : St} (h : Sw S T) (g : Sw T U) : Sw S U := ⟨g.1.trans h.1, g.2.1.trans h.2.1, g.2.2.1.trans h.2.2.1, fun k i j q => (g.2.2.2.1 k i j q).trans (h.2.2.2.1 k i j q), fun k i j q => (g.2.2.2.2.1 k i j q).trans (h.2.2.2.2.1 k i j q), fun k i j q => (g.2.2.2.2.2.1 k i j q).trans (h.2.2.2.2.2.1 k i j q), fun k i j q => (g.2.2.2.2.2.2 k i j q).trans (h.2.2.2.2.2.2 k i j q)⟩
theorem Sc.w {S T : St} (h : Sc S T) : Sw S T := ⟨h.1, h.2.1, h.2.2.1, fun k i j q => h.2.2.2.1 k i j (dW_I q), h.2.2.2.2.1, h.2.2.2.2.2.1, h.2.2.2.2.2.2⟩
theorem Sw.I7 {S T : St} {i : Nat} {v : Int32} (h : Sw S T) : Sw S (pI T 6 i 7 v) := h.tr ⟨rfl, rfl, rfl, fun k z w q => u3_ne (fun e => by rw [e.1, e.2.2] at q; cases q), fun _ _ _ _ => rfl, fun _ _ _ _ => rfl, fun _ _ _ _ => rfl⟩
theorem Sw.form {S T : St} (h : Sw S T) : ∃ I J D R, T = mk4 S I J D R := by
  obtain ⟨C, A, N, I, J, D, R⟩ := T
  obtain ⟨h1, h2, h3, -⟩ := h
  refine ⟨I, J, D, R, ?_⟩
  have e1 : C = sC S := h1
  have e2 : A = sA S := h2
  have e3 : N = sN S := h3
  rw [e1, e2, e3]
  rfl
theorem Sw.rds {S T : St} (h : Sw S T) : rd T = rd S := by
  have e1 : (fun a j => sI T (mk a) 0 j) = (fun a j => sI S (mk a) 0 j) := by
    funext a j
    cases a with
    | zero => exact h.2.2.2.1 10 0 j rfl
    | succ a =>
      refine h.2.2.2.1 (a + 20) 0 j ?_
      exact dW_0 (by omega)
  have e2 : (fun a j => sJ T (mk a) 0 j) = (fun a j => sJ S (mk a) 0 j) := by
    funext a j
    cases a with
    | zero => exact h.2.2.2.2.1 10 0 j (by decide)
    | succ a => exact h.2.2.2.2.1 (a + 20) 0 j (by omega)
  have e3 : (fun a j => sD T (mk a) 0 j) = (fun a j => sD S (mk a) 0 j) := by
    funext a j
    cases a with
    | zero => exact h.2.2.2.2.2.1 10 0 j (by omega)
    | succ a => exact h.2.2.2.2.2.1 (a + 20) 0 j (by omega)
  show (_, _, _) = (_, _, _)
  rw [e1, e2, e3]
theorem Sh.sw {S T : St} (h : Sh S) (g : Sw S T) : Sh T := by
  obtain ⟨g1, g2, g3, -, -, -, g7⟩ := g
  obtain ⟨h1, h2, h3, h4⟩ := h
  refine ⟨by rw [g1]; exact h1, ?_, ?_, by rw [g3]; exact h4⟩
  · rw [g7 9 0 1 (by omega), g7 9 0 2 (by omega), g7 9 0 3 (by omega), g7 9 0 4 (by omega), g7 9 0 5 (by omega), g7 9 0 6 (by omega), g7 9 0 7 (by omega), g7 9 0 8 (by omega), g7 9 0 9 (by omega)]
    exact h2
  · rw [g7 3 0 0 (by omega), g7 3 1 0 (by omega), g7 8 0 0 (by omega)]
    exact h3
theorem Cs.sw {S T : St} {α β : Al} {nb nh nu nr nk np : Nat} (h : Cs S α nb nh nu nr nk np) (g : Sw S T) (s : Sm α β) : Cs T β nb nh nu nr nk np := by
  obtain ⟨g1, g2, g3, g4, g5, g6, g7⟩ := g
  obtain ⟨s1, s2, s3, s4⟩ := s
  obtain ⟨h1, h2, h3, h4, h5, h6, h7, h8⟩ := h
  refine ⟨by rw [g1]; exact h1, ?_, fun b hb => ?_, fun x hx => ?_, fun x hx => ?_, fun x hx => ?_, fun x hx => ?_, fun x hx => ?_⟩
  · rw [g5 9 0 0 (by decide), s3 0 0 (by decide), g4 9 0 10 rfl, g4 9 0 11 rfl, g4 9 0 12 rfl, g4 9 0 13 rfl, g4 9 0 14 rfl, g4 9 0 15 rfl, s2 1 rfl, s2 9 rfl, s2 13 rfl, s2 20 rfl, s2 16 rfl, s2 26 rfl]
    exact h2
  · rw [g7 11 0 b (by omega), g4 0 b 0 rfl, g4 0 b 1 rfl, g6 0 b 2 (by omega), g7 0 b 3 (by omega), g7 0 b 4 (by omega), g7 0 b 5 (by omega), g4 0 b 6 rfl, g6 0 b 7 (by omega), g4 0 b 8 rfl, g3, s1 1 b rfl, s4 2 b (by decide), s1 3 b rfl, s1 4 b rfl, s4 5 b (by decide), s1 6 b rfl]
    obtain ⟨q1, q2, q3, q4, q5⟩ := h3 b hb
    exact ⟨q1, q2, q3, q4, fun kd hk => by rw [g7 17 b kd (by omega)]; exact q5 kd hk⟩
  · rw [g7 12 0 x (by omega), g7 2 x 0 (by omega), g4 2 x 1 rfl, g6 2 x 2 (by omega), s1 8 x rfl, s1 9 x rfl, s4 10 x (by decide)]
    exact h4 x hx
  · rw [g7 13 0 x (by omega), g4 1 x 0 rfl, g6 1 x 1 (by omega), s4 11 x (by decide)]
    exact h5 x hx
  · rw [g7 14 0 x (by omega), g7 5 x 0 (by omega), g6 5 x 1 (by omega), g6 5 x 2 (by omega), s1 16 x rfl, s4 17 x (by decide), s4 18 x (by decide)]
    exact h6 x hx
  · rw [g7 15 0 x (by omega), g7 7 x 0 (by omega), g6 7 x 1 (by omega), g6 7 x 2 (by omega), s1 13 x rfl, s4 14 x (by decide), s4 15 x (by decide)]
    exact h7 x hx
  · rw [g7 16 0 x (by omega), g4 6 x 0 rfl, g7 6 x 1 (by omega), g4 6 x 2 rfl, g4 6 x 3 rfl, g6 6 x 4 (by omega), s1 24 x rfl, s1 23 x rfl, s1 21 x rfl, s4 22 x (by decide)]
    exact h8 x hx

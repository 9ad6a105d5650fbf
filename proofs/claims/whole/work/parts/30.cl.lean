/-! THE CLASS's cells, and the abstract state that they stand for -/
def dI (k j : Nat) : Bool := match k with
  | 0 => Nat.beq j 9
  | 3 => Nat.beq j 1
  | 4 => true
  | 5 => Nat.beq j 3 || Nat.beq j 4
  | 6 => Nat.beq j 6
  | 8 => !(Nat.beq j 0)
  | 9 => Nat.beq j 16
  | 18 => true
  | _ => false
/-- S' has the line that S has: only what a run moves may be another -/
def Sc (S S' : St) : Prop := sC S' = sC S ∧ sA S' = sA S ∧ sN S' = sN S ∧ (∀ k i j, dI k j = false → sI S' k i j = sI S k i j) ∧ (∀ k i j, k ≠ 19 → sJ S' k i j = sJ S k i j) ∧ (∀ k i j, ¬ (k = 1 ∧ j = 2) → sD S' k i j = sD S k i j) ∧ ∀ k i j, ¬ (k = 6 ∧ j = 5) → sR S' k i j = sR S k i j
theorem Sc.rf {S : St} : Sc S S := ⟨rfl, rfl, rfl, fun _ _ _ _ => rfl, fun _ _ _ _ => rfl, fun _ _ _ _ => rfl, fun _ _ _ _ => rfl⟩
theorem Sc.tr {S T U : St} (h : Sc S T) (g : Sc T U) : Sc S U := ⟨g.1.trans h.1, g.2.1.trans h.2.1, g.2.2.1.trans h.2.2.1, fun k i j q => (g.2.2.2.1 k i j q).trans (h.2.2.2.1 k i j q), fun k i j q => (g.2.2.2.2.1 k i j q).trans (h.2.2.2.2.1 k i j q), fun k i j q => (g.2.2.2.2.2.1 k i j q).trans (h.2.2.2.2.2.1 k i j q), fun k i j q => (g.2.2.2.2.2.2 k i j q).trans (h.2.2.2.2.2.2 k i j q)⟩
theorem Sc.I {S T : St} {x i j : Nat} {v : Int32} (h : Sc S T) (hd : dI x j = true) : Sc S (pI T x i j v) := h.tr ⟨rfl, rfl, rfl, fun k z w q => u3_ne (fun e => by rw [e.1, e.2.2, hd] at q; cases q), fun _ _ _ _ => rfl, fun _ _ _ _ => rfl, fun _ _ _ _ => rfl⟩
theorem Sc.J {S T : St} {i j : Nat} {v : Int64} (h : Sc S T) : Sc S (pJ T 19 i j v) := h.tr ⟨rfl, rfl, rfl, fun _ _ _ _ => rfl, fun k z w q => u3_ne (fun e => q e.1), fun _ _ _ _ => rfl, fun _ _ _ _ => rfl⟩
theorem Sc.D {S T : St} {i : Nat} {v : UInt64} (h : Sc S T) : Sc S (pD T 1 i 2 v) := h.tr ⟨rfl, rfl, rfl, fun _ _ _ _ => rfl, fun _ _ _ _ => rfl, fun k z w q => u3_ne (fun e => q ⟨e.1, e.2.2⟩), fun _ _ _ _ => rfl⟩
theorem Sc.R {S T : St} {i : Nat} {v : Option Nat} (h : Sc S T) : Sc S (pR T 6 i 5 v) := h.tr ⟨rfl, rfl, rfl, fun _ _ _ _ => rfl, fun _ _ _ _ => rfl, fun _ _ _ _ => rfl, fun k z w q => u3_ne (fun e => q ⟨e.1, e.2.2⟩)⟩
def mk4 (S : St) (I : Nat → Nat → Nat → Int32) (J : Nat → Nat → Nat → Int64) (D : Nat → Nat → Nat → UInt64) (R : Nat → Nat → Nat → Option Nat) : St := (sC S, sA S, sN S, I, J, D, R)
theorem Sc.form {S T : St} (h : Sc S T) : ∃ I J D R, T = mk4 S I J D R := by
  obtain ⟨C, A, N, I, J, D, R⟩ := T
  obtain ⟨h1, h2, h3, -⟩ := h
  refine ⟨I, J, D, R, ?_⟩
  have e1 : C = sC S := h1
  have e2 : A = sA S := h2
  have e3 : N = sN S := h3
  rw [e1, e2, e3]
  rfl
theorem Sc.rds {S T : St} (h : Sc S T) : rd T = rd S := by
  have e1 : (fun a j => sI T (mk a) 0 j) = (fun a j => sI S (mk a) 0 j) := by
    funext a j
    cases a with
    | zero => exact h.2.2.2.1 10 0 j rfl
    | succ a =>
      refine h.2.2.2.1 (a + 20) 0 j ?_
      unfold dI
      split <;> first | (rename_i q; exact absurd q (by omega)) | rfl
  have e2 : (fun a j => sJ T (mk a) 0 j) = (fun a j => sJ S (mk a) 0 j) := by
    funext a j
    cases a with
    | zero => exact h.2.2.2.2.1 10 0 j (by decide)
    | succ a => exact h.2.2.2.2.1 (a + 20) 0 j (by omega)
  have e3 : (fun a j => sD T (mk a) 0 j) = (fun a j => sD S (mk a) 0 j) := by
    funext a j
    cases a with
    | zero => exact h.2.2.2.2.2.1 10 0 j (by omega)
    | succ a => exact h.2.2.2.2.2.1 (a + 20) 0 j (by omega)
  show (_, _, _) = (_, _, _)
  rw [e1, e2, e3]
/-- the class's fixed cells -/
def Sh (S : St) : Prop := (0 < sC S 9 ∧ 1 < sC S 3 ∧ 0 < sC S 8 ∧ 1 < sC S 18 ∧ 0 < sC S 19 ∧ 0 < sC S 11 ∧ 0 < sC S 12 ∧ 0 < sC S 13 ∧ 0 < sC S 14 ∧ 0 < sC S 15 ∧ 0 < sC S 16) ∧
  (sR S 9 0 1 = some 0 ∧ sR S 9 0 2 = some 0 ∧ sR S 9 0 3 = some 0 ∧ sR S 9 0 4 = some 0 ∧ sR S 9 0 5 = some 0 ∧ sR S 9 0 6 = some 0 ∧ sR S 9 0 7 = some 0 ∧ sR S 9 0 8 = some 1 ∧ sR S 9 0 9 = some 0) ∧
  (sR S 3 0 0 = some 0 ∧ sR S 3 1 0 = some 1 ∧ sR S 8 0 0 = some 0) ∧
  (sN S 11 0 = 6 ∧ sN S 12 0 = 8 ∧ sN S 13 0 = 4 ∧ sN S 14 0 = 4 ∧ sN S 15 0 = 4 ∧ sN S 16 0 = 60 ∧ sN S 18 0 = 2000 ∧ sN S 18 1 = 60 ∧ sN S 19 0 = 4)
theorem Sh.sc {S T : St} (h : Sh S) (g : Sc S T) : Sh T := by
  obtain ⟨g1, g2, g3, -, -, -, g7⟩ := g
  obtain ⟨h1, h2, h3, h4⟩ := h
  refine ⟨by rw [g1]; exact h1, ?_, ?_, by rw [g3]; exact h4⟩
  · rw [g7 9 0 1 (by omega), g7 9 0 2 (by omega), g7 9 0 3 (by omega), g7 9 0 4 (by omega), g7 9 0 5 (by omega), g7 9 0 6 (by omega), g7 9 0 7 (by omega), g7 9 0 8 (by omega), g7 9 0 9 (by omega)]
    exact h2
  · rw [g7 3 0 0 (by omega), g7 3 1 0 (by omega), g7 8 0 0 (by omega)]
    exact h3
theorem Sh.c9 {S : St} (h : Sh S) : 0 < sC S 9 := h.1.1
theorem Sh.c3 {S : St} (h : Sh S) : 1 < sC S 3 := h.1.2.1
theorem Sh.c3a {S : St} (h : Sh S) : 0 < sC S 3 := Nat.lt_trans Nat.zero_lt_one h.1.2.1
theorem Sh.c8 {S : St} (h : Sh S) : 0 < sC S 8 := h.1.2.2.1
theorem Sh.c18 {S : St} (h : Sh S) : 1 < sC S 18 := h.1.2.2.2.1
theorem Sh.c18a {S : St} (h : Sh S) : 0 < sC S 18 := Nat.lt_trans Nat.zero_lt_one h.1.2.2.2.1
theorem Sh.c19 {S : St} (h : Sh S) : 0 < sC S 19 := h.1.2.2.2.2.1
theorem Sh.c11 {S : St} (h : Sh S) : 0 < sC S 11 := h.1.2.2.2.2.2.1
theorem Sh.c12 {S : St} (h : Sh S) : 0 < sC S 12 := h.1.2.2.2.2.2.2.1
theorem Sh.c13 {S : St} (h : Sh S) : 0 < sC S 13 := h.1.2.2.2.2.2.2.2.1
theorem Sh.c14 {S : St} (h : Sh S) : 0 < sC S 14 := h.1.2.2.2.2.2.2.2.2.1
theorem Sh.c15 {S : St} (h : Sh S) : 0 < sC S 15 := h.1.2.2.2.2.2.2.2.2.2.1
theorem Sh.c16 {S : St} (h : Sh S) : 0 < sC S 16 := h.1.2.2.2.2.2.2.2.2.2.2
theorem Sh.r1 {S : St} (h : Sh S) : sR S 9 0 1 = some 0 := h.2.1.1
theorem Sh.r2 {S : St} (h : Sh S) : sR S 9 0 2 = some 0 := h.2.1.2.1
theorem Sh.r3 {S : St} (h : Sh S) : sR S 9 0 3 = some 0 := h.2.1.2.2.1
theorem Sh.r4 {S : St} (h : Sh S) : sR S 9 0 4 = some 0 := h.2.1.2.2.2.1
theorem Sh.r5 {S : St} (h : Sh S) : sR S 9 0 5 = some 0 := h.2.1.2.2.2.2.1
theorem Sh.r6 {S : St} (h : Sh S) : sR S 9 0 6 = some 0 := h.2.1.2.2.2.2.2.1
theorem Sh.r7 {S : St} (h : Sh S) : sR S 9 0 7 = some 0 := h.2.1.2.2.2.2.2.2.1
theorem Sh.r8 {S : St} (h : Sh S) : sR S 9 0 8 = some 1 := h.2.1.2.2.2.2.2.2.2.1
theorem Sh.r9 {S : St} (h : Sh S) : sR S 9 0 9 = some 0 := h.2.1.2.2.2.2.2.2.2.2
/-- what a belt's two fields say of where it is joined to -/
def nx (o1 o2 : Option Nat) (v : Int32) (nb nu : Nat) : Prop := (∃ t, v = nI t ∧ t < nb ∧ o1 = some t ∧ o2 = none) ∨ (v = -1 ∧ o1 = none ∧ o2 = none) ∨ ∃ k, v = -2 - nI k ∧ k < nu ∧ o1 = none ∧ o2 = some k
/-- the line in the class's cells -/
def Cs (S : St) (α : Al) (nb nh nu nr nk np : Nat) : Prop := (sC S 0 = nb ∧ sC S 2 = nh ∧ sC S 1 = nu ∧ sC S 5 = nk ∧ sC S 7 = nr ∧ sC S 6 = np ∧ sC S 4 = 5 * nb ∧ sC S 17 = nb) ∧
  (sJ S 9 0 0 = aJ α 0 0 ∧ sI S 9 0 10 = aI α 0 1 ∧ sI S 9 0 11 = aI α 0 9 ∧ sI S 9 0 12 = aI α 0 13 ∧ sI S 9 0 13 = aI α 0 20 ∧ sI S 9 0 14 = aI α 0 16 ∧ sI S 9 0 15 = aI α 0 26) ∧
  (∀ b, b < nb → (sR S 11 0 b = some b ∧ sI S 0 b 0 = nI b ∧ sI S 0 b 1 = aI α 1 b ∧ sD S 0 b 2 = aD α 2 b ∧ sR S 0 b 3 = some b) ∧ nx (sR S 0 b 4) (sR S 0 b 5) (aI α 3 b) nb nu ∧ (sI S 0 b 6 = aI α 4 b ∧ sD S 0 b 7 = aD α 5 b ∧ sI S 0 b 8 = aI α 6 b) ∧ sN S 17 b = 5 ∧ ∀ kd, kd < 5 → sR S 17 b kd = some (5 * b + kd)) ∧
  (∀ h, h < nh → sR S 12 0 h = some h ∧ (∃ b, aI α 8 h = nI b ∧ b < nb ∧ sR S 2 h 0 = some b) ∧ sI S 2 h 1 = aI α 9 h ∧ sD S 2 h 2 = aD α 10 h) ∧
  (∀ u, u < nu → sR S 13 0 u = some u ∧ sI S 1 u 0 = nI u ∧ sD S 1 u 1 = aD α 11 u) ∧
  (∀ k, k < nk → sR S 14 0 k = some k ∧ (∃ b, aI α 16 k = nI b ∧ b < nb ∧ sR S 5 k 0 = some b) ∧ sD S 5 k 1 = aD α 17 k ∧ sD S 5 k 2 = aD α 18 k) ∧
  (∀ r, r < nr → sR S 15 0 r = some r ∧ (∃ b, aI α 13 r = nI b ∧ b < nb ∧ sR S 7 r 0 = some b) ∧ sD S 7 r 1 = aD α 14 r ∧ sD S 7 r 2 = aD α 15 r) ∧
  ∀ j, j < np → sR S 16 0 j = some j ∧ sI S 6 j 0 = nI j ∧ (∃ b, aI α 24 j = nI b ∧ b < nb ∧ sR S 6 j 1 = some b) ∧ sI S 6 j 2 = aI α 23 j ∧ sI S 6 j 3 = aI α 21 j ∧ sD S 6 j 4 = aD α 22 j
theorem Cs.sc {S T : St} {α β : Al} {nb nh nu nr nk np : Nat} (h : Cs S α nb nh nu nr nk np) (g : Sc S T) (s : Sm α β) : Cs T β nb nh nu nr nk np := by
  obtain ⟨g1, g2, g3, g4, g5, g6, g7⟩ := g
  obtain ⟨s1, s2, s3, s4⟩ := s
  obtain ⟨h1, h2, h3, h4, h5, h6, h7, h8⟩ := h
  refine ⟨by rw [g1]; exact h1, ?_, fun b hb => ?_, fun x hx => ?_, fun x hx => ?_, fun x hx => ?_, fun x hx => ?_, fun x hx => ?_⟩
  · rw [g5 9 0 0 (by decide), s3 0 0 (by decide), g4 9 0 10 rfl, g4 9 0 11 rfl, g4 9 0 12 rfl, g4 9 0 13 rfl, g4 9 0 14 rfl, g4 9 0 15 rfl, s2 1 rfl, s2 9 rfl, s2 13 rfl, s2 20 rfl, s2 16 rfl, s2 26 rfl]
    exact h2
  · rw [g7 11 0 b (by omega), g4 0 b 0 rfl, g4 0 b 1 rfl, g6 0 b 2 (by omega), g7 0 b 3 (by omega), g7 0 b 4 (by omega), g7 0 b 5 (by omega), g4 0 b 6 rfl, g6 0 b 7 (by omega), g4 0 b 8 rfl, g3, s1 1 b rfl, s4 2 b (by decide), s1 3 b rfl, s1 4 b rfl, s4 5 b (by decide), s1 6 b rfl]
    obtain ⟨q1, q2, q3, q4, q5⟩ := h3 b hb
    exact ⟨q1, q2, q3, q4, fun kd hk => by rw [g7 17 b kd (by omega)]; exact q5 kd hk⟩
  · rw [g7 12 0 x (by omega), g7 2 x 0 (by omega), g4 2 x 1 rfl, g6 2 x 2 (by omega), s1 8 x rfl, s1 9 x rfl, s4 10 x (by decide)]
    exact h4 x hx
  · rw [g7 13 0 x (by omega), g4 1 x 0 rfl, g6 1 x 1 (by omega), s4 11 x (by decide)]
    exact h5 x hx
  · rw [g7 14 0 x (by omega), g7 5 x 0 (by omega), g6 5 x 1 (by omega), g6 5 x 2 (by omega), s1 16 x rfl, s4 17 x (by decide), s4 18 x (by decide)]
    exact h6 x hx
  · rw [g7 15 0 x (by omega), g7 7 x 0 (by omega), g6 7 x 1 (by omega), g6 7 x 2 (by omega), s1 13 x rfl, s4 14 x (by decide), s4 15 x (by decide)]
    exact h7 x hx
  · rw [g7 16 0 x (by omega), g4 6 x 0 rfl, g7 6 x 1 (by omega), g4 6 x 2 rfl, g4 6 x 3 rfl, g6 6 x 4 (by omega), s1 24 x rfl, s1 23 x rfl, s1 21 x rfl, s4 22 x (by decide)]
    exact h8 x hx
/-- a row of a log -/
def Row (v t0 p0 a0 b0 : Int32) : Prop := ∃ t p a b, t ≤ 10000 ∧ p < 64 ∧ a < 16 ∧ b < 64 ∧ v = nI (t * 65536 + p * 1024 + a * 64 + b) ∧ t0 = nI t ∧ p0 = nI p ∧ a0 = nI a ∧ b0 = nI b
/-- what a run moves, in the class's cells -/
def Cd (S : St) (α : Al) (nb nu nk np : Nat) : Prop := sI S 9 0 16 = aI α 0 35 ∧ (∀ b, b < nb → sI S 0 b 9 = aI α 7 b) ∧ (∀ u, u < nu → sD S 1 u 2 = aD α 12 u) ∧ (∀ k, k < nk → sI S 5 k 3 = aI α 20 k ∧ sI S 5 k 4 = aI α 19 k) ∧
  (∀ j, j < np → (aI α 25 j = 1 → ∃ b, b < nb ∧ aI α 26 j = nI b ∧ sR S 6 j 5 = some b ∧ sI S 6 j 6 = aI α 27 j) ∧ (¬ aI α 25 j = 1 → sR S 6 j 5 = none)) ∧
  (∀ a, a < 5 * nb → sI S 4 a 0 = aI α 32 a ∧ sI S 4 a 1 = aI α 33 a ∧ sI S 4 a 2 = aI α 34 a ∧ sI S 4 a 3 = aI α 35 a) ∧
  (sI S 3 0 1 = aI α 0 36 ∧ sI S 3 1 1 = aI α 0 38) ∧
  (∀ j, j < 2000 → nI j < aI α 0 36 → Row (sI S 18 0 j) (aI α 29 (4 * j)) (aI α 29 (4 * j + 1)) (aI α 29 (4 * j + 2)) (aI α 29 (4 * j + 3))) ∧
  (∀ j, j < 60 → nI j < aI α 0 38 → Row (sI S 18 1 j) (aI α 30 (4 * j)) (aI α 30 (4 * j + 1)) (aI α 30 (4 * j + 2)) (aI α 30 (4 * j + 3))) ∧
  (∀ c, c < 4 → sJ S 19 0 c = aJ α 31 c) ∧
  (sI S 8 0 1 = nI (ctF α 2 np) ∧ sI S 8 0 2 = nI (ctF α 3 np) ∧ sI S 8 0 3 = nI (ctF α 4 np) ∧ aJ α 31 0 + aJ α 31 1 + aJ α 31 2 = lN (ctF α 5 np))

/-! the reference's own cells are made -/
def cls (k : Nat) : Bool := Nat.ble k 19 && !(Nat.beq k 10)
def mix (S T : St) : St := (fun k => bif cls k then sC S k else sC T k, fun k i => bif cls k then sA S k i else sA T k i, fun k i => bif cls k then sN S k i else sN T k i, fun k i j => bif cls k then sI S k i j else sI T k i j, fun k i j => bif cls k then sJ S k i j else sJ T k i j, fun k i j => bif cls k then sD S k i j else sD T k i j, fun k i j => bif cls k then sR S k i j else sR T k i j)
/-- T has the class's cells that S has -/
def Cg (S T : St) : Prop := ∀ k, cls k = true → sC T k = sC S k ∧ ∀ i, sA T k i = sA S k i ∧ sN T k i = sN S k i ∧ ∀ j, sI T k i j = sI S k i j ∧ sJ T k i j = sJ S k i j ∧ sD T k i j = sD S k i j ∧ sR T k i j = sR S k i j
theorem Cg.rf {S : St} : Cg S S := fun _ _ => ⟨rfl, fun _ => ⟨rfl, rfl, fun _ => ⟨rfl, rfl, rfl, rfl⟩⟩⟩
theorem Cg.eq {S T : St} (h : Cg S T) : mix S T = T := by
  obtain ⟨C, A, N, I, J, D, R⟩ := T
  have e : ∀ {β : Type} (f g : Nat → β), (∀ k, cls k = true → g k = f k) → (fun k => bif cls k then f k else g k) = g := by
    intro β f g hh
    funext k
    cases q : cls k with
    | true => exact (hh k q).symm
    | false => rfl
  have h1 : (fun k => bif cls k then sC S k else C k) = C := e _ _ (fun k q => (h k q).1)
  have h2 : (fun k i => bif cls k then sA S k i else A k i) = A := by
    funext k i
    cases q : cls k with
    | true => exact (((h k q).2 i).1).symm
    | false => rfl
  have h3 : (fun k i => bif cls k then sN S k i else N k i) = N := by
    funext k i
    cases q : cls k with
    | true => exact (((h k q).2 i).2.1).symm
    | false => rfl
  have h4 : (fun k i j => bif cls k then sI S k i j else I k i j) = I := by
    funext k i j
    cases q : cls k with
    | true => exact ((((h k q).2 i).2.2 j).1).symm
    | false => rfl
  have h5 : (fun k i j => bif cls k then sJ S k i j else J k i j) = J := by
    funext k i j
    cases q : cls k with
    | true => exact ((((h k q).2 i).2.2 j).2.1).symm
    | false => rfl
  have h6 : (fun k i j => bif cls k then sD S k i j else D k i j) = D := by
    funext k i j
    cases q : cls k with
    | true => exact ((((h k q).2 i).2.2 j).2.2.1).symm
    | false => rfl
  have h7 : (fun k i j => bif cls k then sR S k i j else R k i j) = R := by
    funext k i j
    cases q : cls k with
    | true => exact ((((h k q).2 i).2.2 j).2.2.2).symm
    | false => rfl
  show (_, _, _, _, _, _, _) = (_, _, _, _, _, _, _)
  exact Prod.ext h1 (Prod.ext h2 (Prod.ext h3 (Prod.ext h4 (Prod.ext h5 (Prod.ext h6 h7)))))
theorem CZ.cg {S T : St} {α : Al} {nb nh nu nr nk np t : Nat} (z : CZ S α nb nh nu nr nk np t) (h : Cg S T) : CZ T α nb nh nu nr nk np t := by
  have z2 : CZ (mix S T) α nb nh nu nr nk np t := z
  rw [h.eq] at z2
  exact z2
/-- the first n arrays stand, in the fields below f -/
def Md (S T : St) (n f : Nat) : Prop := Cg S T ∧ (sA T 10 0 = sA S 10 0 ∧ sC T 10 = sC S 10) ∧ (∀ k, 20 ≤ k → k < 20 + n → sC T k = 1 ∧ sN T k 0 = ln k ∧ ∀ j, sI T k 0 j = 0 ∧ sJ T k 0 j = 0 ∧ sD T k 0 j = 0) ∧ (∀ k, 20 + n ≤ k → k < 55 → sC T k = 0) ∧ (∀ j, j < f → kn_t 10 j = 3 → sR T 10 0 j = some 0) ∧ ∀ j, sI T 10 0 j = sI S 10 0 j ∧ sJ T 10 0 j = sJ S 10 0 j ∧ sD T 10 0 j = sD S 10 0 j
theorem Md.step {S T : St} {n f x a z j : Nat} (h : Md S T n f) (hx : x = 20 + n) (hn : x < 55) (hl : ln x = z) (hf : f ≤ j) (hj : ∀ i, f ≤ i → i < j → ¬ kn_t 10 i = 3) (h10 : sC S 10 = 1) : Md S (pR (nO T x a z) 10 0 j (some 0)) (n + 1) (j + 1) := by
  subst hx
  obtain ⟨g, ⟨ga, gc⟩, g1, g2, g3, g4⟩ := h
  have c0 : sC T (20 + n) = 0 := g2 (20 + n) (Nat.le_refl _) hn
  refine ⟨fun k hk => ?_, ⟨?_, ?_⟩, fun k h1 h2 => ?_, fun k h1 h2 => ?_, fun i h1 h2 => ?_, fun i => ?_⟩
  · have hk2 : k < 20 ∧ k ≠ 10 := by
      unfold cls at hk
      rw [Bool.and_eq_true] at hk
      refine ⟨by have := Nat.le_of_ble_eq_true hk.1; omega, fun q => ?_⟩
      rw [q] at hk
      exact absurd hk.2 (by decide)
    obtain ⟨e1, e2⟩ := g k hk
    refine ⟨by rw [pR_C, sC_nOo (by omega)]; exact e1, fun i => ⟨by rw [pR_A, nO_Ao (by omega)]; exact (e2 i).1, by rw [pR_N, nO_No (by omega)]; exact (e2 i).2.1, fun y => ⟨by rw [pR_I, nO_Io (by omega)]; exact ((e2 i).2.2 y).1, by rw [pR_J, nO_Jo (by omega)]; exact ((e2 i).2.2 y).2.1, by rw [pR_D, nO_Do (by omega)]; exact ((e2 i).2.2 y).2.2.1, by rw [pR_R (by omega), nO_Ro (by omega)]; exact ((e2 i).2.2 y).2.2.2⟩⟩⟩
  · rw [pR_A, nO_Ao (by omega)]; exact ga
  · rw [pR_C, sC_nOo (by omega)]; exact gc
  · by_cases q : k = 20 + n
    · subst q
      refine ⟨by rw [pR_C, sC_nOs, c0], by rw [pR_N, nO_N c0]; exact hl.symm, fun y => ⟨by rw [pR_I]; exact nO_I c0, ?_, by rw [pR_D]; exact nO_D c0⟩⟩
      rw [pR_J]
      show u2 (sJ T) (20 + n) (sC T (20 + n)) (fun _ => 0) (20 + n) 0 y = 0
      rw [c0]
      exact congrFun u2_self y
    · obtain ⟨e1, e2, e3⟩ := g1 k h1 (by omega)
      exact ⟨by rw [pR_C, sC_nOo q]; exact e1, by rw [pR_N, nO_No q]; exact e2, fun y => ⟨by rw [pR_I, nO_Io q]; exact (e3 y).1, by rw [pR_J, nO_Jo q]; exact (e3 y).2.1, by rw [pR_D, nO_Do q]; exact (e3 y).2.2⟩⟩
  · rw [pR_C, sC_nOo (by omega)]
    exact g2 k (by omega) h2
  · by_cases q : i = j
    · subst q
      exact pR_s
    · rw [pR_R (by omega), nO_Ro (by omega)]
      refine g3 i ?_ h2
      rcases Nat.lt_or_ge i f with r | r
      · exact r
      · exact absurd h2 (hj i r (by omega))
  · rw [pR_I, pR_J, pR_D, nO_Io (by omega), nO_Jo (by omega), nO_Do (by omega)]
    exact g4 i
/-- a reference at its start -/
def Mz (S T : St) (v : Int64) : Prop := Cg S T ∧ MSh T ∧ sA T 10 0 = sA S 10 0 ∧ (∀ a, a < 36 → ∀ j, aI (rd T) a j = 0 ∧ aD (rd T) a j = 0 ∧ (¬ (a = 0 ∧ j = 0) → aJ (rd T) a j = 0)) ∧ aJ (rd T) 0 0 = v
theorem Md.end {S T : St} {v : Int64} (h : Md S T 35 45) (h10 : sC S 10 = 1) (hz : ∀ j, sI S 10 0 j = 0 ∧ sJ S 10 0 j = 0 ∧ sD S 10 0 j = 0) : Mz S (pJ T 10 0 0 v) v := by
  obtain ⟨g, ⟨ga, gc⟩, g1, g2, g3, g4⟩ := h
  refine ⟨fun k hk => ?_, ⟨?_, fun k h1 h2 => ?_, fun j hj => ?_, fun k h1 h2 => ?_⟩, ?_, fun a ha j => ?_, ?_⟩
  · have hk2 : k ≠ 10 := fun q => by
      subst q
      exact absurd hk (by decide)
    obtain ⟨e1, e2⟩ := g k hk
    refine ⟨by rw [pJ_C]; exact e1, fun i => ⟨by rw [pJ_A]; exact (e2 i).1, by rw [pJ_N]; exact (e2 i).2.1, fun y => ⟨by rw [pJ_I]; exact ((e2 i).2.2 y).1, by rw [pJ_J (by omega)]; exact ((e2 i).2.2 y).2.1, by rw [pJ_D]; exact ((e2 i).2.2 y).2.2.1, by rw [pJ_R]; exact ((e2 i).2.2 y).2.2.2⟩⟩⟩
  · rw [pJ_C, gc, h10]; decide
  · rw [pJ_C, (g1 k h1 (by omega)).1]; decide
  · rw [pJ_R]
    refine g3 j ?_ hj
    rcases Nat.lt_or_ge j 45 with q | q
    · exact q
    · exfalso
      obtain ⟨d, rfl⟩ := Nat.exists_eq_add_of_le q
      rw [Nat.add_comm] at hj
      exact absurd hj (by show ¬ (0 = 3); decide)
  · rw [pJ_N]
    exact (g1 k h1 (by omega)).2.1
  · rw [pJ_A]; exact ga
  · cases a with
    | zero =>
      have g40 := g4 j
      refine ⟨?_, ?_, fun q => ?_⟩
      · show sI (pJ T 10 0 0 v) 10 0 j = 0
        rw [pJ_I, g40.1]; exact (hz j).1
      · show sD (pJ T 10 0 0 v) 10 0 j = 0
        rw [pJ_D, g40.2.2]; exact (hz j).2.2
      · show sJ (pJ T 10 0 0 v) 10 0 j = 0
        rw [pJ_J (by omega), g40.2.1]; exact (hz j).2.1
    | succ a =>
      have e := (g1 (a + 20) (by omega) (by omega)).2.2 j
      refine ⟨?_, ?_, fun q => ?_⟩
      · show sI (pJ T 10 0 0 v) (a + 20) 0 j = 0
        rw [pJ_I]; exact e.1
      · show sD (pJ T 10 0 0 v) (a + 20) 0 j = 0
        rw [pJ_D]; exact e.2.2
      · show sJ (pJ T 10 0 0 v) (a + 20) 0 j = 0
        rw [pJ_J (by omega)]; exact e.2.1
  · show sJ (pJ T 10 0 0 v) 10 0 0 = v
    exact pJ_s

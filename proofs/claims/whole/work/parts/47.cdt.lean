theorem ct_t1 {α : Al} {s : Int32} {h : Nat} (c : aI α 25 h = s) : nI (ctF α s h) + Int32.ofInt 1 = nI (ctF α s (h + 1)) := ct_s1 c
theorem ct_t0 {α : Al} {s : Int32} {h : Nat} (c : ¬ aI α 25 h = s) : nI (ctF α s h) = nI (ctF α s (h + 1)) := by
  rw [show ctF α s (h + 1) = ctF α s h + 0 from by rw [ctF, if_neg c]]
  rfl
theorem en_t1 {α : Al} {h : Nat} (c : ¬ aI α 0 35 < aI α 23 h) : nI (enF α h) + Int32.ofInt 1 = nI (enF α (h + 1)) := en_s1 c
theorem en_t0 {α : Al} {h : Nat} (c : aI α 0 35 < aI α 23 h) : nI (enF α h) = nI (enF α (h + 1)) := by
  rw [show enF α (h + 1) = enF α h + 0 from by rw [enF, if_pos c]]
  rfl
theorem same_eq {S : St} {α : Al} {nb nu nk np : Nat} (d : Cd S α nb nu nk np) (hn : np ≤ 60) : (nI (ctF α 1 np)).toInt64 + restA S = inA α np + (nI (ctF α 3 np)).toInt64 + (nI (ctF α 4 np)).toInt64 + (nI (ctF α 5 np)).toInt64 := by
  have l1 := ctF_le (α := α) (s := 1) np
  have l2 := ctF_le (α := α) (s := 2) np
  have l3 := ctF_le (α := α) (s := 3) np
  have l4 := ctF_le (α := α) (s := 4) np
  have l5 := ctF_le (α := α) (s := 5) np
  unfold inA
  rw [restA_eq d hn, nI_add, nI_l (n := ctF α 1 np) (by omega), nI_l (n := ctF α 1 np + ctF α 2 np) (by omega), nI_l (n := ctF α 3 np) (by omega), nI_l (n := ctF α 4 np) (by omega), nI_l (n := ctF α 5 np) (by omega), lN_add, lN_add, lN_add, lN_add]
  exact congrArg lN (by omega)
theorem w_not {w : Int32} (hw : ¬ (w = 0 ∨ w = 1 ∨ w = 2 ∨ w = 3)) (h1 : ¬ w < 0) (h2 : ¬ 4 ≤ w) : False := by
  obtain ⟨j, hj, rfl⟩ := w_in h1 h2
  match j, hj with
  | 0, _ => exact hw (Or.inl rfl)
  | 1, _ => exact hw (Or.inr (Or.inl rfl))
  | 2, _ => exact hw (Or.inr (Or.inr (Or.inl rfl)))
  | 3, _ => exact hw (Or.inr (Or.inr (Or.inr rfl)))
theorem par_not {v w : Int32} (hw : ¬ (w = 0 ∨ w = 1 ∨ w = 2 ∨ w = 3)) : parF v w = -1 := by
  unfold parF
  rw [if_neg (fun z => hw (Or.inl z)), if_neg (fun z => hw (Or.inr (Or.inl z))), if_neg (fun z => hw (Or.inr (Or.inr (Or.inl z)))), if_neg (fun z => hw (Or.inr (Or.inr (Or.inr z))))]
theorem par_w {α : Al} {v w : Int32} {a j : Nat} (r : Row v (aI α a (4 * j)) (aI α a (4 * j + 1)) (aI α a (4 * j + 2)) (aI α a (4 * j + 3))) (h1 : ¬ w < 0) (h2 : ¬ 4 ≤ w) : parF v w = aI α a (4 * j + nn w) := by
  obtain ⟨r0, r1, r2, r3⟩ := r.par
  obtain ⟨i, hi, rfl⟩ := w_in h1 h2
  match i, hi with
  | 0, _ => exact r0
  | 1, _ => exact r1
  | 2, _ => exact r2
  | 3, _ => exact r3
theorem part_ev {S : St} {α : Al} {nb nh nu nr nk np t : Nat} (c : Ci S α nb nh nu nr nk np t) (k w : Int32) : partA S 0 k w = evA α k w := by
  have hN : sN S 18 0 = 2000 := c.1.2.2.2.2.2.2.2.2.2.1
  have ht : sI S 3 0 1 = aI α 0 36 := c.2.2.2.1.2.2.2.2.2.2.1.1
  unfold partA evA
  rw [hN, ht]
  by_cases q : ¬ k < 0 ∧ ¬ aI α 0 36 ≤ k ∧ ¬ 2000 ≤ k
  · obtain ⟨j, hj, rfl⟩ := k_in q.1 q.2.2
    rw [if_pos ⟨q.1, q.2.1, (nI_lt hj (by decide) : nI j < nI 2000)⟩, nn_nI (by omega)]
    by_cases hw : ¬ w < 0 ∧ ¬ 4 ≤ w
    · rw [if_pos ⟨q.1, q.2.1, q.2.2, hw⟩]
      exact par_w (c.2.2.2.1.2.2.2.2.2.2.2.1 j hj (Int32.not_le.mp q.2.1)) hw.1 hw.2
    · rw [if_neg (fun z => hw z.2.2.2)]
      refine par_not (fun z => hw ?_)
      rcases z with rfl | rfl | rfl | rfl <;> decide
  · rw [if_neg (fun z => q ⟨z.1, z.2.1, fun y => absurd z.2.2 (Int32.not_lt.mpr y)⟩), if_neg (fun z => q ⟨z.1, z.2.1, z.2.2.1⟩)]
theorem part_jm {S : St} {α : Al} {nb nh nu nr nk np t : Nat} (c : Ci S α nb nh nu nr nk np t) (k w : Int32) : partA S 1 k w = jamA α k w := by
  have hN : sN S 18 1 = 60 := c.1.2.2.2.2.2.2.2.2.2.2.1
  have ht : sI S 3 1 1 = aI α 0 38 := c.2.2.2.1.2.2.2.2.2.2.1.2
  obtain ⟨jm, hjm, hj5⟩ := c.2.2.2.2.1.2.2.2.1
  have hj60 : jm ≤ 60 := by have := ctF_le (α := α) (s := 5) np; have := c.2.2.1.2.2.2.2.2.1.2; omega
  unfold partA jamA
  rw [hN, ht]
  by_cases q : ¬ k < 0 ∧ ¬ aI α 0 38 ≤ k
  · obtain ⟨j, hj, rfl⟩ := kj_in hjm q.1 q.2
    rw [if_pos ⟨q.1, q.2, nI_lt (show j < 60 by omega) (by decide)⟩, nn_nI (by omega)]
    by_cases hw : ¬ w < 0 ∧ ¬ 4 ≤ w
    · rw [if_pos ⟨q.1, q.2, hw⟩]
      exact par_w (c.2.2.2.1.2.2.2.2.2.2.2.2.1 j (by omega) (Int32.not_le.mp q.2)) hw.1 hw.2
    · rw [if_neg (fun z => hw z.2.2)]
      refine par_not (fun z => hw ?_)
      rcases z with rfl | rfl | rfl | rfl <;> decide
  · rw [if_neg (fun z => q ⟨z.1, z.2.1⟩), if_neg (fun z => q ⟨z.1, z.2.1⟩)]
theorem ik_in {kd : Int32} (c : ¬ ik kd = 0) : ∃ j, j < 5 ∧ kd = nI j := by
  unfold ik at c
  rcases pk_ix kd (n := 5) (by omega) with q | q | q
  · rw [if_pos q] at c
    exact absurd rfl c
  · have q2 : 5 ≤ kd := q
    rw [if_pos q2] at c
    split at c <;> exact absurd rfl c
  · exact q
theorem ik_0 {kd : Int32} (c : ik kd = 0) : ¬ (¬ kd < 0 ∧ ¬ 5 ≤ kd) := by
  intro z
  unfold ik at c
  rw [if_neg z.1, if_neg z.2] at c
  exact absurd c (by decide)
theorem isK_0a {α : Al} {b kd : Int32} (c : iB α b = 0) : isK α b kd = 0 := by
  unfold isK
  rw [if_neg (fun z => z.1 c)]
theorem isK_0b {α : Al} {b kd : Int32} (c : ik kd = 0) : isK α b kd = 0 := by
  unfold isK
  rw [if_neg (fun z => ik_0 c z.2)]
theorem iB_of {α : Al} {b nb : Nat} (h : aI α 0 1 = nI nb) (hn : nb ≤ 6) (hb : b < nb) : ¬ iB α (nI b) = 0 := by
  unfold iB
  rw [if_neg (nI_pos (by omega)), h, if_neg (nI_ge hb (by omega))]
  decide
theorem isK_1 {α : Al} {b kd nb : Nat} (h : aI α 0 1 = nI nb) (hn : nb ≤ 6) (hb : b < nb) (hk : kd < 5) : ¬ isK α (nI b) (nI kd) = 0 := by
  unfold isK
  rw [if_pos ⟨iB_of h hn hb, nI_pos (by omega), (nI_ge hk (by decide) : ¬ nI 5 ≤ nI kd)⟩]
  decide
/-- a number's bunker -/
def uOf (α : Al) (to : Int32) : Bool := decide (to ≤ -2 ∧ ¬ -2 - to < 0 ∧ ¬ aI α 0 13 ≤ -2 - to)
theorem m2_m2 (x : Int32) : x = -2 - (-2 - x) := by
  apply Int32.toBitVec_inj.mp
  rw [Int32.toBitVec_sub, Int32.toBitVec_sub]
  bv_omega

/-! the line is told: one more cell of a kind -/
def CsP (S : St) (α : Al) (nb nh nu nr nk np : Nat) : Prop :=
  (∀ b, b < nb → (sR S 11 0 b = some b ∧ sI S 0 b 0 = nI b ∧ sI S 0 b 1 = aI α 1 b ∧ sD S 0 b 2 = aD α 2 b ∧ sR S 0 b 3 = some b) ∧ nx (sR S 0 b 4) (sR S 0 b 5) (aI α 3 b) nb nu ∧ (sI S 0 b 6 = aI α 4 b ∧ sD S 0 b 7 = aD α 5 b ∧ sI S 0 b 8 = aI α 6 b) ∧ sN S 17 b = 5 ∧ ∀ kd, kd < 5 → sR S 17 b kd = some (5 * b + kd)) ∧
  (∀ h, h < nh → sR S 12 0 h = some h ∧ (∃ b, aI α 8 h = nI b ∧ b < nb ∧ sR S 2 h 0 = some b) ∧ sI S 2 h 1 = aI α 9 h ∧ sD S 2 h 2 = aD α 10 h) ∧
  (∀ u, u < nu → sR S 13 0 u = some u ∧ sI S 1 u 0 = nI u ∧ sD S 1 u 1 = aD α 11 u) ∧
  (∀ k, k < nk → sR S 14 0 k = some k ∧ (∃ b, aI α 16 k = nI b ∧ b < nb ∧ sR S 5 k 0 = some b) ∧ sD S 5 k 1 = aD α 17 k ∧ sD S 5 k 2 = aD α 18 k) ∧
  (∀ r, r < nr → sR S 15 0 r = some r ∧ (∃ b, aI α 13 r = nI b ∧ b < nb ∧ sR S 7 r 0 = some b) ∧ sD S 7 r 1 = aD α 14 r ∧ sD S 7 r 2 = aD α 15 r) ∧
  ∀ j, j < np → sR S 16 0 j = some j ∧ sI S 6 j 0 = nI j ∧ (∃ b, aI α 24 j = nI b ∧ b < nb ∧ sR S 6 j 1 = some b) ∧ sI S 6 j 2 = aI α 23 j ∧ sI S 6 j 3 = aI α 21 j ∧ sD S 6 j 4 = aD α 22 j
def aP (nb nh nu nr nk np k j : Nat) : Prop := match k with
  | 9 => 10 ≤ j ∧ j ≤ 15
  | 11 => nb ≤ j
  | 12 => nh ≤ j
  | 13 => nu ≤ j
  | 14 => nk ≤ j
  | 15 => nr ≤ j
  | 16 => np ≤ j
  | _ => False
/-- T has what S has, and more; only counts and free places may be others -/
def Ek (nb nh nu nr nk np : Nat) (S T : St) : Prop := (∀ k, sC S k ≤ sC T k) ∧ ∀ k i, i < sC S k → sN T k i = sN S k i ∧ ∀ j, ¬ aP nb nh nu nr nk np k j → sI T k i j = sI S k i j ∧ sJ T k i j = sJ S k i j ∧ sD T k i j = sD S k i j ∧ sR T k i j = sR S k i j
section EK
variable {nb nh nu nr nk np : Nat} {S T : St}
theorem Ek.rf : Ek nb nh nu nr nk np S S := ⟨fun _ => Nat.le_refl _, fun _ _ _ => ⟨rfl, fun _ _ => ⟨rfl, rfl, rfl, rfl⟩⟩⟩
theorem Ek.new {x a z : Nat} (h : Ek nb nh nu nr nk np S T) : Ek nb nh nu nr nk np S (nO T x a z) := by
  refine ⟨fun k => ?_, fun k i hi => ?_⟩
  · rw [sC_nO]
    split
    · rename_i q
      rw [q]
      exact Nat.le_succ_of_le (h.1 x)
    · exact h.1 k
  · have hk : ¬ (k = x ∧ i = sC T x) := fun q => by
      have := h.1 k
      rw [q.1] at hi this
      omega
    rw [show sN (nO T x a z) k i = sN T k i from u2_ne hk, show sI (nO T x a z) k i = sI T k i from u2_ne hk, show sJ (nO T x a z) k i = sJ T k i from u2_ne hk, show sD (nO T x a z) k i = sD T k i from u2_ne hk, show sR (nO T x a z) k i = sR T k i from u2_ne hk]
    exact h.2 k i hi
theorem Ek.ne {x i j k i' j' : Nat} (hp : sC S x ≤ i ∨ aP nb nh nu nr nk np x j) (hi : i' < sC S k) (hj : ¬ aP nb nh nu nr nk np k j') : ¬ (k = x ∧ i' = i ∧ j' = j) := fun q => by
  obtain ⟨rfl, rfl, rfl⟩ := q
  rcases hp with hp | hp
  · omega
  · exact hj hp
theorem Ek.I {x i j : Nat} {v : Int32} (h : Ek nb nh nu nr nk np S T) (hp : sC S x ≤ i ∨ aP nb nh nu nr nk np x j) : Ek nb nh nu nr nk np S (pI T x i j v) := ⟨h.1, fun k i' hi => ⟨(h.2 k i' hi).1, fun j' hj => ⟨(u3_ne (Ek.ne hp hi hj)).trans ((h.2 k i' hi).2 j' hj).1, ((h.2 k i' hi).2 j' hj).2⟩⟩⟩
theorem Ek.D {x i j : Nat} {v : UInt64} (h : Ek nb nh nu nr nk np S T) (hp : sC S x ≤ i ∨ aP nb nh nu nr nk np x j) : Ek nb nh nu nr nk np S (pD T x i j v) := ⟨h.1, fun k i' hi => ⟨(h.2 k i' hi).1, fun j' hj => ⟨((h.2 k i' hi).2 j' hj).1, ((h.2 k i' hi).2 j' hj).2.1, (u3_ne (Ek.ne hp hi hj)).trans ((h.2 k i' hi).2 j' hj).2.2.1, ((h.2 k i' hi).2 j' hj).2.2.2⟩⟩⟩
theorem Ek.R {x i j : Nat} {v : Option Nat} (h : Ek nb nh nu nr nk np S T) (hp : sC S x ≤ i ∨ aP nb nh nu nr nk np x j) : Ek nb nh nu nr nk np S (pR T x i j v) := ⟨h.1, fun k i' hi => ⟨(h.2 k i' hi).1, fun j' hj => ⟨((h.2 k i' hi).2 j' hj).1, ((h.2 k i' hi).2 j' hj).2.1, ((h.2 k i' hi).2 j' hj).2.2.1, (u3_ne (Ek.ne hp hi hj)).trans ((h.2 k i' hi).2 j' hj).2.2.2⟩⟩⟩
theorem Sh.old (h : Sh S) (e : Ek nb nh nu nr nk np S T) : Sh T := by
  have eC := fun k => e.1 k
  have eN := fun k i hi => (e.2 k i hi).1
  have eR : ∀ k i j, i < sC S k → ¬ aP nb nh nu nr nk np k j → sR T k i j = sR S k i j := fun k i j hi hj => ((e.2 k i hi).2 j hj).2.2.2
  have h0 := h
  obtain ⟨⟨c9, c3, c8, c18, c19, c11, c12, c13, c14, c15, c16⟩, ⟨r1, r2, r3, r4, r5, r6, r7, r8, r9⟩, ⟨s1, s2, s3⟩, ⟨n1, n2, n3, n4, n5, n6, n7, n8, n9⟩⟩ := h
  refine ⟨⟨Nat.lt_of_lt_of_le c9 (eC 9), Nat.lt_of_lt_of_le c3 (eC 3), Nat.lt_of_lt_of_le c8 (eC 8), Nat.lt_of_lt_of_le c18 (eC 18), Nat.lt_of_lt_of_le c19 (eC 19), Nat.lt_of_lt_of_le c11 (eC 11), Nat.lt_of_lt_of_le c12 (eC 12), Nat.lt_of_lt_of_le c13 (eC 13), Nat.lt_of_lt_of_le c14 (eC 14), Nat.lt_of_lt_of_le c15 (eC 15), Nat.lt_of_lt_of_le c16 (eC 16)⟩, ⟨?_, ?_, ?_, ?_, ?_, ?_, ?_, ?_, ?_⟩, ⟨?_, ?_, ?_⟩, ⟨?_, ?_, ?_, ?_, ?_, ?_, ?_, ?_, ?_⟩⟩
  · rw [eR 9 0 1 c9 (fun q => absurd q.1 (by decide))]; exact r1
  · rw [eR 9 0 2 c9 (fun q => absurd q.1 (by decide))]; exact r2
  · rw [eR 9 0 3 c9 (fun q => absurd q.1 (by decide))]; exact r3
  · rw [eR 9 0 4 c9 (fun q => absurd q.1 (by decide))]; exact r4
  · rw [eR 9 0 5 c9 (fun q => absurd q.1 (by decide))]; exact r5
  · rw [eR 9 0 6 c9 (fun q => absurd q.1 (by decide))]; exact r6
  · rw [eR 9 0 7 c9 (fun q => absurd q.1 (by decide))]; exact r7
  · rw [eR 9 0 8 c9 (fun q => absurd q.1 (by decide))]; exact r8
  · rw [eR 9 0 9 c9 (fun q => absurd q.1 (by decide))]; exact r9
  · rw [eR 3 0 0 h0.c3a id]; exact s1
  · rw [eR 3 1 0 c3 id]; exact s2
  · rw [eR 8 0 0 c8 id]; exact s3
  · rw [eN 11 0 c11]; exact n1
  · rw [eN 12 0 c12]; exact n2
  · rw [eN 13 0 c13]; exact n3
  · rw [eN 14 0 c14]; exact n4
  · rw [eN 15 0 c15]; exact n5
  · rw [eN 16 0 c16]; exact n6
  · rw [eN 18 0 h0.c18a]; exact n7
  · rw [eN 18 1 c18]; exact n8
  · rw [eN 19 0 c19]; exact n9
theorem CsP.old {α : Al} (c : Cs S α nb nh nu nr nk np) (sh : Sh S) (e : Ek nb nh nu nr nk np S T) : CsP T α nb nh nu nr nk np := by
  have eN := fun k i hi => (e.2 k i hi).1
  have eI : ∀ k i j, i < sC S k → ¬ aP nb nh nu nr nk np k j → sI T k i j = sI S k i j := fun k i j hi hj => ((e.2 k i hi).2 j hj).1
  have eD : ∀ k i j, i < sC S k → ¬ aP nb nh nu nr nk np k j → sD T k i j = sD S k i j := fun k i j hi hj => ((e.2 k i hi).2 j hj).2.2.1
  have eR : ∀ k i j, i < sC S k → ¬ aP nb nh nu nr nk np k j → sR T k i j = sR S k i j := fun k i j hi hj => ((e.2 k i hi).2 j hj).2.2.2
  obtain ⟨⟨k0, k2, k1, k5, k7, k6, k4, k17⟩, -, h3, h4, h5, h6, h7, h8⟩ := c
  refine ⟨fun b hb => ?_, fun x hx => ?_, fun x hx => ?_, fun x hx => ?_, fun x hx => ?_, fun x hx => ?_⟩
  · have b0 : b < sC S 0 := by omega
    have b17 : b < sC S 17 := by omega
    rw [eR 11 0 b sh.c11 (Nat.not_le.mpr hb), eI 0 b 0 b0 id, eI 0 b 1 b0 id, eD 0 b 2 b0 id, eR 0 b 3 b0 id, eR 0 b 4 b0 id, eR 0 b 5 b0 id, eI 0 b 6 b0 id, eD 0 b 7 b0 id, eI 0 b 8 b0 id, eN 17 b b17]
    obtain ⟨q1, q2, q3, q4, q5⟩ := h3 b hb
    exact ⟨q1, q2, q3, q4, fun kd hk => by rw [eR 17 b kd b17 id]; exact q5 kd hk⟩
  · have x2 : x < sC S 2 := by omega
    rw [eR 12 0 x sh.c12 (Nat.not_le.mpr hx), eR 2 x 0 x2 id, eI 2 x 1 x2 id, eD 2 x 2 x2 id]
    exact h4 x hx
  · have x1 : x < sC S 1 := by omega
    rw [eR 13 0 x sh.c13 (Nat.not_le.mpr hx), eI 1 x 0 x1 id, eD 1 x 1 x1 id]
    exact h5 x hx
  · have x5 : x < sC S 5 := by omega
    rw [eR 14 0 x sh.c14 (Nat.not_le.mpr hx), eR 5 x 0 x5 id, eD 5 x 1 x5 id, eD 5 x 2 x5 id]
    exact h6 x hx
  · have x7 : x < sC S 7 := by omega
    rw [eR 15 0 x sh.c15 (Nat.not_le.mpr hx), eR 7 x 0 x7 id, eD 7 x 1 x7 id, eD 7 x 2 x7 id]
    exact h7 x hx
  · have x6 : x < sC S 6 := by omega
    rw [eR 16 0 x sh.c16 (Nat.not_le.mpr hx), eI 6 x 0 x6 id, eR 6 x 1 x6 id, eI 6 x 2 x6 id, eI 6 x 3 x6 id, eD 6 x 4 x6 id]
    exact h8 x hx
theorem Cd.old {α : Al} (d : Cd S α nb nu nk np) (c : Cs S α nb nh nu nr nk np) (sh : Sh S) (e : Ek nb nh nu nr nk np S T) : Cd T α nb nu nk np := by
  have eI : ∀ k i j, i < sC S k → ¬ aP nb nh nu nr nk np k j → sI T k i j = sI S k i j := fun k i j hi hj => ((e.2 k i hi).2 j hj).1
  have eJ : ∀ k i j, i < sC S k → ¬ aP nb nh nu nr nk np k j → sJ T k i j = sJ S k i j := fun k i j hi hj => ((e.2 k i hi).2 j hj).2.1
  have eD : ∀ k i j, i < sC S k → ¬ aP nb nh nu nr nk np k j → sD T k i j = sD S k i j := fun k i j hi hj => ((e.2 k i hi).2 j hj).2.2.1
  have eR : ∀ k i j, i < sC S k → ¬ aP nb nh nu nr nk np k j → sR T k i j = sR S k i j := fun k i j hi hj => ((e.2 k i hi).2 j hj).2.2.2
  obtain ⟨k0, k2, k1, k5, k7, k6, k4, k17⟩ := c.1
  obtain ⟨d1, d2, d3, d4, d5, d6, d7, d8, d9, d10, d11⟩ := d
  refine ⟨?_, fun b hb => ?_, fun u hu => ?_, fun k hk => ?_, fun j hj => ?_, fun a ha => ?_, ?_, fun j hj hjt => ?_, fun j hj hjt => ?_, fun x hx => ?_, ?_⟩
  · rw [eI 9 0 16 sh.c9 (fun q => absurd q.2 (by decide))]; exact d1
  · rw [eI 0 b 9 (by omega) id]; exact d2 b hb
  · rw [eD 1 u 2 (by omega) id]; exact d3 u hu
  · rw [eI 5 k 3 (by omega) id, eI 5 k 4 (by omega) id]; exact d4 k hk
  · rw [eR 6 j 5 (by omega) id, eI 6 j 6 (by omega) id]; exact d5 j hj
  · rw [eI 4 a 0 (by omega) id, eI 4 a 1 (by omega) id, eI 4 a 2 (by omega) id, eI 4 a 3 (by omega) id]; exact d6 a ha
  · rw [eI 3 0 1 sh.c3a id, eI 3 1 1 sh.c3 id]; exact d7
  · rw [eI 18 0 j sh.c18a id]; exact d8 j hj hjt
  · rw [eI 18 1 j sh.c18 id]; exact d9 j hj hjt
  · rw [eJ 19 0 x sh.c19 id]; exact d10 x hx
  · rw [eI 8 0 1 sh.c8 id, eI 8 0 2 sh.c8 id, eI 8 0 3 sh.c8 id]; exact d11
end EK
def cnt (nb nh nu nr nk np k : Nat) : Nat := match k with
  | 1 => nb
  | 2 => nb
  | 3 => nb
  | 4 => nb
  | 5 => nb
  | 6 => nb
  | 8 => nh
  | 9 => nh
  | 10 => nh
  | 11 => nu
  | 13 => nr
  | 14 => nr
  | 15 => nr
  | 16 => nk
  | 17 => nk
  | 18 => nk
  | 21 => np
  | 22 => np
  | 23 => np
  | 24 => np
  | _ => 0
/-- β says what α says of what was told before -/
def Ag (nb nh nu nr nk np : Nat) (α β : Al) : Prop := ∀ k j, j < cnt nb nh nu nr nk np k → aI β k j = aI α k j ∧ aD β k j = aD α k j
section AG
variable {nb nh nu nr nk np : Nat} {α β : Al}
theorem Ag.rf : Ag nb nh nu nr nk np α α := fun _ _ _ => ⟨rfl, rfl⟩
theorem Ag.I {k j : Nat} {v : Int32} (h : Ag nb nh nu nr nk np α β) (hc : cnt nb nh nu nr nk np k ≤ j) : Ag nb nh nu nr nk np α (qI β k j v) := fun k' j' hj => ⟨(qI_I (fun q => by obtain ⟨rfl, rfl⟩ := q; omega)).trans (h k' j' hj).1, (h k' j' hj).2⟩
theorem Ag.D {k j : Nat} {v : UInt64} (h : Ag nb nh nu nr nk np α β) (hc : cnt nb nh nu nr nk np k ≤ j) : Ag nb nh nu nr nk np α (qD β k j v) := fun k' j' hj => ⟨(h k' j' hj).1, (qD_D (fun q => by obtain ⟨rfl, rfl⟩ := q; omega)).trans (h k' j' hj).2⟩
theorem CsP.ag {T : St} (c : CsP T α nb nh nu nr nk np) (g : Ag nb nh nu nr nk np α β) : CsP T β nb nh nu nr nk np := by
  have gI : ∀ k j, j < cnt nb nh nu nr nk np k → aI β k j = aI α k j := fun k j hj => (g k j hj).1
  have gD : ∀ k j, j < cnt nb nh nu nr nk np k → aD β k j = aD α k j := fun k j hj => (g k j hj).2
  obtain ⟨h3, h4, h5, h6, h7, h8⟩ := c
  refine ⟨fun b hb => ?_, fun x hx => ?_, fun x hx => ?_, fun x hx => ?_, fun x hx => ?_, fun x hx => ?_⟩
  · rw [gI 1 b hb, gD 2 b hb, gI 3 b hb, gI 4 b hb, gD 5 b hb, gI 6 b hb]; exact h3 b hb
  · rw [gI 8 x hx, gI 9 x hx, gD 10 x hx]; exact h4 x hx
  · rw [gD 11 x hx]; exact h5 x hx
  · rw [gI 16 x hx, gD 17 x hx, gD 18 x hx]; exact h6 x hx
  · rw [gI 13 x hx, gD 14 x hx, gD 15 x hx]; exact h7 x hx
  · rw [gI 24 x hx, gI 23 x hx, gI 21 x hx, gD 22 x hx]; exact h8 x hx
/-- the rest of Cf -/
def CfP (α : Al) (nb nh nu nr nk np : Nat) : Prop :=
  (∀ b, b < nb → (∃ t, aI α 1 b = nI t ∧ 1 ≤ t ∧ t ≤ 1000) ∧ dNz (aD α 2 b) ∧ ((∃ t, aI α 3 b = nI t ∧ t < nb) ∨ aI α 3 b = -1 ∨ ∃ k, aI α 3 b = -2 - nI k ∧ k < nu) ∧ (aI α 4 b = 0 ∨ aI α 4 b = 1)) ∧
  (∀ h, h < nh → ∃ b, aI α 8 h = nI b ∧ b < nb) ∧ (∀ r, r < nr → ∃ b, aI α 13 r = nI b ∧ b < nb) ∧ (∀ k, k < nk → (∃ b, aI α 16 k = nI b ∧ b < nb) ∧ ∀ w, w ≤ 60 → PkOk (aD α 17 k) (aD α 18 k) (nI w)) ∧
  ∀ j, j < np → (∃ kd, aI α 21 j = nI kd ∧ kd < 5) ∧ dFn (aD α 22 j) ∧ (∃ b, aI α 24 j = nI b ∧ b < nb) ∧ ∃ e, aI α 23 j = nI e ∧ 1 ≤ e ∧ e ≤ 10000
theorem CfP.ag (c : CfP α nb nh nu nr nk np) (g : Ag nb nh nu nr nk np α β) : CfP β nb nh nu nr nk np := by
  have gI : ∀ k j, j < cnt nb nh nu nr nk np k → aI β k j = aI α k j := fun k j hj => (g k j hj).1
  have gD : ∀ k j, j < cnt nb nh nu nr nk np k → aD β k j = aD α k j := fun k j hj => (g k j hj).2
  obtain ⟨h7, h8, h9, h10, h11⟩ := c
  refine ⟨fun b hb => ?_, fun x hx => ?_, fun x hx => ?_, fun x hx => ?_, fun x hx => ?_⟩
  · rw [gI 1 b hb, gD 2 b hb, gI 3 b hb, gI 4 b hb]; exact h7 b hb
  · rw [gI 8 x hx]; exact h8 x hx
  · rw [gI 13 x hx]; exact h9 x hx
  · rw [gI 16 x hx, gD 17 x hx, gD 18 x hx]; exact h10 x hx
  · rw [gI 21 x hx, gD 22 x hx, gI 24 x hx, gI 23 x hx]; exact h11 x hx
theorem nx.mono {o1 o2 : Option Nat} {v : Int32} {nb' nu' : Nat} (h : nx o1 o2 v nb nu) (h1 : nb ≤ nb') (h2 : nu ≤ nu') : nx o1 o2 v nb' nu' := by
  rcases h with ⟨t, e1, e2, e3⟩ | h | ⟨k, e1, e2, e3⟩
  · exact Or.inl ⟨t, e1, by omega, e3⟩
  · exact Or.inr (Or.inl h)
  · exact Or.inr (Or.inr ⟨k, e1, by omega, e3⟩)
theorem CsP.mono {T : St} {nb' nu' : Nat} (c : CsP T α nb nh nu nr nk np) (h1 : nb ≤ nb') (h2 : nu ≤ nu') (hb : ∀ b, nb ≤ b → b < nb' → (sR T 11 0 b = some b ∧ sI T 0 b 0 = nI b ∧ sI T 0 b 1 = aI α 1 b ∧ sD T 0 b 2 = aD α 2 b ∧ sR T 0 b 3 = some b) ∧ nx (sR T 0 b 4) (sR T 0 b 5) (aI α 3 b) nb' nu' ∧ (sI T 0 b 6 = aI α 4 b ∧ sD T 0 b 7 = aD α 5 b ∧ sI T 0 b 8 = aI α 6 b) ∧ sN T 17 b = 5 ∧ ∀ kd, kd < 5 → sR T 17 b kd = some (5 * b + kd))
    (hu : ∀ u, nu ≤ u → u < nu' → sR T 13 0 u = some u ∧ sI T 1 u 0 = nI u ∧ sD T 1 u 1 = aD α 11 u) : CsP T α nb' nh nu' nr nk np := by
  obtain ⟨h3, h4, h5, h6, h7, h8⟩ := c
  refine ⟨fun b q => ?_, fun x hx => ?_, fun x hx => ?_, fun x hx => ?_, fun x hx => ?_, fun x hx => ?_⟩
  · rcases Nat.lt_or_ge b nb with z | z
    · obtain ⟨q1, q2, q3⟩ := h3 b z
      exact ⟨q1, q2.mono h1 h2, q3⟩
    · exact hb b z q
  · obtain ⟨q1, ⟨b, b1, b2, b3⟩, q3⟩ := h4 x hx
    exact ⟨q1, ⟨b, b1, by omega, b3⟩, q3⟩
  · rcases Nat.lt_or_ge x nu with z | z
    · exact h5 x z
    · exact hu x z hx
  · obtain ⟨q1, ⟨b, b1, b2, b3⟩, q3⟩ := h6 x hx
    exact ⟨q1, ⟨b, b1, by omega, b3⟩, q3⟩
  · obtain ⟨q1, ⟨b, b1, b2, b3⟩, q3⟩ := h7 x hx
    exact ⟨q1, ⟨b, b1, by omega, b3⟩, q3⟩
  · obtain ⟨q1, q2, ⟨b, b1, b2, b3⟩, q3⟩ := h8 x hx
    exact ⟨q1, q2, ⟨b, b1, by omega, b3⟩, q3⟩
theorem CfP.mono {nb' nu' : Nat} (c : CfP α nb nh nu nr nk np) (h1 : nb ≤ nb') (h2 : nu ≤ nu') (hb : ∀ b, nb ≤ b → b < nb' → (∃ t, aI α 1 b = nI t ∧ 1 ≤ t ∧ t ≤ 1000) ∧ dNz (aD α 2 b) ∧ ((∃ t, aI α 3 b = nI t ∧ t < nb') ∨ aI α 3 b = -1 ∨ ∃ k, aI α 3 b = -2 - nI k ∧ k < nu') ∧ (aI α 4 b = 0 ∨ aI α 4 b = 1)) : CfP α nb' nh nu' nr nk np := by
  obtain ⟨h7, h8, h9, h10, h11⟩ := c
  refine ⟨fun b q => ?_, fun x hx => ?_, fun x hx => ?_, fun x hx => ?_, fun x hx => ?_⟩
  · rcases Nat.lt_or_ge b nb with z | z
    · obtain ⟨q1, q2, q3, q4⟩ := h7 b z
      refine ⟨q1, q2, ?_, q4⟩
      rcases q3 with ⟨t, e1, e2⟩ | e | ⟨k, e1, e2⟩
      · exact Or.inl ⟨t, e1, by omega⟩
      · exact Or.inr (Or.inl e)
      · exact Or.inr (Or.inr ⟨k, e1, by omega⟩)
    · exact hb b z q
  · obtain ⟨b, b1, b2⟩ := h8 x hx
    exact ⟨b, b1, by omega⟩
  · obtain ⟨b, b1, b2⟩ := h9 x hx
    exact ⟨b, b1, by omega⟩
  · obtain ⟨⟨b, b1, b2⟩, q⟩ := h10 x hx
    exact ⟨⟨b, b1, by omega⟩, q⟩
  · obtain ⟨q1, q2, ⟨b, b1, b2⟩, q3⟩ := h11 x hx
    exact ⟨q1, q2, ⟨b, b1, by omega⟩, q3⟩
end AG
/-- what is still zero -/
def Zr (α : Al) (nb np : Nat) : Prop := (np = 0 → (∀ b, aI α 7 b = 0) ∧ (∀ u, aD α 12 u = 0) ∧ (∀ k, aI α 19 k = 0 ∧ aI α 20 k = 0) ∧ ∀ a, aI α 32 a = 0 ∧ aI α 33 a = 0 ∧ aI α 34 a = 0 ∧ aI α 35 a = 0) ∧ ∀ b, nb ≤ b → aI α 4 b = 0 ∧ aD α 5 b = 0 ∧ aI α 6 b = 0
def CZ (S : St) (α : Al) (nb nh nu nr nk np t : Nat) : Prop := Ci S α nb nh nu nr nk np t ∧ Zr α nb np
def Cq (S : St) (α : Al) : Prop := ∃ nb nh nu nr nk np t, CZ S α nb nh nu nr nk np t

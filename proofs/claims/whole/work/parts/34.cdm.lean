section CM
variable {S : St} {α : Al} {nb nu nk np : Nat}
theorem ct4 {α β : Al} {S : St} {np : Nat} (e : ∀ j, aI β 25 j = aI α 25 j) (eJ : ∀ c, c < 3 → aJ β 31 c = aJ α 31 c) (h : sI S 8 0 1 = nI (ctF α 2 np) ∧ sI S 8 0 2 = nI (ctF α 3 np) ∧ sI S 8 0 3 = nI (ctF α 4 np) ∧ aJ α 31 0 + aJ α 31 1 + aJ α 31 2 = lN (ctF α 5 np)) : sI S 8 0 1 = nI (ctF β 2 np) ∧ sI S 8 0 2 = nI (ctF β 3 np) ∧ sI S 8 0 3 = nI (ctF β 4 np) ∧ aJ β 31 0 + aJ β 31 1 + aJ β 31 2 = lN (ctF β 5 np) := by
  rw [ctF_congr e, ctF_congr e, ctF_congr e, ctF_congr e, eJ 0 (by decide), eJ 1 (by decide), eJ 2 (by decide)]
  exact h
theorem Cd.until {b0 : Nat} {v : Int32} (d : Cd S α nb nu nk np) : Cd (pI S 0 b0 9 v) (qI α 7 b0 v) nb nu nk np := by
  obtain ⟨d1, d2, d3, d4, d5, d6, d7, d8, d9, d10, d11⟩ := d
  refine ⟨d1, fun b hb => ?_, d3, d4, d5, d6, d7, d8, d9, d10, ct4 (α := α) (S := S) (fun _ => rfl) (fun _ _ => rfl) d11⟩
  by_cases q : b = b0
  · subst q
    rw [pI_s, qI_s]
  · rw [pI_I (by omega), qI_I (by omega)]
    exact d2 b hb
theorem Cd.l3 {v : Int64} (d : Cd S α nb nu nk np) : Cd (pJ S 19 0 3 v) (qJ α 31 3 v) nb nu nk np := by
  obtain ⟨d1, d2, d3, d4, d5, d6, d7, d8, d9, d10, d11⟩ := d
  refine ⟨d1, d2, d3, d4, d5, d6, d7, d8, d9, fun c hc => ?_, ct4 (α := α) (S := S) (fun _ => rfl) (fun c hc => qJ_J (by omega)) d11⟩
  by_cases q : c = 3
  · subst q
    show u3 (sJ S) 19 0 3 v 19 0 3 = _
    rw [u3_self, qJ_s]
  · show u3 (sJ S) 19 0 3 v 19 0 c = _
    rw [u3_ne (by omega), qJ_J (by omega)]
    exact d10 c hc
theorem Cd.nowF {v : Int32} (d : Cd S α nb nu nk np) : Cd (pI S 9 0 16 v) (qI α 0 35 v) nb nu nk np := by
  obtain ⟨d1, d2, d3, d4, d5, d6, d7, d8, d9, d10, d11⟩ := d
  exact ⟨by rw [pI_s, qI_s], d2, d3, d4, d5, d6, d7, d8, d9, d10, ct4 (α := α) (S := S) (fun _ => rfl) (fun _ _ => rfl) d11⟩
theorem Cd.fl {k0 : Nat} {v : UInt64} (d : Cd S α nb nu nk np) : Cd (pD S 1 k0 2 v) (qD α 12 k0 v) nb nu nk np := by
  obtain ⟨d1, d2, d3, d4, d5, d6, d7, d8, d9, d10, d11⟩ := d
  refine ⟨d1, d2, fun u hu => ?_, d4, d5, d6, d7, d8, d9, d10, ct4 (α := α) (S := S) (fun _ => rfl) (fun _ _ => rfl) d11⟩
  by_cases q : u = k0
  · subst q
    show u3 (sD S) 1 u 2 v 1 u 2 = _
    rw [u3_self, qD_s]
  · show u3 (sD S) 1 k0 2 v 1 u 2 = _
    rw [u3_ne (by omega), qD_D (by omega)]
    exact d3 u hu
theorem Cd.take {h0 : Nat} (d : Cd S α nb nu nk np) (hk0 : h0 < nk) (e1 : sD S 5 h0 1 = aD α 17 h0) (e2 : sD S 5 h0 2 = aD α 18 h0) : Cd (takeF S h0 (sI S 9 0 16)) (qI (qI α 19 h0 (busyF (aI α 0 35) (aD α 17 h0) (aD α 18 h0) (aI α 20 h0))) 20 h0 (aI α 20 h0 + 1)) nb nu nk np := by
  obtain ⟨d1, d2, d3, d4, d5, d6, d7, d8, d9, d10, d11⟩ := d
  refine ⟨d1, d2, d3, fun k hk => ?_, d5, d6, d7, d8, d9, d10, ct4 (α := α) (S := S) (fun _ => rfl) (fun _ _ => rfl) d11⟩
  unfold takeF
  by_cases q : k = h0
  · subst q
    rw [pI_s, pI_I (by omega), pI_s, qI_s, qI_I (by omega), qI_s, e1, e2, d1, (d4 k hk).1]
    exact ⟨rfl, rfl⟩
  · rw [pI_I (by omega), pI_I (by omega), pI_I (by omega), pI_I (by omega), qI_I (by omega), qI_I (by omega), qI_I (by omega), qI_I (by omega)]
    exact d4 k hk
/-- how many are where, when a piece that was nowhere gets a state -/
theorem ct_up {p : Nat} {s v : Int32} (hp : p < np) (h0 : aI α 25 p = 0) (hs : ¬ s = 0) : ctF (qI α 25 p v) s np = ctF α s np + (if v = s then 1 else 0) := by
  have e := ctF_set (α := α) (s := s) (v := v) (p := p) np
  have h1 : ¬ aI α 25 p = s := by rw [h0]; exact fun q => hs q.symm
  simp only [hp, h1, and_false, if_false, true_and, Nat.add_zero] at e
  exact e
theorem Cd.off5 {p : Nat} {v : Int32} (d : Cd S α nb nu nk np) (h0 : ¬ aI α 25 p = 1) (hv : ¬ v = 1) : ∀ j, j < np → (aI (qI α 25 p v) 25 j = 1 → ∃ b, b < nb ∧ aI (qI α 25 p v) 26 j = nI b ∧ sR S 6 j 5 = some b ∧ sI S 6 j 6 = aI (qI α 25 p v) 27 j) ∧ (¬ aI (qI α 25 p v) 25 j = 1 → sR S 6 j 5 = none) := by
  intro j hj
  have d5 := d.2.2.2.2.1 j hj
  by_cases q : j = p
  · subst q
    rw [qI_s]
    exact ⟨fun z => absurd z hv, fun _ => d5.2 h0⟩
  · rw [qI_I (by omega)]
    exact d5
theorem Cd.tally1 {p : Nat} (d : Cd S α nb nu nk np) (hp : p < np) (h0 : aI α 25 p = 0) : Cd (pI S 8 0 1 (sI S 8 0 1 + 1)) (qI α 25 p 2) nb nu nk np := by
  have h5 := d.off5 (p := p) (v := 2) (by rw [h0]; decide) (by decide)
  obtain ⟨d1, d2, d3, d4, d5, d6, d7, d8, d9, d10, d11, d12, d13, d14⟩ := d
  refine ⟨d1, d2, d3, d4, h5, d6, d7, d8, d9, d10, ?_, ?_, ?_, ?_⟩
  · rw [pI_s, ct_up hp h0 (by decide), if_pos rfl, d11]; exact nI_1 _
  · rw [pI_I (by omega), ct_up hp h0 (by decide), if_neg (by decide)]; exact d12
  · rw [pI_I (by omega), ct_up hp h0 (by decide), if_neg (by decide)]; exact d13
  · rw [ct_up hp h0 (by decide), if_neg (by decide)]; exact d14
theorem Cd.tally2 {p : Nat} (d : Cd S α nb nu nk np) (hp : p < np) (h0 : aI α 25 p = 0) : Cd (pI S 8 0 2 (sI S 8 0 2 + 1)) (qI α 25 p 3) nb nu nk np := by
  have h5 := d.off5 (p := p) (v := 3) (by rw [h0]; decide) (by decide)
  obtain ⟨d1, d2, d3, d4, d5, d6, d7, d8, d9, d10, d11, d12, d13, d14⟩ := d
  refine ⟨d1, d2, d3, d4, h5, d6, d7, d8, d9, d10, ?_, ?_, ?_, ?_⟩
  · rw [pI_I (by omega), ct_up hp h0 (by decide), if_neg (by decide)]; exact d11
  · rw [pI_s, ct_up hp h0 (by decide), if_pos rfl, d12]; exact nI_1 _
  · rw [pI_I (by omega), ct_up hp h0 (by decide), if_neg (by decide)]; exact d13
  · rw [ct_up hp h0 (by decide), if_neg (by decide)]; exact d14
theorem Cd.tally3 {p : Nat} (d : Cd S α nb nu nk np) (hp : p < np) (h0 : aI α 25 p = 0) : Cd (pI S 8 0 3 (sI S 8 0 3 + 1)) (qI α 25 p 4) nb nu nk np := by
  have h5 := d.off5 (p := p) (v := 4) (by rw [h0]; decide) (by decide)
  obtain ⟨d1, d2, d3, d4, d5, d6, d7, d8, d9, d10, d11, d12, d13, d14⟩ := d
  refine ⟨d1, d2, d3, d4, h5, d6, d7, d8, d9, d10, ?_, ?_, ?_, ?_⟩
  · rw [pI_I (by omega), ct_up hp h0 (by decide), if_neg (by decide)]; exact d11
  · rw [pI_I (by omega), ct_up hp h0 (by decide), if_neg (by decide)]; exact d12
  · rw [pI_s, ct_up hp h0 (by decide), if_pos rfl, d13]; exact nI_1 _
  · rw [ct_up hp h0 (by decide), if_neg (by decide)]; exact d14
theorem Cd.loses {p c0 : Nat} (d : Cd S α nb nu nk np) (hp : p < np) (h0 : aI α 25 p = 0) (hc0 : c0 < 3) : Cd (pJ S 19 0 c0 (sJ S 19 0 c0 + 1)) (qJ (qI α 25 p 5) 31 c0 (aJ α 31 c0 + 1)) nb nu nk np := by
  have h5 := d.off5 (p := p) (v := 5) (by rw [h0]; decide) (by decide)
  obtain ⟨d1, d2, d3, d4, d5, d6, d7, d8, d9, d10, d11, d12, d13, d14⟩ := d
  have ec : ∀ s, ctF (qJ (qI α 25 p 5) 31 c0 (aJ α 31 c0 + 1)) s np = ctF (qI α 25 p 5) s np := fun s => ctF_congr (α := qI α 25 p 5) (β := qJ (qI α 25 p 5) 31 c0 (aJ α 31 c0 + 1)) (fun _ => rfl) np
  refine ⟨d1, d2, d3, d4, h5, d6, d7, d8, d9, fun c hc => ?_, ?_, ?_, ?_, ?_⟩
  · by_cases q : c = c0
    · subst q
      show u3 (sJ S) 19 0 c _ 19 0 c = _
      rw [u3_self, qJ_s, d10 c hc]
    · show u3 (sJ S) 19 0 c0 _ 19 0 c = _
      rw [u3_ne (by omega), qJ_J (by omega)]
      exact d10 c hc
  · rw [ec, ct_up hp h0 (by decide), if_neg (by decide)]; exact d11
  · rw [ec, ct_up hp h0 (by decide), if_neg (by decide)]; exact d12
  · rw [ec, ct_up hp h0 (by decide), if_neg (by decide)]; exact d13
  · rw [ec, ct_up hp h0 (by decide), if_pos rfl, ← lN_1, ← d14]
    match c0, hc0 with
    | 0, _ =>
      rw [qJ_s, qJ_J (by omega), qJ_J (by omega)]
      show aJ α 31 0 + 1 + aJ α 31 1 + aJ α 31 2 = _
      rw [Int64.add_assoc, Int64.add_assoc, Int64.add_comm 1, Int64.add_assoc, Int64.add_assoc, Int64.add_assoc]
    | 1, _ =>
      rw [qJ_s, qJ_J (by omega), qJ_J (by omega)]
      show aJ α 31 0 + (aJ α 31 1 + 1) + aJ α 31 2 = _
      rw [Int64.add_assoc, Int64.add_assoc, Int64.add_comm 1, Int64.add_assoc, Int64.add_assoc]
    | 2, _ =>
      rw [qJ_s, qJ_J (by omega), qJ_J (by omega)]
      show aJ α 31 0 + aJ α 31 1 + (aJ α 31 2 + 1) = _
      rw [Int64.add_assoc, Int64.add_assoc, Int64.add_assoc]
theorem Cd.on {p b : Nat} (d : Cd S α nb nu nk np) (hp : p < np) (h0 : aI α 25 p = 0) (hb : b < nb) : Cd (pI (pR S 6 p 5 (some b)) 6 p 6 0) (setF α p b) nb nu nk np := by
  obtain ⟨d1, d2, d3, d4, d5, d6, d7, d8, d9, d10, d11, d12, d13, d14⟩ := d
  have ec : ∀ s, ctF (setF α p b) s np = ctF (qI α 25 p 1) s np := fun s => ctF_congr (α := qI α 25 p 1) (β := setF α p b) (fun _ => rfl) np
  refine ⟨d1, d2, d3, d4, fun j hj => ?_, d6, d7, d8, d9, d10, ?_, ?_, ?_, ?_⟩
  · unfold setF
    by_cases q : j = p
    · subst q
      rw [qI_I (by omega), qI_I (by omega), qI_s, qI_I (by omega), qI_s, qI_s, pI_s]
      refine ⟨fun _ => ⟨b, hb, rfl, ?_, rfl⟩, fun z => absurd rfl z⟩
      exact u3_self
    · rw [qI_I (by omega), qI_I (by omega), qI_I (by omega), qI_I (by omega), qI_I (by omega), qI_I (by omega), qI_I (by omega), qI_I (by omega), qI_I (by omega), pI_I (by omega)]
      rw [show sR (pI (pR S 6 p 5 (some b)) 6 p 6 0) 6 j 5 = sR S 6 j 5 from u3_ne (by omega)]
      exact d5 j hj
  · rw [ec, ct_up hp h0 (by decide), if_neg (by decide)]; exact d11
  · rw [ec, ct_up hp h0 (by decide), if_neg (by decide)]; exact d12
  · rw [ec, ct_up hp h0 (by decide), if_neg (by decide)]; exact d13
  · rw [ec, ct_up hp h0 (by decide), if_neg (by decide)]; exact d14
theorem Cd.off {p : Nat} (d : Cd S α nb nu nk np) (hp : p < np) (h1 : aI α 25 p = 1) : Cd (pR S 6 p 5 none) (qI α 25 p 0) nb nu nk np := by
  obtain ⟨d1, d2, d3, d4, d5, d6, d7, d8, d9, d10, d11, d12, d13, d14⟩ := d
  have ec : ∀ s : Int32, ¬ s = 0 → ¬ s = 1 → ctF (qI α 25 p 0) s np = ctF α s np := by
    intro s q0 q1
    have e := ctF_set (α := α) (s := s) (v := 0) (p := p) np
    have g1 : ¬ aI α 25 p = s := by rw [h1]; exact fun q => q1 q.symm
    have g2 : ¬ (0 : Int32) = s := fun q => q0 q.symm
    simp only [hp, g1, g2, and_false, if_false, Nat.add_zero] at e
    exact e
  refine ⟨d1, d2, d3, d4, fun j hj => ?_, d6, d7, d8, d9, d10, ?_, ?_, ?_, ?_⟩
  · by_cases q : j = p
    · subst q
      rw [qI_s]
      exact ⟨fun z => absurd z (by decide), fun _ => u3_self⟩
    · rw [qI_I (by omega)]
      rw [show sR (pR S 6 p 5 none) 6 j 5 = sR S 6 j 5 from u3_ne (by omega)]
      exact d5 j hj
  · rw [ec 2 (by decide) (by decide)]; exact d11
  · rw [ec 3 (by decide) (by decide)]; exact d12
  · rw [ec 4 (by decide) (by decide)]; exact d13
  · rw [ec 5 (by decide) (by decide)]; exact d14
theorem Cd.outs {a0 : Nat} (d : Cd S α nb nu nk np) (ha : a0 < 5 * nb) (hc : ¬ aI α 32 a0 < 0) : Cd (outsF S a0 (sI S 9 0 16)) (qI (qI (gapF α a0) 32 a0 (aI α 32 a0 + 1)) 33 a0 (aI α 0 35)) nb nu nk np := by
  obtain ⟨d1, d2, d3, d4, d5, d6, d7, d8, d9, d10, d11⟩ := d
  obtain ⟨g0, g1, g2, g3⟩ := d6 a0 ha
  have hI : ∀ k z w, ¬ (k = 4 ∧ z = a0) → sI (outsF S a0 (sI S 9 0 16)) k z w = sI S k z w := by
    intro k z w h
    unfold outsF
    rw [pI_I (fun q => h ⟨q.1, q.2.1⟩), pI_I (fun q => h ⟨q.1, q.2.1⟩)]
    split
    · rw [pI_I (fun q => h ⟨q.1, q.2.1⟩), pI_I (fun q => h ⟨q.1, q.2.1⟩)]
    · split
      · rfl
      · rw [pI_I (fun q => h ⟨q.1, q.2.1⟩), pI_I (fun q => h ⟨q.1, q.2.1⟩)]
  have hR : sR (outsF S a0 (sI S 9 0 16)) = sR S := by unfold outsF; split <;> (try split) <;> rfl
  have hJ : sJ (outsF S a0 (sI S 9 0 16)) = sJ S := by unfold outsF; split <;> (try split) <;> rfl
  have hD : sD (outsF S a0 (sI S 9 0 16)) = sD S := by unfold outsF; split <;> (try split) <;> rfl
  have hA : ∀ k j, k ≠ 32 → k ≠ 33 → k ≠ 34 → k ≠ 35 → aI (qI (qI (gapF α a0) 32 a0 (aI α 32 a0 + 1)) 33 a0 (aI α 0 35)) k j = aI α k j := fun k j q1 q2 q3 q4 => by rw [qI_I (fun q => q2 q.1), qI_I (fun q => q1 q.1), gapF_I q3 q4]
  have hAD : aD (qI (qI (gapF α a0) 32 a0 (aI α 32 a0 + 1)) 33 a0 (aI α 0 35)) = aD α := gapF_D
  have hAJ : aJ (qI (qI (gapF α a0) 32 a0 (aI α 32 a0 + 1)) 33 a0 (aI α 0 35)) = aJ α := gapF_J
  refine ⟨?_, fun b hb => ?_, fun u hu => ?_, fun k hk => ?_, fun j hj => ?_, fun x hx => ?_, ⟨?_, ?_⟩, fun j hj hjt => ?_, fun j hj hjt => ?_, fun c hc => ?_, ?_⟩
  · rw [hI _ _ _ (by omega), hA _ _ (by decide) (by decide) (by decide) (by decide)]; exact d1
  · rw [hI _ _ _ (by omega), hA _ _ (by decide) (by decide) (by decide) (by decide)]; exact d2 b hb
  · rw [hD, hAD]; exact d3 u hu
  · rw [hI _ _ _ (by omega), hI _ _ _ (by omega), hA _ _ (by decide) (by decide) (by decide) (by decide), hA _ _ (by decide) (by decide) (by decide) (by decide)]; exact d4 k hk
  · rw [hR, hI _ _ _ (by omega), hA 25 _ (by decide) (by decide) (by decide) (by decide), hA 26 _ (by decide) (by decide) (by decide) (by decide), hA 27 _ (by decide) (by decide) (by decide) (by decide)]; exact d5 j hj
  · by_cases q : x = a0
    · subst q
      have e0 : sI (outsF S x (sI S 9 0 16)) 4 x 0 = aI α 32 x + 1 := by unfold outsF; rw [pI_s, g0]
      have e1 : sI (outsF S x (sI S 9 0 16)) 4 x 1 = aI α 0 35 := by unfold outsF; rw [pI_I (by omega), pI_s, d1]
      rw [e0, e1, qI_I (by omega), qI_s, qI_s, qI_I (by omega), qI_I (by omega), qI_I (by omega), qI_I (by omega)]
      refine ⟨rfl, rfl, ?_⟩
      unfold outsF gapF
      rw [pI_I (by omega), pI_I (by omega), pI_I (by omega), pI_I (by omega), g0, g1, g2, g3, d1]
      by_cases q1 : aI α 32 x = 1
      · rw [if_pos q1, if_neg (by rw [q1]; decide), if_pos (Or.inl q1), if_pos (Or.inl q1), pI_I (by omega), pI_s, pI_s, qI_I (by omega), qI_s, qI_s]
        exact ⟨rfl, rfl⟩
      · by_cases q2 : aI α 32 x ≤ 1
        · have q3 : aI α 32 x ≤ 0 := by
            rw [Int32.le_iff_toInt_le] at q2 ⊢
            have q4 : ¬ (aI α 32 x).toInt = 1 := fun z => q1 (Int32.toInt_inj.mp z)
            have e1 : (1 : Int32).toInt = 1 := rfl
            have e2 : (0 : Int32).toInt = 0 := rfl
            omega
          rw [if_neg q1, if_pos q2, if_pos q3]
          exact ⟨g2, g3⟩
        · have q3 : ¬ aI α 32 x ≤ 0 := fun z => q2 (Int32.le_trans z (by decide))
          rw [if_neg q1, if_neg q2, if_neg q3, pI_I (by omega), pI_s, pI_s, qI_I (by omega), qI_s, qI_s]
          refine ⟨?_, ?_⟩
          · by_cases q5 : aI α 34 x ≤ aI α 0 35 - aI α 33 x
            · rw [if_neg (fun z => absurd z (Int32.not_lt.mpr q5)), if_neg (fun z => z.elim q1 (fun y => y q5))]
            · rw [if_pos (Int32.not_le.mp q5), if_pos (Or.inr q5)]
          · by_cases q5 : aI α 0 35 - aI α 33 x ≤ aI α 35 x
            · rw [if_neg (fun z => absurd z (Int32.not_lt.mpr q5)), if_neg (fun z => z.elim q1 (fun y => y q5))]
            · rw [if_pos (Int32.not_le.mp q5), if_pos (Or.inr q5)]
    · have hx4 := d6 x hx
      rw [hI _ _ _ (by omega), hI _ _ _ (by omega), hI _ _ _ (by omega), hI _ _ _ (by omega), qI_I (by omega), qI_I (by omega), qI_I (by omega), qI_I (by omega), qI_I (by omega), qI_I (by omega), qI_I (by omega), qI_I (by omega)]
      unfold gapF
      split
      · exact hx4
      · rw [qI_I (by omega), qI_I (by omega), qI_I (by omega), qI_I (by omega), qI_I (by omega), qI_I (by omega), qI_I (by omega), qI_I (by omega)]
        exact hx4
  · rw [hI _ _ _ (by omega), hA _ _ (by decide) (by decide) (by decide) (by decide)]; exact d7.1
  · rw [hI _ _ _ (by omega), hA _ _ (by decide) (by decide) (by decide) (by decide)]; exact d7.2
  · rw [hA _ _ (by decide) (by decide) (by decide) (by decide)] at hjt
    rw [hI _ _ _ (by omega), hA _ _ (by decide) (by decide) (by decide) (by decide), hA _ _ (by decide) (by decide) (by decide) (by decide), hA _ _ (by decide) (by decide) (by decide) (by decide), hA _ _ (by decide) (by decide) (by decide) (by decide)]
    exact d8 j hj hjt
  · rw [hA _ _ (by decide) (by decide) (by decide) (by decide)] at hjt
    rw [hI _ _ _ (by omega), hA _ _ (by decide) (by decide) (by decide) (by decide), hA _ _ (by decide) (by decide) (by decide) (by decide), hA _ _ (by decide) (by decide) (by decide) (by decide), hA _ _ (by decide) (by decide) (by decide) (by decide)]
    exact d9 j hj hjt
  · rw [hJ, hAJ]; exact d10 c hc
  · rw [hI _ _ _ (by omega), hI _ _ _ (by omega), hI _ _ _ (by omega)]
    exact ct4 (α := α) (S := S) (fun j => hA 25 j (by decide) (by decide) (by decide) (by decide)) (fun c _ => by rw [hAJ]) d11
theorem Sc.outs {S T : St} {a : Nat} {t : Int32} (h : Sc S T) : Sc S (outsF T a t) := by
  unfold outsF
  refine Sc.I (Sc.I ?_ rfl) rfl
  split
  · exact (h.I rfl).I rfl
  · split
    · exact h
    · exact (h.I rfl).I rfl
theorem Sc.take {S T : St} {k : Nat} {t : Int32} (h : Sc S T) : Sc S (takeF T k t) := (h.I rfl).I rfl
end CM

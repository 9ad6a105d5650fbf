theorem mv1_I {α : Al} {j k z : Nat} (h1 : ¬ (k = 27 ∧ z = j)) (h2 : ¬ (k = 28 ∧ z = j)) : aI (mv1 α j) k z = aI α k z := by
  unfold mv1
  rw [qI_I h1, qI_I h2]
theorem mvL_I {α : Al} {k z : Nat} (h1 : k ≠ 27) (h2 : k ≠ 28) : ∀ n, aI (mvL α n) k z = aI α k z
  | 0 => rfl
  | n + 1 => (mv1_I (fun q => h1 q.1) (fun q => h2 q.1)).trans (mvL_I h1 h2 n)
theorem mvL_J {α : Al} : ∀ n, aJ (mvL α n) = aJ α
  | 0 => rfl
  | n + 1 => mvL_J n
theorem mvL_D {α : Al} : ∀ n, aD (mvL α n) = aD α
  | 0 => rfl
  | n + 1 => mvL_D n
theorem mvL_28 {α : Al} {j : Nat} : ∀ n, j < n → (aI (mvL α n) 28 j = 0 ∨ aI α 25 j = 1)
  | 0, h => absurd h (Nat.not_lt_zero _)
  | n + 1, h => by
    by_cases hj : j = n
    · subst hj
      show aI (mv1 (mvL α j) j) 28 j = 0 ∨ _
      unfold mv1
      rw [qI_I (by omega), qI_s]
      split
      · rename_i q
        exact Or.inr ((mvL_I (by decide) (by decide) j).symm.trans q.1)
      · exact Or.inl rfl
    · rcases mvL_28 (α := α) (j := j) n (by omega) with q | q
      · exact Or.inl ((mv1_I (by omega) (by omega)).trans q)
      · exact Or.inr q
theorem mvL_Mv {α : Al} {np : Nat} : Mv (mvL α np) 0 np := by
  intro j _ hj hm
  rw [mvL_I (by decide) (by decide)]
  rcases mvL_28 (α := α) np hj with q | q
  · exact absurd q hm
  · exact q
theorem Dn.mv {α : Al} {nb nk np n : Nat} (h : Dn α nb nk np n) (m : Nat) : Dn (mvL α m) nb nk np n := h.keep (mvL_I (by decide) (by decide) m) (fun _ => mvL_I (by decide) (by decide) m) (fun _ => mvL_I (by decide) (by decide) m) (mvL_I (by decide) (by decide) m) (fun _ => by rw [mvL_D]) (fun _ => mvL_I (by decide) (by decide) m) (h.2.2.2.2.2.2.same (mvL_I (by decide) (by decide) m))
theorem Dn.tick {α : Al} {nb nk np n t : Nat} (h : Dn α nb nk np n) (ht : aI α 0 35 = nI t) (h1 : t < 10000) : Dn (qI α 0 35 (aI α 0 35 + 1)) nb nk np n := by
  obtain ⟨g1, g2, g3, g4, g5, g6, g7⟩ := h
  refine ⟨⟨t + 1, ?_, by omega⟩, fun j hj => ?_, fun j hj => ?_, ?_, g5, fun k hk => ?_, g7.same (qI_I (by omega))⟩
  · rw [qI_s, ht]
    exact nI_1 t
  · rw [qI_I (by omega)]
    exact g2 j hj
  · rw [qI_I (by omega), qI_I (by omega)]
    exact g3 j hj
  · rw [qI_I (by omega), ctF_congr (α := α) (fun j => qI_I (by omega))]
    exact g4
  · rw [qI_I (by omega), ctF_congr (α := α) (fun j => qI_I (by omega))]
    exact g6 k hk
theorem Dn.actB {α : Al} {nb nh nu nr nk np n : Nat} (c : Cf α nb nh nu nr nk np) (h : Dn α nb nk np n) (m : Mv α 0 np) : ∀ i, i ≤ np → Dn (actL α i) nb nk np (n + 17 * i) ∧ Mv (actL α i) i np
  | 0, _ => ⟨h, m⟩
  | i + 1, hi => by
    obtain ⟨h1, h2⟩ := Dn.actB c h m i (by omega)
    obtain ⟨h3, h4⟩ := h1.actA (c.sm (Sm.rf.actB i)) h2 (by omega)
    exact ⟨by rw [show n + 17 * (i + 1) = n + 17 * i + 17 by omega]; exact h3, h4⟩
theorem act1_now {α : Al} {p : Nat} : aI (act1 α p) 0 35 = aI α 0 35 := (Lc.actA (p := p) (Lc.rf (α := α))).2.2
theorem actL_now {α : Al} : ∀ n, aI (actL α n) 0 35 = aI α 0 35
  | 0 => rfl
  | n + 1 => act1_now.trans (actL_now n)
theorem tenth_now {α : Al} : aI (tenthF α) 0 35 = aI α 0 35 + 1 := by
  unfold tenthF
  rw [actL_now, mvL_I (by decide) (by decide), qI_s]
theorem Dn.tenth {α : Al} {nb nh nu nr nk np t : Nat} (c : Cf α nb nh nu nr nk np) (h : Dn α nb nk np (1020 * t)) (ht : aI α 0 35 = nI t) (h1 : t < 10000) : Dn (tenthF α) nb nk np (1020 * (t + 1)) := by
  have e : nn (aI α 0 26) = np := by rw [c.2.2.2.2.2.1.1]; exact nn_nI (by have := c.2.2.2.2.2.1.2; omega)
  unfold tenthF
  rw [e]
  have h2 := ((h.tick ht h1).mv np).actB (c.sm ((Sm.rf.I rfl (Or.inr rfl)).mvB np)) mvL_Mv np (Nat.le_refl _)
  obtain ⟨q1, q2, q3, q4, q5, q6, q7⟩ := h2.1
  exact ⟨q1, q2, q3, q4, q5, q6, q7.mono (by have := c.2.2.2.2.2.1.2; omega)⟩
theorem mv_y {α : Al} {h b : Nat} (c1 : aI (mvL α h) 25 h = 1) (hb : aI (mvL α h) 26 h = nI b) (hb6 : b < 6) (c2 : ¬ aI (mvL α h) 0 35 ≤ aI (mvL α h) 7 b) : mvL α (h + 1) = qI (qI (mvL α h) 28 h 1) 27 h (aI (mvL α h) 27 h + 1) := by
  show mv1 (mvL α h) h = _
  unfold mv1
  rw [hb, nn_nI (by omega), if_pos ⟨c1, c2⟩]
theorem mv_n1 {α : Al} {h : Nat} (c1 : ¬ aI (mvL α h) 25 h = 1) : mvL α (h + 1) = qI (qI (mvL α h) 28 h 0) 27 h (aI (mvL α h) 27 h + 0) := by
  show mv1 (mvL α h) h = _
  unfold mv1
  rw [if_neg (fun q => c1 q.1)]
theorem mv_n2 {α : Al} {h b : Nat} (hb : aI (mvL α h) 26 h = nI b) (hb6 : b < 6) (c2 : aI (mvL α h) 0 35 ≤ aI (mvL α h) 7 b) : mvL α (h + 1) = qI (qI (mvL α h) 28 h 0) 27 h (aI (mvL α h) 27 h + 0) := by
  show mv1 (mvL α h) h = _
  unfold mv1
  rw [hb, nn_nI (by omega), if_neg (fun q => q.2 c2)]
theorem act_e {γ : Al} {h b : Nat} (c1 : aI (actL γ h) 25 h = 0) (c2 : aI (actL γ h) 23 h = aI (actL γ h) 0 35) (hb : aI (actL γ h) 24 h = nI b) (hb6 : b < 6) : actL γ (h + 1) = enterF (actL γ h) h b := by
  show act1 (actL γ h) h = _
  unfold act1
  rw [if_pos ⟨c1, c2⟩, hb, nn_nI (by omega)]
theorem act_s {γ : Al} {h : Nat} (c : ¬ (aI (actL γ h) 25 h = 0 ∧ aI (actL γ h) 23 h = aI (actL γ h) 0 35)) (c2 : aI (actL γ h) 28 h = 0) : actL γ (h + 1) = actL γ h := by
  show act1 (actL γ h) h = _
  unfold act1
  rw [if_neg c, if_pos c2]
theorem act_m {γ : Al} {h nh : Nat} (c : ¬ (aI (actL γ h) 25 h = 0 ∧ aI (actL γ h) 23 h = aI (actL γ h) 0 35)) (c2 : ¬ aI (actL γ h) 28 h = 0) (e9 : nn (aI (actL γ h) 0 9) = nh) : actL γ (h + 1) = endF (passL (actL γ h) h nh) h := by
  show act1 (actL γ h) h = _
  unfold act1
  rw [if_neg c, if_neg c2, e9]
theorem end_n {β : Al} {p b : Nat} (hb : aI β 26 p = nI b) (hb6 : b < 6) (c : ¬ aI β 27 p = aI β 1 b) : endF β p = β := by
  unfold endF
  rw [hb, nn_nI (by omega), if_neg c]
theorem end_t {β δ : Al} {p b : Nat} (hb : aI β 26 p = nI b) (hb6 : b < 6) (c : aI β 27 p = aI β 1 b) (ht : takenF β p = some δ) : endF β p = δ := by
  unfold endF
  rw [hb, nn_nI (by omega), if_pos c, ht]
theorem end_g {β : Al} {p b : Nat} (hb : aI β 26 p = nI b) (hb6 : b < 6) (c : aI β 27 p = aI β 1 b) (ht : takenF β p = none) : endF β p = goF β p (aI β 3 b) := by
  unfold endF
  rw [hb, nn_nI (by omega), if_pos c, ht]
theorem takPost.s {S S' : St} {α δ : Al} {p : Nat} {r : Option Value} (h : takPost S α p r S') (ht : takenF α p = some δ) : r = some (.int 1) ∧ S' = wr S δ := by
  unfold takPost at h
  rw [ht] at h
  exact h
theorem takPost.o {S S' : St} {α : Al} {p : Nat} {r : Option Value} (h : takPost S α p r S') (ht : takenF α p = none) : r = some (.int 0) ∧ S' = wr S α := by
  unfold takPost at h
  rw [ht] at h
  exact h
theorem runL_inv {α : Al} {nb nh nu nr nk np t : Nat} (c : Cf α nb nh nu nr nk np) (d : Dn α nb nk np (1020 * t)) (ht : aI α 0 35 = nI t) : ∀ m, t + m ≤ 10000 → Cf (runL α m) nb nh nu nr nk np ∧ Dn (runL α m) nb nk np (1020 * (t + m)) ∧ aI (runL α m) 0 35 = nI (t + m)
  | 0, _ => ⟨c, d, ht⟩
  | m + 1, h => by
    obtain ⟨h1, h2, h3⟩ := runL_inv c d ht m (by omega)
    have h4 := h2.tenth h1 h3 (show t + m < 10000 by omega)
    exact ⟨h1.sm Sm.rf.tenth, h4, tenth_now.trans (by rw [h3]; exact nI_1 _)⟩

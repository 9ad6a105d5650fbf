def runPost (S : St) (α : Al) (u : Int32) (r : Option Value) (S' : St) : Prop := r = some (.int (runA α u)) ∧ S' = wr S (runF α u)
theorem gt_of {x : Int32} (h : ¬ x ≤ 10000) : 10000 < x := by
  rw [Int32.lt_iff_toInt_lt]
  rw [Int32.le_iff_toInt_le] at h
  omega
theorem gt_nle {x : Int32} (h : 10000 < x) (h2 : x ≤ 10000) : False := by
  rw [Int32.lt_iff_toInt_lt] at h
  rw [Int32.le_iff_toInt_le] at h2
  omega
theorem run_in {now x : Int32} {t : Nat} (ht : now = nI t) (h1 : t < 2 ^ 31) (c1 : ¬ x < now) (c2 : x ≤ 10000) : ∃ u, (t ≤ u ∧ u ≤ 10000) ∧ x = nI u := by
  rw [ht] at c1
  have h0 : ¬ x < 0 := fun q => c1 (by
    rw [Int32.lt_iff_toInt_lt] at q ⊢
    rw [nI_toInt h1]
    have : (0 : Int32).toInt = 0 := rfl
    omega)
  obtain ⟨u, hu, rfl⟩ := nI_of2 (M := 10000) (n := 10000) rfl h0 c2
  refine ⟨u, ⟨?_, hu⟩, rfl⟩
  rcases Nat.lt_or_ge u t with q | q
  · exact absurd (nI_lt q h1) c1
  · exact q
theorem k_in {k : Int32} (c1 : ¬ k < 0) (c2 : ¬ 2000 ≤ k) : ∃ j, j < 2000 ∧ k = nI j := by
  rcases pk_ix k (n := 2000) (by omega) with q | q | q
  · exact absurd q c1
  · exact absurd q c2
  · exact q
theorem kj_in {k v : Int32} {jm : Nat} (hv : v = nI jm) (c1 : ¬ k < 0) (c2 : ¬ v ≤ k) (h : jm ≤ 60 := by omega) : ∃ j, j < jm ∧ k = nI j := by
  rcases pk_ix k (n := jm) (by omega) with q | q | q
  · exact absurd q c1
  · exact absurd (by rw [hv]; exact q) c2
  · exact q
theorem pk_in2 {x : Int64} {v : Int32} {np : Nat} (hv : v = nI np) (hn : np ≤ 60) (c1 : ¬ lg_cmp x 0 < 0) (c2 : ¬ 0 ≤ lg_cmp x v.toInt64) : ∃ j, j < np ∧ x = lN j := by
  rw [hv, nI_l (by omega)] at c2
  have h0 : ¬ x < 0 := fun q => c1 ((lg_cmp_lt x 0).mpr q)
  obtain ⟨j, hj, rfl⟩ := pk_lOf h0
  refine ⟨j, ?_, rfl⟩
  rcases Nat.lt_or_ge j np with q | q
  · exact q
  · exfalso
    exact c2 ((lg_cmp_ge _ _).mpr ((pk_lLE (by omega) hj).mpr q))
theorem en_s1 {α : Al} {h : Nat} (c : ¬ aI α 0 35 < aI α 23 h) : nI (enF α h) + 1 = nI (enF α (h + 1)) := by
  rw [show enF α (h + 1) = enF α h + 1 from by rw [enF, if_neg c]]
  exact nI_1 _
theorem en_s0 {α : Al} {h : Nat} (c : aI α 0 35 < aI α 23 h) : nI (enF α h) + 0 = nI (enF α (h + 1)) := by
  rw [show enF α (h + 1) = enF α h + 0 from by rw [enF, if_pos c]]
  exact nI_add _ 0

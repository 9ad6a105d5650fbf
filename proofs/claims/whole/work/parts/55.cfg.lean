theorem nO_Ao {S : St} {x a z k i : Nat} (hk : k ≠ x) : sA (nO S x a z) k i = sA S k i := u2_ne (fun q => hk q.1)
theorem ou_A {S : St} {a b kd k i : Nat} (hk : k ≠ 4) : sA (ouS S b kd a) k i = sA S k i := by unfold ouS; rw [pR_A]; exact nO_Ao hk
theorem lt_lim {v : Int32} {n m : Nat} (h : v = nI n) (hn : n < 2 ^ 31) (hm : m < 2 ^ 31) (c : v < nI m) : n < m := by
  rw [h, nI_ltI hn hm] at c
  exact c
theorem eq_lim {v : Int32} {n m : Nat} (h : v = nI n) (hn : n ≤ m) (hm : m < 2 ^ 31) (c : ¬ v < nI m) : v = nI m := by
  rw [h, nI_ltI (by omega) hm] at c
  rw [h, show n = m by omega]
theorem lt_lim2 {v : Int32} {n m : Nat} (h : v = nI n) (hn : n < 2 ^ 31) (hm : m < 2 ^ 31) (c : ¬ nI m ≤ v) : n < m := lt_lim h hn hm (Int32.not_le.mp c)
theorem eq_lim2 {v : Int32} {n m : Nat} (h : v = nI n) (hn : n ≤ m) (hm : m < 2 ^ 31) (c : nI m ≤ v) : v = nI m := eq_lim h hn hm (Int32.not_lt.mpr c)
theorem ne_lim {v : Int32} {n m : Nat} (h : v = nI n) (hn : n < 2 ^ 31) (hm : m < 2 ^ 31) (c : n < m) : ¬ v = nI m := fun q => by
  rw [h] at q
  have := (nI_eq hn hm).mp q
  omega
theorem CZ.op {S : St} {α : Al} {nb nh nu nr nk np t : Nat} (z : CZ S α nb nh nu nr nk np t) (h : sI S 9 0 15 ≤ 0) : aI α 0 26 = 0 := by
  have e := z.1.2.1.2.1.2.2.2.2.2.2
  have f := z.1.2.2.1.2.2.2.2.2.1
  rw [e, f.1] at h
  rw [f.1]
  exact kind_le (nI_pos (by omega)) h
theorem CZ.cl {S : St} {α : Al} {nb nh nu nr nk np t : Nat} (z : CZ S α nb nh nu nr nk np t) (h : ¬ sI S 9 0 15 ≤ 0) : ¬ aI α 0 26 = 0 := fun q => h (by
  rw [z.1.2.1.2.1.2.2.2.2.2.2, q]
  decide)
theorem cl_1 {p : Prop} {h : Decidable p} (c : ¬ (if p then (0 : Int32) else 1) = 0) : ¬ p := of1 c
theorem m2_le : ∀ nu, nu < 5 → ∀ u, u < 5 → u < nu → ¬ ((-2 : Int32) - nI u ≤ -2 - nI nu) := by decide
theorem m2_g : ∀ u, u < 5 → ¬ (-2 : Int32) < -2 - nI u := by decide
theorem m2_neg : ∀ u, u < 5 → ∀ b, b < 7 → ¬ nI b = (-2 : Int32) - nI u := by decide
theorem m2_m1 : ∀ u, u < 5 → ¬ (-2 : Int32) - nI u = -1 := by decide
theorem nb_m1 : ∀ b, b < 7 → ¬ nI b = -1 := by decide
set_option maxRecDepth 4000 in
theorem to_in {to : Int32} {nu : Nat} (hn : nu ≤ 4) (h1 : ¬ -2 < to) (h2 : ¬ to ≤ -2 - nI nu) : ∃ u, u < nu ∧ to = -2 - nI u := by
  have e1 : (-2 : Int32).toInt = -2 := rfl
  rw [Int32.lt_iff_toInt_lt, e1] at h1
  rw [Int32.le_iff_toInt_le] at h2
  have cs : ∀ v : Int32, to.toInt = v.toInt → to = v := fun v q => Int32.toInt_inj.mp q
  have hc : nu = 0 ∨ nu = 1 ∨ nu = 2 ∨ nu = 3 ∨ nu = 4 := by omega
  rcases hc with rfl | rfl | rfl | rfl | rfl
  · exact absurd (show to.toInt ≤ ((-2 : Int32) - nI 0).toInt by rw [show ((-2 : Int32) - nI 0).toInt = -2 by decide]; omega) h2
  · rw [show ((-2 : Int32) - nI 1).toInt = -3 by decide] at h2
    exact ⟨0, by omega, cs _ (by rw [show ((-2 : Int32) - nI 0).toInt = -2 by decide]; omega)⟩
  · rw [show ((-2 : Int32) - nI 2).toInt = -4 by decide] at h2
    have : to.toInt = -2 ∨ to.toInt = -3 := by omega
    rcases this with q | q
    · exact ⟨0, by omega, cs _ (by rw [show ((-2 : Int32) - nI 0).toInt = -2 by decide]; omega)⟩
    · exact ⟨1, by omega, cs _ (by rw [show ((-2 : Int32) - nI 1).toInt = -3 by decide]; omega)⟩
  · rw [show ((-2 : Int32) - nI 3).toInt = -5 by decide] at h2
    have : to.toInt = -2 ∨ to.toInt = -3 ∨ to.toInt = -4 := by omega
    rcases this with q | q | q
    · exact ⟨0, by omega, cs _ (by rw [show ((-2 : Int32) - nI 0).toInt = -2 by decide]; omega)⟩
    · exact ⟨1, by omega, cs _ (by rw [show ((-2 : Int32) - nI 1).toInt = -3 by decide]; omega)⟩
    · exact ⟨2, by omega, cs _ (by rw [show ((-2 : Int32) - nI 2).toInt = -4 by decide]; omega)⟩
  · rw [show ((-2 : Int32) - nI 4).toInt = -6 by decide] at h2
    have : to.toInt = -2 ∨ to.toInt = -3 ∨ to.toInt = -4 ∨ to.toInt = -5 := by omega
    rcases this with q | q | q | q
    · exact ⟨0, by omega, cs _ (by rw [show ((-2 : Int32) - nI 0).toInt = -2 by decide]; omega)⟩
    · exact ⟨1, by omega, cs _ (by rw [show ((-2 : Int32) - nI 1).toInt = -3 by decide]; omega)⟩
    · exact ⟨2, by omega, cs _ (by rw [show ((-2 : Int32) - nI 2).toInt = -4 by decide]; omega)⟩
    · exact ⟨3, by omega, cs _ (by rw [show ((-2 : Int32) - nI 3).toInt = -5 by decide]; omega)⟩
theorem jTo_no {α : Al} {to : Int32} {nu : Nat} (hu : aI α 0 13 = nI nu) (hn : nu ≤ 4) (h1 : ¬ to = -1) (h2 : iB α to = 0) (h3 : uOf α to = false) : jTo α to = false := by
  refine decide_eq_false (fun q => ?_)
  rcases q with q | q | q
  · exact h1 q
  · unfold iB at h2
    rw [if_neg q.1, if_neg (Int32.not_le.mpr q.2)] at h2
    exact absurd h2 (by decide)
  · rw [hu] at q
    obtain ⟨u, hu1, rfl⟩ := to_in hn q.1 q.2
    refine absurd h3 ?_
    rw [show uOf α (-2 - nI u) = true from decide_eq_true ⟨Int32.not_lt.mp (m2_g u (by omega)), by rw [m2_2 (by omega)]; exact nI_pos (by omega), by rw [m2_2 (by omega), hu]; exact nI_ge hu1 (by omega)⟩]
    decide
theorem tt_in {x : Int32} (h1 : ¬ x < 1) (h2 : ¬ 1000 < x) : ∃ tt, (1 ≤ tt ∧ tt ≤ 1000) ∧ x = nI tt := by
  have e1 : (1 : Int32).toInt = 1 := rfl
  have h0 : ¬ x < 0 := fun q => h1 (by rw [Int32.lt_iff_toInt_lt] at q ⊢; have : (0 : Int32).toInt = 0 := rfl; omega)
  obtain ⟨u, hu, rfl⟩ := nI_of2 (M := 1000) (n := 1000) rfl h0 (Int32.not_lt.mp h2)
  refine ⟨u, ⟨?_, hu⟩, rfl⟩
  rcases Nat.lt_or_ge u 1 with q | q
  · exact absurd (show nI u < nI 1 from nI_lt q (by decide)) h1
  · exact q
theorem wi_i0 {x : Int32} (c : wi (FP.i2d x) FP.dconst1 4652007308841189376 = 0) : x < 1 ∨ 1000 < x := by
  rw [wi_int] at c
  by_cases q : x < 1
  · exact Or.inl q
  · rw [if_neg q] at c
    by_cases r : 1000 < x
    · exact Or.inr r
    · rw [if_neg r] at c
      exact absurd c (by decide)
theorem wi_i1 {x : Int32} (c : ¬ wi (FP.i2d x) FP.dconst1 4652007308841189376 = 0) : ¬ x < 1 ∧ ¬ 1000 < x := by
  rw [wi_int] at c
  refine ⟨fun q => c (if_pos q), fun q => c ?_⟩
  split <;> rfl

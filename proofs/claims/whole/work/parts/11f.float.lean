/-! doubles that are no NaN -/
theorem n64_of {r : UInt64} (h : FP.Core.val64 r ≠ .nan) : vf_n64 r := by
  unfold vf_n64
  rw [UInt64.le_iff_toNat_le, UInt64.toNat_and]
  rw [show (0x7fffffffffffffff : UInt64).toNat = 2 ^ 63 - 1 from rfl, Nat.and_two_pow_sub_one_eq_mod, show (0x7ff0000000000000 : UInt64).toNat = 9218868437227405312 from rfl]
  apply Decidable.byContradiction
  intro hc
  apply h
  have hlt := r.toNat_lt
  unfold FP.Core.val64 FP.Core.decode
  have e1 : FP.Core.fieldE FP.Core.b64 r.toNat = r.toNat / 4503599627370496 % 2048 := rfl
  have e2 : FP.Core.fieldT FP.Core.b64 r.toNat = r.toNat % 4503599627370496 := rfl
  have e3 : FP.Core.b64.exps - 1 = 2047 := rfl
  rw [e1, e2, e3, if_pos (by omega), if_neg (by omega)]
/-- no NaN -/
def dOk (x : UInt64) : Prop := FP.Core.val64 x ≠ .nan
/-- a number, and one that isn't zero -/
def dFin (x : UInt64) : Prop := ∃ s c q, FP.Core.val64 x = .fin s c q
def dNz (x : UInt64) : Prop := ∃ s c q, FP.Core.val64 x = .fin s c q ∧ c ≠ 0
/-- not below zero: a number or an infinity -/
def dNn (x : UInt64) : Prop := FP.Core.val64 x = .inf false ∨ ∃ s c q, FP.Core.val64 x = .fin s c q ∧ (s = false ∨ c = 0)
/-- a number that isn't below zero -/
def dFn (x : UInt64) : Prop := ∃ s c q, FP.Core.val64 x = .fin s c q ∧ (s = false ∨ c = 0)
theorem dFin.ok {x : UInt64} (h : dFin x) : dOk x := by
  obtain ⟨s, c, q, e⟩ := h
  unfold dOk
  rw [e]
  intro h
  cases h
theorem dNz.fin {x : UInt64} (h : dNz x) : dFin x := by
  obtain ⟨s, c, q, e, -⟩ := h
  exact ⟨s, c, q, e⟩
theorem dFn.fin {x : UInt64} (h : dFn x) : dFin x := by
  obtain ⟨s, c, q, e, -⟩ := h
  exact ⟨s, c, q, e⟩
theorem dFn.nn {x : UInt64} (h : dFn x) : dNn x := Or.inr h
theorem dNn.ok {x : UInt64} (h : dNn x) : dOk x := by
  unfold dOk
  rcases h with e | ⟨s, c, q, e, -⟩ <;> (rw [e]; intro h; cases h)
theorem rr_cases (s : Bool) (A B : Nat) (e : Int) : FP.Core.roundRatio FP.Core.b64 s A B e = .inf s ∨ ∃ c q, FP.Core.roundRatio FP.Core.b64 s A B e = .fin s c q ∧ (A = 0 → c = 0) := by
  unfold FP.Core.roundRatio
  split
  · rename_i h
    exact Or.inr ⟨_, _, rfl, fun _ => rfl⟩
  · rename_i h
    unfold FP.Core.roundAt FP.Core.settle FP.Core.bound
    split <;> split
    · exact Or.inr ⟨_, _, rfl, fun z => absurd z h⟩
    · exact Or.inl rfl
    · exact Or.inr ⟨_, _, rfl, fun z => absurd z h⟩
    · exact Or.inl rfl
theorem dadd_nn {x y : UInt64} (hx : dNn x) (hy : dNn y) : dNn (FP.dadd x y) := by
  have e := FP.Core.val64_dadd x y
  unfold dNn
  show FP.Core.val64 (FP.Core.dadd x y) = _ ∨ ∃ s c q, FP.Core.val64 (FP.Core.dadd x y) = _ ∧ _
  rw [e]
  rcases hx with ex | ⟨s, c, q, ex, hs⟩ <;> rcases hy with ey | ⟨t, d, r, ey, ht⟩ <;> rw [ex, ey]
  · exact Or.inl rfl
  · exact Or.inl rfl
  · exact Or.inl rfl
  · show FP.Core.roundRatio FP.Core.b64 _ _ 1 _ = _ ∨ ∃ s' c' q', FP.Core.roundRatio FP.Core.b64 _ _ 1 _ = _ ∧ _
    have hs0 : 0 ≤ FP.Core.signed s (FP.Core.inUnits c q (min q r)) := by
      rcases hs with rfl | rfl
      · exact Int.natCast_nonneg _
      · unfold FP.Core.inUnits; rw [Nat.zero_mul]; cases s <;> exact Int.le_refl _
    have ht0 : 0 ≤ FP.Core.signed t (FP.Core.inUnits d r (min q r)) := by
      rcases ht with rfl | rfl
      · exact Int.natCast_nonneg _
      · unfold FP.Core.inUnits; rw [Nat.zero_mul]; cases t <;> exact Int.le_refl _
    have hv : 0 ≤ FP.Core.sumUnits s c q t d r (min q r) := Int.add_nonneg hs0 ht0
    generalize FP.Core.sumUnits s c q t d r (min q r) = v at hv ⊢
    by_cases hz : v = 0
    · subst hz
      refine Or.inr ⟨FP.Core.sumSign s t 0, 0, FP.Core.b64.qmin, ?_, Or.inr rfl⟩
      unfold FP.Core.roundRatio
      rw [if_pos (show Int.natAbs 0 = 0 from rfl)]
    · have hsg : FP.Core.sumSign s t v = false := by
        unfold FP.Core.sumSign
        rw [if_neg hz]
        exact decide_eq_false (Int.not_lt.mpr hv)
      rw [hsg]
      rcases rr_cases false v.natAbs 1 (min q r) with h | ⟨c', q', h, -⟩
      · exact Or.inl h
      · exact Or.inr ⟨_, _, _, h, Or.inl rfl⟩
theorem ddiv_ok {x y : UInt64} (hx : dOk x) (hy : dNz y) : dOk (FP.ddiv x y) := by
  unfold dOk at *
  show FP.Core.val64 (FP.Core.ddiv x y) ≠ _
  rw [FP.Core.val64_ddiv]
  obtain ⟨t, d, r, ey, hd⟩ := hy
  rw [ey]
  cases hx0 : FP.Core.val64 x with
  | nan => exact absurd hx0 hx
  | inf s => intro h; cases h
  | fin s c q =>
    show (if d = 0 then _ else FP.Core.roundRatio FP.Core.b64 (s != t) c d (q - r)) ≠ _
    rw [if_neg hd]
    rcases rr_cases (s != t) c d (q - r) with h | ⟨c', q', h, -⟩ <;> (rw [h]; intro h; cases h)
theorem dmul_okz {x y : UInt64} (hx : dOk x) (hy : dNz y) : dOk (FP.dmul x y) := by
  unfold dOk at *
  show FP.Core.val64 (FP.Core.dmul x y) ≠ _
  rw [FP.Core.val64_dmul]
  obtain ⟨t, d, r, ey, hd⟩ := hy
  rw [ey]
  cases hx0 : FP.Core.val64 x with
  | nan => exact absurd hx0 hx
  | inf s =>
    show FP.Core.round FP.Core.b64 (if d = 0 then _ else _) ≠ _
    rw [if_neg hd]
    intro h
    cases h
  | fin s c q =>
    show FP.Core.roundRatio FP.Core.b64 _ _ 1 _ ≠ _
    rcases rr_cases (s != t) (c * d) 1 (q + r) with h | ⟨c', q', h, -⟩ <;> (rw [h]; intro h; cases h)
theorem dmul_okf {x y : UInt64} (hx : dFin x) (hy : dFin y) : dOk (FP.dmul x y) := by
  unfold dOk
  show FP.Core.val64 (FP.Core.dmul x y) ≠ _
  rw [FP.Core.val64_dmul]
  obtain ⟨s, c, q, ex⟩ := hx
  obtain ⟨t, d, r, ey⟩ := hy
  rw [ex, ey]
  show FP.Core.roundRatio FP.Core.b64 _ _ 1 _ ≠ _
  rcases rr_cases (s != t) (c * d) 1 (q + r) with h | ⟨c', q', h, -⟩ <;> (rw [h]; intro h; cases h)
theorem dmul_nn {x y : UInt64} (hx : dFn x) (hy : dFn y) : dNn (FP.dmul x y) := by
  unfold dNn
  show FP.Core.val64 (FP.Core.dmul x y) = _ ∨ ∃ s c q, FP.Core.val64 (FP.Core.dmul x y) = _ ∧ _
  rw [FP.Core.val64_dmul]
  obtain ⟨s, c, q, ex, hs⟩ := hx
  obtain ⟨t, d, r, ey, ht⟩ := hy
  rw [ex, ey]
  show FP.Core.roundRatio FP.Core.b64 _ _ 1 _ = _ ∨ ∃ s' c' q', FP.Core.roundRatio FP.Core.b64 _ _ 1 _ = _ ∧ _
  by_cases hz : c * d = 0
  · rcases rr_cases (s != t) (c * d) 1 (q + r) with h | ⟨c', q', h, h0⟩
    · exfalso
      rw [hz] at h
      unfold FP.Core.roundRatio at h
      rw [if_pos rfl] at h
      cases h
    · exact Or.inr ⟨_, _, _, h, Or.inr (h0 hz)⟩
  · have hs' : s = false := by
      rcases hs with h | h
      · exact h
      · exact absurd (by rw [h, Nat.zero_mul]) hz
    have ht' : t = false := by
      rcases ht with h | h
      · exact h
      · exact absurd (by rw [h, Nat.mul_zero]) hz
    subst hs'
    subst ht'
    rcases rr_cases (false != false) (c * d) 1 (q + r) with h | ⟨c', q', h, -⟩
    · exact Or.inl h
    · exact Or.inr ⟨_, _, _, h, Or.inl rfl⟩
theorem i2d_ok (a : Int32) : dOk (FP.i2d a) := by
  unfold dOk
  show FP.Core.val64 (FP.Core.i2d a) ≠ _
  rw [FP.Core.val64_i2d]
  show FP.Core.roundRatio FP.Core.b64 _ _ 1 _ ≠ _
  rcases rr_cases (decide (a.toInt < 0)) a.toInt.natAbs 1 0 with h | ⟨c', q', h, -⟩ <;> (rw [h]; intro h; cases h)
theorem l2d_ok (a : Int64) : dOk (FP.l2d a) := by
  unfold dOk
  show FP.Core.val64 (FP.Core.l2d a) ≠ _
  rw [FP.Core.val64_l2d]
  show FP.Core.roundRatio FP.Core.b64 _ _ 1 _ ≠ _
  rcases rr_cases (decide (a.toInt < 0)) a.toInt.natAbs 1 0 with h | ⟨c', q', h, -⟩ <;> (rw [h]; intro h; cases h)
/-- by a look at the bits -/
def zB (x : UInt64) : Bool := match FP.Core.val64 x with
  | .fin _ c _ => !(c == 0)
  | _ => false
theorem dNz_of {x : UInt64} (h : zB x = true) : dNz x := by
  unfold zB at h
  unfold dNz
  cases e : FP.Core.val64 x with
  | nan => rw [e] at h; cases h
  | inf s => rw [e] at h; cases h
  | fin s c q =>
    rw [e] at h
    exact ⟨s, c, q, rfl, by simpa using h⟩
theorem nn_0 : dNn FP.dconst0 := Or.inr ⟨_, _, _, FP.Core.val64_dconst0, Or.inl rfl⟩
theorem nz_1 : dNz FP.dconst1 := dNz_of (by decide +kernel)
theorem i2d_nz : ∀ t, t < 1001 → 0 < t → dNz (FP.i2d (nI t)) := by
  have h : (List.range 1001).all (fun t => t == 0 || zB (FP.i2d (nI t))) = true := by decide +kernel
  intro t h1 h2
  have h3 := List.all_eq_true.mp h t (List.mem_range.mpr h1)
  rcases Bool.or_eq_true _ _ |>.mp h3 with h4 | h4
  · have : t = 0 := by simpa using h4
    omega
  · exact dNz_of h4
/-- adding 0.0 to what isn't below zero, and isn't -0.0 -/
def dPz (x : UInt64) : Prop := dNn x ∧ x ≠ FP.Core.dzeroNeg
theorem dadd_0 {x : UInt64} (h : dPz x) : FP.dadd x FP.dconst0 = x := FP.Core.dadd_zero h.1.ok h.2
theorem pz_0 : dPz FP.dconst0 := ⟨nn_0, by decide +kernel⟩
theorem dadd_pz {x y : UInt64} (hx : dPz x) (hy : dNn y) : dPz (FP.dadd x y) := by
  refine ⟨dadd_nn hx.1 hy, fun h => ?_⟩
  have e := FP.Core.val64_dadd x y
  have h' : FP.Core.dadd x y = FP.Core.dzeroNeg := h
  rw [h', FP.Core.val64_dzeroNeg] at e
  rcases hx.1 with ex | ⟨s, c, q, ex, hs⟩ <;> rcases hy with ey | ⟨t, d, r, ey, ht⟩ <;> rw [ex, ey] at e
  · cases e
  · cases e
  · cases e
  · have e : FP.Core.Datum.fin true 0 FP.Core.b64.qmin = FP.Core.roundRatio FP.Core.b64 (FP.Core.sumSign s t (FP.Core.sumUnits s c q t d r (min q r))) (FP.Core.sumUnits s c q t d r (min q r)).natAbs 1 (min q r) := e
    have hs0 : 0 ≤ FP.Core.signed s (FP.Core.inUnits c q (min q r)) := by
      rcases hs with rfl | rfl
      · exact Int.natCast_nonneg _
      · unfold FP.Core.inUnits; rw [Nat.zero_mul]; cases s <;> exact Int.le_refl _
    have ht0 : 0 ≤ FP.Core.signed t (FP.Core.inUnits d r (min q r)) := by
      rcases ht with rfl | rfl
      · exact Int.natCast_nonneg _
      · unfold FP.Core.inUnits; rw [Nat.zero_mul]; cases t <;> exact Int.le_refl _
    have hsgn : FP.Core.sumSign s t (FP.Core.sumUnits s c q t d r (min q r)) = true := by
      rcases rr_cases (FP.Core.sumSign s t (FP.Core.sumUnits s c q t d r (min q r))) (FP.Core.sumUnits s c q t d r (min q r)).natAbs 1 (min q r) with h1 | ⟨c', q', h1, -⟩
      · rw [h1] at e
        cases e
      · rw [h1] at e
        injection e with e1 e2 e3
        exact e1.symm
    have hv : 0 ≤ FP.Core.sumUnits s c q t d r (min q r) := Int.add_nonneg hs0 ht0
    unfold FP.Core.sumSign at hsgn
    split at hsgn
    · rename_i hz
      have hst := hsgn
      simp only [Bool.and_eq_true] at hst
      obtain ⟨rfl, rfl⟩ := hst
      have hc : c = 0 := by
        rcases hs with h1 | h1
        · cases h1
        · exact h1
      subst hc
      have hq : q = FP.Core.b64.qmin := FP.Core.fits_zero_q FP.Core.good_b64 (s := true) (by rw [← ex]; exact FP.Core.val64_fits x)
      subst hq
      exact hx.2 (FP.Core.val64_inj (by rw [ex]; intro h; cases h) (by rw [ex, FP.Core.val64_dzeroNeg]))
    · have := of_decide_eq_true hsgn
      omega

theorem or_add {x y i : Nat} (hy : y < 2 ^ i) : nI (x * 2 ^ i) ||| nI y = nI (x * 2 ^ i + y) := by
  have h : nI (x * 2 ^ i) ||| nI y = nI (x * 2 ^ i ||| y) := by
    apply Int32.toBitVec_inj.mp
    apply BitVec.eq_of_toNat_eq
    show (BitVec.ofNat 32 (x * 2 ^ i) ||| BitVec.ofNat 32 y).toNat = (BitVec.ofNat 32 (x * 2 ^ i ||| y)).toNat
    rw [BitVec.toNat_or, BitVec.toNat_ofNat, BitVec.toNat_ofNat, BitVec.toNat_ofNat, Nat.or_mod_two_pow]
  rw [h, Nat.mul_comm x (2 ^ i), ← Nat.two_pow_add_eq_or_of_lt hy x]
theorem pk_row {t p a b : Nat} (ht : t ≤ 10000) (hp : p < 64) (ha : a < 16) (hb : b < 64) : pkI (nI t) (nI p) (nI a) (nI b) = nI (t * 65536 + p * 1024 + a * 64 + b) := by
  unfold pkI
  rw [pk_shlN ((16 : Int32) &&& 31) 16 (by decide) (by omega), pk_shlN ((10 : Int32) &&& 31) 10 (by decide) (by omega), pk_shlN ((6 : Int32) &&& 31) 6 (by decide) (by omega)]
  rw [or_add (x := t) (i := 16) (by omega)]
  rw [show t * 2 ^ 16 + p * 2 ^ 10 = (t * 64 + p) * 2 ^ 10 by omega, or_add (x := t * 64 + p) (i := 10) (by omega)]
  rw [show (t * 64 + p) * 2 ^ 10 + a * 2 ^ 6 = ((t * 64 + p) * 16 + a) * 2 ^ 6 by omega, or_add (x := (t * 64 + p) * 16 + a) (i := 6) (by omega)]
theorem Row.of {t p a b : Nat} (ht : t ≤ 10000) (hp : p < 64) (ha : a < 16) (hb : b < 64) : Row (pkI (nI t) (nI p) (nI a) (nI b)) (nI t) (nI p) (nI a) (nI b) := ⟨t, p, a, b, ht, hp, ha, hb, pk_row ht hp ha hb, rfl, rfl, rfl, rfl⟩
theorem Row.par {v t p a b : Int32} (h : Row v t p a b) : parF v 0 = t ∧ parF v 1 = p ∧ parF v 2 = a ∧ parF v 3 = b := by
  obtain ⟨t', p', a', b', ht, hp, ha, hb, rfl, rfl, rfl, rfl, rfl⟩ := h
  refine ⟨?_, ?_, ?_, ?_⟩
  · show nI _ >>> ((16 : Int32) &&& 31) = _
    rw [pk_shrN (by omega) ((16 : Int32) &&& 31) 16 (by decide)]
    congr 1
    omega
  · show nI _ >>> ((10 : Int32) &&& 31) &&& 63 = _
    rw [pk_shrN (by omega) ((10 : Int32) &&& 31) 10 (by decide), pk_andN (by omega) 6 (by decide)]
    congr 1
    omega
  · show nI _ >>> ((6 : Int32) &&& 31) &&& 15 = _
    rw [pk_shrN (by omega) ((6 : Int32) &&& 31) 6 (by decide), pk_andN (by omega) 4 (by decide)]
    congr 1
    omega
  · show nI _ &&& 63 = _
    rw [pk_andN (by omega) 6 (by decide)]
    congr 1
    omega
section LG
variable {S T : St} {i : Nat} {t p a b : Int32}
theorem logF_I {k z w : Nat} (h1 : ¬ (k = 18 ∧ z = i)) (h2 : ¬ (k = 3 ∧ z = i ∧ w = 1)) : sI (logF S i t p a b) k z w = sI S k z w := by
  unfold logF
  split
  · exact pI_I h2
  · rw [pI_I h2, pI_I (fun q => h1 ⟨q.1, q.2.1⟩)]
theorem logF_R : sR (logF S i t p a b) = sR S := by unfold logF; split <;> rfl
theorem logF_J : sJ (logF S i t p a b) = sJ S := by unfold logF; split <;> rfl
theorem logF_D : sD (logF S i t p a b) = sD S := by unfold logF; split <;> rfl
theorem logF_C : sC (logF S i t p a b) = sC S := by unfold logF; split <;> rfl
theorem logF_A : sA (logF S i t p a b) = sA S := by unfold logF; split <;> rfl
theorem logF_N : sN (logF S i t p a b) = sN S := by unfold logF; split <;> rfl
theorem logF_t : sI (logF S i t p a b) 3 i 1 = sI S 3 i 1 + 1 := by unfold logF; split <;> exact pI_s
theorem logF_old {j : Nat} (h : j ≠ nn (sI S 3 i 1)) : sI (logF S i t p a b) 18 i j = sI S 18 i j := by
  unfold logF
  split
  · exact pI_I (by omega)
  · rw [pI_I (by omega), pI_I (fun q => h q.2.2)]
theorem logF_new (h : ¬ nI (sN S 18 i) ≤ sI S 3 i 1) : sI (logF S i t p a b) 18 i (nn (sI S 3 i 1)) = pkI t p a b := by
  unfold logF
  rw [if_neg h, pI_I (by omega), pI_s]
theorem Sc.log (h : Sc S T) : Sc S (logF T i t p a b) := by
  unfold logF
  split
  · exact h.I rfl
  · exact (h.I rfl).I rfl
end LG
theorem noteF_old {α : Al} {p w h : Int32} {j n : Nat} (ht : aI α 0 36 = nI n) (hn : n < 2 ^ 31) (hj : j < 4 * n) : aI (noteF α p w h) 29 j = aI α 29 j := by
  unfold noteF
  rw [show nn (aI α 0 36) = n from by rw [ht]; exact nn_nI hn]
  split
  · exact qI_I (by omega)
  · rw [qI_I (by omega), qI_I (by omega), qI_I (by omega), qI_I (by omega), qI_I (by omega)]
theorem noteF_new {α : Al} {p w h : Int32} {n : Nat} (ht : aI α 0 36 = nI n) (hn : n < 2000) : aI (noteF α p w h) 29 (4 * n) = aI α 0 35 ∧ aI (noteF α p w h) 29 (4 * n + 1) = p ∧ aI (noteF α p w h) 29 (4 * n + 2) = w ∧ aI (noteF α p w h) 29 (4 * n + 3) = h := by
  unfold noteF
  rw [show nn (aI α 0 36) = n from by rw [ht]; exact nn_nI (by omega), if_neg (by rw [ht]; show ¬ nI 2000 ≤ nI n; exact nI_ge hn (by decide))]
  refine ⟨?_, ?_, ?_, ?_⟩
  · rw [qI_I (by omega), qI_I (by omega), qI_I (by omega), qI_I (by omega), qI_s]
  · rw [qI_I (by omega), qI_I (by omega), qI_I (by omega), qI_s]
  · rw [qI_I (by omega), qI_I (by omega), qI_s]
  · rw [qI_I (by omega), qI_s]
theorem Cd.note {S : St} {α : Al} {nb nu nk np n t p w h : Nat} (d : Cd S α nb nu nk np) (hS : Sh S) (ht : aI α 0 36 = nI n) (hn : n < 2 ^ 30) (hnow : aI α 0 35 = nI t) (h1 : t ≤ 10000) (h2 : p < 64) (h3 : w < 16) (h4 : h < 64) : Cd (logF S 0 (sI S 9 0 16) (nI p) (nI w) (nI h)) (noteF α (nI p) (nI w) (nI h)) nb nu nk np := by
  obtain ⟨d1, d2, d3, d4, d5, d6, d7, d8, d9, d10, d11⟩ := d
  have e25 : ∀ j, aI (noteF α (nI p) (nI w) (nI h)) 25 j = aI α 25 j := fun j => noteF_I (by decide) (by omega)
  have hT : sI S 3 0 1 = nI n := d7.1.trans ht
  have hnn : nn (sI S 3 0 1) = n := by rw [hT]; exact nn_nI (by omega)
  refine ⟨?_, fun b hb => ?_, fun u hu => ?_, fun k hk => ?_, fun j hj => ?_, fun x hx => ?_, ⟨?_, ?_⟩, fun j hj hjt => ?_, fun j hj hjt => ?_, fun c hc => ?_, ?_⟩
  · rw [logF_I (by omega) (by omega), noteF_I (by decide) (by omega)]; exact d1
  · rw [logF_I (by omega) (by omega), noteF_I (by decide) (by omega)]; exact d2 b hb
  · rw [logF_D, noteF_D]; exact d3 u hu
  · rw [logF_I (by omega) (by omega), logF_I (by omega) (by omega), noteF_I (by decide) (by omega), noteF_I (by decide) (by omega)]; exact d4 k hk
  · rw [e25, logF_R, logF_I (by omega) (by omega), noteF_I (k := 26) (by decide) (by omega), noteF_I (k := 27) (by decide) (by omega)]; exact d5 j hj
  · rw [logF_I (by omega) (by omega), logF_I (by omega) (by omega), logF_I (by omega) (by omega), logF_I (by omega) (by omega), noteF_I (by decide) (by omega), noteF_I (by decide) (by omega), noteF_I (by decide) (by omega), noteF_I (by decide) (by omega)]; exact d6 x hx
  · rw [logF_t, noteF_t, d7.1]
  · rw [logF_I (by omega) (by omega), noteF_I (by decide) (by omega)]; exact d7.2
  · rw [noteF_t, ht, nI_1, nI_ltI (by omega) (by omega)] at hjt
    rcases Nat.lt_or_ge j n with q | q
    · rw [logF_old (by omega), noteF_old ht (by omega) (by omega), noteF_old ht (by omega) (by omega), noteF_old ht (by omega) (by omega), noteF_old ht (by omega) (by omega)]
      exact d8 j hj (by rw [ht]; exact nI_lt q (by omega))
    · obtain rfl : j = n := by omega
      obtain ⟨a1, a2, a3, a4⟩ := noteF_new (p := nI p) (w := nI w) (h := nI h) ht hj
      have hl := logF_new (S := S) (i := 0) (t := sI S 9 0 16) (p := nI p) (a := nI w) (b := nI h) (by rw [hS.2.2.2.2.2.2.2.2.2.1, hT]; exact nI_ge hj (by omega))
      rw [hnn] at hl
      rw [hl, a1, a2, a3, a4, d1, hnow]
      exact Row.of h1 h2 h3 h4
  · rw [noteF_I (by decide) (by omega)] at hjt
    rw [logF_I (by omega) (by omega), noteF_I (by decide) (by omega), noteF_I (by decide) (by omega), noteF_I (by decide) (by omega), noteF_I (by decide) (by omega)]
    exact d9 j hj hjt
  · rw [logF_J, noteF_J]; exact d10 c hc
  · rw [logF_I (by omega) (by omega), logF_I (by omega) (by omega), logF_I (by omega) (by omega), noteF_J, ctF_congr e25, ctF_congr e25, ctF_congr e25, ctF_congr e25]
    exact d11
/-- the jams' own log -/
def jrF (α : Al) (p b o : Int32) : Al := qI (qI (qI (qI (qI α 30 (4 * nn (aI α 0 38)) (aI α 0 35)) 30 (4 * nn (aI α 0 38) + 1) p) 30 (4 * nn (aI α 0 38) + 2) b) 30 (4 * nn (aI α 0 38) + 3) o) 0 38 (aI α 0 38 + 1)
theorem jrF_I {α : Al} {p b o : Int32} {k j : Nat} (h1 : k ≠ 30) (h2 : ¬ (k = 0 ∧ j = 38)) : aI (jrF α p b o) k j = aI α k j := by
  unfold jrF
  rw [qI_I h2, qI_I (fun q => h1 q.1), qI_I (fun q => h1 q.1), qI_I (fun q => h1 q.1), qI_I (fun q => h1 q.1)]
theorem Cd.jr {S : St} {α : Al} {nb nu nk np n t p b o : Nat} (d : Cd S α nb nu nk np) (hS : Sh S) (ht : aI α 0 38 = nI n) (hn : n < 60) (hnow : aI α 0 35 = nI t) (h1 : t ≤ 10000) (h2 : p < 64) (h3 : b < 16) (h4 : o < 64) : Cd (logF S 1 (sI S 9 0 16) (nI p) (nI b) (nI o)) (jrF α (nI p) (nI b) (nI o)) nb nu nk np := by
  obtain ⟨d1, d2, d3, d4, d5, d6, d7, d8, d9, d10, d11⟩ := d
  have e25 : ∀ j, aI (jrF α (nI p) (nI b) (nI o)) 25 j = aI α 25 j := fun j => jrF_I (by decide) (by omega)
  have hT : sI S 3 1 1 = nI n := d7.2.trans ht
  have hnn : nn (sI S 3 1 1) = n := by rw [hT]; exact nn_nI (by omega)
  have hna : nn (aI α 0 38) = n := by rw [ht]; exact nn_nI (by omega)
  refine ⟨?_, fun b hb => ?_, fun u hu => ?_, fun k hk => ?_, fun j hj => ?_, fun x hx => ?_, ⟨?_, ?_⟩, fun j hj hjt => ?_, fun j hj hjt => ?_, fun c hc => ?_, ?_⟩
  · rw [logF_I (by omega) (by omega), jrF_I (by decide) (by omega)]; exact d1
  · rw [logF_I (by omega) (by omega), jrF_I (by decide) (by omega)]; exact d2 b hb
  · rw [logF_D]; exact d3 u hu
  · rw [logF_I (by omega) (by omega), logF_I (by omega) (by omega), jrF_I (by decide) (by omega), jrF_I (by decide) (by omega)]; exact d4 k hk
  · rw [e25, logF_R, logF_I (by omega) (by omega), jrF_I (k := 26) (by decide) (by omega), jrF_I (k := 27) (by decide) (by omega)]; exact d5 j hj
  · rw [logF_I (by omega) (by omega), logF_I (by omega) (by omega), logF_I (by omega) (by omega), logF_I (by omega) (by omega), jrF_I (by decide) (by omega), jrF_I (by decide) (by omega), jrF_I (by decide) (by omega), jrF_I (by decide) (by omega)]; exact d6 x hx
  · rw [logF_I (by omega) (by omega), jrF_I (by decide) (by omega)]; exact d7.1
  · rw [logF_t, d7.2]
    unfold jrF
    rw [qI_s]
  · rw [jrF_I (by decide) (by omega)] at hjt
    rw [logF_I (by omega) (by omega), jrF_I (by decide) (by omega), jrF_I (by decide) (by omega), jrF_I (by decide) (by omega), jrF_I (by decide) (by omega)]
    exact d8 j hj hjt
  · have hjt2 : nI j < aI α 0 38 + 1 := by
      have e : aI (jrF α (nI p) (nI b) (nI o)) 0 38 = aI α 0 38 + 1 := by unfold jrF; exact qI_s
      rw [← e]; exact hjt
    rw [ht, nI_1, nI_ltI (by omega) (by omega)] at hjt2
    unfold jrF
    rw [hna]
    rcases Nat.lt_or_ge j n with q | q
    · rw [logF_old (by omega)]
      rw [qI_I (by omega), qI_I (by omega), qI_I (by omega), qI_I (by omega), qI_I (by omega), qI_I (by omega), qI_I (by omega), qI_I (by omega), qI_I (by omega), qI_I (by omega), qI_I (by omega), qI_I (by omega), qI_I (by omega), qI_I (by omega), qI_I (by omega), qI_I (by omega), qI_I (by omega), qI_I (by omega), qI_I (by omega), qI_I (by omega)]
      exact d9 j hj (by rw [ht]; exact nI_lt q (by omega))
    · obtain rfl : j = n := by omega
      have hl := logF_new (S := S) (i := 1) (t := sI S 9 0 16) (p := nI p) (a := nI b) (b := nI o) (by rw [hS.2.2.2.2.2.2.2.2.2.2.1, hT]; exact nI_ge hj (by omega))
      rw [hnn] at hl
      rw [hl, d1, hnow]
      have a1 : ∀ (c v : Nat) (β : Al), aI (qI β 0 c (nI v)) 30 = aI β 30 := fun c v β => funext fun z => qI_I (by omega)
      rw [qI_I (by omega), qI_I (by omega), qI_I (by omega), qI_I (by omega), qI_s, qI_I (by omega), qI_I (by omega), qI_I (by omega), qI_s, qI_I (by omega), qI_I (by omega), qI_s, qI_I (by omega), qI_s]
      exact Row.of h1 h2 h3 h4
  · rw [logF_J]; exact d10 c hc
  · rw [logF_I (by omega) (by omega), logF_I (by omega) (by omega), logF_I (by omega) (by omega), ctF_congr e25, ctF_congr e25, ctF_congr e25, ctF_congr e25]
    exact d11

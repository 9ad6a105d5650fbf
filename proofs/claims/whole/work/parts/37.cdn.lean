theorem u2_comm {β : Type} {F : Nat → Nat → β} {k i k' i' : Nat} {v v' : β} (h : ¬ (k = k' ∧ i = i')) : u2 (u2 F k i v) k' i' v' = u2 (u2 F k' i' v') k i v := by
  funext a b
  unfold u2
  by_cases h1 : a = k' ∧ b = i'
  · rw [if_pos h1]
    by_cases h2 : a = k ∧ b = i
    · exact absurd ⟨h2.1.symm.trans h1.1, h2.2.symm.trans h1.2⟩ h
    · rw [if_neg h2, if_pos h1]
  · rw [if_neg h1]
    by_cases h2 : a = k ∧ b = i
    · rw [if_pos h2, if_pos h2]
    · rw [if_neg h2, if_neg h2, if_neg h1]
theorem u2_id {β : Type} {F : Nat → Nat → β} {k i : Nat} {v : β} (h : F k i = v) : u2 F k i v = F := by
  funext a b
  unfold u2
  split
  · rename_i q
    rw [q.1, q.2, h]
  · rfl
theorem u2_idem {β : Type} {F : Nat → Nat → β} {k i : Nat} {v w : β} : u2 (u2 F k i v) k i w = u2 F k i w := by
  funext a b
  unfold u2
  split <;> rfl
theorem qI_comm {α : Al} {k i k' i' : Nat} {v v' : Int32} (h : ¬ (k = k' ∧ i = i')) : qI (qI α k i v) k' i' v' = qI (qI α k' i' v') k i v := by
  show (_, _, _) = (_, _, _)
  rw [show u2 (aI (qI α k i v)) k' i' v' = u2 (aI (qI α k' i' v')) k i v from u2_comm h]
  rfl
theorem qI_id {α : Al} {k i : Nat} {v : Int32} (h : aI α k i = v) : qI α k i v = α := by
  show (_, _, _) = α
  rw [u2_id h]
  rfl
theorem qI_idem {α : Al} {k i : Nat} {v w : Int32} : qI (qI α k i v) k i w = qI α k i w := by
  show (_, _, _) = (_, _, _)
  rw [show u2 (aI (qI α k i v)) k i w = u2 (aI α) k i w from u2_idem]
  rfl
theorem enter_lim {α : Al} {p b : Nat} : enterF (qI α 25 p 0) p b = enterF α p b := by
  unfold enterF
  rw [qI_idem]
  rfl
theorem sz_sk {α : Al} {b w : Int32} {h n : Nat} (hs : ∀ j, j < n → dNn (aD α 22 j)) (hh : h < n) (c1 : ¬ nI h = w) (c2 : ¬ (aI α 25 h = 1 ∧ aI α 26 h = b)) : szF α b w h = szF α b w (h + 1) := by
  rw [← sz_s0 c1 c2]
  exact (dadd_0 (szF_pz hs h (by omega))).symm
/-- which pieces are on a belt -/
theorem Cd.onb {S : St} {α : Al} {nb nu nk np h b : Nat} (d : Cd S α nb nu nk np) (hinj : ∀ x i i', i < sC S x → i' < sC S x → sA S x i = sA S x i' → i = i') (hC : sC S 0 = nb) (h6 : nb ≤ 6) (hh : h < np) (hb : b < nb) : (sR S 6 h 5).map (sA S 0) = some (sA S 0 b) ↔ (aI α 25 h = 1 ∧ aI α 26 h = nI b) := by
  obtain ⟨d1, d2⟩ := d.2.2.2.2.1 h hh
  refine ⟨fun e => ?_, fun e => ?_⟩
  · by_cases q : aI α 25 h = 1
    · obtain ⟨b', g1, g2, g3, -⟩ := d1 q
      rw [g3] at e
      have : b' = b := hinj 0 b' b (by omega) (by omega) (Option.some.inj e)
      subst this
      exact ⟨q, g2⟩
    · rw [d2 q] at e
      cases e
  · obtain ⟨b', g1, g2, g3, -⟩ := d1 e.1
    have : b' = b := (nI_eq (by omega) (by omega)).mp (g2.symm.trans e.2)
    subst this
    rw [g3]
    rfl
theorem jam_eq {α : Al} {p b np : Nat} : noteF (jrF (qJ (qJ (qI (qI α 7 b (aI α 0 35 + aI α 6 b)) 25 p 5) 31 0 (aJ α 31 0 + 1)) 31 3 (aJ α 31 3 + (aI α 6 b).toInt64)) (nI p) (nI b) (nI (pcF α (nI b) np))) (nI p) 3 (nI b) = jamF α p b np := by
  unfold jamF loseF jrF
  congr 1
  refine Prod.ext ?_ (Prod.ext ?_ rfl)
  · show u2 (u2 (u2 (u2 (u2 (u2 (u2 (aI α) 7 b _) 25 p 5) 30 (4 * nn (aI α 0 38)) _) 30 (4 * nn (aI α 0 38) + 1) _) 30 (4 * nn (aI α 0 38) + 2) _) 30 (4 * nn (aI α 0 38) + 3) _) 0 38 _ = u2 (u2 (u2 (u2 (u2 (u2 (u2 (aI α) 30 (4 * nn (aI α 0 38)) _) 30 (4 * nn (aI α 0 38) + 1) _) 30 (4 * nn (aI α 0 38) + 2) _) 30 (4 * nn (aI α 0 38) + 3) _) 0 38 _) 7 b _) 25 p 5
    rw [u2_comm (k := 7) (k' := 25) (by omega)]
    rw [u2_comm (k := 7) (k' := 30) (by omega), u2_comm (k := 25) (k' := 30) (by omega)]
    rw [u2_comm (k := 7) (k' := 30) (by omega), u2_comm (k := 25) (k' := 30) (by omega)]
    rw [u2_comm (k := 7) (k' := 30) (by omega), u2_comm (k := 25) (k' := 30) (by omega)]
    rw [u2_comm (k := 7) (k' := 30) (by omega), u2_comm (k := 25) (k' := 30) (by omega)]
    rw [u2_comm (k := 7) (k' := 0) (by omega), u2_comm (k := 25) (k' := 0) (by omega)]
    rw [u2_comm (k := 25) (k' := 7) (by omega)]
    rfl
  · show u2 (u2 (aJ α) 31 0 _) 31 3 _ = u2 (u2 (aJ α) 31 3 _) 31 0 _
    rw [u2_comm (by omega)]
    rfl
theorem Jg.same {X : Cx} {k n : Nat} {S T : St} {pc : Nat} {lv : List (Nat × Value)} {st : List Value} (h : S = T) (kk : Jg X k n T pc lv st) : Jg X k n S pc lv st := h ▸ kk
theorem pc_t1 {α : Al} {b : Int32} {h : Nat} (c : aI α 25 h = 1 ∧ aI α 26 h = b) : nI (pcF α b h) + Int32.ofInt 1 = nI (pcF α b (h + 1)) := pc_s1 c
theorem pc_t0 {α : Al} {b : Int32} {h : Nat} (c : ¬ (aI α 25 h = 1 ∧ aI α 26 h = b)) : nI (pcF α b h) = nI (pcF α b (h + 1)) := by
  rw [show pcF α b (h + 1) = pcF α b h + 0 from by rw [pcF, if_neg c]]
  rfl
theorem Cd.l3e {S : St} {α : Al} {nb nu nk np : Nat} {v w : Int64} (d : Cd S α nb nu nk np) (e : v = w) : Cd (pJ S 19 0 3 v) (qJ α 31 3 w) nb nu nk np := e ▸ d.l3

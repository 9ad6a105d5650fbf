theorem Kx.tow {S T : St} {α β : Al} {nb nh nu nr nk np n n' : Nat} (h : Kx S α nb nh nu nr nk np n) (g : Sw S T) (s : Sm α β) (d : Cd T β nb nu nk np) (t : TT β n') (e : aI β 0 35 = aI α 0 35) : Kx T β nb nh nu nr nk np n' := ⟨h.1.sw g, h.2.1.sw g s, h.2.2.1.sm s, d, t, by rw [e]; exact h.2.2.2.2.2⟩
theorem restA_eq {S : St} {α : Al} {nb nu nk np : Nat} (d : Cd S α nb nu nk np) (hn : np ≤ 60) : restA S = lN (ctF α 2 np + ctF α 3 np + ctF α 4 np + ctF α 5 np) := by
  obtain ⟨-, -, -, -, -, -, -, -, -, d10, e1, e2, e3, e4⟩ := d
  have l2 := ctF_le (α := α) (s := 2) np
  have l3 := ctF_le (α := α) (s := 3) np
  have l4 := ctF_le (α := α) (s := 4) np
  unfold restA
  rw [e1, e2, e3, nI_add, nI_add, nI_l (by omega), d10 0 (by decide), d10 1 (by decide), d10 2 (by decide), Int64.add_assoc, Int64.add_assoc, ← Int64.add_assoc (aJ α 31 0), e4, lN_add]
theorem rest_all {S : St} {α : Al} {nb nu nk np n : Nat} (d : Cd S α nb nu nk np) (dn : Dn α nb nk np n) (hn : np ≤ 60) (c : 0 ≤ lg_cmp (restA S) (nI np).toInt64) : Rs α np := by
  have hs := ct_sum dn.2.1 np (Nat.le_refl _)
  rw [lg_cmp_ge, restA_eq d hn, nI_l (by omega), pk_lLE (by omega) (by omega)] at c
  exact fun j hj => ⟨ct_no (by omega) j hj, ct_no (by omega) j hj⟩
/-- what the class and the reference hold between two calls -/
def Ci (S : St) (α : Al) (nb nh nu nr nk np t : Nat) : Prop := Sh S ∧ Cs S α nb nh nu nr nk np ∧ Cf α nb nh nu nr nk np ∧ Cd S α nb nu nk np ∧ Dn α nb nk np (1020 * t) ∧ (aI α 0 35 = nI t ∧ t ≤ 10000) ∧ Oc α (1020 * t) ∧ Wt α np np
theorem Ci.k {S : St} {α : Al} {nb nh nu nr nk np t : Nat} (h : Ci S α nb nh nu nr nk np t) : Kx S α nb nh nu nr nk np (1020 * t) := ⟨h.1, h.2.1, h.2.2.1, h.2.2.2.1, h.2.2.2.2.1.2.2.2.2.2.2, t, h.2.2.2.2.2.1⟩
theorem run_inv2 {α : Al} {nb nh nu nr nk np t : Nat} (c : Cf α nb nh nu nr nk np) (d : Dn α nb nk np (1020 * t)) (ht : aI α 0 35 = nI t) (oc : Oc α (1020 * t)) (w : Wt α np np) : ∀ m, t + m ≤ 10000 → Oc (runL α m) (1020 * (t + m)) ∧ Wt (runL α m) np np ∧ Sm α (runL α m)
  | 0, _ => ⟨oc, w, Sm.rf⟩
  | m + 1, hm => by
    obtain ⟨h1, h2, h3⟩ := run_inv2 c d ht oc w m (by omega)
    obtain ⟨g1, g2, g3⟩ := runL_inv c d ht m (by omega)
    refine ⟨(h1.tenth (np := np) (by rw [g1.2.2.2.2.2.1.1]; exact nn_nI (by have := c.2.2.2.2.2.1.2; omega))).same (fun _ => rfl) (by have := c.2.2.2.2.2.1.2; omega), h2.tenth g1 g2 g3 (by omega), h3.tenth⟩

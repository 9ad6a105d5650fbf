/-! a new line: nothing told, nothing run -/
theorem nn_z : dNn 0 := (show FP.dconst0 = 0 by decide +kernel) ▸ nn_0
theorem CZ.init {T : St} {α : Al} (sh : Sh T) (hC : sC T 0 = 0 ∧ sC T 2 = 0 ∧ sC T 1 = 0 ∧ sC T 5 = 0 ∧ sC T 7 = 0 ∧ sC T 6 = 0 ∧ sC T 4 = 0 ∧ sC T 17 = 0) (hI : ∀ j, sI T 9 0 j = 0) (h3 : sI T 3 0 1 = 0 ∧ sI T 3 1 1 = 0) (h8 : sI T 8 0 1 = 0 ∧ sI T 8 0 2 = 0 ∧ sI T 8 0 3 = 0) (hJ : ∀ c, sJ T 19 0 c = 0) (hv : sJ T 9 0 0 = aJ α 0 0) (z : ∀ a, a < 36 → ∀ j, aI α a j = 0 ∧ aD α a j = 0 ∧ (¬ (a = 0 ∧ j = 0) → aJ α a j = 0)) : CZ T α 0 0 0 0 0 0 0 := by
  have zi : ∀ a j, a < 36 → aI α a j = 0 := fun a j h => (z a h j).1
  have zn : ∀ a j, a < 36 → aI α a j = nI 0 := fun a j h => (zi a j h).trans nI_0.symm
  have zj : ∀ j, aJ α 31 j = 0 := fun j => (z 31 (by decide) j).2.2 (by omega)
  have no : ∀ {p : Nat → Prop}, ∀ j, j < 0 → p j := fun j h => absurd h (Nat.not_lt_zero j)
  have nr : ∀ {p : Nat → Prop} {m q : Nat}, q = 36 ∨ q = 38 → m ≤ 2000 → ∀ j, j < m → nI j < aI α 0 q → p j := by
    intro p m q hq hm j hj h
    rw [zi 0 q (by decide)] at h
    exact absurd h (nI_pos (by omega))
  have ct : ∀ s, nI (ctF α s 0) = 0 := fun s => nI_0
  have hi : ∀ j q, sI T 9 0 j = aI α 0 q := fun j q => (hI j).trans (zi 0 q (by decide)).symm
  refine ⟨⟨sh, ⟨⟨hC.1, hC.2.1, hC.2.2.1, hC.2.2.2.1, hC.2.2.2.2.1, hC.2.2.2.2.2.1, hC.2.2.2.2.2.2.1, hC.2.2.2.2.2.2.2⟩, ⟨hv, hi _ _, hi _ _, hi _ _, hi _ _, hi _ _, hi _ _⟩, no, no, no, no, no, no⟩,
    ⟨⟨zn 0 1 (by decide), by decide⟩, ⟨zn 0 9 (by decide), by decide⟩, ⟨zn 0 13 (by decide), by decide⟩, ⟨zn 0 16 (by decide), by decide⟩, ⟨zn 0 20 (by decide), by decide⟩, ⟨zn 0 26 (by decide), by decide⟩, no, no, no, no, no⟩,
    ⟨hi _ _, no, no, no, no, no, ⟨h3.1.trans (zi 0 36 (by decide)).symm, h3.2.trans (zi 0 38 (by decide)).symm⟩, nr (Or.inl rfl) (by decide), nr (Or.inr rfl) (by decide), fun c _ => (hJ c).trans (zj c).symm, ⟨h8.1.trans (ct 2).symm, h8.2.1.trans (ct 3).symm, h8.2.2.trans (ct 4).symm, by rw [zj, zj, zj]; show (0 : Int64) + 0 + 0 = lN 0; decide +kernel⟩⟩,
    ⟨⟨0, zn 0 35 (by decide), by decide⟩, no, no, ⟨0, zn 0 38 (by decide), Nat.zero_le _⟩, fun k _ => by rw [(z 12 (by decide) k).2.1]; exact nn_z, no, ⟨0, zn 0 36 (by decide), Nat.zero_le _⟩⟩,
    ⟨zn 0 35 (by decide), by decide⟩, fun a => ⟨0, zn 32 a (by decide), Nat.zero_le _⟩, Wt.z⟩,
    fun _ => ⟨fun b => zi 7 b (by decide), fun u => (z 12 (by decide) u).2.1, fun k => ⟨zi 19 k (by decide), zi 20 k (by decide)⟩, fun a => ⟨zi 32 a (by decide), zi 33 a (by decide), zi 34 a (by decide), zi 35 a (by decide)⟩⟩, fun b _ => ⟨zi 4 b (by decide), (z 5 (by decide) b).2.1, zi 6 b (by decide)⟩⟩
theorem Cg.tr {S T U : St} (h : Cg S T) (g : Cg T U) : Cg S U := fun k hk => ⟨(g k hk).1.trans (h k hk).1, fun i => ⟨((g k hk).2 i).1.trans ((h k hk).2 i).1, ((g k hk).2 i).2.1.trans ((h k hk).2 i).2.1, fun j => ⟨(((g k hk).2 i).2.2 j).1.trans (((h k hk).2 i).2.2 j).1, (((g k hk).2 i).2.2 j).2.1.trans (((h k hk).2 i).2.2 j).2.1, (((g k hk).2 i).2.2 j).2.2.1.trans (((h k hk).2 i).2.2 j).2.2.1, (((g k hk).2 i).2.2 j).2.2.2.trans (((h k hk).2 i).2.2 j).2.2.2⟩⟩⟩
theorem Cg.n10 {S : St} {a z : Nat} : Cg S (nO S 10 a z) := by
  intro k hk
  have h : k ≠ 10 := fun e => by subst e; cases hk
  exact ⟨sC_nOo h, fun i => ⟨nO_Ao h, nO_No h, fun j => ⟨nO_Io h, nO_Jo h, nO_Do h, nO_Ro h⟩⟩⟩
/-- no cell at all -/
def St0 : St := (fun _ => 0, fun _ _ => 0, fun _ _ => 0, fun _ _ _ => 0, fun _ _ _ => 0, fun _ _ _ => 0, fun _ _ _ => none)
theorem Wd.zero {D : va_G} {E : Nat → ClassId} {sz : Nat} {H : Heap} : Wd D E sz St0 H := ⟨[], fun _ => .inr (0, []), ⟨fun k i h => absurd h (Nat.not_lt_zero i), fun k i k' i' h => absurd h (Nat.not_lt_zero i), fun k i j r h => absurd h (Nat.not_lt_zero i)⟩, fun k q h => by simp [va_pl] at h, ⟨fun i j p q h => by simp [va_pl] at h, fun k q h => by simp [va_pl] at h⟩⟩

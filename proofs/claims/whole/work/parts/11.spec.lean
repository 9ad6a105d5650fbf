/-! THE ABSTRACT STATE: the reference's own numbers. Its place 0: the reference's fields (1 belts, 9 heads, 13 bunkers, 16 robots, 20 pickers, 26 pieces, 35 now, 36 total, 38 jams; the long 0: the seed); its places 1 .. 35: the reference's arrays in their order (kind 20 is place 1) -/
abbrev Al : Type := (Nat → Nat → Int32) × (Nat → Nat → Int64) × (Nat → Nat → UInt64)
def aI (α : Al) : Nat → Nat → Int32 := α.1
def aJ (α : Al) : Nat → Nat → Int64 := α.2.1
def aD (α : Al) : Nat → Nat → UInt64 := α.2.2
def qI (α : Al) (a j : Nat) (v : Int32) : Al := (u2 (aI α) a j v, aJ α, aD α)
def qJ (α : Al) (a j : Nat) (v : Int64) : Al := (aI α, u2 (aJ α) a j v, aD α)
def qD (α : Al) (a j : Nat) (v : UInt64) : Al := (aI α, aJ α, u2 (aD α) a j v)
def mkb (k : Nat) : Bool := Nat.ble 20 k || Nat.beq k 10
def km (k : Nat) : Nat := k - 19
def mk (a : Nat) : Nat := match a with
  | 0 => 10
  | a + 1 => a + 20
def rd (S : St) : Al := (fun a j => sI S (mk a) 0 j, fun a j => sJ S (mk a) 0 j, fun a j => sD S (mk a) 0 j)
def wr (S : St) (α : Al) : St := (sC S, sA S, sN S, fun k i j => bif mkb k && Nat.beq i 0 then aI α (km k) j else sI S k i j, fun k i j => bif mkb k && Nat.beq i 0 then aJ α (km k) j else sJ S k i j, fun k i j => bif mkb k && Nat.beq i 0 then aD α (km k) j else sD S k i j, sR S)
theorem mkb_mk (a : Nat) : mkb (mk a) = true := by
  cases a with
  | zero => rfl
  | succ a => unfold mkb mk; simp [Nat.ble_eq]
theorem km_mk (a : Nat) : km (mk a) = a := by
  cases a with
  | zero => rfl
  | succ a => unfold km mk; simp
theorem mk_km {k : Nat} (h : mkb k = true) : mk (km k) = k := by
  unfold mkb at h
  rcases Bool.or_eq_true _ _ |>.mp h with h | h
  · have h : 20 ≤ k := Nat.le_of_ble_eq_true h
    obtain ⟨d, rfl⟩ := Nat.exists_eq_add_of_le h
    have : km (20 + d) = d + 1 := by unfold km; omega
    rw [this]
    show d + 20 = 20 + d
    omega
  · have h : k = 10 := Nat.eq_of_beq_eq_true h
    subst h
    rfl
theorem wr_rd (S : St) : wr S (rd S) = S := by
  obtain ⟨C, A, N, I, J, D, R⟩ := S
  have h : ∀ {β : Type} (F : Nat → Nat → Nat → β), (fun k i j => bif mkb k && Nat.beq i 0 then F (mk (km k)) 0 j else F k i j) = F := by
    intro β F
    funext k i j
    by_cases hk : mkb k = true
    · rw [mk_km hk, hk]
      cases i with
      | zero => rfl
      | succ i => rfl
    · rw [Bool.not_eq_true] at hk
      rw [hk]
      rfl
  show (C, A, N, (fun k i j => bif mkb k && Nat.beq i 0 then I (mk (km k)) 0 j else I k i j), (fun k i j => bif mkb k && Nat.beq i 0 then J (mk (km k)) 0 j else J k i j), (fun k i j => bif mkb k && Nat.beq i 0 then D (mk (km k)) 0 j else D k i j), R) = (C, A, N, I, J, D, R)
  rw [h I, h J, h D]
theorem rd_wr (S : St) (α : Al) : rd (wr S α) = α := by
  obtain ⟨I, J, D⟩ := α
  have h : ∀ {β : Type} (F : Nat → Nat → β) (G : Nat → Nat → Nat → β), (fun a j => bif mkb (mk a) && Nat.beq 0 0 then F (km (mk a)) j else G (mk a) 0 j) = F := by
    intro β F G
    funext a j
    rw [mkb_mk, km_mk]
    rfl
  show ((fun a j => bif mkb (mk a) && Nat.beq 0 0 then I (km (mk a)) j else sI S (mk a) 0 j), (fun a j => bif mkb (mk a) && Nat.beq 0 0 then J (km (mk a)) j else sJ S (mk a) 0 j), (fun a j => bif mkb (mk a) && Nat.beq 0 0 then D (km (mk a)) j else sD S (mk a) 0 j)) = (I, J, D)
  rw [h I, h J, h D]
theorem wr_wr (S : St) (α β : Al) : wr (wr S α) β = wr S β := by
  have h : ∀ {γ : Type} (F G : Nat → Nat → γ) (Z : Nat → Nat → Nat → γ), (fun k i j => bif mkb k && Nat.beq i 0 then F (km k) j else bif mkb k && Nat.beq i 0 then G (km k) j else Z k i j) = (fun k i j => bif mkb k && Nat.beq i 0 then F (km k) j else Z k i j) := by
    intro γ F G Z
    funext k i j
    cases mkb k && Nat.beq i 0 <;> rfl
  show (sC S, sA S, sN S, (fun k i j => bif mkb k && Nat.beq i 0 then aI β (km k) j else bif mkb k && Nat.beq i 0 then aI α (km k) j else sI S k i j), (fun k i j => bif mkb k && Nat.beq i 0 then aJ β (km k) j else bif mkb k && Nat.beq i 0 then aJ α (km k) j else sJ S k i j), (fun k i j => bif mkb k && Nat.beq i 0 then aD β (km k) j else bif mkb k && Nat.beq i 0 then aD α (km k) j else sD S k i j), sR S) = _
  rw [h, h, h]
  rfl
theorem wr_u3 {β : Type} {F : Nat → Nat → β} {Z : Nat → Nat → Nat → β} {x j : Nat} {v : β} (hx : mkb x = true) : u3 (fun k i j => bif mkb k && Nat.beq i 0 then F (km k) j else Z k i j) x 0 j v = fun k i j_1 => bif mkb k && Nat.beq i 0 then u2 F (km x) j v (km k) j_1 else Z k i j_1 := by
  funext k i z
  unfold u3 u2
  by_cases hk : mkb k = true
  · have hkk : km k = km x ↔ k = x := ⟨fun e => by rw [← mk_km hk, ← mk_km hx, e], fun e => by rw [e]⟩
    cases i with
    | zero =>
      simp only [hk, Nat.beq_refl, Bool.and_self, cond_true, true_and, and_true, hkk, Bool.true_and]
    | succ i =>
      simp [hk, Nat.beq]
  · have hne : k ≠ x := fun e => hk (e ▸ hx)
    rw [Bool.not_eq_true] at hk
    simp [hk, hne]
theorem wr_pI {S : St} {α : Al} {x j : Nat} {v : Int32} (hx : mkb x = true) : pI (wr S α) x 0 j v = wr S (qI α (km x) j v) := by
  show (sC S, sA S, sN S, u3 (fun k i j => bif mkb k && Nat.beq i 0 then aI α (km k) j else sI S k i j) x 0 j v, _) = _
  rw [wr_u3 hx]
  rfl
theorem wr_pJ {S : St} {α : Al} {x j : Nat} {v : Int64} (hx : mkb x = true) : pJ (wr S α) x 0 j v = wr S (qJ α (km x) j v) := by
  show (sC S, sA S, sN S, _, u3 (fun k i j => bif mkb k && Nat.beq i 0 then aJ α (km k) j else sJ S k i j) x 0 j v, _) = _
  rw [wr_u3 hx]
  rfl
theorem wr_pD {S : St} {α : Al} {x j : Nat} {v : UInt64} (hx : mkb x = true) : pD (wr S α) x 0 j v = wr S (qD α (km x) j v) := by
  show (sC S, sA S, sN S, _, _, u3 (fun k i j => bif mkb k && Nat.beq i 0 then aD α (km k) j else sD S k i j) x 0 j v, _) = _
  rw [wr_u3 hx]
  rfl
/-- the lengths of the reference's arrays -/
def ln (k : Nat) : Nat := match k with
  | 20 => 6
  | 21 => 6
  | 22 => 6
  | 23 => 6
  | 24 => 6
  | 25 => 6
  | 26 => 6
  | 27 => 8
  | 28 => 8
  | 29 => 8
  | 30 => 4
  | 31 => 4
  | 32 => 4
  | 33 => 4
  | 34 => 4
  | 35 => 4
  | 36 => 4
  | 37 => 4
  | 38 => 4
  | 39 => 4
  | 40 => 60
  | 41 => 60
  | 42 => 60
  | 43 => 60
  | 44 => 60
  | 45 => 60
  | 46 => 60
  | 47 => 60
  | 48 => 8000
  | 49 => 240
  | 50 => 4
  | 51 => 30
  | 52 => 30
  | 53 => 30
  | 54 => 30
  | _ => 0
/-- the reference's cells stand -/
def MSh (S : St) : Prop := 0 < sC S 10 ∧ (∀ k, 20 ≤ k → k < 55 → 0 < sC S k) ∧ (∀ j, kn_t 10 j = 3 → sR S 10 0 j = some 0) ∧ ∀ k, 20 ≤ k → k < 55 → sN S k 0 = ln k
def MK (x c t L : Nat) : Prop := (20 ≤ x ∧ x < 55) ∧ kn_a x = true ∧ kn_c x = c ∧ kn_t x 0 = t ∧ ln x = L ∧ L < 2 ^ 31 ∧ mkb x = true
section MR
variable {X : Cx} {k n : Nat} {S : St} {α : Al} {pc q : Nat} {lv : List (Nat × Value)} {st : List Value} {cc : ByteArray} {own : String} {x j ix L a : Nat} {w : Int32}
theorem m_getI (hX : Ok X cc own) (hm : MSh S) (hd : decode cc pc = .ok (.getfield ix, 3)) (hq : pc + 3 = q) (hf : Cond.fieldLink own ix (TX10 j).1 (TX10 j).2.1 (TX10 j).2.2.1 ∈ BIG) (hj : j < 45) (ht : kn_t 10 j = 0) (kk : Jg X k n (wr S α) q lv (.int (aI α 0 j) :: st)) : Jg X k n (wr S α) pc lv (.ref (sA S 10 0) :: st) :=
  j_getI (x := 10) hX CK_10 hd hq hf rfl hm.1 rfl rfl hj (Or.inl ht) kk
theorem m_getJ (hX : Ok X cc own) (hm : MSh S) (hd : decode cc pc = .ok (.getfield ix, 3)) (hq : pc + 3 = q) (hf : Cond.fieldLink own ix (TX10 j).1 (TX10 j).2.1 (TX10 j).2.2.1 ∈ BIG) (hj : j < 45) (ht : kn_t 10 j = 1) (kk : Jg X k n (wr S α) q lv (.long (aJ α 0 j) :: st)) : Jg X k n (wr S α) pc lv (.ref (sA S 10 0) :: st) :=
  j_getJ (x := 10) hX CK_10 hd hq hf rfl hm.1 rfl rfl hj ht kk
theorem m_getA (hX : Ok X cc own) (hm : MSh S) (hd : decode cc pc = .ok (.getfield ix, 3)) (hq : pc + 3 = q) (hf : Cond.fieldLink own ix (TX10 j).1 (TX10 j).2.1 (TX10 j).2.2.1 ∈ BIG) (hj : j < 45) (ht : kn_t 10 j = 3) (hr : kn_r 10 j = x) (kk : Jg X k n (wr S α) q lv (.ref (sA S x 0) :: st)) : Jg X k n (wr S α) pc lv (.ref (sA S 10 0) :: st) :=
  j_getRs (x := 10) (r := 0) hX CK_10 hd hq hf rfl hm.1 rfl rfl hj ht (hm.2.2.1 j ht) (by rw [hr]; exact kk)
theorem m_putI {v : Int32} (hX : Ok X cc own) (hm : MSh S) (hd : decode cc pc = .ok (.putfield ix, 3)) (hq : pc + 3 = q) (hf : Cond.fieldLink own ix (TX10 j).1 (TX10 j).2.1 (TX10 j).2.2.1 ∈ BIG) (hj : j < 45) (ht : kn_t 10 j = 0) (hfin : (TX10 j).2.2.2 = false) (hd2 : parseFieldDescriptor (TX10 j).2.2.1 = some .int) (kk : Jg X k n (wr S (qI α 0 j v)) q lv st) : Jg X k n (wr S α) pc lv (.int v :: .ref (sA S 10 0) :: st) :=
  j_putI (x := 10) hX CK_10 hd hq hf rfl hm.1 rfl rfl hj hfin hd2 ht (by rw [wr_pI rfl]; exact kk)
theorem wr_sI (hx : mkb x = true) : sI (wr S α) x 0 j = aI α (km x) j := by
  show (bif mkb x && Nat.beq 0 0 then aI α (km x) j else sI S x 0 j) = _
  rw [hx]
  rfl
theorem wr_sJ (hx : mkb x = true) : sJ (wr S α) x 0 j = aJ α (km x) j := by
  show (bif mkb x && Nat.beq 0 0 then aJ α (km x) j else sJ S x 0 j) = _
  rw [hx]
  rfl
theorem wr_sD (hx : mkb x = true) : sD (wr S α) x 0 j = aD α (km x) j := by
  show (bif mkb x && Nat.beq 0 0 then aD α (km x) j else sD S x 0 j) = _
  rw [hx]
  rfl
theorem m_iald (hX : Ok X cc own) (hm : MSh S) (hx : MK x 0 0 L) (hd : decode cc pc = .ok (.iaload, 1)) (hq : pc + 1 = q) (ha : km x = a) (hw : w = nI j) (hj : j < L) (kk : Jg X k n (wr S α) q lv (.int (aI α a j) :: st)) : Jg X k n (wr S α) pc lv (.int w :: .ref (sA S x 0) :: st) := by
  obtain ⟨⟨h1, h2⟩, h3, h4, h5, h6, h7, h8⟩ := hx
  have hN : sN (wr S α) x 0 = L := (hm.2.2.2 x h1 h2).trans h6
  refine j_iald (x := x) (i := 0) hX hd hq rfl (hm.2.1 x h1 h2) h3 h4 h5 hw (by rw [hN]; exact hj) (by rw [hN]; exact h7) ?_
  rw [wr_sI h8, ha]
  exact kk
theorem m_zald (hX : Ok X cc own) (hm : MSh S) (hx : MK x 3 4 L) (hd : decode cc pc = .ok (.baload, 1)) (hq : pc + 1 = q) (ha : km x = a) (hw : w = nI j) (hj : j < L) (kk : Jg X k n (wr S α) q lv (.int (aI α a j) :: st)) : Jg X k n (wr S α) pc lv (.int w :: .ref (sA S x 0) :: st) := by
  obtain ⟨⟨h1, h2⟩, h3, h4, h5, h6, h7, h8⟩ := hx
  have hN : sN (wr S α) x 0 = L := (hm.2.2.2 x h1 h2).trans h6
  refine j_zald (x := x) (i := 0) hX hd hq rfl (hm.2.1 x h1 h2) h3 h4 h5 hw (by rw [hN]; exact hj) (by rw [hN]; exact h7) ?_
  rw [wr_sI h8, ha]
  exact kk
theorem m_lald (hX : Ok X cc own) (hm : MSh S) (hx : MK x 1 1 L) (hd : decode cc pc = .ok (.laload, 1)) (hq : pc + 1 = q) (ha : km x = a) (hw : w = nI j) (hj : j < L) (kk : Jg X k n (wr S α) q lv (.long (aJ α a j) :: st)) : Jg X k n (wr S α) pc lv (.int w :: .ref (sA S x 0) :: st) := by
  obtain ⟨⟨h1, h2⟩, h3, h4, h5, h6, h7, h8⟩ := hx
  have hN : sN (wr S α) x 0 = L := (hm.2.2.2 x h1 h2).trans h6
  refine j_lald (x := x) (i := 0) hX hd hq rfl (hm.2.1 x h1 h2) h3 h4 h5 hw (by rw [hN]; exact hj) (by rw [hN]; exact h7) ?_
  rw [wr_sJ h8, ha]
  exact kk
theorem m_dald (hX : Ok X cc own) (hm : MSh S) (hx : MK x 2 2 L) (hd : decode cc pc = .ok (.daload, 1)) (hq : pc + 1 = q) (ha : km x = a) (hw : w = nI j) (hj : j < L) (kk : Jg X k n (wr S α) q lv (.double (aD α a j) :: st)) : Jg X k n (wr S α) pc lv (.int w :: .ref (sA S x 0) :: st) := by
  obtain ⟨⟨h1, h2⟩, h3, h4, h5, h6, h7, h8⟩ := hx
  have hN : sN (wr S α) x 0 = L := (hm.2.2.2 x h1 h2).trans h6
  refine j_dald (x := x) (i := 0) hX hd hq rfl (hm.2.1 x h1 h2) h3 h4 h5 hw (by rw [hN]; exact hj) (by rw [hN]; exact h7) ?_
  rw [wr_sD h8, ha]
  exact kk
theorem m_iast {v : Int32} (hX : Ok X cc own) (hm : MSh S) (hx : MK x 0 0 L) (hd : decode cc pc = .ok (.iastore, 1)) (hq : pc + 1 = q) (ha : km x = a) (hw : w = nI j) (hj : j < L) (kk : Jg X k n (wr S (qI α a j v)) q lv st) : Jg X k n (wr S α) pc lv (.int v :: .int w :: .ref (sA S x 0) :: st) := by
  obtain ⟨⟨h1, h2⟩, h3, h4, h5, h6, h7, h8⟩ := hx
  have hN : sN (wr S α) x 0 = L := (hm.2.2.2 x h1 h2).trans h6
  refine j_iast (x := x) (i := 0) hX hd hq rfl (hm.2.1 x h1 h2) h3 h4 h5 hw (by rw [hN]; exact hj) (by rw [hN]; exact h7) ?_
  rw [wr_pI h8, ha]
  exact kk
theorem m_zast {v : Int32} (hX : Ok X cc own) (hm : MSh S) (hx : MK x 3 4 L) (hd : decode cc pc = .ok (.bastore, 1)) (hq : pc + 1 = q) (ha : km x = a) (hb : v = 0 ∨ v = 1) (hw : w = nI j) (hj : j < L) (kk : Jg X k n (wr S (qI α a j v)) q lv st) : Jg X k n (wr S α) pc lv (.int v :: .int w :: .ref (sA S x 0) :: st) := by
  obtain ⟨⟨h1, h2⟩, h3, h4, h5, h6, h7, h8⟩ := hx
  have hN : sN (wr S α) x 0 = L := (hm.2.2.2 x h1 h2).trans h6
  refine j_zast (x := x) (i := 0) hX hd hq rfl (hm.2.1 x h1 h2) h3 h4 h5 hb hw (by rw [hN]; exact hj) (by rw [hN]; exact h7) ?_
  rw [wr_pI h8, ha]
  exact kk
theorem m_last {v : Int64} (hX : Ok X cc own) (hm : MSh S) (hx : MK x 1 1 L) (hd : decode cc pc = .ok (.lastore, 1)) (hq : pc + 1 = q) (ha : km x = a) (hw : w = nI j) (hj : j < L) (kk : Jg X k n (wr S (qJ α a j v)) q lv st) : Jg X k n (wr S α) pc lv (.long v :: .int w :: .ref (sA S x 0) :: st) := by
  obtain ⟨⟨h1, h2⟩, h3, h4, h5, h6, h7, h8⟩ := hx
  have hN : sN (wr S α) x 0 = L := (hm.2.2.2 x h1 h2).trans h6
  refine j_last (x := x) (i := 0) hX hd hq rfl (hm.2.1 x h1 h2) h3 h4 h5 hw (by rw [hN]; exact hj) (by rw [hN]; exact h7) ?_
  rw [wr_pJ h8, ha]
  exact kk
theorem m_dast {v : UInt64} (hX : Ok X cc own) (hm : MSh S) (hx : MK x 2 2 L) (hd : decode cc pc = .ok (.dastore, 1)) (hq : pc + 1 = q) (ha : km x = a) (hw : w = nI j) (hj : j < L) (kk : Jg X k n (wr S (qD α a j v)) q lv st) : Jg X k n (wr S α) pc lv (.double v :: .int w :: .ref (sA S x 0) :: st) := by
  obtain ⟨⟨h1, h2⟩, h3, h4, h5, h6, h7, h8⟩ := hx
  have hN : sN (wr S α) x 0 = L := (hm.2.2.2 x h1 h2).trans h6
  refine j_dast (x := x) (i := 0) hX hd hq rfl (hm.2.1 x h1 h2) h3 h4 h5 hw (by rw [hN]; exact hj) (by rw [hN]; exact h7) ?_
  rw [wr_pD h8, ha]
  exact kk
end MR
theorem MK_20 : MK 20 0 0 6 := ⟨⟨by decide, by decide⟩, rfl, rfl, rfl, rfl, by decide, rfl⟩
theorem MK_21 : MK 21 2 2 6 := ⟨⟨by decide, by decide⟩, rfl, rfl, rfl, rfl, by decide, rfl⟩
theorem MK_22 : MK 22 0 0 6 := ⟨⟨by decide, by decide⟩, rfl, rfl, rfl, rfl, by decide, rfl⟩
theorem MK_23 : MK 23 3 4 6 := ⟨⟨by decide, by decide⟩, rfl, rfl, rfl, rfl, by decide, rfl⟩
theorem MK_24 : MK 24 2 2 6 := ⟨⟨by decide, by decide⟩, rfl, rfl, rfl, rfl, by decide, rfl⟩
theorem MK_25 : MK 25 0 0 6 := ⟨⟨by decide, by decide⟩, rfl, rfl, rfl, rfl, by decide, rfl⟩
theorem MK_26 : MK 26 0 0 6 := ⟨⟨by decide, by decide⟩, rfl, rfl, rfl, rfl, by decide, rfl⟩
theorem MK_27 : MK 27 0 0 8 := ⟨⟨by decide, by decide⟩, rfl, rfl, rfl, rfl, by decide, rfl⟩
theorem MK_28 : MK 28 0 0 8 := ⟨⟨by decide, by decide⟩, rfl, rfl, rfl, rfl, by decide, rfl⟩
theorem MK_29 : MK 29 2 2 8 := ⟨⟨by decide, by decide⟩, rfl, rfl, rfl, rfl, by decide, rfl⟩
theorem MK_30 : MK 30 2 2 4 := ⟨⟨by decide, by decide⟩, rfl, rfl, rfl, rfl, by decide, rfl⟩
theorem MK_31 : MK 31 2 2 4 := ⟨⟨by decide, by decide⟩, rfl, rfl, rfl, rfl, by decide, rfl⟩
theorem MK_32 : MK 32 0 0 4 := ⟨⟨by decide, by decide⟩, rfl, rfl, rfl, rfl, by decide, rfl⟩
theorem MK_33 : MK 33 2 2 4 := ⟨⟨by decide, by decide⟩, rfl, rfl, rfl, rfl, by decide, rfl⟩
theorem MK_34 : MK 34 2 2 4 := ⟨⟨by decide, by decide⟩, rfl, rfl, rfl, rfl, by decide, rfl⟩
theorem MK_35 : MK 35 0 0 4 := ⟨⟨by decide, by decide⟩, rfl, rfl, rfl, rfl, by decide, rfl⟩
theorem MK_36 : MK 36 2 2 4 := ⟨⟨by decide, by decide⟩, rfl, rfl, rfl, rfl, by decide, rfl⟩
theorem MK_37 : MK 37 2 2 4 := ⟨⟨by decide, by decide⟩, rfl, rfl, rfl, rfl, by decide, rfl⟩
theorem MK_38 : MK 38 0 0 4 := ⟨⟨by decide, by decide⟩, rfl, rfl, rfl, rfl, by decide, rfl⟩
theorem MK_39 : MK 39 0 0 4 := ⟨⟨by decide, by decide⟩, rfl, rfl, rfl, rfl, by decide, rfl⟩
theorem MK_40 : MK 40 0 0 60 := ⟨⟨by decide, by decide⟩, rfl, rfl, rfl, rfl, by decide, rfl⟩
theorem MK_41 : MK 41 2 2 60 := ⟨⟨by decide, by decide⟩, rfl, rfl, rfl, rfl, by decide, rfl⟩
theorem MK_42 : MK 42 0 0 60 := ⟨⟨by decide, by decide⟩, rfl, rfl, rfl, rfl, by decide, rfl⟩
theorem MK_43 : MK 43 0 0 60 := ⟨⟨by decide, by decide⟩, rfl, rfl, rfl, rfl, by decide, rfl⟩
theorem MK_44 : MK 44 0 0 60 := ⟨⟨by decide, by decide⟩, rfl, rfl, rfl, rfl, by decide, rfl⟩
theorem MK_45 : MK 45 0 0 60 := ⟨⟨by decide, by decide⟩, rfl, rfl, rfl, rfl, by decide, rfl⟩
theorem MK_46 : MK 46 0 0 60 := ⟨⟨by decide, by decide⟩, rfl, rfl, rfl, rfl, by decide, rfl⟩
theorem MK_47 : MK 47 3 4 60 := ⟨⟨by decide, by decide⟩, rfl, rfl, rfl, rfl, by decide, rfl⟩
theorem MK_48 : MK 48 0 0 8000 := ⟨⟨by decide, by decide⟩, rfl, rfl, rfl, rfl, by decide, rfl⟩
theorem MK_49 : MK 49 0 0 240 := ⟨⟨by decide, by decide⟩, rfl, rfl, rfl, rfl, by decide, rfl⟩
theorem MK_50 : MK 50 1 1 4 := ⟨⟨by decide, by decide⟩, rfl, rfl, rfl, rfl, by decide, rfl⟩
theorem MK_51 : MK 51 0 0 30 := ⟨⟨by decide, by decide⟩, rfl, rfl, rfl, rfl, by decide, rfl⟩
theorem MK_52 : MK 52 0 0 30 := ⟨⟨by decide, by decide⟩, rfl, rfl, rfl, rfl, by decide, rfl⟩
theorem MK_53 : MK 53 0 0 30 := ⟨⟨by decide, by decide⟩, rfl, rfl, rfl, rfl, by decide, rfl⟩
theorem MK_54 : MK 54 0 0 30 := ⟨⟨by decide, by decide⟩, rfl, rfl, rfl, rfl, by decide, rfl⟩

section SF
variable {X : Cx} {k n : Nat} {S : St} {pc q : Nat} {lv : List (Nat × Value)} {st : List Value} {cc : ByteArray} {own : String} {C : String} {T : u_T} {N a x i j ix : Nat} {ty : Nat → FieldType}
/-- a final field, in its class's own constructor -/
theorem j_putF {S' : St} {v : Value} {fty : FieldType} (hX : Ok X cc own) (hI : inX X) (hK : CK (kn_c x) C T N ty) (hd : decode cc pc = .ok (.putfield ix, 3)) (hq : pc + 3 = q) (hf : Cond.fieldLink own ix (T j).1 (T j).2.1 (T j).2.2.1 ∈ BIG) (ha : a = sA S x i) (hi : i < sC S x) (hx : kn_a x = false) (hN : kn_n x = N) (hj : j < N) (hfin : (T j).2.2.2 = true) (hdecl : (T j).1 = own) (hd2 : parseFieldDescriptor (T j).2.2.1 = some fty) (hn : narrow fty v = v) (hfit : fits fty v = true)
    (hC : sC S' = sC S) (hA : sA S' = sA S) (ho : ∀ E a b, ¬ (a = x ∧ b = i) → sE E S' a b = sE E S a b) (hv : sV S' x i j = v) (hz : ∀ z, z ≠ j → sV S' x i z = sV S x i z) (hR : ∀ E L f, Rp E S L f → ∀ k i j r, i < sC S k → sR S' k i j = some r → r < sC S (kn_r k j)) (kk : Jg X k n S' q lv st) : Jg X k n S pc lv (v :: .ref a :: st) := by
  obtain ⟨p, l, e, R, s, m, args, below, meth, c, Q, D, E, sz, nL⟩ := X
  subst hq
  subst ha
  intro ls H locs hl hW hS
  obtain ⟨L, f, hR0, hP, hD⟩ := hW
  obtain ⟨h1, h2⟩ := hR0.1 x i hi
  obtain ⟨q0, hq0⟩ := va_pl_get (X := []) (f := f) h1
  have hq1 := hq0
  have he : sE E S x i = .inr (kn_c x, (List.range N).map (sV S x i)) := by unfold sE; rw [hx, hN]; rfl
  rw [h2, he] at hq0
  refine va_putF hX.1 hX.2.1 hX.2.2.2.2.1 hK.2.1 ty hK.2.2.1 hK.2.2.2 hX.2.2.2.1 hX.2.2.2.2.2.1.1 hP hD hS q0 hq0 hK.1 j hj (hX.2.2.2.2.1 _ hf) (fun _ h => h) hfin hI hdecl hd2 hn hfit (by simpa using hj) hd (fun H1 locs1 hP1 hD1 hS1 => kk ls H1 locs1 hl ⟨L, va_up f (sA S x i) (.inr (kn_c x, ((List.range N).map (sV S x i)).set j v)), ?_, ?_, ?_⟩ hS1)
  · refine hR0.upd hi hC hA (ho E) ?_ (hR E L f hR0)
    unfold sE
    rw [hx, hN, rng_set hv hz]
    rfl
  · rw [va_pl_set hD h1 hq1] at hP1
    exact hP1
  · rw [va_pl_set hD h1 hq1] at hD1
    exact hD1
theorem j_putFI {v : Int32} (hX : Ok X cc own) (hI : inX X) (hK : CK (kn_c x) C T N ty) (hd : decode cc pc = .ok (.putfield ix, 3)) (hq : pc + 3 = q) (hf : Cond.fieldLink own ix (T j).1 (T j).2.1 (T j).2.2.1 ∈ BIG) (ha : a = sA S x i) (hi : i < sC S x) (hx : kn_a x = false) (hN : kn_n x = N) (hj : j < N) (hfin : (T j).2.2.2 = true) (hdecl : (T j).1 = own) (hd2 : parseFieldDescriptor (T j).2.2.1 = some .int) (ht : kn_t x j = 0) (kk : Jg X k n (pI S x i j v) q lv st) : Jg X k n S pc lv (.int v :: .ref a :: st) :=
  j_putF (S' := pI S x i j v) hX hI hK hd hq hf ha hi hx hN hj hfin hdecl hd2 rfl rfl rfl rfl (fun _ _ _ h => sE_otherI h) (sV_I (Or.inl ht)) (fun _ h => sV_neI h) (fun _ _ _ h => h.2.2) kk
theorem j_putFJ {v : Int64} (hX : Ok X cc own) (hI : inX X) (hK : CK (kn_c x) C T N ty) (hd : decode cc pc = .ok (.putfield ix, 3)) (hq : pc + 3 = q) (hf : Cond.fieldLink own ix (T j).1 (T j).2.1 (T j).2.2.1 ∈ BIG) (ha : a = sA S x i) (hi : i < sC S x) (hx : kn_a x = false) (hN : kn_n x = N) (hj : j < N) (hfin : (T j).2.2.2 = true) (hdecl : (T j).1 = own) (hd2 : parseFieldDescriptor (T j).2.2.1 = some .long) (ht : kn_t x j = 1) (kk : Jg X k n (pJ S x i j v) q lv st) : Jg X k n S pc lv (.long v :: .ref a :: st) :=
  j_putF (S' := pJ S x i j v) hX hI hK hd hq hf ha hi hx hN hj hfin hdecl hd2 rfl rfl rfl rfl (fun _ _ _ h => sE_otherJ h) (sV_J ht) (fun _ h => sV_neJ h) (fun _ _ _ h => h.2.2) kk
theorem j_putFD {v : UInt64} (hX : Ok X cc own) (hI : inX X) (hK : CK (kn_c x) C T N ty) (hd : decode cc pc = .ok (.putfield ix, 3)) (hq : pc + 3 = q) (hf : Cond.fieldLink own ix (T j).1 (T j).2.1 (T j).2.2.1 ∈ BIG) (ha : a = sA S x i) (hi : i < sC S x) (hx : kn_a x = false) (hN : kn_n x = N) (hj : j < N) (hfin : (T j).2.2.2 = true) (hdecl : (T j).1 = own) (hd2 : parseFieldDescriptor (T j).2.2.1 = some .double) (ht : kn_t x j = 2) (kk : Jg X k n (pD S x i j v) q lv st) : Jg X k n S pc lv (.double v :: .ref a :: st) :=
  j_putF (S' := pD S x i j v) hX hI hK hd hq hf ha hi hx hN hj hfin hdecl hd2 rfl rfl rfl rfl (fun _ _ _ h => sE_otherD h) (sV_D ht) (fun _ h => sV_neD h) (fun _ _ _ h => h.2.2) kk
theorem j_putFR {r b : Nat} {fty : FieldType} (hX : Ok X cc own) (hI : inX X) (hK : CK (kn_c x) C T N ty) (hd : decode cc pc = .ok (.putfield ix, 3)) (hq : pc + 3 = q) (hf : Cond.fieldLink own ix (T j).1 (T j).2.1 (T j).2.2.1 ∈ BIG) (ha : a = sA S x i) (hi : i < sC S x) (hx : kn_a x = false) (hN : kn_n x = N) (hj : j < N) (hfin : (T j).2.2.2 = true) (hdecl : (T j).1 = own) (hd2 : parseFieldDescriptor (T j).2.2.1 = some fty) (hn : narrow fty (.ref b) = .ref b) (hft : fits fty (.ref b) = true) (ht : kn_t x j = 3) (hw : b = sA S (kn_r x j) r) (hv : r < sC S (kn_r x j)) (kk : Jg X k n (pR S x i j (some r)) q lv st) : Jg X k n S pc lv (.ref b :: .ref a :: st) :=
  j_putF (S' := pR S x i j (some r)) hX hI hK hd hq hf ha hi hx hN hj hfin hdecl hd2 hn hft rfl rfl (fun _ _ _ h => sE_otherR h) (by rw [sV_R ht, hw]; rfl) (fun _ h => sV_neR h) (fun _ _ _ h => Rp_refs h (fun r' e => by cases e; exact hv)) kk
end SF
theorem u3_row {α : Type} {F : Nat → Nat → Nat → α} {k i j : Nat} {v : α} : u3 F k i j v k i = fun z => if z = j then v else F k i z := by
  funext z
  simp [u3]
section SA
variable {X : Cx} {k n : Nat} {S : St} {pc q : Nat} {lv : List (Nat × Value)} {st : List Value} {cc : ByteArray} {own : String} {a x i j : Nat} {w : Int32}
/-- an array's cell -/
theorem arr_at {D : va_G} {E : Nat → ClassId} {sz : Nat} {H : Heap} (hW : Wd D E sz S H) (hi : i < sC S x) (hx : kn_a x = true) : ∃ (L : List Nat) (f : Nat → va_E) (q0 : Nat), Rp E S L f ∧ va_P D vwCl ([] ++ va_pl L f) H ∧ va_D (fun q => sz ≤ q) ([] ++ va_pl L f) ∧ sA S x i ∈ L ∧ ([] ++ va_pl L f)[q0]? = some (sA S x i, f (sA S x i)) ∧ ([] ++ va_pl L f)[q0]? = some (sA S x i, .inl (E (kn_c x), sN S x i, sX S x i)) := by
  obtain ⟨L, f, hR, hP, hD⟩ := hW
  obtain ⟨h1, h2⟩ := hR.1 x i hi
  obtain ⟨q0, hq0⟩ := va_pl_get (X := []) (f := f) h1
  have he : sE E S x i = .inl (E (kn_c x), sN S x i, sX S x i) := by unfold sE; rw [hx]; rfl
  exact ⟨L, f, q0, hR, hP, hD, h1, hq0, by rw [hq0, h2, he]⟩
theorem j_alen (hX : Ok X cc own) (hd : decode cc pc = .ok (.arraylength, 1)) (hq : pc + 1 = q) (ha : a = sA S x i) (hi : i < sC S x) (hx : kn_a x = true) (hc : kn_c x < 11) (hw : nI (sN S x i) = w) (kk : Jg X k n S q lv (.int w :: st)) : Jg X k n S pc lv (.ref a :: st) := by
  obtain ⟨p, l, e, R, s, m, args, below, meth, c, Q, D, E, sz, nL⟩ := X
  subst hq
  subst ha
  intro ls H locs hl hW hS
  obtain ⟨L, f, q0, hR, hP, hD, h1, hq1, hq0⟩ := arr_at hW hi hx
  have ht : ∃ ty, (tyE E)[kn_c x]? = some (E (kn_c x), ty) := by
    match h : kn_c x, hc with
    | 0, _ => exact ⟨_, rfl⟩
    | 1, _ => exact ⟨_, rfl⟩
    | 2, _ => exact ⟨_, rfl⟩
    | 3, _ => exact ⟨_, rfl⟩
    | 4, _ => exact ⟨_, rfl⟩
    | 5, _ => exact ⟨_, rfl⟩
    | 6, _ => exact ⟨_, rfl⟩
    | 7, _ => exact ⟨_, rfl⟩
    | 8, _ => exact ⟨_, rfl⟩
    | 9, _ => exact ⟨_, rfl⟩
    | 10, _ => exact ⟨_, rfl⟩
  obtain ⟨ty, ht⟩ := ht
  exact va_alen hX.1 hX.2.1 hX.2.2.2.2.2.1.1 hP q0 (kn_c x) hq0 ht hw hd (kk ls H locs hl hW hS)
theorem j_iald (hX : Ok X cc own) (hd : decode cc pc = .ok (.iaload, 1)) (hq : pc + 1 = q) (ha : a = sA S x i) (hi : i < sC S x) (hx : kn_a x = true) (hc : kn_c x = 0) (ht : kn_t x 0 = 0) (hw : w = nI j) (hj : j < sN S x i) (hN : sN S x i < 2 ^ 31) (kk : Jg X k n S q lv (.int (sI S x i j) :: st)) : Jg X k n S pc lv (.int w :: .ref a :: st) := by
  obtain ⟨p, l, e, R, s, m, args, below, meth, c, Q, D, E, sz, nL⟩ := X
  subst hq
  subst ha
  subst hw
  intro ls H locs hl hW hS
  obtain ⟨L, f, q0, hR, hP, hD, h1, hq1, hq0⟩ := arr_at hW hi hx
  have hs : sX S x i = .inl (sI S x i) := by unfold sX; simp only [ht]
  rw [hs] at hq0
  refine va_iald hX.1 hX.2.1 hX.2.2.2.2.2.1.1 hP q0 0 hq0 (by rw [hc]; rfl) (vp_in_nI hj hN) hd ?_
  rw [nI_clamp (Nat.lt_trans hj hN)]
  exact kk ls H locs hl hW hS
theorem j_zald (hX : Ok X cc own) (hd : decode cc pc = .ok (.baload, 1)) (hq : pc + 1 = q) (ha : a = sA S x i) (hi : i < sC S x) (hx : kn_a x = true) (hc : kn_c x = 3) (ht : kn_t x 0 = 4) (hw : w = nI j) (hj : j < sN S x i) (hN : sN S x i < 2 ^ 31) (kk : Jg X k n S q lv (.int (sI S x i j) :: st)) : Jg X k n S pc lv (.int w :: .ref a :: st) := by
  obtain ⟨p, l, e, R, s, m, args, below, meth, c, Q, D, E, sz, nL⟩ := X
  subst hq
  subst ha
  subst hw
  intro ls H locs hl hW hS
  obtain ⟨L, f, q0, hR, hP, hD, h1, hq1, hq0⟩ := arr_at hW hi hx
  have hs : sX S x i = .inl (sI S x i) := by unfold sX; simp only [ht]
  rw [hs] at hq0
  refine va_zald hX.1 hX.2.1 hX.2.2.2.2.2.1.1 hP q0 3 hq0 (by rw [hc]; rfl) (vp_in_nI hj hN) hd ?_
  rw [nI_clamp (Nat.lt_trans hj hN)]
  exact kk ls H locs hl hW hS
theorem j_lald (hX : Ok X cc own) (hd : decode cc pc = .ok (.laload, 1)) (hq : pc + 1 = q) (ha : a = sA S x i) (hi : i < sC S x) (hx : kn_a x = true) (hc : kn_c x = 1) (ht : kn_t x 0 = 1) (hw : w = nI j) (hj : j < sN S x i) (hN : sN S x i < 2 ^ 31) (kk : Jg X k n S q lv (.long (sJ S x i j) :: st)) : Jg X k n S pc lv (.int w :: .ref a :: st) := by
  obtain ⟨p, l, e, R, s, m, args, below, meth, c, Q, D, E, sz, nL⟩ := X
  subst hq
  subst ha
  subst hw
  intro ls H locs hl hW hS
  obtain ⟨L, f, q0, hR, hP, hD, h1, hq1, hq0⟩ := arr_at hW hi hx
  have hs : sX S x i = .inr (.inl (sJ S x i)) := by unfold sX; simp only [ht]
  rw [hs] at hq0
  refine va_lald hX.1 hX.2.1 hX.2.2.2.2.2.1.1 hP q0 1 hq0 (by rw [hc]; rfl) (vp_in_nI hj hN) hd ?_
  rw [nI_clamp (Nat.lt_trans hj hN)]
  exact kk ls H locs hl hW hS
theorem j_dald (hX : Ok X cc own) (hd : decode cc pc = .ok (.daload, 1)) (hq : pc + 1 = q) (ha : a = sA S x i) (hi : i < sC S x) (hx : kn_a x = true) (hc : kn_c x = 2) (ht : kn_t x 0 = 2) (hw : w = nI j) (hj : j < sN S x i) (hN : sN S x i < 2 ^ 31) (kk : Jg X k n S q lv (.double (sD S x i j) :: st)) : Jg X k n S pc lv (.int w :: .ref a :: st) := by
  obtain ⟨p, l, e, R, s, m, args, below, meth, c, Q, D, E, sz, nL⟩ := X
  subst hq
  subst ha
  subst hw
  intro ls H locs hl hW hS
  obtain ⟨L, f, q0, hR, hP, hD, h1, hq1, hq0⟩ := arr_at hW hi hx
  have hs : sX S x i = .inr (.inr (.inr (.inl (sD S x i)))) := by unfold sX; simp only [ht]
  rw [hs] at hq0
  refine va_dald hX.1 hX.2.1 hX.2.2.2.2.2.1.1 hP q0 2 hq0 (by rw [hc]; rfl) (vp_in_nI hj hN) hd ?_
  rw [nI_clamp (Nat.lt_trans hj hN)]
  exact kk ls H locs hl hW hS
theorem j_aald {c0 : Nat} {C : String} (hX : Ok X cc own) (hd : decode cc pc = .ok (.aaload, 1)) (hq : pc + 1 = q) (ha : a = sA S x i) (hi : i < sC S x) (hx : kn_a x = true) (hc : kn_c x = c0) (hE : ∀ E : Nat → ClassId, (tyE E)[c0]? = some (E c0, .object C)) (ht : kn_t x 0 = 3) (hw : w = nI j) (hj : j < sN S x i) (hN : sN S x i < 2 ^ 31) (kk : Jg X k n S q lv (va_rf ((sR S x i j).map (sA S (kn_r x j))) :: st)) : Jg X k n S pc lv (.int w :: .ref a :: st) := by
  obtain ⟨p, l, e, R, s, m, args, below, meth, c, Q, D, E, sz, nL⟩ := X
  subst hq
  subst ha
  subst hw
  intro ls H locs hl hW hS
  obtain ⟨L, f, q0, hR, hP, hD, h1, hq1, hq0⟩ := arr_at hW hi hx
  have hs : sX S x i = .inr (.inr (.inr (.inr (fun j => (sR S x i j).map (sA S (kn_r x j)))))) := by unfold sX; simp only [ht]
  rw [hs] at hq0
  refine va_aldq hX.1 hX.2.1 hX.2.2.2.2.2.1.1 hP q0 c0 hq0 (by rw [hc]; exact hE E) (vp_in_nI hj hN) hd ?_
  rw [nI_clamp (Nat.lt_trans hj hN)]
  exact kk ls H locs hl hW hS
theorem j_iast {v : Int32} (hX : Ok X cc own) (hd : decode cc pc = .ok (.iastore, 1)) (hq : pc + 1 = q) (ha : a = sA S x i) (hi : i < sC S x) (hx : kn_a x = true) (hc : kn_c x = 0) (ht : kn_t x 0 = 0) (hw : w = nI j) (hj : j < sN S x i) (hN : sN S x i < 2 ^ 31) (kk : Jg X k n (pI S x i j v) q lv st) : Jg X k n S pc lv (.int v :: .int w :: .ref a :: st) := by
  obtain ⟨p, l, e, R, s, m, args, below, meth, c, Q, D, E, sz, nL⟩ := X
  subst hq
  subst ha
  subst hw
  intro ls H locs hl hW hS
  obtain ⟨L, f, q0, hR, hP, hD, h1, hq1, hq0⟩ := arr_at hW hi hx
  have hs : ∀ S : St, sX S x i = .inl (sI S x i) := fun S => by unfold sX; simp only [ht]
  rw [hs] at hq0
  refine va_iast hX.1 hX.2.1 hX.2.2.2.2.2.1.1 hP hD hS q0 0 hq0 (by rw [hc]; rfl) (vp_in_nI hj hN) hd (fun H1 locs1 hP1 hD1 hS1 => kk ls H1 locs1 hl ⟨L, va_up f (sA S x i) (.inl (E (kn_c x), sN S x i, .inl (upd (sI S x i) j v))), ?_, ?_, ?_⟩ hS1)
  · refine hR.upd hi rfl rfl (fun _ _ h => sE_otherI h) ?_ hR.2.2
    unfold sE
    rw [hx, hs, show sI (pI S x i j v) x i = upd (sI S x i) j v from u3_row]
    rfl
  · rw [nI_clamp (Nat.lt_trans hj hN), va_pl_set hD h1 hq1] at hP1
    exact hP1
  · rw [nI_clamp (Nat.lt_trans hj hN), va_pl_set hD h1 hq1] at hD1
    exact hD1
theorem j_zast {v : Int32} (hX : Ok X cc own) (hd : decode cc pc = .ok (.bastore, 1)) (hq : pc + 1 = q) (ha : a = sA S x i) (hi : i < sC S x) (hx : kn_a x = true) (hc : kn_c x = 3) (ht : kn_t x 0 = 4) (hb : v = 0 ∨ v = 1) (hw : w = nI j) (hj : j < sN S x i) (hN : sN S x i < 2 ^ 31) (kk : Jg X k n (pI S x i j v) q lv st) : Jg X k n S pc lv (.int v :: .int w :: .ref a :: st) := by
  obtain ⟨p, l, e, R, s, m, args, below, meth, c, Q, D, E, sz, nL⟩ := X
  subst hq
  subst ha
  subst hw
  intro ls H locs hl hW hS
  obtain ⟨L, f, q0, hR, hP, hD, h1, hq1, hq0⟩ := arr_at hW hi hx
  have hs : ∀ S : St, sX S x i = .inl (sI S x i) := fun S => by unfold sX; simp only [ht]
  have hnv : vp_nar .boolean v = v := by rcases hb with h | h <;> (rw [h]; rfl)
  rw [hs] at hq0
  refine va_zast hX.1 hX.2.1 hX.2.2.2.2.2.1.1 hP hD hS q0 3 hq0 (by rw [hc]; rfl) (vp_in_nI hj hN) hd (fun H1 locs1 hP1 hD1 hS1 => kk ls H1 locs1 hl ⟨L, va_up f (sA S x i) (.inl (E (kn_c x), sN S x i, .inl (upd (sI S x i) j v))), ?_, ?_, ?_⟩ hS1)
  · refine hR.upd hi rfl rfl (fun _ _ h => sE_otherI h) ?_ hR.2.2
    unfold sE
    rw [hx, hs, show sI (pI S x i j v) x i = upd (sI S x i) j v from u3_row]
    rfl
  · rw [hnv, nI_clamp (Nat.lt_trans hj hN), va_pl_set hD h1 hq1] at hP1
    exact hP1
  · rw [hnv, nI_clamp (Nat.lt_trans hj hN), va_pl_set hD h1 hq1] at hD1
    exact hD1
theorem j_last {v : Int64} (hX : Ok X cc own) (hd : decode cc pc = .ok (.lastore, 1)) (hq : pc + 1 = q) (ha : a = sA S x i) (hi : i < sC S x) (hx : kn_a x = true) (hc : kn_c x = 1) (ht : kn_t x 0 = 1) (hw : w = nI j) (hj : j < sN S x i) (hN : sN S x i < 2 ^ 31) (kk : Jg X k n (pJ S x i j v) q lv st) : Jg X k n S pc lv (.long v :: .int w :: .ref a :: st) := by
  obtain ⟨p, l, e, R, s, m, args, below, meth, c, Q, D, E, sz, nL⟩ := X
  subst hq
  subst ha
  subst hw
  intro ls H locs hl hW hS
  obtain ⟨L, f, q0, hR, hP, hD, h1, hq1, hq0⟩ := arr_at hW hi hx
  have hs : ∀ S : St, sX S x i = .inr (.inl (sJ S x i)) := fun S => by unfold sX; simp only [ht]
  rw [hs] at hq0
  refine va_last hX.1 hX.2.1 hX.2.2.2.2.2.1.1 hP hD hS q0 1 hq0 (by rw [hc]; rfl) (vp_in_nI hj hN) hd (fun H1 locs1 hP1 hD1 hS1 => kk ls H1 locs1 hl ⟨L, va_up f (sA S x i) (.inl (E (kn_c x), sN S x i, .inr (.inl (vp_updL (sJ S x i) j v)))), ?_, ?_, ?_⟩ hS1)
  · refine hR.upd hi rfl rfl (fun _ _ h => sE_otherJ h) ?_ hR.2.2
    unfold sE
    rw [hx, hs, show sJ (pJ S x i j v) x i = vp_updL (sJ S x i) j v from u3_row]
    rfl
  · rw [nI_clamp (Nat.lt_trans hj hN), va_pl_set hD h1 hq1] at hP1
    exact hP1
  · rw [nI_clamp (Nat.lt_trans hj hN), va_pl_set hD h1 hq1] at hD1
    exact hD1
theorem j_dast {v : UInt64} (hX : Ok X cc own) (hd : decode cc pc = .ok (.dastore, 1)) (hq : pc + 1 = q) (ha : a = sA S x i) (hi : i < sC S x) (hx : kn_a x = true) (hc : kn_c x = 2) (ht : kn_t x 0 = 2) (hw : w = nI j) (hj : j < sN S x i) (hN : sN S x i < 2 ^ 31) (kk : Jg X k n (pD S x i j v) q lv st) : Jg X k n S pc lv (.double v :: .int w :: .ref a :: st) := by
  obtain ⟨p, l, e, R, s, m, args, below, meth, c, Q, D, E, sz, nL⟩ := X
  subst hq
  subst ha
  subst hw
  intro ls H locs hl hW hS
  obtain ⟨L, f, q0, hR, hP, hD, h1, hq1, hq0⟩ := arr_at hW hi hx
  have hs : ∀ S : St, sX S x i = .inr (.inr (.inr (.inl (sD S x i)))) := fun S => by unfold sX; simp only [ht]
  rw [hs] at hq0
  refine va_dast hX.1 hX.2.1 hX.2.2.2.2.2.1.1 hP hD hS q0 2 hq0 (by rw [hc]; rfl) (vp_in_nI hj hN) hd (fun H1 locs1 hP1 hD1 hS1 => kk ls H1 locs1 hl ⟨L, va_up f (sA S x i) (.inl (E (kn_c x), sN S x i, .inr (.inr (.inr (.inl (vf_upd (sD S x i) j v)))))), ?_, ?_, ?_⟩ hS1)
  · refine hR.upd hi rfl rfl (fun _ _ h => sE_otherD h) ?_ hR.2.2
    unfold sE
    rw [hx, hs, show sD (pD S x i j v) x i = vf_upd (sD S x i) j v from u3_row]
    rfl
  · rw [nI_clamp (Nat.lt_trans hj hN), va_pl_set hD h1 hq1] at hP1
    exact hP1
  · rw [nI_clamp (Nat.lt_trans hj hN), va_pl_set hD h1 hq1] at hD1
    exact hD1
theorem j_aast {c0 b r y : Nat} {rw0 : vw_C} (hX : Ok X cc own) (hd : decode cc pc = .ok (.aastore, 1)) (hq : pc + 1 = q) (ha : a = sA S x i) (hi : i < sC S x) (hx : kn_a x = true) (hc : kn_c x = c0) (hE : ∀ E : Nat → ClassId, (tyE E)[c0]? = some (E c0, .object rw0.1)) (ht : kn_t x 0 = 3) (hy : ∀ z, kn_r x z = y) (hya : kn_a y = false) (hcl : vwCl[kn_c y]? = some rw0) (hb : b = sA S y r) (hr : r < sC S y) (hw : w = nI j) (hj : j < sN S x i) (hN : sN S x i < 2 ^ 31) (kk : Jg X k n (pR S x i j (some r)) q lv st) : Jg X k n S pc lv (.ref b :: .int w :: .ref a :: st) := by
  obtain ⟨p, l, e, R, s, m, args, below, meth, c, Q, D, E, sz, nL⟩ := X
  subst hq
  subst ha
  subst hw
  subst hb
  intro ls H locs hl hW hS
  obtain ⟨L, f, q0, hR, hP, hD, h1, hq1, hq0⟩ := arr_at hW hi hx
  have hs : ∀ S : St, sX S x i = .inr (.inr (.inr (.inr (fun j => (sR S x i j).map (sA S (kn_r x j)))))) := fun S => by unfold sX; simp only [ht]
  rw [hs] at hq0
  obtain ⟨g1, g2⟩ := hR.1 y r hr
  obtain ⟨qk, hqk⟩ := va_pl_get (X := []) (f := f) g1
  have he : sE E S y r = .inr (kn_c y, (List.range (kn_n y)).map (sV S y r)) := by unfold sE; rw [hya]; rfl
  rw [g2, he] at hqk
  refine va_astq hX.1 hX.2.1 hX.2.2.2.2.2.1.1 hP hD hS q0 c0 qk (kn_c y) (r := rw0) hq0 (by rw [hc]; exact hE E) hqk hcl (vp_in_nI hj hN) hd (fun H1 locs1 hP1 hD1 hS1 => kk ls H1 locs1 hl ⟨L, va_up f (sA S x i) (.inl (E (kn_c x), sN S x i, .inr (.inr (.inr (.inr (va_up (fun j => (sR S x i j).map (sA S (kn_r x j))) j (some (sA S y r)))))))), ?_, ?_, ?_⟩ hS1)
  · refine hR.upd hi rfl rfl (fun _ _ h => sE_otherR h) ?_ (Rp_refs hR (fun r' e => by cases e; rw [hy]; exact hr))
    unfold sE
    rw [hx, hs]
    have e1 : (fun j_1 => (sR (pR S x i j (some r)) x i j_1).map (sA (pR S x i j (some r)) (kn_r x j_1))) = va_up (fun j => (sR S x i j).map (sA S (kn_r x j))) j (some (sA S y r)) := by
      funext z
      show (u3 (sR S) x i j (some r) x i z).map (sA S (kn_r x z)) = _
      rw [u3_row]
      by_cases hz : z = j
      · subst hz
        simp [va_up, hy]
      · simp [va_up, hz]
    rw [e1]
    rfl
  · rw [nI_clamp (Nat.lt_trans hj hN), va_pl_set hD h1 hq1] at hP1
    exact hP1
  · rw [nI_clamp (Nat.lt_trans hj hN), va_pl_set hD h1 hq1] at hD1
    exact hD1
end SA

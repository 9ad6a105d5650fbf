theorem ra_uniq {s : State} {a b : ClassId} {ty : FieldType} (h1 : va_RA s a ty) (h2 : va_RA s b ty) : a = b := by
  cases ty with
  | object C =>
    obtain ⟨_, _, _, _, _, e1⟩ := h1
    obtain ⟨_, _, _, _, _, e2⟩ := h2
    exact Option.some.inj (e1.symm.trans e2)
  | _ =>
    have e1 : s.vm.findClass _ = some a := h1
    have e2 : s.vm.findClass _ = some b := h2
    exact Option.some.inj (e1.symm.trans e2)
theorem sC_nO {S : St} {x a z k : Nat} : sC (nO S x a z) k = if k = x then sC S x + 1 else sC S k := by
  show va_up (sC S) x (sC S x + 1) k = _
  unfold va_up
  rfl
/-- a store with one more cell -/
theorem Rp.new {E : Nat → ClassId} {S : St} {L : List Nat} {f : Nat → va_E} {x a z : Nat} {e : va_E} (h : Rp E S L f) (ha : a ∉ L) (he : e = sE E (nO S x a z) x (sC S x)) : Rp E (nO S x a z) (L ++ [a]) (va_up f a e) := by
  subst he
  have old : ∀ k i, i < sC (nO S x a z) k → (k = x ∧ i = sC S x) ∨ (i < sC S k ∧ ¬ (k = x ∧ i = sC S x)) := by
    intro k i hi
    rw [sC_nO] at hi
    by_cases hk : k = x
    · rw [if_pos hk] at hi
      by_cases hi2 : i = sC S x
      · exact Or.inl ⟨hk, hi2⟩
      · exact Or.inr ⟨by rw [hk]; omega, fun q => hi2 q.2⟩
    · rw [if_neg hk] at hi
      exact Or.inr ⟨hi, fun q => hk q.1⟩
  have hA : ∀ k i, i < sC S k → sA (nO S x a z) k i = sA S k i := by
    intro k i hi
    show u2 (sA S) x (sC S x) a k i = _
    exact u2_ne (fun q => by rw [q.1, q.2] at hi; exact Nat.lt_irrefl _ hi)
  have hA0 : sA (nO S x a z) x (sC S x) = a := u2_self
  refine ⟨fun k i hi => ?_, fun k i k' i' hi hi' hq => ?_, fun k i j r hi hr => ?_⟩
  · rcases old k i hi with ⟨rfl, rfl⟩ | ⟨h1, h2⟩
    · rw [hA0]
      exact ⟨List.mem_append_right _ List.mem_cons_self, by rw [va_up_self]⟩
    · obtain ⟨g1, g2⟩ := h.1 k i h1
      rw [hA k i h1]
      refine ⟨List.mem_append_left _ g1, ?_⟩
      rw [va_up_ne _ _ (fun q => ha (by rw [← q]; exact g1)), g2]
      refine (sE_congr ?_ ?_ ?_ ?_ (fun j => ?_)).symm
      · exact u2_ne h2
      · exact u2_ne h2
      · exact u2_ne h2
      · exact u2_ne h2
      · rw [show sR (nO S x a z) k i = sR S k i from u2_ne h2]
        cases hr : sR S k i j with
        | none => rfl
        | some r => exact congrArg some (hA _ _ (h.2.2 k i j r h1 hr))
  · rcases old k i hi with ⟨rfl, rfl⟩ | ⟨h1, h2⟩ <;> rcases old k' i' hi' with ⟨e1, e2⟩ | ⟨h3, h4⟩
    · exact ⟨e1.symm, e2.symm⟩
    · rw [hA0, hA k' i' h3] at hq
      exact absurd (hq ▸ (h.1 k' i' h3).1) ha
    · subst e1
      subst e2
      rw [hA0, hA k i h1] at hq
      exact absurd (hq ▸ (h.1 k i h1).1) ha
    · rw [hA k i h1, hA k' i' h3] at hq
      exact h.2.1 k i k' i' h1 h3 hq
  · have hle : ∀ y, sC S y ≤ sC (nO S x a z) y := by
      intro y
      rw [sC_nO]
      split
      · rename_i hy
        rw [hy]
        omega
      · exact Nat.le_refl _
    rcases old k i hi with ⟨rfl, rfl⟩ | ⟨h1, h2⟩
    · rw [show sR (nO S k a z) k (sC S k) = (fun _ => none) from u2_self] at hr
      cases hr
    · rw [show sR (nO S x a z) k i = sR S k i from u2_ne h2] at hr
      exact Nat.lt_of_lt_of_le (h.2.2 k i j r h1 hr) (hle _)
def dv (t : Nat) : Value := match t with
  | 0 => .int 0
  | 1 => .long 0
  | 2 => .double 0
  | 3 => .null
  | _ => .int 0
theorem sV_new {S : St} {x a z j : Nat} : sV (nO S x a z) x (sC S x) j = dv (kn_t x j) := by
  unfold sV
  rw [show sI (nO S x a z) x (sC S x) = (fun _ => 0) from u2_self, show sJ (nO S x a z) x (sC S x) = (fun _ => 0) from u2_self, show sD (nO S x a z) x (sC S x) = (fun _ => 0) from u2_self, show sR (nO S x a z) x (sC S x) = (fun _ => none) from u2_self]
  unfold dv
  generalize kn_t x j = t
  match t with
  | 0 => rfl
  | 1 => rfl
  | 2 => rfl
  | 3 => rfl
  | _ + 4 => rfl
section SN
variable {X : Cx} {k n : Nat} {S : St} {pc q : Nat} {lv : List (Nat × Value)} {st : List Value} {cc : ByteArray} {own : String} {C : String} {T : u_T} {N x ix : Nat} {ty : Nat → FieldType} {w : Int32}
theorem j_new (hX : Ok X cc own) (hK : CK (kn_c x) C T N ty) (hd : decode cc pc = .ok (.new ix, 3)) (hq : pc + 3 = q) (hcl : Cond.classLink own ix C ∈ BIG) (hins : Cond.instantiable C N ∈ BIG) (hini : Cond.initialized C ∈ BIG) (hx : kn_a x = false) (hN : kn_n x = N) (hdv : ∀ j, j < N → defaultValue (ty j) = dv (kn_t x j)) (hR : k + 1 ≤ (rx X).cells ∧ n + N ≤ (rx X).slots) (kk : ∀ a : Nat, Jg X (k + 1) (n + N) (nO S x a 0) q lv (.ref a :: st)) : Jg X k n S pc lv st := by
  obtain ⟨p, l, e, R, s, m, args, below, meth, c, Q, D, E, sz, nL⟩ := X
  subst hq
  intro ls H locs hl hW hS
  obtain ⟨L, f, hR0, hP, hD⟩ := hW
  refine va_new (fs := (List.range N).map (fun j => dv (kn_t x j))) hX.1 hX.2.1 hX.2.2.2.2.1 hK.2.1 ty hK.2.2.1 hX.2.2.2.1 (hX.2.2.2.2.1 _ hcl) (hX.2.2.2.2.1 _ hins) (hX.2.2.2.2.1 _ hini) hX.2.2.2.2.2.1.1 hP hD hS (fun q h => Nat.le_trans hX.2.2.2.2.2.2.1 h) hK.1 (fun j hj => by rw [hdv j hj]; unfold vp_V; rw [List.getD_eq_getElem?_getD, rng_get hj]; rfl) hR.1 hR.2 hd (fun a H1 hP1 hD1 hS1 => ?_)
  have ha : a ∉ L := va_pl_fresh2 (X := []) hD1
  have e0 : ([] ++ va_pl L f) ++ [(a, (.inr (kn_c x, (List.range N).map (fun j => dv (kn_t x j))) : va_E))] = [] ++ va_pl (L ++ [a]) (va_up f a (.inr (kn_c x, (List.range N).map (fun j => dv (kn_t x j))))) := va_pl_push ha
  rw [e0] at hP1 hD1
  refine kk a ls H1 locs hl ⟨_, _, hR0.new ha ?_, hP1, hD1⟩ hS1
  unfold sE
  rw [hx, hN, show sV (nO S x a 0) x (sC S x) = (fun j => dv (kn_t x j)) from funext fun j => sV_new]
  rfl
theorem j_newa {z c0 : Nat} {atype : ArrayType} {fty : FieldType} {row : sXt} (hX : Ok X cc own) (hd : decode cc pc = .ok (.newarray atype, 2)) (hq : pc + 2 = q) (harr : Cond.arrayClass (newarray.typeOf atype) ∈ BIG) (hty : newarray.typeOf atype = fty) (hx : kn_a x = true) (hc : kn_c x = c0) (hE : ∀ E : Nat → ClassId, (tyE E)[c0]? = some (E c0, fty)) (hrow : ∀ a, sX (nO S x a z) x (sC S x) = row) (hcell : ∀ cA : ClassId, vp_cell cA (z, row) = arrV cA z (fun _ => defaultValue fty)) (hw : w = nI z) (hz : z < 65536) (hbytes : componentBytes fty ≤ 8) (hR : k + 1 ≤ (rx X).cells ∧ n + z ≤ (rx X).slots) (kk : ∀ a : Nat, Jg X (k + 1) (n + z) (nO S x a z) q lv (.ref a :: st)) : Jg X k n S pc lv (.int w :: st) := by
  obtain ⟨p, l, e, R, s, m, args, below, meth, c, Q, D, E, sz, nL⟩ := X
  subst hq
  subst hw
  intro ls H locs hl hW hS
  obtain ⟨L, f, hR0, hP, hD⟩ := hW
  have hz31 : z < 2 ^ 31 := Nat.lt_trans hz (by decide)
  refine va_newa (a0 := (z, row)) hX.1 hX.2.1 (hX.2.2.2.2.1 _ harr) hty hX.2.2.2.2.2.1.1 hP hD hS (fun q h => Nat.le_trans hX.2.2.2.2.2.2.1 h) hcell (nI_pos hz31) (nI_clamp hz31) (by have := Nat.mul_le_mul (Nat.le_of_lt hz) hbytes; omega) hR.1 hR.2 hd (fun a cA H1 hK1 hP1 hD1 hS1 => ?_)
  have hcA : cA = E c0 := by
    have h1 := (hK1.2 (tyE E).length (cA, fty) (by rw [List.getElem?_append_right (Nat.le_refl _)]; simp)).2
    exact ra_uniq h1 (hX.2.2.2.2.2.1.1.2 c0 _ (hE E)).2
  subst hcA
  have ha : a ∉ L := va_pl_fresh2 (X := []) hD1
  have e0 : ([] ++ va_pl L f) ++ [(a, (.inl (E c0, z, row) : va_E))] = [] ++ va_pl (L ++ [a]) (va_up f a (.inl (E c0, z, row))) := va_pl_push ha
  rw [e0] at hP1 hD1
  refine kk a ls H1 locs hl ⟨_, _, hR0.new ha ?_, hP1, hD1⟩ hS1
  unfold sE
  rw [hx, hrow a, hc, show sN (nO S x a z) x (sC S x) = z from u2_self]
  rfl
theorem j_newq {z c0 : Nat} {C : String} (hX : Ok X cc own) (hd : decode cc pc = .ok (.anewarray ix, 3)) (hq : pc + 3 = q) (hcl : Cond.classLink own ix C ∈ BIG) (hAO : ∀ D E U, Kw D E U → va_AO C U) (hx : kn_a x = true) (hc : kn_c x = c0) (hE : ∀ E : Nat → ClassId, (tyE E)[c0]? = some (E c0, .object C)) (ht : kn_t x 0 = 3) (hw : w = nI z) (hz : z < 65536) (hR : k + 1 ≤ (rx X).cells ∧ n + z ≤ (rx X).slots) (kk : ∀ a : Nat, Jg X (k + 1) (n + z) (nO S x a z) q lv (.ref a :: st)) : Jg X k n S pc lv (.int w :: st) := by
  obtain ⟨p, l, e, R, s, m, args, below, meth, c, Q, D, E, sz, nL⟩ := X
  subst hq
  subst hw
  intro ls H locs hl hW hS
  obtain ⟨L, f, hR0, hP, hD⟩ := hW
  have hz31 : z < 2 ^ 31 := Nat.lt_trans hz (by decide)
  refine va_newq hX.1 hX.2.1 hX.2.2.2.1 (hX.2.2.2.2.1 _ hcl) (hAO _ _ _ hX.2.2.2.2.2.1) hX.2.2.2.2.2.1.1 hP hD hS (fun q h => Nat.le_trans hX.2.2.2.2.2.2.1 h) (nI_pos hz31) (nI_clamp hz31) (by omega) hR.1 hR.2 hd (fun a cA H1 hK1 hP1 hD1 hS1 => ?_)
  have hcA : cA = E c0 := by
    have h1 := (hK1.2 (tyE E).length (cA, .object C) (by rw [List.getElem?_append_right (Nat.le_refl _)]; simp)).2
    exact ra_uniq h1 (hX.2.2.2.2.2.1.1.2 c0 _ (hE E)).2
  subst hcA
  have ha : a ∉ L := va_pl_fresh2 (X := []) hD1
  have e0 : ([] ++ va_pl L f) ++ [(a, (.inl (E c0, z, .inr (.inr (.inr (.inr (fun _ => none))))) : va_E))] = [] ++ va_pl (L ++ [a]) (va_up f a (.inl (E c0, z, .inr (.inr (.inr (.inr (fun _ => none))))))) := va_pl_push ha
  rw [e0] at hP1 hD1
  refine kk a ls H1 locs hl ⟨_, _, hR0.new ha ?_, hP1, hD1⟩ hS1
  unfold sE
  rw [hx, hc, show sN (nO S x a z) x (sC S x) = z from u2_self, show sX (nO S x a z) x (sC S x) = .inr (.inr (.inr (.inr (fun _ => none)))) from by unfold sX; simp only [ht]; rw [show sR (nO S x a z) x (sC S x) = (fun _ => none) from u2_self]; rfl]
  rfl
end SN
/-! contracts over the store -/
def QcP (D : va_G) (E : Nat → ClassId) (sz : Nat) (Post : Option Value → St → Prop) : Array Value → State → Outcome → State → Prop := fun _ st oc t => ∃ (v : Option Value) (S' : St), oc = .returned v ∧ Post v S' ∧ Wd D E sz S' t.heap ∧ va_F (fun q => sz ≤ q) st t
def PcP (D : va_G) (E : Nat → ClassId) (sz : Nat) (as : List Value) (S : St) : Array Value → State → Prop := va_Pc as (fun U => Wd D E sz S U.heap ∧ Kw D E U ∧ sz ≤ U.heap.size)
def wM (y : MethodName) (cc : ByteArray) (maxL : Nat) (ret : Option FieldType) : List Cond := Cond.code y cc maxL ret :: BIG
def Ct (l : Launch) (y : MethodName) (cc : ByteArray) (maxL : Nat) (ret : Option FieldType) (rm : Room) (as : List Value) (S : St) (Post : Option Value → St → Prop) : Prop := ∀ (D : va_G) (E : Nat → ClassId) (sz : Nat), Met l y (wM y cc maxL ret) rm (PcP D E sz as S) (QcP D E sz Post) rm.cells rm.slots (fun q => sz ≤ q)
theorem PcP.blind {D : va_G} {E : Nat → ClassId} {sz : Nat} {as : List Value} {S : St} : FrameBlind (PcP D E sz as S) := by
  intro a U g mk h
  obtain ⟨h1, h2, h3, h4⟩ := h
  exact ⟨h1, h2, h3.same rfl, h4⟩
theorem wM_good {y : MethodName} {cc : ByteArray} {maxL : Nat} {ret : Option FieldType} (h : Cond.code y cc maxL ret ∈ BIG) : GoodIn BIG (wM y cc maxL ret) := by
  intro w hw
  rcases List.mem_cons.mp hw with rfl | hw
  · exact big_good _ h
  · exact big_good _ hw
theorem run_call {p : Program} {l : Launch} {e : Env} {R : Room} {s : State} {m : MethodId} {args : Array Value} {below : List Frame} {meth : Method} {c : Code} {H : Heap} {locs : List Loc} {cells slots mc ms : Nat} {Q : State → Prop} {pc : Nat} {ls : Array Slot} {rest st0 : List Value} {a : Array Value} {H0 : Heap} {D : va_G} {E : Nat → ClassId} {sz : Nat} {Post : Option Value → St → Prop}
    (hr : va_Run p l e R s m args below meth c H locs cells slots mc ms (F0 m pc ls st0) rest (QcP D E sz Post a) (fun q => sz ≤ q)) (hS : va_S (fun q => sz ≤ q) H0 H locs)
    (kk : ∀ (v : Option Value) (S' : St) (H1 : Heap) (locs1 : List Loc), Post v S' → Wd D E sz S' H1 → va_S (fun q => sz ≤ q) H0 H1 locs1 → W p l e R s m args below meth c H1 locs1 (cells + mc) (slots + ms) Q (F0 m (pc + 3) ls (v.toList ++ rest))) : W p l e R s m args below meth c H locs cells slots Q (F0 m pc ls st0) := by
  intro T hT X
  obtain ⟨v, st₀, t, T', L, h0, X', hL, e1, e2, ⟨v', S', hv, hp, hw, hz, hk⟩, st⟩ := hr T hT X
  cases hv
  rw [h0] at hz hk
  obtain ⟨t2, a1, b1⟩ := kk v S' T'.heap (locs ++ L) hp (by rw [e1]; exact hw)
    ⟨Nat.le_trans hS.1 (by rw [e1]; exact hz), fun q h1 h2 => by rw [e1, hk q (Nat.lt_of_lt_of_le h1 hS.1) h2]; exact hS.2.1 q h1 h2, fun q hq => by
      rcases List.mem_append.mp hq with h | h
      · exact hS.2.2 q h
      · exact hL q h⟩ T' rfl X'
  exact ⟨t2, st t2 a1, b1⟩
/-- what the tables say of a method of objects -/
def MV (y : MethodName) (cc : ByteArray) (maxL : Nat) (ret : Option FieldType) (np : Nat) : Prop := Cond.code y cc maxL ret ∈ BIG ∧ Cond.instanceMethod y ∈ BIG ∧ Cond.selects y.cls y y ∈ BIG ∧ Cond.initialized y.cls ∈ BIG ∧ (y.cls ≠ "java/lang/invoke/MethodHandle" ∧ y.cls ≠ "java/lang/invoke/VarHandle" ∧ (parseMethodDescriptor y.desc).map (fun d => d.parameters.length) = some np)
def MS (y : MethodName) (cc : ByteArray) (maxL : Nat) (ret : Option FieldType) (np : Nat) : Prop := Cond.code y cc maxL ret ∈ BIG ∧ Cond.static y ∈ BIG ∧ Cond.initialized y.cls ∈ BIG ∧ (y.cls ≠ "java/lang/invoke/MethodHandle" ∧ y.cls ≠ "java/lang/invoke/VarHandle" ∧ (parseMethodDescriptor y.desc).map (fun d => d.parameters.length) = some np)
def MI (y : MethodName) (cc : ByteArray) (maxL : Nat) (np : Nat) : Prop := Cond.code y cc maxL none ∈ BIG ∧ Cond.instanceMethod y ∈ BIG ∧ Cond.initialized y.cls ∈ BIG ∧ y.name = "<init>" ∧ (y.cls ≠ "java/lang/invoke/MethodHandle" ∧ y.cls ≠ "java/lang/invoke/VarHandle" ∧ (parseMethodDescriptor y.desc).map (fun d => d.parameters.length) = some np)
def roomy (X : Cx) (k n : Nat) (rm : Room) (maxL : Nat) (rest : List Value) : Prop := (rm.frames + 1 ≤ (rx X).frames ∧ 8 + (maxL + 11) + rm.locals ≤ (rx X).locals) ∧ (k + rm.cells ≤ (rx X).cells ∧ n + rm.slots ≤ (rx X).slots) ∧ (rest.map fun v => v.category).sum ≤ 8
section SCall
variable {X : Cx} {k n : Nat} {S : St} {pc q : Nat} {lv : List (Nat × Value)} {rest : List Value} {cc cc' : ByteArray} {own : String} {T : u_T} {N x i ix maxL np b : Nat} {ty : Nat → FieldType} {y : MethodName} {ret : Option FieldType} {rm : Room} {As st : List Value} {Post : Option Value → St → Prop}
theorem j_callV (hX : Ok X cc own) (hC : Ct (lx X) y cc' maxL ret rm (.ref b :: As) S Post) (hM : MV y cc' maxL ret np) (hl : Cond.methodLink own ix y ∈ BIG) (hK : CK (kn_c x) y.cls T N ty) (hb : b = sA S x i) (hi : i < sC S x) (hx : kn_a x = false) (hn : As.length = np) (hst : st = As.reverse ++ .ref b :: rest) (hR : roomy X k n rm maxL rest) (hd : decode cc pc = .ok (.invokevirtual ix, 3)) (hq : pc + 3 = q) (kk : ∀ v S', Post v S' → Jg X (k + rm.cells) (n + rm.slots) S' q lv (v.toList ++ rest)) : Jg X k n S pc lv st := by
  obtain ⟨p, l, e, R, s, m, args, below, meth, c, Q, D, E, sz, nL⟩ := X
  subst hq
  subst hst
  intro ls H locs hl0 hW hS
  obtain ⟨hx1, hb1, hml, hown, hts, hKw, hsz, hlk⟩ := hX
  have hcw : CallW R s args own y.cls ix y cc' maxL ret (wM y cc' maxL ret) rm rm.cells rm.slots np := ⟨callB_of np hts (wM_good hM.1) rfl rfl rfl (hts _ hM.2.2.2.1) (hts _ hl) hM.2.2.2.2 hR.1, hts _ hM.2.1, hts _ hM.2.2.1⟩
  have hrecv : ∃ cellB : Cell, H[b]? = some cellB ∧ cellB.vm.isStatics = false ∧ s.vm.findClass y.cls = some cellB.cls := by
    obtain ⟨L, f, hR0, hP, hD⟩ := id hW
    obtain ⟨h1, h2⟩ := hR0.1 x i hi
    obtain ⟨q0, hq0⟩ := va_pl_get (X := []) (f := f) h1
    have he : sE E S x i = .inr (kn_c x, (List.range (kn_n x)).map (sV S x i)) := by unfold sE; rw [hx]; rfl
    rw [h2, he] at hq0
    rw [hb]
    exact va_recv hKw.1 hP hK.1 hq0
  refine run_call (va_runV (As := As) (rest := rest) ⟨hx1, hb1, hml, hown, hts⟩ (hC D E sz) hcw ⟨PcP.blind, hrecv, fun U hU hWm => ⟨rfl, by rw [hU]; exact hW, hKw.warm hWm, by rw [hU]; exact Nat.le_trans hsz hS.1⟩⟩ rfl hn hl0.1 rfl (lv_room hR.2.2) hd hR.2.1) hS (fun v S' H1 locs1 hp hw hs => kk v S' hp ls H1 locs1 hl0 hw hs)
theorem j_callS (hX : Ok X cc own) (hC : Ct (lx X) y cc' maxL ret rm As S Post) (hM : MS y cc' maxL ret np) (hl : Cond.methodLink own ix y ∈ BIG) (hn : As.length = np) (hst : st = As.reverse ++ rest) (hR : roomy X k n rm maxL rest) (hd : decode cc pc = .ok (.invokestatic ix, 3)) (hq : pc + 3 = q) (kk : ∀ v S', Post v S' → Jg X (k + rm.cells) (n + rm.slots) S' q lv (v.toList ++ rest)) : Jg X k n S pc lv st := by
  obtain ⟨p, l, e, R, s, m, args, below, meth, c, Q, D, E, sz, nL⟩ := X
  subst hq
  subst hst
  intro ls H locs hl0 hW hS
  obtain ⟨hx1, hb1, hml, hown, hts, hKw, hsz, hlk⟩ := hX
  have hcw : CallB R s args own ix y cc' maxL ret (wM y cc' maxL ret) rm rm.cells rm.slots np ∧ (Cond.static y).before args s = true := ⟨callB_of np hts (wM_good hM.1) rfl rfl rfl (hts _ hM.2.2.1) (hts _ hl) hM.2.2.2 hR.1, hts _ hM.2.1⟩
  refine run_call (va_runS (As := As) (rest := rest) ⟨hx1, hb1, hml, hown, hts⟩ (hC D E sz) hcw ⟨PcP.blind, fun U hU hWm => ⟨rfl, by rw [hU]; exact hW, hKw.warm hWm, by rw [hU]; exact Nat.le_trans hsz hS.1⟩⟩ rfl hn hl0.1 rfl (lv_room hR.2.2) hd hR.2.1) hS (fun v S' H1 locs1 hp hw hs => kk v S' hp ls H1 locs1 hl0 hw hs)
theorem j_callI (hX : Ok X cc own) (hC : Ct (lx X) y cc' maxL none rm (.ref b :: As) S Post) (hM : MI y cc' maxL np) (hl : Cond.methodLink own ix y ∈ BIG) (hn : As.length = np) (hst : st = As.reverse ++ .ref b :: rest) (hR : roomy X k n rm maxL rest) (hd : decode cc pc = .ok (.invokespecial ix, 3)) (hq : pc + 3 = q) (kk : ∀ v S', Post v S' → Jg X (k + rm.cells) (n + rm.slots) S' q lv (v.toList ++ rest)) : Jg X k n S pc lv st := by
  obtain ⟨p, l, e, R, s, m, args, below, meth, c, Q, D, E, sz, nL⟩ := X
  subst hq
  subst hst
  intro ls H locs hl0 hW hS
  obtain ⟨hx1, hb1, hml, hown, hts, hKw, hsz, hlk⟩ := hX
  have hcw : CallB R s args own ix y cc' maxL none (wM y cc' maxL none) rm rm.cells rm.slots np ∧ y.name = "<init>" ∧ (Cond.instanceMethod y).before args s = true := ⟨callB_of np hts (wM_good hM.1) rfl rfl rfl (hts _ hM.2.2.1) (hts _ hl) hM.2.2.2.2 hR.1, hM.2.2.2.1, hts _ hM.2.1⟩
  refine run_call (va_runI (As := As) (rest := rest) ⟨hx1, hb1, hml, hown, hts⟩ (hC D E sz) hcw ⟨PcP.blind, fun U hU hWm => ⟨rfl, by rw [hU]; exact hW, hKw.warm hWm, by rw [hU]; exact Nat.le_trans hsz hS.1⟩⟩ rfl hn hl0.1 rfl (lv_room hR.2.2) hd hR.2.1) hS (fun v S' H1 locs1 hp hw hs => kk v S' hp ls H1 locs1 hl0 hw hs)
/-- a nest mate's private constructor -/
theorem j_callN {host : String} (hX : Ok X cc own) (hC : Ct (lx X) y cc' maxL none rm (.ref b :: As) S Post) (hM : MI y cc' maxL np) (hl : ∀ D E U, Kw D E U → va_Nw (.methodLinkNest own ix y host) U) (hn : As.length = np) (hst : st = As.reverse ++ .ref b :: rest) (hR : roomy X k n rm maxL rest) (hd : decode cc pc = .ok (.invokespecial ix, 3)) (hq : pc + 3 = q) (kk : ∀ v S', Post v S' → Jg X (k + rm.cells) (n + rm.slots) S' q lv (v.toList ++ rest)) : Jg X k n S pc lv st := by
  obtain ⟨p, l, e, R, s, m, args, below, meth, c, Q, D, E, sz, nL⟩ := X
  subst hq
  subst hst
  intro ls H locs hl0 hW hS
  obtain ⟨hx1, hb1, hml, hown, hts, hKw, hsz, hlk⟩ := hX
  have hcw : va_CN R s args own ix y host cc' maxL none (wM y cc' maxL none) rm rm.cells rm.slots np ∧ y.name = "<init>" ∧ (Cond.instanceMethod y).before args s = true := ⟨va_cnB np hts (wM_good hM.1) rfl rfl rfl (hl _ _ _ hKw) (hts _ hM.2.2.1) hM.2.2.2.2 hR.1, hM.2.2.2.1, hts _ hM.2.1⟩
  refine run_call (va_runIN (As := As) (rest := rest) ⟨hx1, hb1, hml, hown, hts⟩ (hC D E sz) hcw ⟨PcP.blind, fun U hU hWm => ⟨rfl, by rw [hU]; exact hW, hKw.warm hWm, by rw [hU]; exact Nat.le_trans hsz hS.1⟩⟩ rfl hn hl0.1 rfl (lv_room hR.2.2) hd hR.2.1) hS (fun v S' H1 locs1 hp hw hs => kk v S' hp ls H1 locs1 hl0 hw hs)
/-- Object's own constructor -/
theorem j_obj {a : Nat} (hX : Ok X cc own) (hl : Cond.methodLink own ix Lib.objectInit ∈ BIG) (hi : Cond.instanceMethod Lib.objectInit ∈ BIG) (hc : Cond.code Lib.objectInit ⟨#[0xb1]⟩ 1 none ∈ BIG) (hd : decode cc pc = .ok (.invokespecial ix, 3)) (hq : pc + 3 = q) (hR : 1 ≤ (rx X).frames ∧ (rest.map fun v => v.category).sum + 12 ≤ (rx X).locals) (kk : Jg X k n S q lv rest) : Jg X k n S pc lv (.ref a :: rest) := by
  obtain ⟨p, l, e, R, s, m, args, below, meth, c, Q, D, E, sz, nL⟩ := X
  subst hq
  intro ls H locs hl0 hW hS
  obtain ⟨hx1, hb1, hml, hown, hts, hKw, hsz, hlk⟩ := hX
  exact W.objInit hx1 hb1 hown (hts _ hl) (hts _ hi) (hts _ hc) rfl (by rw [hml]; exact hl0.1) rfl hd hR.1 (by show 2 * 0 + _ + 12 ≤ _; have := hR.2; show 2 * 0 + (rest.map fun v => v.category).sum + 12 ≤ R.locals; have h9 : (rest.map fun v => v.category).sum + 12 ≤ R.locals := hR.2; omega) (kk ls H locs hl0 hW hS)
end SCall
/-- a method's own surroundings, and its end -/
def OkM (X : Cx) (cc : ByteArray) (own : String) (l : Launch) (rm : Room) (maxL : Nat) (ret : Option FieldType) (nm : String) (Post : Option Value → St → Prop) : Prop := Ok X cc own ∧ match X with
  | (_, l', _, R, s, _, args, below, meth, _, Q, D, E, sz, nL) => l' = l ∧ R = rm ∧ nL = maxL ∧ meth.sig.returnType = ret ∧ meth.name = nm ∧ Q = MQ below (QcP D E sz Post) args s rm.cells rm.slots (fun q => sz ≤ q)
theorem OkM.l {X : Cx} {cc : ByteArray} {own : String} {l : Launch} {rm : Room} {maxL : Nat} {ret : Option FieldType} {nm : String} {Post : Option Value → St → Prop} (h : OkM X cc own l rm maxL ret nm Post) : lx X = l := by
  obtain ⟨p, l', e, R, s, m, args, below, meth, c, Q, D, E, sz, nL⟩ := X
  exact h.2.1
theorem OkM.R {X : Cx} {cc : ByteArray} {own : String} {l : Launch} {rm : Room} {maxL : Nat} {ret : Option FieldType} {nm : String} {Post : Option Value → St → Prop} (h : OkM X cc own l rm maxL ret nm Post) : rx X = rm := by
  obtain ⟨p, l', e, R, s, m, args, below, meth, c, Q, D, E, sz, nL⟩ := X
  exact h.2.2.1
theorem OkM.nL {X : Cx} {cc : ByteArray} {own : String} {l : Launch} {rm : Room} {maxL : Nat} {ret : Option FieldType} {nm : String} {Post : Option Value → St → Prop} (h : OkM X cc own l rm maxL ret nm Post) : nLx X = maxL := by
  obtain ⟨p, l', e, R, s, m, args, below, meth, c, Q, D, E, sz, nL⟩ := X
  exact h.2.2.2.1
theorem OkM.nm {X : Cx} {cc : ByteArray} {own : String} {l : Launch} {rm : Room} {maxL : Nat} {ret : Option FieldType} {Post : Option Value → St → Prop} (h : OkM X cc own l rm maxL ret "<init>" Post) : inX X := by
  obtain ⟨p, l', e, R, s, m, args, below, meth, c, Q, D, E, sz, nL⟩ := X
  exact h.2.2.2.2.2.1
theorem Ct.of {l : Launch} {y : MethodName} {cc : ByteArray} {maxL : Nat} {ret : Option FieldType} {rm : Room} {as : List Value} {S : St} {Post : Option Value → St → Prop} (hy : plainName y.cls = true) (hlen : (lg_sl as).length ≤ maxL) (body : ∀ X : Cx, OkM X cc y.cls l rm maxL ret y.name Post → Jg X 0 0 S 0 (lv_args 0 as) []) : Ct l y cc maxL ret rm as S Post := by
  intro D E sz
  refine Met.ofW (cc := cc) (maxL := maxL) (ret := ret) hy rfl ?_
  intro p e s m args below meth c s₁ B hml hv
  obtain ⟨rfl, hW, hKw, hsz⟩ := hv
  have hts := atoms_spec (ws := wM y cc maxL ret) B.pre
  have h := body (p, l, e, (headSpec (wM y cc maxL ret) rm).room, s, m, as.toArray, below, meth, c, MQ below (QcP D E sz Post) as.toArray s rm.cells rm.slots (fun q => sz ≤ q), D, E, sz, maxL) ⟨⟨B.exec, B.bytes, hml, findClass_of_methodNamed B.named, fun w hw => hts w (List.mem_cons_of_mem _ hw), hKw, hsz, B.notSynchronized⟩, rfl, rfl, rfl, B.returns, (name_of_methodNamed B.named B.method).1, rfl⟩
  rw [lg_entry_eq]
  exact h _ s.heap [] (lv_entry as hlen) hW va_S.rf
section SRet
variable {X : Cx} {k n : Nat} {S : St} {pc : Nat} {lv : List (Nat × Value)} {cc : ByteArray} {own nm : String} {l : Launch} {rm : Room} {maxL : Nat} {Post : Option Value → St → Prop}
theorem j_iret {v : Int32} (hX : OkM X cc own l rm maxL (some .int) nm Post) (hd : decode cc pc = .ok (.ireturn, 1)) (h1 : k ≤ rm.cells) (h2 : n ≤ rm.slots) (hp : Post (some (.int v)) S) : Jg X k n S pc lv [.int v] := by
  obtain ⟨p, l', e, R, s, m, args, below, meth, c, Q, D, E, sz, nL⟩ := X
  obtain ⟨⟨hx1, hb1, hml, hown, hts, hKw, hsz, hlk⟩, rfl, rfl, rfl, hr, hnm, rfl⟩ := hX
  intro ls H locs hl hW hS
  exact W.widen h1 h2 (W.iret hx1 hb1 hr (fun t ht hWm => ⟨_, S, rfl, hp, by rw [ht]; exact hW, hS.F ht⟩) hS.2.2 hd hlk)
theorem j_zret {v : Int32} (hX : OkM X cc own l rm maxL (some .boolean) nm Post) (hd : decode cc pc = .ok (.ireturn, 1)) (h1 : k ≤ rm.cells) (h2 : n ≤ rm.slots) (hb : v = 0 ∨ v = 1) (hp : Post (some (.int v)) S) : Jg X k n S pc lv [.int v] := by
  obtain ⟨p, l', e, R, s, m, args, below, meth, c, Q, D, E, sz, nL⟩ := X
  obtain ⟨⟨hx1, hb1, hml, hown, hts, hKw, hsz, hlk⟩, rfl, rfl, rfl, hr, hnm, rfl⟩ := hX
  intro ls H locs hl hW hS
  exact W.widen h1 h2 (W.zret hx1 hb1 hr (by rcases hb with h | h <;> (rw [h]; rfl)) (fun t ht hWm => ⟨_, S, rfl, hp, by rw [ht]; exact hW, hS.F ht⟩) hS.2.2 hd hlk)
theorem j_lret {v : Int64} (hX : OkM X cc own l rm maxL (some .long) nm Post) (hd : decode cc pc = .ok (.lreturn, 1)) (h1 : k ≤ rm.cells) (h2 : n ≤ rm.slots) (hp : Post (some (.long v)) S) : Jg X k n S pc lv [.long v] := by
  obtain ⟨p, l', e, R, s, m, args, below, meth, c, Q, D, E, sz, nL⟩ := X
  obtain ⟨⟨hx1, hb1, hml, hown, hts, hKw, hsz, hlk⟩, rfl, rfl, rfl, hr, hnm, rfl⟩ := hX
  intro ls H locs hl hW hS
  exact W.widen h1 h2 (W.lret hx1 hb1 hr (fun t ht hWm => ⟨_, S, rfl, hp, by rw [ht]; exact hW, hS.F ht⟩) hS.2.2 hd hlk)
theorem j_dret {v : UInt64} (hX : OkM X cc own l rm maxL (some .double) nm Post) (hd : decode cc pc = .ok (.dreturn, 1)) (h1 : k ≤ rm.cells) (h2 : n ≤ rm.slots) (hp : Post (some (.double v)) S) : Jg X k n S pc lv [.double v] := by
  obtain ⟨p, l', e, R, s, m, args, below, meth, c, Q, D, E, sz, nL⟩ := X
  obtain ⟨⟨hx1, hb1, hml, hown, hts, hKw, hsz, hlk⟩, rfl, rfl, rfl, hr, hnm, rfl⟩ := hX
  intro ls H locs hl hW hS
  exact W.widen h1 h2 (W.dret hx1 hb1 hr (fun t ht hWm => ⟨_, S, rfl, hp, by rw [ht]; exact hW, hS.F ht⟩) hS.2.2 hd hlk)
theorem j_aret {v : Value} {C : String} (hX : OkM X cc own l rm maxL (some (.object C)) nm Post) (hd : decode cc pc = .ok (.areturn, 1)) (h1 : k ≤ rm.cells) (h2 : n ≤ rm.slots) (hv : v = .null ∨ ∃ a, v = .ref a) (hp : Post (some v) S) : Jg X k n S pc lv [v] := by
  obtain ⟨p, l', e, R, s, m, args, below, meth, c, Q, D, E, sz, nL⟩ := X
  obtain ⟨⟨hx1, hb1, hml, hown, hts, hKw, hsz, hlk⟩, rfl, rfl, rfl, hr, hnm, rfl⟩ := hX
  intro ls H locs hl hW hS
  exact W.widen h1 h2 (W.aret hx1 hb1 hr (Or.inl ⟨_, rfl⟩) hv (fun t ht hWm => ⟨_, S, rfl, hp, by rw [ht]; exact hW, hS.F ht⟩) hS.2.2 hd hlk)
theorem j_vret (hX : OkM X cc own l rm maxL none nm Post) (hd : decode cc pc = .ok (.return_, 1)) (h1 : k ≤ rm.cells) (h2 : n ≤ rm.slots) (hp : Post none S) : Jg X k n S pc lv [] := by
  obtain ⟨p, l', e, R, s, m, args, below, meth, c, Q, D, E, sz, nL⟩ := X
  obtain ⟨⟨hx1, hb1, hml, hown, hts, hKw, hsz, hlk⟩, rfl, rfl, rfl, hr, hnm, rfl⟩ := hX
  intro ls H locs hl hW hS
  exact W.widen h1 h2 (W.vret hx1 hb1 hr (fun t ht hWm => ⟨_, S, rfl, hp, by rw [ht]; exact hW, hS.F ht⟩) hS.2.2 hd hlk)
end SRet

/-! THE STORE: the cells of the system in its own words: kinds of cells (numbers), their instances, their fields or places. kn_a: an array; kn_c: its class in vwCl, or its array class in tyE; kn_n: how many fields; kn_t: a field's type (0 int, 1 long, 2 double, 3 a reference, 4 boolean); kn_r: the kind that a reference's target is of -/
abbrev St : Type := (Nat → Nat) × (Nat → Nat → Nat) × (Nat → Nat → Nat) × (Nat → Nat → Nat → Int32) × (Nat → Nat → Nat → Int64) × (Nat → Nat → Nat → UInt64) × (Nat → Nat → Nat → Option Nat)
def sC (S : St) : Nat → Nat := S.1
def sA (S : St) : Nat → Nat → Nat := S.2.1
def sN (S : St) : Nat → Nat → Nat := S.2.2.1
def sI (S : St) : Nat → Nat → Nat → Int32 := S.2.2.2.1
def sJ (S : St) : Nat → Nat → Nat → Int64 := S.2.2.2.2.1
def sD (S : St) : Nat → Nat → Nat → UInt64 := S.2.2.2.2.2.1
def sR (S : St) : Nat → Nat → Nat → Option Nat := S.2.2.2.2.2.2
def u2 {α : Type} (F : Nat → Nat → α) (k i : Nat) (v : α) : Nat → Nat → α := fun a b => if a = k ∧ b = i then v else F a b
def u3 {α : Type} (F : Nat → Nat → Nat → α) (k i j : Nat) (v : α) : Nat → Nat → Nat → α := fun a b c => if a = k ∧ c = j ∧ b = i then v else F a b c
def pI (S : St) (k i j : Nat) (v : Int32) : St := (sC S, sA S, sN S, u3 (sI S) k i j v, sJ S, sD S, sR S)
def pJ (S : St) (k i j : Nat) (v : Int64) : St := (sC S, sA S, sN S, sI S, u3 (sJ S) k i j v, sD S, sR S)
def pD (S : St) (k i j : Nat) (v : UInt64) : St := (sC S, sA S, sN S, sI S, sJ S, u3 (sD S) k i j v, sR S)
def pR (S : St) (k i j : Nat) (v : Option Nat) : St := (sC S, sA S, sN S, sI S, sJ S, sD S, u3 (sR S) k i j v)
/-- a new cell of kind k at the address a, with z places (an array) -/
def nO (S : St) (k a z : Nat) : St := (va_up (sC S) k (sC S k + 1), u2 (sA S) k (sC S k) a, u2 (sN S) k (sC S k) z, u2 (sI S) k (sC S k) (fun _ => 0), u2 (sJ S) k (sC S k) (fun _ => 0), u2 (sD S) k (sC S k) (fun _ => 0), u2 (sR S) k (sC S k) (fun _ => none))
def sV (S : St) (k i j : Nat) : Value := match kn_t k j with
  | 0 => .int (sI S k i j)
  | 1 => .long (sJ S k i j)
  | 2 => .double (sD S k i j)
  | 3 => va_rf ((sR S k i j).map (sA S (kn_r k j)))
  | _ => .int (sI S k i j)
abbrev sXt : Type := (Nat → Int32) ⊕ (Nat → Int64) ⊕ (Nat → UInt32) ⊕ (Nat → UInt64) ⊕ (Nat → Option Nat)
def sX (S : St) (k i : Nat) : sXt := match kn_t k 0 with
  | 0 => .inl (sI S k i)
  | 1 => .inr (.inl (sJ S k i))
  | 2 => .inr (.inr (.inr (.inl (sD S k i))))
  | 3 => .inr (.inr (.inr (.inr (fun j => (sR S k i j).map (sA S (kn_r k j))))))
  | _ => .inl (sI S k i)
def sE (E : Nat → ClassId) (S : St) (k i : Nat) : va_E := if kn_a k = true then .inl (E (kn_c k), sN S k i, sX S k i) else .inr (kn_c k, (List.range (kn_n k)).map (sV S k i))
/-- the heap's cells at the addresses L are the store's, each at an address of its own; references lead to cells -/
def Rp (E : Nat → ClassId) (S : St) (L : List Nat) (f : Nat → va_E) : Prop := (∀ k i, i < sC S k → sA S k i ∈ L ∧ f (sA S k i) = sE E S k i) ∧ (∀ k i k' i', i < sC S k → i' < sC S k' → sA S k i = sA S k' i' → k = k' ∧ i = i') ∧ ∀ k i j r, i < sC S k → sR S k i j = some r → r < sC S (kn_r k j)
def Wd (D : va_G) (E : Nat → ClassId) (sz : Nat) (S : St) (H : Heap) : Prop := ∃ (L : List Nat) (f : Nat → va_E), Rp E S L f ∧ va_P D vwCl ([] ++ va_pl L f) H ∧ va_D (fun q => sz ≤ q) ([] ++ va_pl L f)
theorem u3_other {α : Type} {F : Nat → Nat → Nat → α} {k i j : Nat} {v : α} {a b : Nat} (h : ¬ (a = k ∧ b = i)) : u3 F k i j v a b = F a b := by
  funext z
  unfold u3
  rw [if_neg (fun q => h ⟨q.1, q.2.2⟩)]
theorem u3_self {α : Type} {F : Nat → Nat → Nat → α} {k i j : Nat} {v : α} : u3 F k i j v k i j = v := by simp [u3]
theorem u3_ne {α : Type} {F : Nat → Nat → Nat → α} {k i j : Nat} {v : α} {a b c : Nat} (h : ¬ (a = k ∧ b = i ∧ c = j)) : u3 F k i j v a b c = F a b c := if_neg (fun q => h ⟨q.1, q.2.2, q.2.1⟩)
theorem u2_self {α : Type} {F : Nat → Nat → α} {k i : Nat} {v : α} : u2 F k i v k i = v := by simp [u2]
theorem u2_ne {α : Type} {F : Nat → Nat → α} {k i : Nat} {v : α} {a b : Nat} (h : ¬ (a = k ∧ b = i)) : u2 F k i v a b = F a b := by simp [u2, h]
theorem sE_congr {E : Nat → ClassId} {S S' : St} {k i : Nat} (hN : sN S' k i = sN S k i) (hI : sI S' k i = sI S k i) (hJ : sJ S' k i = sJ S k i) (hD : sD S' k i = sD S k i) (hR : ∀ j, (sR S' k i j).map (sA S' (kn_r k j)) = (sR S k i j).map (sA S (kn_r k j))) : sE E S' k i = sE E S k i := by
  have hV : sV S' k i = sV S k i := by
    funext j
    unfold sV
    rw [hI, hJ, hD, hR j]
  have hX : sX S' k i = sX S k i := by
    unfold sX
    rw [hI, hJ, hD, show (fun j => (sR S' k i j).map (sA S' (kn_r k j))) = (fun j => (sR S k i j).map (sA S (kn_r k j))) from funext hR]
  unfold sE
  rw [hN, hV, hX]
theorem Rp.upd {E : Nat → ClassId} {S S' : St} {L : List Nat} {f : Nat → va_E} {k i : Nat} {e : va_E} (h : Rp E S L f) (hi : i < sC S k) (hC : sC S' = sC S) (hA : sA S' = sA S) (ho : ∀ a b, ¬ (a = k ∧ b = i) → sE E S' a b = sE E S a b) (he : e = sE E S' k i) (hR : ∀ k i j r, i < sC S k → sR S' k i j = some r → r < sC S (kn_r k j)) : Rp E S' L (va_up f (sA S k i) e) := by
  subst he
  refine ⟨fun a b hb => ?_, fun a b a' b' => by rw [hC, hA]; exact h.2.1 a b a' b', fun a b j r hb hr => by rw [hC] at hb ⊢; exact hR a b j r hb hr⟩
  rw [hC] at hb
  rw [hA]
  refine ⟨(h.1 a b hb).1, ?_⟩
  by_cases hab : a = k ∧ b = i
  · obtain ⟨rfl, rfl⟩ := hab
    rw [va_up_self]
  · rw [va_up_ne _ _ (fun q => hab (h.2.1 a b k i hb hi q)), (h.1 a b hb).2, ho a b hab]
theorem rng_set {N j : Nat} {g g' : Nat → Value} {v : Value} (h1 : g' j = v) (h2 : ∀ z, z ≠ j → g' z = g z) : ((List.range N).map g).set j v = (List.range N).map g' := by
  apply List.ext_getElem?
  intro z
  by_cases hz : z < N
  · by_cases hj : z = j
    · subst hj
      rw [List.getElem?_set_self (by simpa using hz)]
      simp [hz, h1]
    · rw [List.getElem?_set_ne (fun q => hj q.symm)]
      simp [hz, h2 z hj]
  · rw [List.getElem?_eq_none (by simpa using Nat.not_lt.mp hz), List.getElem?_eq_none (by simpa using Nat.not_lt.mp hz)]
theorem rng_get {N j : Nat} {g : Nat → Value} (h : j < N) : ((List.range N).map g)[j]? = some (g j) := by simp [h]
/-- what the tables say of classes, arrays and nest mates: kept by every call -/
def Kw (D : va_G) (E : Nat → ClassId) (U : State) : Prop := va_K D vwCl (tyE E) U ∧ (va_AO RX0 U ∧ va_AO RX1 U ∧ va_AO RX2 U ∧ va_AO RX4 U ∧ va_AO RX5 U ∧ va_AO RX6 U ∧ va_AO RX7 U) ∧ va_Nw (.methodLinkNest RX0 28 yX4_init RX9) U ∧ va_Nw (.methodLinkNest RX9 59 yX8_init RX9) U
theorem Kw.warm {D : va_G} {E : Nat → ClassId} {s U : State} (hW : s.WarmedH U.vm) (h : Kw D E s) : Kw D E U := by
  obtain ⟨h1, ⟨a0, a1, a2, a4, a5, a6, a7⟩, n1, n2⟩ := h
  exact ⟨h1.moved hW.alike, ⟨a0.moved hW.alike, a1.moved hW.alike, a2.moved hW.alike, a4.moved hW.alike, a5.moved hW.alike, a6.moved hW.alike, a7.moved hW.alike⟩, va_Nw.warmM hW n1, va_Nw.warmM hW n2⟩
theorem Kw.same {D : va_G} {E : Nat → ClassId} {s U : State} (hv : s.vm = U.vm) (h : Kw D E s) : Kw D E U := by
  have hA : s.vm.Alike U.vm := by rw [hv]; exact Vm.Alike.refl _
  obtain ⟨h1, ⟨a0, a1, a2, a4, a5, a6, a7⟩, n1, n2⟩ := h
  exact ⟨h1.moved hA, ⟨a0.moved hA, a1.moved hA, a2.moved hA, a4.moved hA, a5.moved hA, a6.moved hA, a7.moved hA⟩, va_Nw.same rfl hv n1, va_Nw.same rfl hv n2⟩
/-! a method's fixed surroundings, in one word: program, launch, environment, room, start, method, arguments, frames below, its table, its code, the goal, classes' numbers, array classes' numbers, the first address of our own, its locals -/
abbrev Cx : Type := Program × Launch × Env × Room × State × MethodId × Array Value × List Frame × Method × Code × (State → Prop) × va_G × (Nat → ClassId) × Nat × Nat
def inX (X : Cx) : Prop := X.2.2.2.2.2.2.2.2.1.name = "<init>"
def rx (X : Cx) : Room := X.2.2.2.1
def lx (X : Cx) : Launch := X.2.1
def nLx (X : Cx) : Nat := X.2.2.2.2.2.2.2.2.2.2.2.2.2.2
def Ok (X : Cx) (cc : ByteArray) (own : String) : Prop := match X with
  | (p, _, _, _, s, m, args, _, meth, c, _, D, E, sz, nL) => p.tables.exec = Jvm.exec ∧ c.code = cc ∧ c.maxLocals = nL ∧ s.vm.findClass own = some m.cls ∧ (∀ w ∈ BIG, w.before args s = true) ∧ Kw D E s ∧ sz ≤ s.heap.size ∧ meth.locks = false
def Jg (X : Cx) (k n : Nat) (S : St) (pc : Nat) (lv : List (Nat × Value)) (st : List Value) : Prop := match X with
  | (p, l, e, R, s, m, args, below, meth, c, Q, D, E, sz, nL) => ∀ (ls : Array Slot) (H : Heap) (locs : List Loc), lv_has ls nL lv → Wd D E sz S H → va_S (fun q => sz ≤ q) s.heap H locs → W p l e R s m args below meth c H locs k n Q (F0 m pc ls st)
def lk : List (Nat × Value) → Nat → Option Value
  | [], _ => none
  | q :: t, i => match Nat.beq q.1 i with
    | true => some q.2
    | false => lk t i
theorem lk_mem : ∀ {lv : List (Nat × Value)} {i : Nat} {v : Value}, lk lv i = some v → (i, v) ∈ lv
  | [], i, v, h => by simp [lk] at h
  | (j, w) :: t, i, v, h => by
    unfold lk at h
    split at h
    · rename_i hb
      have : j = i := Nat.eq_of_beq_eq_true hb
      subst this
      cases h
      exact List.mem_cons_self
    · exact List.mem_cons_of_mem _ (lk_mem h)
theorem lk_at {ls : Array Slot} {nL : Nat} {lv : List (Nat × Value)} {i : Nat} {v : Value} (h : lv_has ls nL lv) (hv : lk lv i = some v) : ls[i]? = some (.val v) := h.2.2 (i, v) (lk_mem hv)
theorem lk_ix {lv : List (Nat × Value)} {i : Nat} {v : Value} (hv : lk lv i = some v) : ∃ k : Nat, lv[k]? = some (i, v) := List.getElem?_of_mem (lk_mem hv)
def ss1 (lv : List (Nat × Value)) (i : Nat) (v : Value) : List (Nat × Value) := (i, v) :: lv.filter (fun q => !(q.1 == i) && !(q.1 + 1 == i && q.2.category == 2))
def ss2 (lv : List (Nat × Value)) (i : Nat) (v : Value) : List (Nat × Value) := (i, v) :: lv.filter (fun q => !(q.1 == i) && (!(q.1 == i + 1) && !(q.1 + 1 == i && q.2.category == 2)))
def lvs (lv : List (Nat × Value)) : List (Nat × Value) → Prop
  | [] => True
  | q :: t => lk lv q.1 = some q.2 ∧ lvs lv t
theorem lvs_mem {lv : List (Nat × Value)} : ∀ {lv' : List (Nat × Value)}, lvs lv lv' → ∀ q ∈ lv', q ∈ lv
  | [], _, q, hq => by cases hq
  | r :: t, h, q, hq => by
    rcases List.mem_cons.mp hq with rfl | hq
    · exact lk_mem h.1
    · exact lvs_mem h.2 q hq
/-- fewer locals, in another order -/
theorem Jg.lv {X : Cx} {k n : Nat} {S : St} {pc : Nat} {lv lv' : List (Nat × Value)} {st : List Value} (h : lvs lv lv') (kk : Jg X k n S pc lv' st) : Jg X k n S pc lv st := by
  obtain ⟨p, l, e, R, s, m, args, below, meth, c, Q, D, E, sz, nL⟩ := X
  exact fun ls H locs hl hW hS => kk ls H locs ⟨hl.1, hl.2.1, fun q hq => hl.2.2 q (lvs_mem h q hq)⟩ hW hS
theorem Jg.widen {X : Cx} {k n k' n' : Nat} {S : St} {pc : Nat} {lv : List (Nat × Value)} {st : List Value} (h1 : k ≤ k') (h2 : n ≤ n') (kk : Jg X k' n' S pc lv st) : Jg X k n S pc lv st := by
  obtain ⟨p, l, e, R, s, m, args, below, meth, c, Q, D, E, sz, nL⟩ := X
  exact fun ls H locs hl hW hS => W.widen h1 h2 (kk ls H locs hl hW hS)
/-- what a class's rows in the tables give -/
def CK (ci : Nat) (C : String) (T : u_T) (N : Nat) (ty : Nat → FieldType) : Prop := vwCl[ci]? = some (C, T, N) ∧ (∀ w ∈ u_ws C T N, w ∈ BIG) ∧ (∀ k, k < N → parseFieldDescriptor (T k).2.2.1 = some (ty k)) ∧ ∀ a, a < N → ∀ b, b < N → a ≠ b → (T a).2.1 ≠ (T b).2.1
section SH
variable {X : Cx} {k n : Nat} {S : St} {pc q : Nat} {lv : List (Nat × Value)} {st : List Value} {cc : ByteArray} {own : String} {C : String} {T : u_T} {N a x i j ix : Nat} {ty : Nat → FieldType}
theorem j_getV {v : Value} (hX : Ok X cc own) (hK : CK (kn_c x) C T N ty) (hd : decode cc pc = .ok (.getfield ix, 3)) (hq : pc + 3 = q) (hf : Cond.fieldLink own ix (T j).1 (T j).2.1 (T j).2.2.1 ∈ BIG) (ha : a = sA S x i) (hi : i < sC S x) (hx : kn_a x = false) (hN : kn_n x = N) (hj : j < N) (hv : sV S x i j = v) (kk : Jg X k n S q lv (v :: st)) : Jg X k n S pc lv (.ref a :: st) := by
  obtain ⟨p, l, e, R, s, m, args, below, meth, c, Q, D, E, sz, nL⟩ := X
  subst hq
  subst ha
  intro ls H locs hl hW hS
  obtain ⟨L, f, hR, hP, hD⟩ := id hW
  obtain ⟨h1, h2⟩ := hR.1 x i hi
  obtain ⟨q0, hq0⟩ := va_pl_get (X := []) (f := f) h1
  have he : sE E S x i = .inr (kn_c x, (List.range N).map (sV S x i)) := by unfold sE; rw [hx, hN]; rfl
  rw [h2, he] at hq0
  exact va_get hX.1 hX.2.1 hX.2.2.2.2.1 hK.2.1 hX.2.2.2.1 hX.2.2.2.2.2.1.1 hP q0 hq0 hK.1 j hj (hX.2.2.2.2.1 _ hf) (fun _ h => h) (by rw [rng_get hj, hv]) hd (kk ls H locs hl hW hS)
theorem j_getI (hX : Ok X cc own) (hK : CK (kn_c x) C T N ty) (hd : decode cc pc = .ok (.getfield ix, 3)) (hq : pc + 3 = q) (hf : Cond.fieldLink own ix (T j).1 (T j).2.1 (T j).2.2.1 ∈ BIG) (ha : a = sA S x i) (hi : i < sC S x) (hx : kn_a x = false) (hN : kn_n x = N) (hj : j < N) (ht : kn_t x j = 0 ∨ kn_t x j = 4) (kk : Jg X k n S q lv (.int (sI S x i j) :: st)) : Jg X k n S pc lv (.ref a :: st) :=
  j_getV hX hK hd hq hf ha hi hx hN hj (by unfold sV; rcases ht with h | h <;> simp only [h]) kk
theorem j_getJ (hX : Ok X cc own) (hK : CK (kn_c x) C T N ty) (hd : decode cc pc = .ok (.getfield ix, 3)) (hq : pc + 3 = q) (hf : Cond.fieldLink own ix (T j).1 (T j).2.1 (T j).2.2.1 ∈ BIG) (ha : a = sA S x i) (hi : i < sC S x) (hx : kn_a x = false) (hN : kn_n x = N) (hj : j < N) (ht : kn_t x j = 1) (kk : Jg X k n S q lv (.long (sJ S x i j) :: st)) : Jg X k n S pc lv (.ref a :: st) :=
  j_getV hX hK hd hq hf ha hi hx hN hj (by unfold sV; simp only [ht]) kk
theorem j_getD (hX : Ok X cc own) (hK : CK (kn_c x) C T N ty) (hd : decode cc pc = .ok (.getfield ix, 3)) (hq : pc + 3 = q) (hf : Cond.fieldLink own ix (T j).1 (T j).2.1 (T j).2.2.1 ∈ BIG) (ha : a = sA S x i) (hi : i < sC S x) (hx : kn_a x = false) (hN : kn_n x = N) (hj : j < N) (ht : kn_t x j = 2) (kk : Jg X k n S q lv (.double (sD S x i j) :: st)) : Jg X k n S pc lv (.ref a :: st) :=
  j_getV hX hK hd hq hf ha hi hx hN hj (by unfold sV; simp only [ht]) kk
theorem j_getR (hX : Ok X cc own) (hK : CK (kn_c x) C T N ty) (hd : decode cc pc = .ok (.getfield ix, 3)) (hq : pc + 3 = q) (hf : Cond.fieldLink own ix (T j).1 (T j).2.1 (T j).2.2.1 ∈ BIG) (ha : a = sA S x i) (hi : i < sC S x) (hx : kn_a x = false) (hN : kn_n x = N) (hj : j < N) (ht : kn_t x j = 3) (kk : Jg X k n S q lv (va_rf ((sR S x i j).map (sA S (kn_r x j))) :: st)) : Jg X k n S pc lv (.ref a :: st) :=
  j_getV hX hK hd hq hf ha hi hx hN hj (by unfold sV; simp only [ht]) kk
theorem j_getRs {r : Nat} (hX : Ok X cc own) (hK : CK (kn_c x) C T N ty) (hd : decode cc pc = .ok (.getfield ix, 3)) (hq : pc + 3 = q) (hf : Cond.fieldLink own ix (T j).1 (T j).2.1 (T j).2.2.1 ∈ BIG) (ha : a = sA S x i) (hi : i < sC S x) (hx : kn_a x = false) (hN : kn_n x = N) (hj : j < N) (ht : kn_t x j = 3) (hr : sR S x i j = some r) (kk : Jg X k n S q lv (.ref (sA S (kn_r x j) r) :: st)) : Jg X k n S pc lv (.ref a :: st) :=
  j_getV hX hK hd hq hf ha hi hx hN hj (by unfold sV; rw [ht]; show va_rf _ = _; rw [hr]; rfl) kk
theorem j_getRn (hX : Ok X cc own) (hK : CK (kn_c x) C T N ty) (hd : decode cc pc = .ok (.getfield ix, 3)) (hq : pc + 3 = q) (hf : Cond.fieldLink own ix (T j).1 (T j).2.1 (T j).2.2.1 ∈ BIG) (ha : a = sA S x i) (hi : i < sC S x) (hx : kn_a x = false) (hN : kn_n x = N) (hj : j < N) (ht : kn_t x j = 3) (hr : sR S x i j = none) (kk : Jg X k n S q lv (.null :: st)) : Jg X k n S pc lv (.ref a :: st) :=
  j_getV hX hK hd hq hf ha hi hx hN hj (by unfold sV; rw [ht]; show va_rf _ = _; rw [hr]; rfl) kk
/-- a field is written: S' is S but for that field -/
theorem j_putV {S' : St} {v : Value} {fty : FieldType} (hX : Ok X cc own) (hK : CK (kn_c x) C T N ty) (hd : decode cc pc = .ok (.putfield ix, 3)) (hq : pc + 3 = q) (hf : Cond.fieldLink own ix (T j).1 (T j).2.1 (T j).2.2.1 ∈ BIG) (ha : a = sA S x i) (hi : i < sC S x) (hx : kn_a x = false) (hN : kn_n x = N) (hj : j < N) (hfin : (T j).2.2.2 = false) (hd2 : parseFieldDescriptor (T j).2.2.1 = some fty) (hn : narrow fty v = v) (hfit : fits fty v = true)
    (hC : sC S' = sC S) (hA : sA S' = sA S) (ho : ∀ E a b, ¬ (a = x ∧ b = i) → sE E S' a b = sE E S a b) (hv : sV S' x i j = v) (hz : ∀ z, z ≠ j → sV S' x i z = sV S x i z) (hR : ∀ E L f, Rp E S L f → ∀ k i j r, i < sC S k → sR S' k i j = some r → r < sC S (kn_r k j)) (kk : Jg X k n S' q lv st) : Jg X k n S pc lv (v :: .ref a :: st) := by
  obtain ⟨p, l, e, R, s, m, args, below, meth, c, Q, D, E, sz, nL⟩ := X
  subst hq
  subst ha
  intro ls H locs hl hW hS
  obtain ⟨L, f, hR0, hP, hD⟩ := hW
  obtain ⟨h1, h2⟩ := hR0.1 x i hi
  obtain ⟨q0, hq0⟩ := va_pl_get (X := []) (f := f) h1
  have hq1 := hq0
  have he : sE E S x i = .inr (kn_c x, (List.range N).map (sV S x i)) := by unfold sE; rw [hx, hN]; rfl
  rw [h2, he] at hq0
  refine va_put hX.1 hX.2.1 hX.2.2.2.2.1 hK.2.1 ty hK.2.2.1 hK.2.2.2 hX.2.2.2.1 hX.2.2.2.2.2.1.1 hP hD hS q0 hq0 hK.1 j hj (hX.2.2.2.2.1 _ hf) (fun _ h => h) hfin hd2 hn hfit (by simpa using hj) hd (fun H1 locs1 hP1 hD1 hS1 => kk ls H1 locs1 hl ⟨L, va_up f (sA S x i) (.inr (kn_c x, ((List.range N).map (sV S x i)).set j v)), ?_, ?_, ?_⟩ hS1)
  · refine hR0.upd hi hC hA (ho E) ?_ (hR E L f hR0)
    unfold sE
    rw [hx, hN, rng_set hv hz]
    rfl
  · rw [va_pl_set hD h1 hq1] at hP1
    exact hP1
  · rw [va_pl_set hD h1 hq1] at hD1
    exact hD1
end SH
theorem sE_otherI {E : Nat → ClassId} {S : St} {x i j : Nat} {v : Int32} {a b : Nat} (h : ¬ (a = x ∧ b = i)) : sE E (pI S x i j v) a b = sE E S a b := sE_congr rfl (u3_other h) rfl rfl (fun _ => rfl)
theorem sE_otherJ {E : Nat → ClassId} {S : St} {x i j : Nat} {v : Int64} {a b : Nat} (h : ¬ (a = x ∧ b = i)) : sE E (pJ S x i j v) a b = sE E S a b := sE_congr rfl rfl (u3_other h) rfl (fun _ => rfl)
theorem sE_otherD {E : Nat → ClassId} {S : St} {x i j : Nat} {v : UInt64} {a b : Nat} (h : ¬ (a = x ∧ b = i)) : sE E (pD S x i j v) a b = sE E S a b := sE_congr rfl rfl rfl (u3_other h) (fun _ => rfl)
theorem sE_otherR {E : Nat → ClassId} {S : St} {x i j : Nat} {v : Option Nat} {a b : Nat} (h : ¬ (a = x ∧ b = i)) : sE E (pR S x i j v) a b = sE E S a b := sE_congr rfl rfl rfl rfl (fun z => by
  show (u3 (sR S) x i j v a b z).map (sA S (kn_r a z)) = _
  rw [u3_other h])
theorem sV_neI {S : St} {x i j z : Nat} {v : Int32} (h : z ≠ j) : sV (pI S x i j v) x i z = sV S x i z := by
  unfold sV
  rw [show sI (pI S x i j v) x i z = sI S x i z from u3_ne (fun q => h q.2.2)]
  rfl
theorem sV_neJ {S : St} {x i j z : Nat} {v : Int64} (h : z ≠ j) : sV (pJ S x i j v) x i z = sV S x i z := by
  unfold sV
  rw [show sJ (pJ S x i j v) x i z = sJ S x i z from u3_ne (fun q => h q.2.2)]
  rfl
theorem sV_neD {S : St} {x i j z : Nat} {v : UInt64} (h : z ≠ j) : sV (pD S x i j v) x i z = sV S x i z := by
  unfold sV
  rw [show sD (pD S x i j v) x i z = sD S x i z from u3_ne (fun q => h q.2.2)]
  rfl
theorem sV_neR {S : St} {x i j z : Nat} {v : Option Nat} (h : z ≠ j) : sV (pR S x i j v) x i z = sV S x i z := by
  unfold sV
  rw [show sR (pR S x i j v) x i z = sR S x i z from u3_ne (fun q => h q.2.2)]
  rfl
theorem sV_I {S : St} {x i j : Nat} {v : Int32} (ht : kn_t x j = 0 ∨ kn_t x j = 4) : sV (pI S x i j v) x i j = .int v := by
  unfold sV
  rcases ht with ht | ht <;> (rw [ht]; show Value.int (u3 (sI S) x i j v x i j) = _; rw [u3_self])
theorem sV_J {S : St} {x i j : Nat} {v : Int64} (ht : kn_t x j = 1) : sV (pJ S x i j v) x i j = .long v := by
  unfold sV
  rw [ht]
  show Value.long (u3 (sJ S) x i j v x i j) = _
  rw [u3_self]
theorem sV_D {S : St} {x i j : Nat} {v : UInt64} (ht : kn_t x j = 2) : sV (pD S x i j v) x i j = .double v := by
  unfold sV
  rw [ht]
  show Value.double (u3 (sD S) x i j v x i j) = _
  rw [u3_self]
theorem sV_R {S : St} {x i j : Nat} {v : Option Nat} (ht : kn_t x j = 3) : sV (pR S x i j v) x i j = va_rf (v.map (sA S (kn_r x j))) := by
  unfold sV
  rw [ht]
  show va_rf ((u3 (sR S) x i j v x i j).map _) = _
  rw [u3_self]
  rfl
theorem Rp_refs {E : Nat → ClassId} {S : St} {L : List Nat} {f : Nat → va_E} {x i j : Nat} {v : Option Nat} (h : Rp E S L f) (hv : ∀ r, v = some r → r < sC S (kn_r x j)) : ∀ k i' j' r, i' < sC S k → sR (pR S x i j v) k i' j' = some r → r < sC S (kn_r k j') := by
  intro k i' j' r hi hr
  have hr : u3 (sR S) x i j v k i' j' = some r := hr
  unfold u3 at hr
  split at hr
  · rename_i hh
    rw [hh.1, hh.2.1]
    exact hv r hr
  · exact h.2.2 k i' j' r hi hr
section SP
variable {X : Cx} {k n : Nat} {S : St} {pc q : Nat} {lv : List (Nat × Value)} {st : List Value} {cc : ByteArray} {own : String} {C : String} {T : u_T} {N a x i j ix : Nat} {ty : Nat → FieldType}
theorem j_putI {v : Int32} (hX : Ok X cc own) (hK : CK (kn_c x) C T N ty) (hd : decode cc pc = .ok (.putfield ix, 3)) (hq : pc + 3 = q) (hf : Cond.fieldLink own ix (T j).1 (T j).2.1 (T j).2.2.1 ∈ BIG) (ha : a = sA S x i) (hi : i < sC S x) (hx : kn_a x = false) (hN : kn_n x = N) (hj : j < N) (hfin : (T j).2.2.2 = false) (hd2 : parseFieldDescriptor (T j).2.2.1 = some .int) (ht : kn_t x j = 0) (kk : Jg X k n (pI S x i j v) q lv st) : Jg X k n S pc lv (.int v :: .ref a :: st) :=
  j_putV (S' := pI S x i j v) hX hK hd hq hf ha hi hx hN hj hfin hd2 rfl rfl rfl rfl (fun _ _ _ h => sE_otherI h) (sV_I (Or.inl ht)) (fun _ h => sV_neI h) (fun _ _ _ h => h.2.2) kk
theorem j_putZ {v : Int32} (hX : Ok X cc own) (hK : CK (kn_c x) C T N ty) (hd : decode cc pc = .ok (.putfield ix, 3)) (hq : pc + 3 = q) (hf : Cond.fieldLink own ix (T j).1 (T j).2.1 (T j).2.2.1 ∈ BIG) (ha : a = sA S x i) (hi : i < sC S x) (hx : kn_a x = false) (hN : kn_n x = N) (hj : j < N) (hfin : (T j).2.2.2 = false) (hd2 : parseFieldDescriptor (T j).2.2.1 = some .boolean) (ht : kn_t x j = 4) (hb : v = 0 ∨ v = 1) (kk : Jg X k n (pI S x i j v) q lv st) : Jg X k n S pc lv (.int v :: .ref a :: st) :=
  j_putV (S' := pI S x i j v) hX hK hd hq hf ha hi hx hN hj hfin hd2 (by rcases hb with h | h <;> (rw [h]; rfl)) (by rcases hb with h | h <;> (rw [h]; rfl)) rfl rfl (fun _ _ _ h => sE_otherI h) (sV_I (Or.inr ht)) (fun _ h => sV_neI h) (fun _ _ _ h => h.2.2) kk
theorem j_putD {v : UInt64} (hX : Ok X cc own) (hK : CK (kn_c x) C T N ty) (hd : decode cc pc = .ok (.putfield ix, 3)) (hq : pc + 3 = q) (hf : Cond.fieldLink own ix (T j).1 (T j).2.1 (T j).2.2.1 ∈ BIG) (ha : a = sA S x i) (hi : i < sC S x) (hx : kn_a x = false) (hN : kn_n x = N) (hj : j < N) (hfin : (T j).2.2.2 = false) (hd2 : parseFieldDescriptor (T j).2.2.1 = some .double) (ht : kn_t x j = 2) (kk : Jg X k n (pD S x i j v) q lv st) : Jg X k n S pc lv (.double v :: .ref a :: st) :=
  j_putV (S' := pD S x i j v) hX hK hd hq hf ha hi hx hN hj hfin hd2 rfl rfl rfl rfl (fun _ _ _ h => sE_otherD h) (sV_D ht) (fun _ h => sV_neD h) (fun _ _ _ h => h.2.2) kk
theorem j_putR {v : Option Nat} {w : Value} {fty : FieldType} (hX : Ok X cc own) (hK : CK (kn_c x) C T N ty) (hd : decode cc pc = .ok (.putfield ix, 3)) (hq : pc + 3 = q) (hf : Cond.fieldLink own ix (T j).1 (T j).2.1 (T j).2.2.1 ∈ BIG) (ha : a = sA S x i) (hi : i < sC S x) (hx : kn_a x = false) (hN : kn_n x = N) (hj : j < N) (hfin : (T j).2.2.2 = false) (hd2 : parseFieldDescriptor (T j).2.2.1 = some fty) (hn : ∀ r, narrow fty (va_rf r) = va_rf r) (hft : ∀ r, fits fty (va_rf r) = true) (ht : kn_t x j = 3) (hw : w = va_rf (v.map (sA S (kn_r x j)))) (hv : ∀ r, v = some r → r < sC S (kn_r x j)) (kk : Jg X k n (pR S x i j v) q lv st) : Jg X k n S pc lv (w :: .ref a :: st) := by
  subst hw
  exact j_putV (S' := pR S x i j v) hX hK hd hq hf ha hi hx hN hj hfin hd2 (hn _) (hft _) rfl rfl (fun _ _ _ h => sE_otherR h) (sV_R ht) (fun _ h => sV_neR h) (fun _ _ _ h => Rp_refs h hv) kk
end SP

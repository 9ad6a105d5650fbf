/-! THE CLAIM OUT OF ONE WALK OF THE LAW'S BODY. Your part is whole_start (and what it stands on); all else here is the same for every law, but numbers. -/
def R_law : String := "SortLineEventsLaw"
def lw_P (b : Addr) (xs : List Int32) (args : Array Value) (s : State) : Prop := args = #[.ref b] ∧ s.IntsAt b xs ∧ xs.length ≤ 2561 ∧ (Jvm.Cond.and given_1 narrow_1).before args s = true
def lw_Q (_ : Array Value) (s : State) (o : Outcome) (t : State) : Prop := o = .returned (some (.int 1)) ∧ Framed s o t [] 600000 7302250
def lw_Z (below : List Frame) (a : Array Value) (s : State) : State → Prop := fun t => ∃ o, t.status = .running ∧ Ended t below o ∧ lw_Q a s o t
/-- the law's own end, with 1 on the stack, nothing written that was there before, its room as the claim has it -/
theorem lw_ret {p : Program} {l : Launch} {e : Env} {s : State} {m : MethodId} {below : List Frame} {meth : Method} {c : Code} {b : Nat} (hx : p.tables.exec = Jvm.exec) (hb : c.code = code) (hr : meth.sig.returnType = ret) (hlocks : meth.locks = false) {pc : Nat} {H : Heap} {ls : Array Slot} (hdg : decode code pc = .ok (.ireturn, 1)) : W p l e room_1 s m #[Value.ref b] below meth c H [] 600000 7302250 (lw_Z below #[Value.ref b] s) (F0 m pc ls [.int 1]) := by
  intro T hT X
  obtain ⟨fs, hret, hrun, hended, hW, hframe⟩ := X.leave (v := some (.int 1)) (hlocks := hlocks) (fun h => by rw [hr] at h; cases h)
  have hmeth' : T.vm.method? m = some meth := X.method'
  refine ⟨T.setFrames fs, ?_, .returned (some (.int 1)), hrun, hended, rfl, ⟨_, rfl⟩, hW, hframe⟩
  jvm_step X.here [X.here.top, hx, hb, hdg, hmeth', hr, ret, narrow_b1]
  (try refine ⟨rfl, ?_⟩); (try refine ⟨rfl, ?_⟩)
  first | (intro acts; rw [hret _ acts rfl rfl rfl]) | rw [hret _ _ rfl rfl rfl]
  exact Steps.refl _
/-- what holds at the law's entry: the machine, the code, the tables' words (any of lw_tbl by 'hts w (by decide +kernel)'), the script of L ints xs at the cell b, what the Statement gives of the start (any of its parts by flat_of_before) -/
def lw_At (p : Program) (s : State) (m : MethodId) (meth : Method) (c : Code) (b L : Nat) (xs : Nat → Int32) : Prop :=
  p.tables.exec = Jvm.exec ∧ c.code = code ∧ meth.sig.returnType = ret ∧ c.maxLocals = 8 ∧ s.vm.findClass R_law = some m.cls ∧ (∀ w ∈ lw_tbl, w.before #[Value.ref b] s = true) ∧ va_X b L xs s s.heap ∧ b < s.heap.size ∧ meth.locks = false ∧ (Jvm.Cond.and given_1 narrow_1).before #[Value.ref b] s = true
/-! THE LAW: its surroundings, the script that it reads, the loop's invariant -/
/-- the script of L ints xs lies at b, outside of our own cells -/
def SX (X : Cx) (b L : Nat) (xs : Nat → Int32) : Prop := match X with
  | (_, _, _, _, s, _, _, _, _, _, _, _, _, sz, _) => va_X b L xs s s.heap ∧ b < s.heap.size ∧ ¬ sz ≤ b
section SScr
variable {X : Cx} {k n : Nat} {S : St} {pc q : Nat} {lv : List (Nat × Value)} {st : List Value} {cc : ByteArray} {own : String} {b L : Nat} {xs : Nat → Int32}
theorem j_slen (hX : Ok X cc own) (hs : SX X b L xs) (hd : decode cc pc = .ok (.arraylength, 1)) (hq : pc + 1 = q) (kk : Jg X k n S q lv (.int (nI L) :: st)) : Jg X k n S pc lv (.ref b :: st) := by
  obtain ⟨p, l, e, R, s, m, args, below, meth, c, Q, D, E, sz, nL⟩ := X
  subst hq
  intro ls H locs hl hW hS
  exact va_slen hX.1 hX.2.1 hs.1 hs.2.1 hs.2.2 hS hd (kk ls H locs hl hW hS)
theorem j_sld {w : Int32} {j : Nat} (hX : Ok X cc own) (hs : SX X b L xs) (hd : decode cc pc = .ok (.iaload, 1)) (hq : pc + 1 = q) (hw : w = nI j) (hj : j < L) (hL : L < 2 ^ 31) (kk : Jg X k n S q lv (.int (xs j) :: st)) : Jg X k n S pc lv (.int w :: .ref b :: st) := by
  obtain ⟨p, l, e, R, s, m, args, below, meth, c, Q, D, E, sz, nL⟩ := X
  subst hq
  subst hw
  intro ls H locs hl hW hS
  refine va_sld hX.1 hX.2.1 hs.1 hs.2.1 hs.2.2 hS (vp_in_nI hj hL) hd ?_
  rw [nI_clamp (Nat.lt_trans hj hL)]
  exact kk ls H locs hl hW hS
end SScr
def c0 (L : Nat) (xs : Nat → Int32) : Int32 := if L = 0 then 0 else xs 0
def PcS (D : va_G) (E : Nat → ClassId) (sz b L : Nat) (xs : Nat → Int32) (as : List Value) (S : St) : Array Value → State → Prop := va_Pc as (fun U => (Wd D E sz S U.heap ∧ Kw D E U ∧ sz ≤ U.heap.size) ∧ va_X b L xs U U.heap ∧ b < sz)
theorem PcS.blind {D : va_G} {E : Nat → ClassId} {sz b L : Nat} {xs : Nat → Int32} {as : List Value} {S : St} : FrameBlind (PcS D E sz b L xs as S) := by
  intro a U g mk h
  obtain ⟨h1, ⟨h2, h3, h4⟩, h5, h6⟩ := h
  exact ⟨h1, ⟨h2, h3.same rfl, h4⟩, va_X.moved (u := U) (U := U.calling g mk a) (Vm.Alike.refl U.vm) h5, h6⟩
set_option maxHeartbeats 4000000 in
set_option maxRecDepth 100000 in
theorem c_L_cell (l : Launch) (D : va_G) (E : Nat → ClassId) (sz b L : Nat) (xs : Nat → Int32) (S : St) (hL : L < 2 ^ 31) : Met l yL_cell (wM yL_cell cL_cell 2 (some .int)) (rm 0 0 0 0) (PcS D E sz b L xs [.ref b, .int 0] S) (QcP D E sz (fun r S' => r = some (.int (c0 L xs)) ∧ S' = S)) (rm 0 0 0 0).cells (rm 0 0 0 0).slots (fun q => sz ≤ q) := by
  refine Met.ofW (cc := cL_cell) (maxL := 2) (ret := some .int) (by decide) rfl ?_
  intro p e s m args below meth c s₁ B hml hv
  obtain ⟨rfl, ⟨hW, hKw, hsz⟩, hXs, hb⟩ := hv
  have hts := atoms_spec (ws := wM yL_cell cL_cell 2 (some .int)) B.pre
  have body : ∀ X : Cx, OkM X cL_cell RL l (rm 0 0 0 0) 2 (some .int) yL_cell.name (fun r S' => r = some (.int (c0 L xs)) ∧ S' = S) → SX X b L xs → Jg X 0 0 S 0 [(0, .ref b), (1, .int 0)] [] := by
    intro X hM hs
    have hO := hM.1
    refine j_iload_n (q := 1) hO dL_cell_0 rfl rfl ?_
    refine j_aload_n (q := 2) hO dL_cell_1 rfl rfl ?_
    refine j_slen (q := 3) hO hs dL_cell_2 rfl ?_
    refine j_icmp_ge (tgt := 12) (q := 6) hO dL_cell_3 rfl (by decide) (fun c3 => ?_) (fun c3 => ?_)
    · refine j_iconst (v := 0) (q := 13) hO dL_cell_12 rfl (by decide) ?_
      have hz : L = 0 := by
        rcases Nat.eq_zero_or_pos L with q | q
        · exact q
        · exact absurd c3 (by rw [← nI_0]; exact nI_ge q hL)
      exact j_iret hM dL_cell_13 (Nat.le_of_ble_eq_true rfl) (Nat.le_of_ble_eq_true rfl) ⟨by unfold c0; rw [if_pos hz], rfl⟩
    · have hz : 0 < L := by
        rcases Nat.eq_zero_or_pos L with q | q
        · exact absurd (by rw [q, nI_0]; exact Int32.le_refl 0) c3
        · exact q
      refine j_aload_n (q := 7) hO dL_cell_6 rfl rfl ?_
      refine j_iload_n (q := 8) hO dL_cell_7 rfl rfl ?_
      refine j_sld (j := 0) (q := 9) hO hs dL_cell_8 rfl nI_0.symm hz hL ?_
      refine j_goto (tgt := 13) hO dL_cell_9 (by decide) ?_
      exact j_iret hM dL_cell_13 (Nat.le_of_ble_eq_true rfl) (Nat.le_of_ble_eq_true rfl) ⟨by unfold c0; rw [if_neg (by omega)], rfl⟩
  have h := body (p, l, e, (headSpec (wM yL_cell cL_cell 2 (some .int)) (rm 0 0 0 0)).room, s, m, #[.ref b, .int 0], below, meth, c, MQ below (QcP D E sz (fun r S' => r = some (.int (c0 L xs)) ∧ S' = S)) #[.ref b, .int 0] s (rm 0 0 0 0).cells (rm 0 0 0 0).slots (fun q => sz ≤ q), D, E, sz, 2) ⟨⟨B.exec, B.bytes, hml, findClass_of_methodNamed B.named, fun w hw => hts w (List.mem_cons_of_mem _ hw), hKw, hsz, B.notSynchronized⟩, rfl, rfl, rfl, B.returns, (name_of_methodNamed B.named B.method).1, rfl⟩ ⟨hXs, Nat.lt_of_lt_of_le hb hsz, Nat.not_le.mpr hb⟩
  rw [lg_entry_eq]
  exact h _ s.heap [] (lv_entry [.ref b, .int 0] (Nat.le_of_ble_eq_true rfl)) hW va_S.rf
/-- the law's own surroundings -/
def LX (X : Cx) (b L : Nat) (xs : Nat → Int32) : Prop := Ok X code RL ∧ match X with
  | (_, _, _, R, s, _, args, below, meth, _, Q, _, _, sz, nL) => (va_X b L xs s s.heap ∧ b < s.heap.size ∧ ¬ sz ≤ b) ∧ nL = 8 ∧ R = room_1 ∧ args = #[.ref b] ∧ Q = lw_Z below #[.ref b] s ∧ meth.sig.returnType = ret ∧ sz = s.heap.size
theorem LX.nL {X : Cx} {b L : Nat} {xs : Nat → Int32} (h : LX X b L xs) : nLx X = 8 := by
  obtain ⟨p, l', e, R, s, m, args, below, meth, c, Q, D, E, sz, nL⟩ := X
  exact h.2.2.1
theorem LX.R {X : Cx} {b L : Nat} {xs : Nat → Int32} (h : LX X b L xs) : rx X = room_1 := by
  obtain ⟨p, l', e, R, s, m, args, below, meth, c, Q, D, E, sz, nL⟩ := X
  exact h.2.2.2.1
theorem LX.s {X : Cx} {b L : Nat} {xs : Nat → Int32} (h : LX X b L xs) : SX X b L xs := by
  obtain ⟨p, l', e, R, s, m, args, below, meth, c, Q, D, E, sz, nL⟩ := X
  exact h.2.1
section SLaw
variable {X : Cx} {k n : Nat} {S : St} {pc q : Nat} {lv : List (Nat × Value)} {st : List Value} {b L : Nat} {xs : Nat → Int32}
theorem j_cell (h : LX X b L xs) (hL : L < 2 ^ 31) (hR : roomy X k n (rm 0 0 0 0) 2 st) (hd : decode code pc = .ok (.invokestatic 9, 3)) (hq : pc + 3 = q) (kk : Jg X k n S q lv (.int (c0 L xs) :: st)) : Jg X k n S pc lv (.int 0 :: .ref b :: st) := by
  obtain ⟨p, l, e, R, s, m, args, below, meth, c, Q, D, E, sz, nL⟩ := X
  subst hq
  intro ls H locs hl0 hW hS
  obtain ⟨⟨hx1, hb1, hml, hown, hts, hKw, hsz, hlk⟩, ⟨hXs, hbl, hbA⟩, -⟩ := h
  have hcw : CallB R s args RL 9 yL_cell cL_cell 2 (some .int) (wM yL_cell cL_cell 2 (some .int)) (rm 0 0 0 0) (rm 0 0 0 0).cells (rm 0 0 0 0).slots 2 ∧ (Cond.static yL_cell).before args s = true := ⟨callB_of 2 hts (wM_good M_L_cell.1) rfl rfl rfl (hts _ M_L_cell.2.2.1) (hts _ mw_489) M_L_cell.2.2.2 hR.1, hts _ M_L_cell.2.1⟩
  refine run_call (va_runS (As := [.ref b, .int 0]) (rest := st) ⟨hx1, hb1, hml, hown, hts⟩ (c_L_cell l D E sz b L xs S hL) hcw ⟨PcS.blind, fun U hU hWm => ⟨rfl, ⟨by rw [hU]; exact hW, hKw.warm hWm, by rw [hU]; exact Nat.le_trans hsz hS.1⟩, va_X.moved hWm.alike (hXs.kept (by rw [hU]; exact hS.2.1 b hbl hbA)), Nat.not_le.mp hbA⟩⟩ rfl rfl hl0.1 rfl (lv_room hR.2.2) hd hR.2.1) hS (fun v S' H1 locs1 hp hw hs => ?_)
  obtain ⟨rfl, rfl⟩ := hp
  exact kk ls H1 locs1 hl0 hw hs
/-- the law's end -/
theorem j_law (h : LX X b L xs) (hd : decode code pc = .ok (.ireturn, 1)) (h1 : k ≤ 600000) (h2 : n ≤ 7302250) : Jg X k n S pc lv [.int 1] := by
  obtain ⟨p, l, e, R, s, m, args, below, meth, c, Q, D, E, sz, nL⟩ := X
  obtain ⟨⟨hx1, hb1, hml, hown, hts, hKw, hsz, hlk⟩, -, rfl, rfl, rfl, rfl, hr, rfl⟩ := h
  intro ls H locs hl hW hS
  refine va_forget (fun q hq => hS.2.2 q hq) ?_
  refine W.widen (k := 600000) (n := 7302250) h1 h2 ?_
  exact lw_ret hx1 hb1 hr hlk hd
theorem Jg.wr {α : Al} (h : rd S = α) (kk : Jg X k n (wr S α) pc lv st) : Jg X k n S pc lv st := by
  subst h
  rw [wr_rd] at kk
  exact kk
end SLaw
/-- what holds at the loop's head: the reference's cells stand, and the class's are as its state says -/
def Lv (S : St) : Prop := MSh S ∧ Cq S (rd S)
theorem Lv.go {S : St} {β : Al} (hm : MSh S) (cq : Cq S β) : Lv (wr S β) := ⟨hm, by rw [rd_wr]; exact cq⟩
abbrev LV (S : St) (i b : Nat) : List (Nat × Value) := [(0, .ref b), (1, .ref (sA S 9 0)), (2, .ref (sA S 10 0)), (3, .int (nI i))]
theorem lc_self (x : Int64) : lg_cmp x x = 0 := by simp [lg_cmp]
theorem e125 {x : Int32} : vf_n64 (FP.dmul (FP.i2d x) 4593671619917905920) := n64_of (dmul_okz (i2d_ok x) (dNz_of (by decide +kernel)))
theorem ix_in {i L : Nat} (hi : i < 2 ^ 31) (hL : L < 2 ^ 31) (h : ¬ nI L - 5 < nI i) : i + 5 ≤ L := by
  rcases Nat.lt_or_ge L 5 with q | q
  · exfalso
    apply h
    have h0 : nI L - 5 < 0 := by
      rcases (show L = 0 ∨ L = 1 ∨ L = 2 ∨ L = 3 ∨ L = 4 by omega) with rfl | rfl | rfl | rfl | rfl <;> decide +kernel
    have h1 := nI_pos' hi
    rw [Int32.lt_iff_toInt_lt] at h0 ⊢
    rw [Int32.le_iff_toInt_le] at h1
    omega
  · obtain ⟨M, rfl⟩ : ∃ M, L = M + 5 := ⟨L - 5, by omega⟩
    have e : nI (M + 5) - 5 = nI M := by
      rw [← nI_add M 5]
      exact Int32.add_sub_cancel _ _
    rw [e] at h
    have h2 : ¬ M < i := fun q => h ((nI_ltI (by omega) hi).mpr q)
    omega
theorem tb16 (x : Int32) : x = 0 ∨ x = 1 ∨ x = 2 ∨ x = 3 ∨ x = 4 ∨ x = 5 ∨ x = 6 ∨ x = 7 ∨ x = 8 ∨ x = 9 ∨ x = 10 ∨ x = 11 ∨ x = 12 ∨ x = 13 ∨ x = 14 ∨ x = 15 ∨ x = 16 ∨ (x.toInt < 0 ∨ (16 : Int) < x.toInt) := by
  by_cases h : x.toInt < 0 ∨ (16 : Int) < x.toInt
  · exact Or.inr (Or.inr (Or.inr (Or.inr (Or.inr (Or.inr (Or.inr (Or.inr (Or.inr (Or.inr (Or.inr (Or.inr (Or.inr (Or.inr (Or.inr (Or.inr (Or.inr (h)))))))))))))))))
  · have h' : x.toInt = 0 ∨ x.toInt = 1 ∨ x.toInt = 2 ∨ x.toInt = 3 ∨ x.toInt = 4 ∨ x.toInt = 5 ∨ x.toInt = 6 ∨ x.toInt = 7 ∨ x.toInt = 8 ∨ x.toInt = 9 ∨ x.toInt = 10 ∨ x.toInt = 11 ∨ x.toInt = 12 ∨ x.toInt = 13 ∨ x.toInt = 14 ∨ x.toInt = 15 ∨ x.toInt = 16 := by omega
    rcases h' with h | h | h | h | h | h | h | h | h | h | h | h | h | h | h | h | h
    · exact Or.inl (Int32.toInt_inj.mp (h.trans (by decide)))
    · exact Or.inr (Or.inl (Int32.toInt_inj.mp (h.trans (by decide))))
    · exact Or.inr (Or.inr (Or.inl (Int32.toInt_inj.mp (h.trans (by decide)))))
    · exact Or.inr (Or.inr (Or.inr (Or.inl (Int32.toInt_inj.mp (h.trans (by decide))))))
    · exact Or.inr (Or.inr (Or.inr (Or.inr (Or.inl (Int32.toInt_inj.mp (h.trans (by decide)))))))
    · exact Or.inr (Or.inr (Or.inr (Or.inr (Or.inr (Or.inl (Int32.toInt_inj.mp (h.trans (by decide))))))))
    · exact Or.inr (Or.inr (Or.inr (Or.inr (Or.inr (Or.inr (Or.inl (Int32.toInt_inj.mp (h.trans (by decide)))))))))
    · exact Or.inr (Or.inr (Or.inr (Or.inr (Or.inr (Or.inr (Or.inr (Or.inl (Int32.toInt_inj.mp (h.trans (by decide))))))))))
    · exact Or.inr (Or.inr (Or.inr (Or.inr (Or.inr (Or.inr (Or.inr (Or.inr (Or.inl (Int32.toInt_inj.mp (h.trans (by decide)))))))))))
    · exact Or.inr (Or.inr (Or.inr (Or.inr (Or.inr (Or.inr (Or.inr (Or.inr (Or.inr (Or.inl (Int32.toInt_inj.mp (h.trans (by decide))))))))))))
    · exact Or.inr (Or.inr (Or.inr (Or.inr (Or.inr (Or.inr (Or.inr (Or.inr (Or.inr (Or.inr (Or.inl (Int32.toInt_inj.mp (h.trans (by decide)))))))))))))
    · exact Or.inr (Or.inr (Or.inr (Or.inr (Or.inr (Or.inr (Or.inr (Or.inr (Or.inr (Or.inr (Or.inr (Or.inl (Int32.toInt_inj.mp (h.trans (by decide))))))))))))))
    · exact Or.inr (Or.inr (Or.inr (Or.inr (Or.inr (Or.inr (Or.inr (Or.inr (Or.inr (Or.inr (Or.inr (Or.inr (Or.inl (Int32.toInt_inj.mp (h.trans (by decide)))))))))))))))
    · exact Or.inr (Or.inr (Or.inr (Or.inr (Or.inr (Or.inr (Or.inr (Or.inr (Or.inr (Or.inr (Or.inr (Or.inr (Or.inr (Or.inl (Int32.toInt_inj.mp (h.trans (by decide))))))))))))))))
    · exact Or.inr (Or.inr (Or.inr (Or.inr (Or.inr (Or.inr (Or.inr (Or.inr (Or.inr (Or.inr (Or.inr (Or.inr (Or.inr (Or.inr (Or.inl (Int32.toInt_inj.mp (h.trans (by decide)))))))))))))))))
    · exact Or.inr (Or.inr (Or.inr (Or.inr (Or.inr (Or.inr (Or.inr (Or.inr (Or.inr (Or.inr (Or.inr (Or.inr (Or.inr (Or.inr (Or.inr (Or.inl (Int32.toInt_inj.mp (h.trans (by decide))))))))))))))))))
    · exact Or.inr (Or.inr (Or.inr (Or.inr (Or.inr (Or.inr (Or.inr (Or.inr (Or.inr (Or.inr (Or.inr (Or.inr (Or.inr (Or.inr (Or.inr (Or.inr (Or.inl (Int32.toInt_inj.mp (h.trans (by decide)))))))))))))))))))

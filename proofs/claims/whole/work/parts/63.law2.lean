set_option maxHeartbeats 4000000 in
set_option maxRecDepth 100000 in
theorem law_loop {X : Cx} {b L : Nat} {xs : Nat → Int32} (hM : LX X b L xs) (hL : L ≤ 2561) : ∀ (f i k n : Nat) (S : St), i ≤ L + 5 → L ≤ i + 5 * f → k + 7 * f ≤ 600000 → n + 35 * f ≤ 7302250 → Lv S → Jg X k n S 30 (LV S i b) [] := by
  have hO := hM.1
  have hsc := hM.s
  have hL31 : L < 2 ^ 31 := by omega
  intro f
  induction f with
  | zero =>
    intro i k n S h1 h2 h3 h4 hv
    show Jg X k n S 30 [(0, .ref b), (1, .ref (sA S 9 0)), (2, .ref (sA S 10 0)), (3, .int (nI i))] []
    refine j_iload_n (q := 31) hO dL_law_30 rfl rfl ?_
    refine j_aload_n (q := 32) hO dL_law_31 rfl rfl ?_
    refine j_slen (q := 33) hO hsc dL_law_32 rfl ?_
    refine j_iconst (v := 5) (q := 34) hO dL_law_33 rfl (by decide) ?_
    refine j_isub (q := 35) hO dL_law_34 rfl ?_
    refine j_icmp_gt (tgt := 846) (q := 38) hO dL_law_35 rfl (by decide) (fun c35 => ?_) (fun c35 => ?_)
    · refine j_iconst (v := 1) (q := 847) hO dL_law_846 rfl (by decide) ?_
      exact j_law hM dL_law_847 (by omega) (by omega)
    · exact absurd (ix_in (by omega) hL31 c35) (by omega)
  | succ f ih =>
    intro i k n S h1 h2 h3 h4 hv
    have hk1 : k + 7 ≤ room_1.cells := (show k + 7 ≤ 600000 by omega)
    have hn1 : n + 35 ≤ room_1.slots := (show n + 35 ≤ 7302250 by omega)
    have back : i + 5 ≤ L → ∀ S', Lv S' → Jg X (k + 7) (n + 35) S' 840 (LV S' i b) [] := by
      intro hi5 S' hv'
      show Jg X (k + 7) (n + 35) S' 840 [(0, .ref b), (1, .ref (sA S' 9 0)), (2, .ref (sA S' 10 0)), (3, .int (nI i))] []
      refine j_iinc (v := nI (i + 5)) (q := 843) hO dL_law_840 rfl rfl (nI_add i 5) (by rw [hM.nL]; decide) rfl ?_
      refine j_goto (tgt := 30) hO dL_law_843 (by decide) ?_
      refine Jg.lv (lv' := LV S' (i + 5) b) ⟨rfl, rfl, rfl, rfl, trivial⟩ ?_
      exact ih (i + 5) (k + 7) (n + 35) S' (by omega) (by omega) (by omega) (by omega) hv'
    show Jg X k n S 30 [(0, .ref b), (1, .ref (sA S 9 0)), (2, .ref (sA S 10 0)), (3, .int (nI i))] []
    refine j_iload_n (q := 31) hO dL_law_30 rfl rfl ?_
    refine j_aload_n (q := 32) hO dL_law_31 rfl rfl ?_
    refine j_slen (q := 33) hO hsc dL_law_32 rfl ?_
    refine j_iconst (v := 5) (q := 34) hO dL_law_33 rfl (by decide) ?_
    refine j_isub (q := 35) hO dL_law_34 rfl ?_
    refine j_icmp_gt (tgt := 846) (q := 38) hO dL_law_35 rfl (by decide) (fun c35 => ?_) (fun c35 => ?_)
    · refine j_iconst (v := 1) (q := 847) hO dL_law_846 rfl (by decide) ?_
      exact j_law hM dL_law_847 (by omega) (by omega)
    · have hi5 := ix_in (by omega) hL31 c35
      replace back := back hi5
      refine j_aload_n (q := 39) hO dL_law_38 rfl rfl ?_
      refine j_iload_n (q := 40) hO dL_law_39 rfl rfl ?_
      refine j_sld (j := i) (q := 41) hO hsc dL_law_40 rfl rfl (by omega) hL31 ?_
      refine j_bipush (v := 31) (q := 43) hO dL_law_41 rfl (by decide) ?_
      refine j_iand (q := 44) hO dL_law_43 rfl ?_
      rcases tb16 (xs i &&& 31) with hs | hs | hs | hs | hs | hs | hs | hs | hs | hs | hs | hs | hs | hs | hs | hs | hs | hs
      all_goals (try rw [hs])
      · refine j_tableIn (tgt := 128) hO dL_law_44 (by decide) (by decide) rfl (by decide) ?_
        exact law_belt hM hL31 hi5 hk1 hn1 hv back
      · refine j_tableIn (tgt := 171) hO dL_law_44 (by decide) (by decide) rfl (by decide) ?_
        exact law_head hM hL31 hi5 hk1 hn1 hv back
      · refine j_tableIn (tgt := 234) hO dL_law_44 (by decide) (by decide) rfl (by decide) ?_
        exact law_bunker hM hL31 hi5 hk1 hn1 hv back
      · refine j_tableIn (tgt := 267) hO dL_law_44 (by decide) (by decide) rfl (by decide) ?_
        exact law_joinTo hM hL31 hi5 hk1 hn1 hv back
      · refine j_tableIn (tgt := 300) hO dL_law_44 (by decide) (by decide) rfl (by decide) ?_
        exact law_rule hM hL31 hi5 hk1 hn1 hv back
      · refine j_tableIn (tgt := 353) hO dL_law_44 (by decide) (by decide) rfl (by decide) ?_
        exact law_picker hM hL31 hi5 hk1 hn1 hv back
      · refine j_tableIn (tgt := 416) hO dL_law_44 (by decide) (by decide) rfl (by decide) ?_
        exact law_robot hM hL31 hi5 hk1 hn1 hv back
      · refine j_tableIn (tgt := 479) hO dL_law_44 (by decide) (by decide) rfl (by decide) ?_
        exact law_feed hM hL31 hi5 hk1 hn1 hv back
      · refine j_tableIn (tgt := 542) hO dL_law_44 (by decide) (by decide) rfl (by decide) ?_
        exact law_run hM hL31 hi5 hk1 hn1 hv back
      · refine j_tableIn (tgt := 565) hO dL_law_44 (by decide) (by decide) rfl (by decide) ?_
        exact law_event hM hL31 hi5 hk1 hn1 hv back
      · refine j_tableIn (tgt := 598) hO dL_law_44 (by decide) (by decide) rfl (by decide) ?_
        exact law_out hM hL31 hi5 hk1 hn1 hv back
      · refine j_tableIn (tgt := 632) hO dL_law_44 (by decide) (by decide) rfl (by decide) ?_
        exact law_inside hM hL31 hi5 hk1 hn1 hv back
      · refine j_tableIn (tgt := 646) hO dL_law_44 (by decide) (by decide) rfl (by decide) ?_
        exact law_jam hM hL31 hi5 hk1 hn1 hv back
      · refine j_tableIn (tgt := 679) hO dL_law_44 (by decide) (by decide) rfl (by decide) ?_
        exact law_lost hM hL31 hi5 hk1 hn1 hv back
      · refine j_tableIn (tgt := 703) hO dL_law_44 (by decide) (by decide) rfl (by decide) ?_
        exact law_interval hM hL31 hi5 hk1 hn1 hv back
      · refine j_tableIn (tgt := 774) hO dL_law_44 (by decide) (by decide) rfl (by decide) ?_
        exact law_same hM hL31 hi5 hk1 hn1 hv back
      · refine j_tableIn (tgt := 787) hO dL_law_44 (by decide) (by decide) rfl (by decide) ?_
        exact law_pieceKind hM hL31 hi5 hk1 hn1 hv back
      · refine j_tableOut (tgt := 840) hO dL_law_44 hs (by decide) ?_
        exact Jg.widen (by omega) (by omega) (back S hv)
def Zi (S : St) : Prop := ∀ k i j, sI S k i j = 0 ∧ sJ S k i j = 0
theorem Zi.zero : Zi St0 := fun _ _ _ => ⟨rfl, rfl⟩
theorem Zi.new {S : St} {x a z : Nat} (h : Zi S) : Zi (nO S x a z) := by
  intro k i j
  constructor
  · show u2 (sI S) x (sC S x) (fun _ => 0) k i j = 0
    unfold u2
    split
    · rfl
    · exact (h k i j).1
  · show u2 (sJ S) x (sC S x) (fun _ => 0) k i j = 0
    unfold u2
    split
    · rfl
    · exact (h k i j).2
theorem nO_J {S : St} {x a z h j : Nat} (hh : sC S x = h) : sJ (nO S x a z) x h j = 0 := by subst hh; exact congrFun u2_self j
theorem Zi.R {S : St} {k i j : Nat} {v : Option Nat} (h : Zi S) : Zi (pR S k i j v) := h
set_option maxHeartbeats 4000000 in
/-- the class's cells behind its constructor -/
theorem mn_facts {v : Int64} {a a1 a2 a3 a4 a5 a6 a7 a8 a9 b7 b8 b9 : Nat} {T : St} (hT : T = mnS (nO St0 9 a 0) v a1 a2 a3 a4 a5 a6 a7 a8 a9 b7 b8 b9) : Sh T ∧ (sC T 0 = 0 ∧ sC T 2 = 0 ∧ sC T 1 = 0 ∧ sC T 5 = 0 ∧ sC T 7 = 0 ∧ sC T 6 = 0 ∧ sC T 4 = 0 ∧ sC T 17 = 0) ∧ (∀ j, sI T 9 0 j = 0) ∧ (sI T 3 0 1 = 0 ∧ sI T 3 1 1 = 0) ∧ (sI T 8 0 1 = 0 ∧ sI T 8 0 2 = 0 ∧ sI T 8 0 3 = 0) ∧ (∀ c, sJ T 19 0 c = 0) ∧ sJ T 9 0 0 = v ∧ sC T 10 = 0 ∧ (∀ k, 20 ≤ k → k < 55 → sC T k = 0) ∧ sA T 9 0 = sA (nO St0 9 a 0) 9 0 := by
  have z : ∀ k, sC St0 k = 0 := fun _ => rfl
  have z9 : sC (nO St0 9 a 0) 9 = 1 := by rw [sC_nOs]; rfl
  have zo : ∀ k, k ≠ 9 → sC (nO St0 9 a 0) k = 0 := fun k h => (sC_nOo h).trans rfl
  have i9 : ∀ j, sI (nO St0 9 a 0) 9 0 j = 0 := fun j => nO_I rfl
  obtain ⟨U, hU, hz⟩ : ∃ U, T = pJ U 9 0 0 v ∧ Zi U := by
    refine ⟨_, hT, ?_⟩
    unfold mnT mnL mnA
    repeat (first | exact Zi.zero | apply Zi.R | apply Zi.new)
  have hi : ∀ k i j, sI T k i j = 0 := fun k i j => by rw [hU]; exact (hz k i j).1
  have hj : ∀ c, sJ T 19 0 c = 0 := fun c => by
    rw [hU]
    show u3 (sJ U) 9 0 0 v 19 0 c = 0
    rw [u3_ne (fun q => absurd q.1 (by decide))]
    exact (hz 19 0 c).2
  have hv : sJ T 9 0 0 = v := by
    rw [hU]
    show u3 (sJ U) 9 0 0 v 9 0 0 = v
    exact u3_self
  clear hU hz
  refine ⟨?_, ?_, fun j => hi 9 0 j, ⟨hi 3 0 1, hi 3 1 1⟩, ⟨hi 8 0 1, hi 8 0 2, hi 8 0 3⟩, hj, hv, ?_, ?_, ?_⟩
  all_goals subst hT
  · exact Sh.init z9 (fun k _ h => zo k h)
  · simp (disch := omega) only [mnS, mnT, mnL, mnA, pI_A, pD_A, pR_A, pJ_A, pJ_C, pJ_N, pJ_I, pJ_R, pJ_D, pJ_s, pJ_J, nO_Ao, pI_s, pI_I, pR_s, pR_R, pD_s, pD_D, pI_C, pD_C, pR_C, pI_N, pD_N, pR_N, pD_I, pR_I, pI_J, pD_J, pR_J, pI_D, pR_D, pI_R, pD_R, nO_Io, nO_Jo, nO_Do, nO_Ro, nO_No, nO_I, nO_D, nO_R, nO_N, sC_nOs, sC_nOo, qI_s, qI_I, qI_J, qI_D, qD_s, qD_D, qD_J, qD_Ix]
    exact ⟨rfl, rfl, rfl, rfl, rfl, rfl, rfl, rfl⟩
  · simp (disch := omega) only [mnS, mnT, mnL, mnA, pI_A, pD_A, pR_A, pJ_A, pJ_C, pJ_N, pJ_I, pJ_R, pJ_D, pJ_s, pJ_J, nO_Ao, pI_s, pI_I, pR_s, pR_R, pD_s, pD_D, pI_C, pD_C, pR_C, pI_N, pD_N, pR_N, pD_I, pR_I, pI_J, pD_J, pR_J, pI_D, pR_D, pI_R, pD_R, nO_Io, nO_Jo, nO_Do, nO_Ro, nO_No, nO_I, nO_D, nO_R, nO_N, sC_nOs, sC_nOo, qI_s, qI_I, qI_J, qI_D, qD_s, qD_D, qD_J, qD_Ix]
    all_goals rfl
  · intro k h1 h2
    simp (disch := omega) only [mnS, mnT, mnL, mnA, pI_A, pD_A, pR_A, pJ_A, pJ_C, pJ_N, pJ_I, pJ_R, pJ_D, pJ_s, pJ_J, nO_Ao, pI_s, pI_I, pR_s, pR_R, pD_s, pD_D, pI_C, pD_C, pR_C, pI_N, pD_N, pR_N, pD_I, pR_I, pI_J, pD_J, pR_J, pI_D, pR_D, pI_R, pD_R, nO_Io, nO_Jo, nO_Do, nO_Ro, nO_No, nO_I, nO_D, nO_R, nO_N, sC_nOs, sC_nOo, qI_s, qI_I, qI_J, qI_D, qD_s, qD_D, qD_J, qD_Ix]
    all_goals rfl
  · simp (disch := omega) only [mnS, mnT, mnL, mnA, pI_A, pD_A, pR_A, pJ_A, pJ_C, pJ_N, pJ_I, pJ_R, pJ_D, pJ_s, pJ_J, nO_Ao, pI_s, pI_I, pR_s, pR_R, pD_s, pD_D, pI_C, pD_C, pR_C, pI_N, pD_N, pR_N, pD_I, pR_I, pI_J, pD_J, pR_J, pI_D, pR_D, pI_R, pD_R, nO_Io, nO_Jo, nO_Do, nO_Ro, nO_No, nO_I, nO_D, nO_R, nO_N, sC_nOs, sC_nOo, qI_s, qI_I, qI_J, qI_D, qD_s, qD_D, qD_J, qD_Ix]
set_option maxHeartbeats 4000000 in
set_option maxRecDepth 100000 in
theorem law_start {X : Cx} {b L : Nat} {xs : Nat → Int32} (hM : LX X b L xs) (hL : L ≤ 2561) : Jg X 0 0 St0 0 [(0, .ref b)] [] := by
  have hO := hM.1
  have hsc := hM.s
  have hL31 : L < 2 ^ 31 := by omega
  refine j_newh (h := 0) (x := 9) (q := 3) hO CK_9 dL_law_0 rfl mw_13 mw_14 mw_1 rfl rfl dv_9 (by rw [hM.R]; exact ⟨Nat.le_of_ble_eq_true rfl, Nat.le_of_ble_eq_true rfl⟩) rfl (fun a0 => ?_)
  refine j_dup (q := 4) hO dL_law_3 rfl rfl ?_
  refine j_aload_n (q := 5) hO dL_law_4 rfl rfl ?_
  refine j_iconst (v := 0) (q := 6) hO dL_law_5 rfl (by decide) ?_
  refine j_cell (q := 9) hM hL31 (by unfold roomy; rw [hM.R]; exact ⟨⟨Nat.le_of_ble_eq_true rfl, Nat.le_of_ble_eq_true rfl⟩, ⟨Nat.le_of_ble_eq_true rfl, Nat.le_of_ble_eq_true rfl⟩, Nat.le_of_ble_eq_true rfl⟩) dL_law_6 rfl ?_
  refine j_i2l (q := 10) hO dL_law_9 rfl ?_
  refine j_callI (q := 13) hO (c_9_init (lx X) (nO St0 9 a0 0) _ (by rw [sC_nOs]; rfl) (fun k _ h => (sC_nOo h).trans rfl)) M_9_init mw_15 rfl rfl (by unfold roomy; rw [hM.R]; exact ⟨⟨Nat.le_of_ble_eq_true rfl, Nat.le_of_ble_eq_true rfl⟩, ⟨Nat.le_of_ble_eq_true rfl, Nat.le_of_ble_eq_true rfl⟩, Nat.le_of_ble_eq_true rfl⟩) dL_law_10 rfl (fun v_10 S_10 hp_10 => ?_)
  obtain ⟨rfl, a1, a2, a3, a4, a5, a6, a7, a8, a9, b7, b8, b9, hT⟩ := hp_10
  obtain ⟨sh, hC, hI, h3, h8, hJ, hv, h10, hk, hA⟩ := mn_facts hT
  clear hT
  rw [← hA]
  refine j_astore_n (q := 14) hO dL_law_13 rfl (by rw [hM.nL]; decide) rfl ?_
  refine j_newh (h := 0) (x := 10) (q := 17) hO CK_10 dL_law_14 rfl mw_492 mw_493 mw_4 rfl rfl dv_10 (by rw [hM.R]; exact ⟨Nat.le_of_ble_eq_true rfl, Nat.le_of_ble_eq_true rfl⟩) h10 (fun a14 => ?_)
  refine j_dup (q := 18) hO dL_law_17 rfl rfl ?_
  refine j_aload_n (q := 19) hO dL_law_18 rfl rfl ?_
  refine j_iconst (v := 0) (q := 20) hO dL_law_19 rfl (by decide) ?_
  refine j_cell (q := 23) hM hL31 (by unfold roomy; rw [hM.R]; exact ⟨⟨Nat.le_of_ble_eq_true rfl, Nat.le_of_ble_eq_true rfl⟩, ⟨Nat.le_of_ble_eq_true rfl, Nat.le_of_ble_eq_true rfl⟩, Nat.le_of_ble_eq_true rfl⟩) dL_law_20 rfl ?_
  refine j_i2l (q := 24) hO dL_law_23 rfl ?_
  refine j_callI (q := 27) hO (c_10_init (lx X) (nO S_10 10 a14 0) _ (by rw [sC_nOs, h10]) (fun k h1 h2 => (sC_nOo (by omega)).trans (hk k h1 h2)) (fun j => ⟨nO_I h10, nO_J h10, nO_D h10⟩)) M_10_init mw_494 rfl rfl (by unfold roomy; rw [hM.R]; exact ⟨⟨Nat.le_of_ble_eq_true rfl, Nat.le_of_ble_eq_true rfl⟩, ⟨Nat.le_of_ble_eq_true rfl, Nat.le_of_ble_eq_true rfl⟩, Nat.le_of_ble_eq_true rfl⟩) dL_law_24 rfl (fun v_24 S_24 hp_24 => ?_)
  obtain ⟨rfl, mz⟩ := hp_24
  have cg := Cg.tr (Cg.n10 (S := S_10) (a := a14) (z := 0)) mz.1
  have e9 : sA S_24 9 0 = sA S_10 9 0 := ((cg 9 rfl).2 0).1
  have e10 := mz.2.2.1
  rw [← e9, ← e10]
  have hvv : sJ S_10 9 0 0 = aJ (rd S_24) 0 0 := hv.trans mz.2.2.2.2.symm
  have lvv : Lv S_24 := ⟨mz.2.1, 0, 0, 0, 0, 0, 0, 0, (CZ.init sh hC hI h3 h8 hJ hvv mz.2.2.2.1).cg cg⟩
  refine j_astore_n (q := 28) hO dL_law_27 rfl (by rw [hM.nL]; decide) rfl ?_
  refine j_iconst (v := 1) (q := 29) hO dL_law_28 rfl (by decide) ?_
  refine j_istore_n (q := 30) hO dL_law_29 rfl (by rw [hM.nL]; decide) rfl ?_
  refine Jg.lv (lv' := LV S_24 1 b) ⟨rfl, rfl, rfl, rfl, trivial⟩ ?_
  exact law_loop hM hL 513 1 _ _ S_24 (by omega) (by omega) (Nat.le_of_ble_eq_true rfl) (Nat.le_of_ble_eq_true rfl) lvv
theorem pa_cls {s : State} {args : Array Value} {ty : FieldType} (ht : ∀ C, ty ≠ .object C) (h : (Cond.arrayClass ty).before args s = true) : ∃ cA, ArrOfT s cA ty ∧ va_RA s cA ty := by
  obtain ⟨cA, kA, comp, h1, h2, h3⟩ := Cond.arrayClass_spec h
  refine ⟨cA, fun N z => ⟨(fun k h => by cases h), kA, h2, comp, h3⟩, ?_⟩
  cases ty with
  | object C => exact absurd rfl (ht C)
  | _ => exact h1
theorem oa_cls {s : State} {args : Array Value} {C : String} (h : (Cond.arrayOver (.object C)).before args s = true) : ∃ cA, ArrOfT s cA (.object C) ∧ va_RA s cA (.object C) := by
  obtain ⟨comp, cA, kA, f1, -, f2, f3, f4⟩ := Cond.arrayOver_spec h
  exact ⟨cA, fun N z => ⟨(fun k h => by cases h), kA, f2, comp, f3⟩, kA, comp, f2, f3, f1, f4⟩
theorem lw_at {w : Cond} {i : Nat} (h : tables_1[i]? = some w) : w ∈ lw_tbl := List.mem_append_right _ (List.mem_of_getElem? h)
set_option maxHeartbeats 4000000 in
set_option maxRecDepth 100000 in
theorem whole_start {p : Program} {e : Env} {s : State} {m : MethodId} {below : List Frame} {meth : Method} {c : Code} (l : Launch) {b L : Nat} {xs : Nat → Int32} (hL : L ≤ 2561) (C0 : lw_At p s m meth c b L xs) : W p l e room_1 s m #[Value.ref b] below meth c s.heap [] 0 0 (lw_Z below #[Value.ref b] s) (entryFrame m ([Value.ref b] : List Value).toArray 8) := by
  obtain ⟨hx, hb, hr, hml, hown, hts, hX, hbl, hlocks, hgv⟩ := id C0
  have hB : ∀ w ∈ BIG, w.before #[Value.ref b] s = true := fun w hw => hts w (big_lw hw)
  obtain ⟨c0, i0, k0⟩ := u_known (C := RX0) (T := TX0) (N := 10) (n := 10) hB CK_0.2.1 (hB _ mw_137)
  obtain ⟨c1, i1, k1⟩ := u_known (C := RX1) (T := TX1) (N := 3) (n := 3) hB CK_1.2.1 (hB _ mw_236)
  obtain ⟨c2, i2, k2⟩ := u_known (C := RX2) (T := TX2) (N := 3) (n := 3) hB CK_2.2.1 (hB _ mw_209)
  obtain ⟨c3, i3, k3⟩ := u_known (C := RX3) (T := TX3) (N := 2) (n := 2) hB CK_3.2.1 (hB _ mw_34)
  obtain ⟨c4, i4, k4⟩ := u_known (C := RX4) (T := TX4) (N := 4) (n := 4) hB CK_4.2.1 (hB _ mw_144)
  obtain ⟨c5, i5, k5⟩ := u_known (C := RX5) (T := TX5) (N := 5) (n := 5) hB CK_5.2.1 (hB _ mw_272)
  obtain ⟨c6, i6, k6⟩ := u_known (C := RX6) (T := TX6) (N := 8) (n := 8) hB CK_6.2.1 (hB _ mw_324)
  obtain ⟨c7, i7, k7⟩ := u_known (C := RX7) (T := TX7) (N := 3) (n := 3) hB CK_7.2.1 (hB _ mw_299)
  obtain ⟨c8, i8, k8⟩ := u_known (C := RX8) (T := TX8) (N := 4) (n := 4) hB CK_8.2.1 (hB _ mw_49)
  obtain ⟨c9, i9, k9⟩ := u_known (C := RX9) (T := TX9) (N := 17) (n := 17) hB CK_9.2.1 (hB _ mw_14)
  obtain ⟨c10, i10, k10⟩ := u_known (C := RX10) (T := TX10) (N := 45) (n := 45) hB CK_10.2.1 (hB _ mw_493)
  obtain ⟨e0, g0⟩ := pa_cls (ty := .int) (fun C h => by cases h) (hB _ mw_47)
  obtain ⟨e1, g1⟩ := pa_cls (ty := .long) (fun C h => by cases h) (hB _ mw_71)
  obtain ⟨e2, g2⟩ := pa_cls (ty := .double) (fun C h => by cases h) (hB _ mw_634)
  obtain ⟨e3, g3⟩ := pa_cls (ty := .boolean) (fun C h => by cases h) (hB _ mw_635)
  have o0 : (Cond.arrayOver (.object RX0)).before #[Value.ref b] s = true := hts _ (lw_at (i := 22) (by decide +kernel))
  obtain ⟨e4, g4⟩ := oa_cls o0
  have o2 : (Cond.arrayOver (.object RX2)).before #[Value.ref b] s = true := hts _ (lw_at (i := 24) (by decide +kernel))
  obtain ⟨e5, g5⟩ := oa_cls o2
  have o1 : (Cond.arrayOver (.object RX1)).before #[Value.ref b] s = true := hts _ (lw_at (i := 26) (by decide +kernel))
  obtain ⟨e6, g6⟩ := oa_cls o1
  have o5 : (Cond.arrayOver (.object RX5)).before #[Value.ref b] s = true := hts _ (lw_at (i := 28) (by decide +kernel))
  obtain ⟨e7, g7⟩ := oa_cls o5
  have o7 : (Cond.arrayOver (.object RX7)).before #[Value.ref b] s = true := hts _ (lw_at (i := 30) (by decide +kernel))
  obtain ⟨e8, g8⟩ := oa_cls o7
  have o6 : (Cond.arrayOver (.object RX6)).before #[Value.ref b] s = true := hts _ (lw_at (i := 32) (by decide +kernel))
  obtain ⟨e9, g9⟩ := oa_cls o6
  have o4 : (Cond.arrayOver (.object RX4)).before #[Value.ref b] s = true := hts _ (lw_at (i := 143) (by decide +kernel))
  obtain ⟨e10, g10⟩ := oa_cls o4
  let dC : Nat → ClassId := fun k => match k with | 0 => c0 | 1 => c1 | 2 => c2 | 3 => c3 | 4 => c4 | 5 => c5 | 6 => c6 | 7 => c7 | 8 => c8 | 9 => c9 | _ => c10
  let dI : Nat → Nat → Nat := fun k => match k with | 0 => i0 | 1 => i1 | 2 => i2 | 3 => i3 | 4 => i4 | 5 => i5 | 6 => i6 | 7 => i7 | 8 => i8 | 9 => i9 | _ => i10
  let E : Nat → ClassId := fun k => match k with | 0 => e0 | 1 => e1 | 2 => e2 | 3 => e3 | 4 => e4 | 5 => e5 | 6 => e6 | 7 => e7 | 8 => e8 | 9 => e9 | _ => e10
  have hK : va_K (dC, dI) vwCl (tyE E) s := by
    refine ⟨fun k q hq => ?_, fun k q hq => ?_⟩
    · match k, hq with
      | 0, hq => cases hq; exact k0
      | 1, hq => cases hq; exact k1
      | 2, hq => cases hq; exact k2
      | 3, hq => cases hq; exact k3
      | 4, hq => cases hq; exact k4
      | 5, hq => cases hq; exact k5
      | 6, hq => cases hq; exact k6
      | 7, hq => cases hq; exact k7
      | 8, hq => cases hq; exact k8
      | 9, hq => cases hq; exact k9
      | 10, hq => cases hq; exact k10
      | k + 11, hq => simp [vwCl] at hq
    · match k, hq with
      | 0, hq => cases hq; exact g0
      | 1, hq => cases hq; exact g1
      | 2, hq => cases hq; exact g2
      | 3, hq => cases hq; exact g3
      | 4, hq => cases hq; exact g4
      | 5, hq => cases hq; exact g5
      | 6, hq => cases hq; exact g6
      | 7, hq => cases hq; exact g7
      | 8, hq => cases hq; exact g8
      | 9, hq => cases hq; exact g9
      | 10, hq => cases hq; exact g10
      | k + 11, hq => simp [tyE] at hq
  have hKw : Kw (dC, dI) E s := ⟨hK, ⟨o0, o1, o2, o4, o5, o6, o7⟩, va_Nw.of rfl (hts _ (lw_at (i := 145) (by decide +kernel))), va_Nw.of rfl (hts _ (lw_at (i := 50) (by decide +kernel)))⟩
  rw [lg_entry_eq]
  exact law_start (X := (p, l, e, room_1, s, m, #[Value.ref b], below, meth, c, lw_Z below #[Value.ref b] s, (dC, dI), E, s.heap.size, 8)) ⟨⟨hx, hb, hml, hown, hB, hKw, Nat.le_refl _, hlocks⟩, ⟨hX, hbl, Nat.not_le.mpr hbl⟩, rfl, rfl, rfl, rfl, hr, rfl⟩ hL _ s.heap [] (lv_entry [.ref b] (Nat.le_of_ble_eq_true rfl)) Wd.zero va_S.rf
-- ===== YOUR PART ENDS =====
set_option maxHeartbeats 4000000 in
theorem lw_walk (l : Launch) (b : Addr) (xs : List Int32) : MetFree l x (headSpec (Jvm.Cond.code x code maxLocals ret :: tables_1) room_1) (lw_P b xs) (fun _ _ _ _ _ => True) lw_Q := by
  refine MetFree.of_bodyS (code := code) (maxLocals := maxLocals) (ret := ret) (by decide) ?_ ?_
  · intro args s m h hn
    obtain ⟨meth, c, h1, h2, h3, h4, h5, h6, -, -⟩ := Cond.code_spec hn (atoms_spec (ws := Jvm.Cond.code x code maxLocals ret :: tables_1) h _ List.mem_cons_self)
    exact ⟨meth, c, h1, h2, h3, h4, h5, h6⟩
  · intro p e s m args below meth c s₁ B hml0 hP _
    obtain ⟨rfl, hx, hbd, hgv⟩ := hP
    obtain ⟨scr, harrAt, hlist, hof, hsmall⟩ := hx
    obtain ⟨hcb, hkn, -, -⟩ := State.arrayAt?_spec harrAt
    have hown : s.vm.findClass R_law = some m.cls := findClass_of_methodNamed B.named
    have hts0 : ∀ c ∈ (Jvm.Cond.code x code maxLocals ret :: tables_1), c.before #[Value.ref b] s = true := atoms_spec (ws := Jvm.Cond.code x code maxLocals ret :: tables_1) B.pre
    have hts : ∀ w ∈ lw_tbl, w.before #[Value.ref b] s = true := k2_hts_sels lw_privs (fun w hw => hts0 w (List.mem_cons_of_mem _ hw)) lw_privs_ok
    have hml : c.maxLocals = 8 := B.maxLocals_eq (hts0 _ List.mem_cons_self)
    have X₀ : Stand p l e room_1 s m #[Value.ref b] below meth c s₁ [] 0 0 := Stand.of_body B
    have hh0 : s₁.heap = s.heap := by rw [B.state]; rfl
    have hsz : scr.slots.size = xs.length := by rw [← Array.length_toList, hlist, List.length_map]
    have hval : ∀ j : Nat, j < xs.length → scr.slots[j]? = some (.int (xs.getD j 0)) := fun j hj => by
      rw [← Array.getElem?_toList, hlist]
      simp [hj]
    have hbl : b < s.heap.size := (Array.getElem?_eq_some_iff.mp hcb).1
    have hX : va_X b xs.length (fun j => xs.getD j 0) s s.heap := ⟨scr, hcb, hof, hkn, hsz, hval⟩
    have K : W p l e room_1 s m #[Value.ref b] below meth c s₁.heap [] 0 0 (lw_Z below #[Value.ref b] s) (entryFrame m ([Value.ref b] : List Value).toArray 8) := by
      rw [hh0]
      exact whole_start l hbd ⟨B.exec, B.bytes, B.returns, hml, hown, hts, hX, hbl, B.notSynchronized, hgv⟩
    obtain ⟨t, a1, o, b1, b2, b3⟩ := K s₁ rfl X₀
    exact ⟨t, o, a1, b1, b2, b3⟩
theorem lw_pre_spec {args : Array Value} {s : State} (h : (Jvm.Cond.and given_1 narrow_1).before args s = true) (hr : rest_1_c.before args s = true) : ∃ (b : Addr) (xs : List Int32), lw_P b xs args s := by
  have hs := flat_of_before _ h
  have hq := flat_of_before _ hr
  have hc : (Cond.count 1).before args s = true := hs _ (by decide +kernel)
  have harr : (Cond.arrayOf (.arg 0) .int).before args s = true := hs _ (by decide +kernel)
  have hle : (Cond.le (.length (.arg 0)) (.int 2561)).before args s = true := hs _ (by decide +kernel)
  have hlen : (Cond.isInt (.length (.arg 0))).before args s = true := hq _ (by decide +kernel)
  have hall : (Cond.all (.arg 0) (.isInt (.elem (.arg 0) (.index 0)))).before args s = true := hq _ (by decide +kernel)
  obtain ⟨b, xs, hb, hx⟩ := State.ints_of_pre rfl harr hlen hall
  have hsm : xs.length < 2 ^ 31 := hx.choose_spec.2.2.2
  have hev : (Term.length (.arg 0)).eval args s none [] s = some (.int xs.length.toInt32) := hx.length_eval hb
  have hv := Cond.le_ints hev (show (Term.int 2561).eval args s none [] s = some (.int 2561) from rfl)
  have hd : xs.length.toInt32 ≤ 2561 := by
    simpa [Cond.before, Cond.holds, hv] using hle
  have hN : xs.length ≤ 2561 := (Int32.ofNat_le_ofNat hsm (by decide)).mp (show Int32.ofNat xs.length ≤ Int32.ofNat 2561 from hd)
  exact ⟨b, xs, Cond.one_arg hc (show args[0]? = some (.ref b) from hb), hx, hN, h⟩
theorem lw_comes (l : Launch) : Comes l x (Jvm.Cond.code x code maxLocals ret :: tables_1) room_1 (fun tb e args s => Calls_1 tb e args s ∧ rest_1 tb e args s ∧ Pre_1 tb e args s)
    (fun _ _ args s o t => lw_Q args s o t) := by
  intro p e ha hc hk s m args below hf hfit hheap happ hpre
  obtain ⟨b, xs, hP⟩ := lw_pre_spec hpre.2.2 hpre.2.1
  obtain ⟨k, o, h1, h2, h3, hQ⟩ := lw_walk l b xs p e ha hc hk s m args below hf ((Spec.applies_iff_loose hf).mp happ).1 hP trivial
  exact ⟨k, o, h1, h2, h3, hQ⟩
theorem lw_frame {s t : State} {o : Outcome} {args : Array Value} (h : Framed s o t [] 600000 7302250) :
    Framed s o t (fieldLocs frame_1_writes args s ++ arrayLocs frame_1_arrays args s ++ staticLocs frame_1_statics s) 600000 7302250 := h
theorem lw_limb (L : Cond) (hL : ∀ (args : Array Value) (s t : State), L.after args s (.returned (some (.int 1))) t = true) :
    ArmFor flags0 classFile x code maxLocals ret World_1 tables_1 room_1 Calls_1 rest_1 Pre_1
      (fun tb e a s o t => postC L tb e a s o t ∧ Framed s o t (fieldLocs frame_1_writes a s ++ arrayLocs frame_1_arrays a s ++ staticLocs frame_1_statics s) 600000 7302250) := by
  intro l _ _ _ p e ha hc hk s m args below hf hfit hheap happ hpre
  obtain ⟨k, o, h1, h2, h3, rfl, hF⟩ := lw_comes l p e ha hc hk s m args below hf hfit hheap happ hpre
  exact ⟨k, _, h1, h2, h3, hL args s _, lw_frame hF⟩
theorem i_vc : Claimed_1_1 ∧ Claimed_1_2 := ⟨lw_limb limb_1_1 (fun args s t => by simp [limb_1_1, Cond.after, Cond.holds, Cond.value]), lw_limb limb_1_2 (fun args s t => Cond.after_iff.mpr (by
  first | (rw [show limb_1_2 = Cond.eq .result (.int 1) from rfl, Cond.eq_ints (x := 1) (y := 1) rfl rfl]; simp; done) | (simp [limb_1_2, Cond.value, Term.eval]; done)))⟩

set_option maxHeartbeats 4000000 in
set_option maxRecDepth 100000 in
theorem c_9_beltNumbered (l : Launch) (S : St) (α : Al) (nb nh nu nr nk np t : Nat) (x : Int32) (c : Ci S α nb nh nu nr nk np t) : Ct l yX9_beltNumbered cX9_beltNumbered 2 (some (.object "SortLineEvents$Belt")) (rm 0 0 0 0) [.ref (sA S 9 0), .int x] S (fun r S' => S' = S ∧ ((iB α x = 0 ∧ r = some .null) ∨ ∃ b, b < nb ∧ x = nI b ∧ r = some (.ref (sA S 0 b)))) := by
  refine Ct.of (by decide) (Nat.le_of_ble_eq_true rfl) (fun X hM => ?_)
  have hO := hM.1
  obtain rfl := hM.l
  show Jg X 0 0 S 0 [(0, .ref (sA S 9 0)), (1, .int x)] []
  have np60 := c.2.2.1.2.2.2.2.2.1.2
  have n6 := c.2.2.1.1.2
  have nu4 := c.2.2.1.2.2.1.2
  refine j_iload_n (q := 1) hO dX9_beltNumbered_0 rfl rfl ?_
  refine j_if_lt (tgt := 21) (q := 4) hO dX9_beltNumbered_1 rfl (by decide) (fun c1 => ?_) (fun c1 => ?_)
  · refine j_null (q := 22) hO dX9_beltNumbered_21 rfl ?_
    exact j_aret hM dX9_beltNumbered_22 (Nat.le_of_ble_eq_true rfl) (Nat.le_of_ble_eq_true rfl) (Or.inl rfl) ⟨rfl, Or.inl ⟨by unfold iB; rw [if_pos c1], rfl⟩⟩
  · refine j_iload_n (q := 5) hO dX9_beltNumbered_4 rfl rfl ?_
    refine j_aload_n (q := 6) hO dX9_beltNumbered_5 rfl rfl ?_
    refine j_getI (x := 9) (j := 10) (q := 9) hO CK_9 dX9_beltNumbered_6 rfl mw_82 rfl c.1.c9 rfl rfl (by decide) (Or.inl rfl) ?_
    refine j_icmp_ge (tgt := 21) (q := 12) hO dX9_beltNumbered_9 rfl (by decide) (fun c9 => ?_) (fun c9 => ?_)
    · refine j_null (q := 22) hO dX9_beltNumbered_21 rfl ?_
      exact j_aret hM dX9_beltNumbered_22 (Nat.le_of_ble_eq_true rfl) (Nat.le_of_ble_eq_true rfl) (Or.inl rfl) ⟨rfl, Or.inl ⟨by unfold iB; rw [if_neg c1, ← c.2.1.2.1.2.1, if_pos c9], rfl⟩⟩
    · obtain ⟨b, hb, rfl⟩ : ∃ j, j < nb ∧ x = nI j := by
        rcases pk_ix x (n := nb) (by omega) with q | q | q
        · exact absurd q c1
        · exact absurd (by rw [c.2.1.2.1.2.1, c.2.2.1.1.1]; exact q) c9
        · exact q
      have e11 := (c.2.1.2.2.1 b hb).1.1
      have hN11 := c.1.2.2.2.1
      refine j_aload_n (q := 13) hO dX9_beltNumbered_12 rfl rfl ?_
      refine j_getRs (x := 9) (j := 1) (q := 16) hO CK_9 dX9_beltNumbered_13 rfl mw_73 rfl c.1.c9 rfl rfl (by decide) rfl c.1.r1 ?_
      refine j_iload_n (q := 17) hO dX9_beltNumbered_16 rfl rfl ?_
      refine j_aald (x := 11) (c0 := 4) (q := 18) hO dX9_beltNumbered_17 rfl rfl c.1.c11 rfl rfl (fun _ => rfl) rfl (j := b) rfl (by rw [hN11]; omega) (by rw [hN11]; decide) ?_
      rw [e11]
      refine j_goto (tgt := 22) hO dX9_beltNumbered_18 (by decide) ?_
      exact j_aret hM dX9_beltNumbered_22 (Nat.le_of_ble_eq_true rfl) (Nat.le_of_ble_eq_true rfl) (Or.inr ⟨_, rfl⟩) ⟨rfl, Or.inr ⟨b, hb, rfl, rfl⟩⟩
set_option maxHeartbeats 4000000 in
set_option maxRecDepth 100000 in
theorem c_9_bunkerJoinedBy (l : Launch) (S : St) (α : Al) (nb nh nu nr nk np t : Nat) (x : Int32) (c : Ci S α nb nh nu nr nk np t) : Ct l yX9_bunkerJoinedBy cX9_bunkerJoinedBy 3 (some (.object "SortLineEvents$Bunker")) (rm 0 0 0 0) [.ref (sA S 9 0), .int x] S (fun r S' => S' = S ∧ ((uOf α x = false ∧ r = some .null) ∨ ∃ u, u < nu ∧ uOf α x = true ∧ x = -2 - nI u ∧ r = some (.ref (sA S 1 u)))) := by
  refine Ct.of (by decide) (Nat.le_of_ble_eq_true rfl) (fun X hM => ?_)
  have hO := hM.1
  obtain rfl := hM.l
  show Jg X 0 0 S 0 [(0, .ref (sA S 9 0)), (1, .int x)] []
  have np60 := c.2.2.1.2.2.2.2.2.1.2
  have n6 := c.2.2.1.1.2
  have nu4 := c.2.2.1.2.2.1.2
  refine j_iload_n (q := 1) hO dX9_bunkerJoinedBy_0 rfl rfl ?_
  refine j_bipush (v := (-2)) (q := 3) hO dX9_bunkerJoinedBy_1 rfl (by decide) ?_
  refine j_icmp_le (tgt := 8) (q := 6) hO dX9_bunkerJoinedBy_3 rfl (by decide) (fun c3 => ?_) (fun c3 => ?_)
  · refine j_bipush (v := (-2)) (q := 10) hO dX9_bunkerJoinedBy_8 rfl (by decide) ?_
    refine j_iload_n (q := 11) hO dX9_bunkerJoinedBy_10 rfl rfl ?_
    refine j_isub (q := 12) hO dX9_bunkerJoinedBy_11 rfl ?_
    refine j_istore_n (q := 13) hO dX9_bunkerJoinedBy_12 rfl (by rw [hM.nL]; decide) rfl ?_
    refine j_iload_n (q := 14) hO dX9_bunkerJoinedBy_13 rfl rfl ?_
    refine j_if_lt (tgt := 34) (q := 17) hO dX9_bunkerJoinedBy_14 rfl (by decide) (fun c14 => ?_) (fun c14 => ?_)
    · refine j_null (q := 35) hO dX9_bunkerJoinedBy_34 rfl ?_
      exact j_aret hM dX9_bunkerJoinedBy_35 (Nat.le_of_ble_eq_true rfl) (Nat.le_of_ble_eq_true rfl) (Or.inl rfl) ⟨rfl, Or.inl ⟨decide_eq_false (fun z => z.2.1 c14), rfl⟩⟩
    · refine j_iload_n (q := 18) hO dX9_bunkerJoinedBy_17 rfl rfl ?_
      refine j_aload_n (q := 19) hO dX9_bunkerJoinedBy_18 rfl rfl ?_
      refine j_getI (x := 9) (j := 12) (q := 22) hO CK_9 dX9_bunkerJoinedBy_19 rfl mw_84 rfl c.1.c9 rfl rfl (by decide) (Or.inl rfl) ?_
      refine j_icmp_ge (tgt := 34) (q := 25) hO dX9_bunkerJoinedBy_22 rfl (by decide) (fun c22 => ?_) (fun c22 => ?_)
      · refine j_null (q := 35) hO dX9_bunkerJoinedBy_34 rfl ?_
        exact j_aret hM dX9_bunkerJoinedBy_35 (Nat.le_of_ble_eq_true rfl) (Nat.le_of_ble_eq_true rfl) (Or.inl rfl) ⟨rfl, Or.inl ⟨decide_eq_false (fun z => z.2.2 (by rw [← c.2.1.2.1.2.2.2.1]; exact c22)), rfl⟩⟩
      · obtain ⟨u, hu, hxu⟩ : ∃ j, j < nu ∧ -2 - x = nI j := by
          rcases pk_ix (-2 - x) (n := nu) (by omega) with q | q | q
          · exact absurd q c14
          · exact absurd (by rw [c.2.1.2.1.2.2.2.1, c.2.2.1.2.2.1.1]; exact q) c22
          · exact q
        have e13 := (c.2.1.2.2.2.2.1 u hu).1
        have hN13 := c.1.2.2.2.2.2.1
        refine j_aload_n (q := 26) hO dX9_bunkerJoinedBy_25 rfl rfl ?_
        refine j_getRs (x := 9) (j := 3) (q := 29) hO CK_9 dX9_bunkerJoinedBy_26 rfl mw_75 rfl c.1.c9 rfl rfl (by decide) rfl c.1.r3 ?_
        refine j_iload_n (q := 30) hO dX9_bunkerJoinedBy_29 rfl rfl ?_
        refine j_aald (x := 13) (c0 := 6) (q := 31) hO dX9_bunkerJoinedBy_30 rfl rfl c.1.c13 rfl rfl (fun _ => rfl) rfl (j := u) hxu (by rw [hN13]; omega) (by rw [hN13]; decide) ?_
        rw [e13]
        refine j_goto (tgt := 35) hO dX9_bunkerJoinedBy_31 (by decide) ?_
        exact j_aret hM dX9_bunkerJoinedBy_35 (Nat.le_of_ble_eq_true rfl) (Nat.le_of_ble_eq_true rfl) (Or.inr ⟨_, rfl⟩) ⟨rfl, Or.inr ⟨u, hu, decide_eq_true ⟨c3, c14, by rw [← c.2.1.2.1.2.2.2.1]; exact c22⟩, by rw [← hxu]; exact m2_m2 x, rfl⟩⟩
  · refine j_null (q := 7) hO dX9_bunkerJoinedBy_6 rfl ?_
    exact j_aret hM dX9_bunkerJoinedBy_7 (Nat.le_of_ble_eq_true rfl) (Nat.le_of_ble_eq_true rfl) (Or.inl rfl) ⟨rfl, Or.inl ⟨decide_eq_false (fun z => c3 z.1), rfl⟩⟩
set_option maxHeartbeats 4000000 in
set_option maxRecDepth 100000 in
theorem c_9_onBelts (l : Launch) (S : St) (α : Al) (nb nh nu nr nk np t : Nat) (c : Ci S α nb nh nu nr nk np t) : Ct l yX9_onBelts cX9_onBelts 3 (some .int) (rm 0 0 0 0) [.ref (sA S 9 0)] S (fun r S' => r = some (.int (nI (ctF α 1 np))) ∧ S' = S) := by
  refine Ct.of (by decide) (Nat.le_of_ble_eq_true rfl) (fun X hM => ?_)
  have hO := hM.1
  obtain rfl := hM.l
  show Jg X 0 0 S 0 [(0, .ref (sA S 9 0))] []
  have np60 := c.2.2.1.2.2.2.2.2.1.2
  have n6 := c.2.2.1.1.2
  have nu4 := c.2.2.1.2.2.1.2
  have hcnt := c.2.1.2.1.2.2.2.2.2.2.trans c.2.2.1.2.2.2.2.2.1.1
  have hN16 := c.1.2.2.2.2.2.2.2.2.1
  have loop : ∀ m h, h + m = np → Jg X 0 0 S 4 [(0, .ref (sA S 9 0)), (1, .int (nI (ctF α 1 h))), (2, .int (nI h))] [] := by
    intro m
    induction m with
    | zero =>
      intro h hz
      obtain rfl : h = np := by omega
      refine j_iload_n (q := 5) hO dX9_onBelts_4 rfl rfl ?_
      refine j_aload_n (q := 6) hO dX9_onBelts_5 rfl rfl ?_
      refine j_getI (x := 9) (j := 15) (q := 9) hO CK_9 dX9_onBelts_6 rfl mw_87 rfl c.1.c9 rfl rfl (by decide) (Or.inl rfl) ?_
      refine j_icmp_ge (tgt := 33) (q := 12) hO dX9_onBelts_9 rfl (by decide) (fun c9 => ?_) (fun c9 => ?_)
      · refine j_iload_n (q := 34) hO dX9_onBelts_33 rfl rfl ?_
        exact j_iret hM dX9_onBelts_34 (Nat.le_of_ble_eq_true rfl) (Nat.le_of_ble_eq_true rfl) ⟨rfl, rfl⟩
      · exact absurd (by rw [hcnt]; exact nI_le (Nat.le_refl _) (by omega)) c9
    | succ m ih =>
      intro h hz
      refine j_iload_n (q := 5) hO dX9_onBelts_4 rfl rfl ?_
      refine j_aload_n (q := 6) hO dX9_onBelts_5 rfl rfl ?_
      refine j_getI (x := 9) (j := 15) (q := 9) hO CK_9 dX9_onBelts_6 rfl mw_87 rfl c.1.c9 rfl rfl (by decide) (Or.inl rfl) ?_
      refine j_icmp_ge (tgt := 33) (q := 12) hO dX9_onBelts_9 rfl (by decide) (fun c9 => ?_) (fun c9 => ?_)
      · exact absurd c9 (by rw [hcnt]; exact nI_ge (by omega) (by omega))
      · have hh6 : h < sC S 6 := by have := c.2.1.1.2.2.2.2.2.1; omega
        have e16 := (c.2.1.2.2.2.2.2.2.2 h (by omega)).1
        obtain ⟨q5a, q5b⟩ := c.2.2.2.1.2.2.2.2.1 h (by omega)
        refine j_aload_n (q := 13) hO dX9_onBelts_12 rfl rfl ?_
        refine j_getRs (x := 9) (j := 6) (q := 16) hO CK_9 dX9_onBelts_13 rfl mw_78 rfl c.1.c9 rfl rfl (by decide) rfl c.1.r6 ?_
        refine j_iload_n (q := 17) hO dX9_onBelts_16 rfl rfl ?_
        rcases Classical.em (aI α 25 h = 1) with hon | hon
        · refine j_aald (x := 16) (c0 := 9) (q := 18) hO dX9_onBelts_17 rfl rfl c.1.c16 rfl rfl (fun _ => rfl) rfl (j := h) rfl (by rw [hN16]; omega) (by rw [hN16]; decide) ?_
          rw [e16]
          obtain ⟨b, hb, hbp, eo, e27⟩ := q5a hon
          refine j_getRs (x := 6) (j := 5) (q := 21) hO CK_6 dX9_onBelts_18 rfl mw_339 rfl hh6 rfl rfl (by decide) rfl eo ?_
          refine j_ifnull (q := 24) hO dX9_onBelts_21 rfl ?_
          refine j_iinc (q := 27) hO dX9_onBelts_24 rfl rfl rfl (by rw [hM.nL]; decide) rfl ?_
          refine j_iinc (v := nI (h + 1)) (q := 30) hO dX9_onBelts_27 rfl rfl (nI_S h) (by rw [hM.nL]; decide) rfl ?_
          refine j_goto (tgt := 4) hO dX9_onBelts_30 (by decide) ?_
          refine Jg.lv (lv' := [(0, .ref (sA S 9 0)), (1, .int (nI (ctF α 1 (h + 1)))), (2, .int (nI (h + 1)))]) ⟨rfl, (congrArg (fun z => some (Value.int z)) (ct_t1 hon)), rfl, trivial⟩ ?_
          exact ih (h + 1) (by omega)
        · refine j_aald (x := 16) (c0 := 9) (q := 18) hO dX9_onBelts_17 rfl rfl c.1.c16 rfl rfl (fun _ => rfl) rfl (j := h) rfl (by rw [hN16]; omega) (by rw [hN16]; decide) ?_
          rw [e16]
          have eo := q5b hon
          refine j_getRn (x := 6) (j := 5) (q := 21) hO CK_6 dX9_onBelts_18 rfl mw_339 rfl hh6 rfl rfl (by decide) rfl eo ?_
          refine j_ifnullN (tgt := 27) hO dX9_onBelts_21 (by decide) ?_
          refine j_iinc (v := nI (h + 1)) (q := 30) hO dX9_onBelts_27 rfl rfl (nI_S h) (by rw [hM.nL]; decide) rfl ?_
          refine j_goto (tgt := 4) hO dX9_onBelts_30 (by decide) ?_
          refine Jg.lv (lv' := [(0, .ref (sA S 9 0)), (1, .int (nI (ctF α 1 (h + 1)))), (2, .int (nI (h + 1)))]) ⟨rfl, (congrArg (fun z => some (Value.int z)) (ct_t0 hon)), rfl, trivial⟩ ?_
          exact ih (h + 1) (by omega)
  refine j_iconst (v := 0) (q := 1) hO dX9_onBelts_0 rfl (by decide) ?_
  refine j_istore_n (q := 2) hO dX9_onBelts_1 rfl (by rw [hM.nL]; decide) rfl ?_
  refine j_iconst (v := 0) (q := 3) hO dX9_onBelts_2 rfl (by decide) ?_
  refine j_istore_n (q := 4) hO dX9_onBelts_3 rfl (by rw [hM.nL]; decide) rfl ?_
  refine Jg.lv (lv' := [(0, .ref (sA S 9 0)), (1, .int (nI (ctF α 1 0))), (2, .int (nI 0))]) ⟨rfl, rfl, rfl, trivial⟩ ?_
  exact loop np 0 (by omega)
set_option maxHeartbeats 4000000 in
set_option maxRecDepth 100000 in
theorem c_9_inside (l : Launch) (S : St) (α : Al) (nb nh nu nr nk np t : Nat) (c : Ci S α nb nh nu nr nk np t) : Ct l yX9_inside cX9_inside 1 (some .long) (rm 1 0 0 22) [.ref (sA S 9 0)] S (fun r S' => r = some (.long (inA α np)) ∧ S' = S) := by
  refine Ct.of (by decide) (Nat.le_of_ble_eq_true rfl) (fun X hM => ?_)
  have hO := hM.1
  obtain rfl := hM.l
  show Jg X 0 0 S 0 [(0, .ref (sA S 9 0))] []
  have np60 := c.2.2.1.2.2.2.2.2.1.2
  have n6 := c.2.2.1.1.2
  have nu4 := c.2.2.1.2.2.1.2
  refine j_aload_n (q := 1) hO dX9_inside_0 rfl rfl ?_
  refine j_callV (x := 9) (q := 4) hO (c_9_onBelts (lx X) _ α nb nh nu nr nk np t c) M_9_onBelts mw_464 CK_9 rfl c.1.c9 rfl rfl rfl (by unfold roomy; rw [hM.R]; exact ⟨⟨Nat.le_of_ble_eq_true rfl, Nat.le_of_ble_eq_true rfl⟩, ⟨Nat.le_of_ble_eq_true rfl, Nat.le_of_ble_eq_true rfl⟩, Nat.le_of_ble_eq_true rfl⟩) dX9_inside_1 rfl (fun v_1 S_1 hp_1 => ?_)
  obtain ⟨rfl, eS⟩ := hp_1
  refine Jg.same eS ?_
  clear eS
  refine j_aload_n (q := 5) hO dX9_inside_4 rfl rfl ?_
  refine j_getRs (x := 9) (j := 9) (q := 8) hO CK_9 dX9_inside_5 rfl mw_81 rfl c.1.c9 rfl rfl (by decide) rfl c.1.r9 ?_
  refine j_getI (x := 8) (j := 1) (q := 11) hO CK_8 dX9_inside_8 rfl mw_57 rfl c.1.c8 rfl rfl (by decide) (Or.inl rfl) ?_
  refine j_iadd (q := 12) hO dX9_inside_11 rfl ?_
  refine j_i2l (q := 13) hO dX9_inside_12 rfl ?_
  exact j_lret hM dX9_inside_13 (Nat.le_of_ble_eq_true rfl) (Nat.le_of_ble_eq_true rfl) ⟨by unfold inA; rw [← c.2.2.2.1.2.2.2.2.2.2.2.2.2.2.1], rfl⟩
set_option maxHeartbeats 4000000 in
set_option maxRecDepth 100000 in
theorem c_9_same (l : Launch) (S : St) (α : Al) (nb nh nu nr nk np t : Nat) (c : Ci S α nb nh nu nr nk np t) : Ct l yX9_same cX9_same 3 (some .boolean) (rm 1 0 0 22) [.ref (sA S 9 0)] S (fun r S' => r = some (.int (sameA α np)) ∧ S' = S) := by
  refine Ct.of (by decide) (Nat.le_of_ble_eq_true rfl) (fun X hM => ?_)
  have hO := hM.1
  obtain rfl := hM.l
  show Jg X 0 0 S 0 [(0, .ref (sA S 9 0))] []
  have np60 := c.2.2.1.2.2.2.2.2.1.2
  have n6 := c.2.2.1.1.2
  have nu4 := c.2.2.1.2.2.1.2
  have hcnt := c.2.1.2.1.2.2.2.2.2.2.trans c.2.2.1.2.2.2.2.2.1.1
  have hN16 := c.1.2.2.2.2.2.2.2.2.1
  have loop : ∀ m h, h + m = np → Jg X 0 0 S 4 [(0, .ref (sA S 9 0)), (1, .int (nI (enF α h))), (2, .int (nI h))] [] := by
    intro m
    induction m with
    | zero =>
      intro h hz
      obtain rfl : h = np := by omega
      refine j_iload_n (q := 5) hO dX9_same_4 rfl rfl ?_
      refine j_aload_n (q := 6) hO dX9_same_5 rfl rfl ?_
      refine j_getI (x := 9) (j := 15) (q := 9) hO CK_9 dX9_same_6 rfl mw_87 rfl c.1.c9 rfl rfl (by decide) (Or.inl rfl) ?_
      refine j_icmp_ge (tgt := 37) (q := 12) hO dX9_same_9 rfl (by decide) (fun c9 => ?_) (fun c9 => ?_)
      · refine j_iload_n (q := 38) hO dX9_same_37 rfl rfl ?_
        refine j_i2l (q := 39) hO dX9_same_38 rfl ?_
        refine j_aload_n (q := 40) hO dX9_same_39 rfl rfl ?_
        refine j_callV (x := 9) (q := 43) hO (c_9_onBelts (lx X) _ α nb nh nu nr nk h t c) M_9_onBelts mw_464 CK_9 rfl c.1.c9 rfl rfl rfl (by unfold roomy; rw [hM.R]; exact ⟨⟨Nat.le_of_ble_eq_true rfl, Nat.le_of_ble_eq_true rfl⟩, ⟨Nat.le_of_ble_eq_true rfl, Nat.le_of_ble_eq_true rfl⟩, Nat.le_of_ble_eq_true rfl⟩) dX9_same_40 rfl (fun v_40 S_40 hp_40 => ?_)
        obtain ⟨rfl, eS⟩ := hp_40
        refine Jg.same eS ?_
        clear eS
        refine j_i2l (q := 44) hO dX9_same_43 rfl ?_
        refine j_aload_n (q := 45) hO dX9_same_44 rfl rfl ?_
        refine j_getRs (x := 9) (j := 9) (q := 48) hO CK_9 dX9_same_45 rfl mw_81 rfl c.1.c9 rfl rfl (by decide) rfl c.1.r9 ?_
        refine j_callV (x := 8) (q := 51) hO (c_8_atRest (lx X) _ c.1.c8 c.1.2.2.1.2.2 c.1.c19 c.1.2.2.2.2.2.2.2.2.2.2.2) M_8_atRest mw_363 CK_8 rfl c.1.c8 rfl rfl rfl (by unfold roomy; rw [hM.R]; exact ⟨⟨Nat.le_of_ble_eq_true rfl, Nat.le_of_ble_eq_true rfl⟩, ⟨Nat.le_of_ble_eq_true rfl, Nat.le_of_ble_eq_true rfl⟩, Nat.le_of_ble_eq_true rfl⟩) dX9_same_48 rfl (fun v_48 S_48 hp_48 => ?_)
        obtain ⟨rfl, eS⟩ := hp_48
        refine Jg.same eS ?_
        clear eS
        refine j_ladd (q := 52) hO dX9_same_51 rfl ?_
        refine j_lcmp (q := 53) hO dX9_same_52 rfl ?_
        refine j_if_ne (tgt := 60) (q := 56) hO dX9_same_53 rfl (by decide) (fun c53 => ?_) (fun c53 => ?_)
        · refine j_iconst (v := 0) (q := 61) hO dX9_same_60 rfl (by decide) ?_
          exact j_zret hM dX9_same_61 (Nat.le_of_ble_eq_true rfl) (Nat.le_of_ble_eq_true rfl) (by decide) ⟨by unfold sameA; rw [if_neg (by rw [← same_eq c.2.2.2.1 np60]; exact c53)], rfl⟩
        · refine j_iconst (v := 1) (q := 57) hO dX9_same_56 rfl (by decide) ?_
          refine j_goto (tgt := 61) hO dX9_same_57 (by decide) ?_
          exact j_zret hM dX9_same_61 (Nat.le_of_ble_eq_true rfl) (Nat.le_of_ble_eq_true rfl) (by decide) ⟨by unfold sameA; rw [if_pos (by rw [← same_eq c.2.2.2.1 np60]; exact c53)], rfl⟩
      · exact absurd (by rw [hcnt]; exact nI_le (Nat.le_refl _) (by omega)) c9
    | succ m ih =>
      intro h hz
      refine j_iload_n (q := 5) hO dX9_same_4 rfl rfl ?_
      refine j_aload_n (q := 6) hO dX9_same_5 rfl rfl ?_
      refine j_getI (x := 9) (j := 15) (q := 9) hO CK_9 dX9_same_6 rfl mw_87 rfl c.1.c9 rfl rfl (by decide) (Or.inl rfl) ?_
      refine j_icmp_ge (tgt := 37) (q := 12) hO dX9_same_9 rfl (by decide) (fun c9 => ?_) (fun c9 => ?_)
      · exact absurd c9 (by rw [hcnt]; exact nI_ge (by omega) (by omega))
      · have hh6 : h < sC S 6 := by have := c.2.1.1.2.2.2.2.2.1; omega
        obtain ⟨e16, -, -, ept, -, -⟩ := c.2.1.2.2.2.2.2.2.2 h (by omega)
        have d1 := c.2.2.2.1.1
        refine j_aload_n (q := 13) hO dX9_same_12 rfl rfl ?_
        refine j_getRs (x := 9) (j := 6) (q := 16) hO CK_9 dX9_same_13 rfl mw_78 rfl c.1.c9 rfl rfl (by decide) rfl c.1.r6 ?_
        refine j_iload_n (q := 17) hO dX9_same_16 rfl rfl ?_
        refine j_aald (x := 16) (c0 := 9) (q := 18) hO dX9_same_17 rfl rfl c.1.c16 rfl rfl (fun _ => rfl) rfl (j := h) rfl (by rw [hN16]; omega) (by rw [hN16]; decide) ?_
        rw [e16]
        refine j_getI (x := 6) (j := 2) (q := 21) hO CK_6 dX9_same_18 rfl mw_334 rfl hh6 rfl rfl (by decide) (Or.inl rfl) ?_
        refine j_aload_n (q := 22) hO dX9_same_21 rfl rfl ?_
        refine j_getI (x := 9) (j := 16) (q := 25) hO CK_9 dX9_same_22 rfl mw_88 rfl c.1.c9 rfl rfl (by decide) (Or.inl rfl) ?_
        refine j_icmp_gt (tgt := 31) (q := 28) hO dX9_same_25 rfl (by decide) (fun c25 => ?_) (fun c25 => ?_)
        · refine j_iinc (v := nI (h + 1)) (q := 34) hO dX9_same_31 rfl rfl (nI_S h) (by rw [hM.nL]; decide) rfl ?_
          refine j_goto (tgt := 4) hO dX9_same_34 (by decide) ?_
          refine Jg.lv (lv' := [(0, .ref (sA S 9 0)), (1, .int (nI (enF α (h + 1)))), (2, .int (nI (h + 1)))]) ⟨rfl, (congrArg (fun z => some (Value.int z)) (en_t0 (by rw [← ept, ← d1]; exact c25))), rfl, trivial⟩ ?_
          exact ih (h + 1) (by omega)
        · refine j_iinc (q := 31) hO dX9_same_28 rfl rfl rfl (by rw [hM.nL]; decide) rfl ?_
          refine j_iinc (v := nI (h + 1)) (q := 34) hO dX9_same_31 rfl rfl (nI_S h) (by rw [hM.nL]; decide) rfl ?_
          refine j_goto (tgt := 4) hO dX9_same_34 (by decide) ?_
          refine Jg.lv (lv' := [(0, .ref (sA S 9 0)), (1, .int (nI (enF α (h + 1)))), (2, .int (nI (h + 1)))]) ⟨rfl, (congrArg (fun z => some (Value.int z)) (en_t1 (by rw [← ept, ← d1]; exact c25))), rfl, trivial⟩ ?_
          exact ih (h + 1) (by omega)
  refine j_iconst (v := 0) (q := 1) hO dX9_same_0 rfl (by decide) ?_
  refine j_istore_n (q := 2) hO dX9_same_1 rfl (by rw [hM.nL]; decide) rfl ?_
  refine j_iconst (v := 0) (q := 3) hO dX9_same_2 rfl (by decide) ?_
  refine j_istore_n (q := 4) hO dX9_same_3 rfl (by rw [hM.nL]; decide) rfl ?_
  refine Jg.lv (lv' := [(0, .ref (sA S 9 0)), (1, .int (nI (enF α 0))), (2, .int (nI 0))]) ⟨rfl, rfl, rfl, trivial⟩ ?_
  exact loop np 0 (by omega)
set_option maxHeartbeats 4000000 in
set_option maxRecDepth 100000 in
theorem c_9_event (l : Launch) (S : St) (α : Al) (nb nh nu nr nk np t : Nat) (k w : Int32) (c : Ci S α nb nh nu nr nk np t) : Ct l yX9_event cX9_event 3 (some .int) (rm 1 0 0 23) [.ref (sA S 9 0), .int k, .int w] S (fun r S' => r = some (.int (evA α k w)) ∧ S' = S) := by
  refine Ct.of (by decide) (Nat.le_of_ble_eq_true rfl) (fun X hM => ?_)
  have hO := hM.1
  obtain rfl := hM.l
  show Jg X 0 0 S 0 [(0, .ref (sA S 9 0)), (1, .int k), (2, .int w)] []
  have np60 := c.2.2.1.2.2.2.2.2.1.2
  have n6 := c.2.2.1.1.2
  have nu4 := c.2.2.1.2.2.1.2
  refine j_aload_n (q := 1) hO dX9_event_0 rfl rfl ?_
  refine j_getRs (x := 9) (j := 7) (q := 4) hO CK_9 dX9_event_1 rfl mw_79 rfl c.1.c9 rfl rfl (by decide) rfl c.1.r7 ?_
  refine j_iload_n (q := 5) hO dX9_event_4 rfl rfl ?_
  refine j_iload_n (q := 6) hO dX9_event_5 rfl rfl ?_
  refine j_callV (x := 3) (q := 9) hO (c_3_part (lx X) _ 0 _ _ c.1.c3a c.1.2.2.1.1 c.1.c18a (by rw [c.1.2.2.2.2.2.2.2.2.2.1]; decide)) M_3_part mw_451 CK_3 rfl c.1.c3a rfl rfl rfl (by unfold roomy; rw [hM.R]; exact ⟨⟨Nat.le_of_ble_eq_true rfl, Nat.le_of_ble_eq_true rfl⟩, ⟨Nat.le_of_ble_eq_true rfl, Nat.le_of_ble_eq_true rfl⟩, Nat.le_of_ble_eq_true rfl⟩) dX9_event_6 rfl (fun v_6 S_6 hp_6 => ?_)
  obtain ⟨rfl, eS⟩ := hp_6
  refine Jg.same eS ?_
  clear eS
  exact j_iret hM dX9_event_9 (Nat.le_of_ble_eq_true rfl) (Nat.le_of_ble_eq_true rfl) ⟨by rw [part_ev c], rfl⟩
set_option maxHeartbeats 4000000 in
set_option maxRecDepth 100000 in
theorem c_9_jam (l : Launch) (S : St) (α : Al) (nb nh nu nr nk np t : Nat) (k w : Int32) (c : Ci S α nb nh nu nr nk np t) : Ct l yX9_jam cX9_jam 3 (some .int) (rm 1 0 0 23) [.ref (sA S 9 0), .int k, .int w] S (fun r S' => r = some (.int (jamA α k w)) ∧ S' = S) := by
  refine Ct.of (by decide) (Nat.le_of_ble_eq_true rfl) (fun X hM => ?_)
  have hO := hM.1
  obtain rfl := hM.l
  show Jg X 0 0 S 0 [(0, .ref (sA S 9 0)), (1, .int k), (2, .int w)] []
  have np60 := c.2.2.1.2.2.2.2.2.1.2
  have n6 := c.2.2.1.1.2
  have nu4 := c.2.2.1.2.2.1.2
  refine j_aload_n (q := 1) hO dX9_jam_0 rfl rfl ?_
  refine j_getRs (x := 9) (j := 8) (q := 4) hO CK_9 dX9_jam_1 rfl mw_80 rfl c.1.c9 rfl rfl (by decide) rfl c.1.r8 ?_
  refine j_iload_n (q := 5) hO dX9_jam_4 rfl rfl ?_
  refine j_iload_n (q := 6) hO dX9_jam_5 rfl rfl ?_
  refine j_callV (x := 3) (q := 9) hO (c_3_part (lx X) _ 1 _ _ c.1.c3 c.1.2.2.1.2.1 c.1.c18 (by rw [c.1.2.2.2.2.2.2.2.2.2.2.1]; decide)) M_3_part mw_451 CK_3 rfl c.1.c3 rfl rfl rfl (by unfold roomy; rw [hM.R]; exact ⟨⟨Nat.le_of_ble_eq_true rfl, Nat.le_of_ble_eq_true rfl⟩, ⟨Nat.le_of_ble_eq_true rfl, Nat.le_of_ble_eq_true rfl⟩, Nat.le_of_ble_eq_true rfl⟩) dX9_jam_6 rfl (fun v_6 S_6 hp_6 => ?_)
  obtain ⟨rfl, eS⟩ := hp_6
  refine Jg.same eS ?_
  clear eS
  exact j_iret hM dX9_jam_9 (Nat.le_of_ble_eq_true rfl) (Nat.le_of_ble_eq_true rfl) ⟨by rw [part_jm c], rfl⟩
set_option maxHeartbeats 4000000 in
set_option maxRecDepth 100000 in
theorem c_9_out (l : Launch) (S : St) (α : Al) (nb nh nu nr nk np t : Nat) (x kd : Int32) (c : Ci S α nb nh nu nr nk np t) : Ct l yX9_out cX9_out 4 (some .long) (rm 1 0 0 21) [.ref (sA S 9 0), .int x, .int kd] S (fun r S' => r = some (.long (outA α x kd)) ∧ S' = S) := by
  refine Ct.of (by decide) (Nat.le_of_ble_eq_true rfl) (fun X hM => ?_)
  have hO := hM.1
  obtain rfl := hM.l
  show Jg X 0 0 S 0 [(0, .ref (sA S 9 0)), (1, .int x), (2, .int kd)] []
  have np60 := c.2.2.1.2.2.2.2.2.1.2
  have n6 := c.2.2.1.1.2
  have nu4 := c.2.2.1.2.2.1.2
  refine j_aload_n (q := 1) hO dX9_out_0 rfl rfl ?_
  refine j_iload_n (q := 2) hO dX9_out_1 rfl rfl ?_
  refine j_callV (x := 9) (q := 5) hO (c_9_beltNumbered (lx X) _ α nb nh nu nr nk np t _ c) M_9_beltNumbered mw_205 CK_9 rfl c.1.c9 rfl rfl rfl (by unfold roomy; rw [hM.R]; exact ⟨⟨Nat.le_of_ble_eq_true rfl, Nat.le_of_ble_eq_true rfl⟩, ⟨Nat.le_of_ble_eq_true rfl, Nat.le_of_ble_eq_true rfl⟩, Nat.le_of_ble_eq_true rfl⟩) dX9_out_2 rfl (fun v_2 S_2 hp_2 => ?_)
  obtain ⟨eS, hor⟩ := hp_2
  refine Jg.same eS ?_
  clear eS
  rcases hor with ⟨ci, rfl⟩ | ⟨b, hb, rfl, rfl⟩
  · refine j_astore_nN (q := 6) hO dX9_out_5 rfl (by rw [hM.nL]; decide) rfl ?_
    refine j_aload_nN (q := 7) hO dX9_out_6 rfl rfl ?_
    refine j_ifnullN (tgt := 17) hO dX9_out_7 (by decide) ?_
    refine j_ldc2 (q := 20) hO dX9_out_17 rfl mw_459 ?_
    exact j_lret hM dX9_out_20 (Nat.le_of_ble_eq_true rfl) (Nat.le_of_ble_eq_true rfl) ⟨by unfold outA; rw [if_pos (isK_0a ci)], rfl⟩
  · refine j_astore_n (q := 6) hO dX9_out_5 rfl (by rw [hM.nL]; decide) rfl ?_
    refine j_aload_n (q := 7) hO dX9_out_6 rfl rfl ?_
    refine j_ifnull (q := 10) hO dX9_out_7 rfl ?_
    refine j_iload_n (q := 11) hO dX9_out_10 rfl rfl ?_
    refine j_callS (q := 14) hO (c_9_isKind (lx X) _ _) M_9_isKind mw_321 rfl rfl (by unfold roomy; rw [hM.R]; exact ⟨⟨Nat.le_of_ble_eq_true rfl, Nat.le_of_ble_eq_true rfl⟩, ⟨Nat.le_of_ble_eq_true rfl, Nat.le_of_ble_eq_true rfl⟩, Nat.le_of_ble_eq_true rfl⟩) dX9_out_11 rfl (fun v_11 S_11 hp_11 => ?_)
    obtain ⟨rfl, eS⟩ := hp_11
    refine Jg.same eS ?_
    clear eS
    refine j_if_ne (tgt := 21) (q := 17) hO dX9_out_14 rfl (by decide) (fun cK => ?_) (fun cK => ?_)
    · obtain ⟨kk, hkk, rfl⟩ := ik_in cK
      obtain ⟨⟨-, -, -, -, eb3⟩, -, -, eb17, ebo⟩ := c.2.1.2.2.1 b hb
      have hbc : b < sC S 0 := by have := c.2.1.1.1; omega
      have hcb : b < sC S 17 := by have := c.2.1.1.2.2.2.2.2.2.2; omega
      have hca : 5 * b + kk < sC S 4 := by have := c.2.1.1.2.2.2.2.2.2.1; omega
      obtain ⟨o0, o1, o2, o3⟩ := c.2.2.2.1.2.2.2.2.2.1 (5 * b + kk) (by omega)
      have hik := isK_1 c.2.2.1.1.1 n6 hb hkk
      refine j_aload_n (q := 22) hO dX9_out_21 rfl rfl ?_
      refine j_getRs (x := 0) (j := 3) (q := 25) hO CK_0 dX9_out_22 rfl mw_172 rfl hbc rfl rfl (by decide) rfl eb3 ?_
      refine j_iload_n (q := 26) hO dX9_out_25 rfl rfl ?_
      refine j_aald (x := 17) (c0 := 10) (q := 27) hO dX9_out_26 rfl rfl hcb rfl rfl (fun _ => rfl) rfl (j := kk) rfl (by rw [eb17]; exact hkk) (by rw [eb17]; decide) ?_
      rw [ebo kk hkk]
      refine j_getI (x := 4) (j := 0) (q := 30) hO CK_4 dX9_out_27 rfl mw_150 rfl hca rfl rfl (by decide) (Or.inl rfl) ?_
      refine j_i2l (q := 31) hO dX9_out_30 rfl ?_
      exact j_lret hM dX9_out_31 (Nat.le_of_ble_eq_true rfl) (Nat.le_of_ble_eq_true rfl) ⟨by unfold outA; rw [if_neg hik, nn_nI (by omega), nn_nI (by omega), ← o0], rfl⟩
    · refine j_ldc2 (q := 20) hO dX9_out_17 rfl mw_459 ?_
      exact j_lret hM dX9_out_20 (Nat.le_of_ble_eq_true rfl) (Nat.le_of_ble_eq_true rfl) ⟨by unfold outA; rw [if_pos (isK_0b cK)], rfl⟩
set_option maxHeartbeats 4000000 in
set_option maxRecDepth 100000 in
theorem c_9_lost (l : Launch) (S : St) (α : Al) (nb nh nu nr nk np t : Nat) (x : Int32) (c : Ci S α nb nh nu nr nk np t) : Ct l yX9_lost cX9_lost 2 (some .long) (rm 0 0 0 0) [.ref (sA S 9 0), .int x] S (fun r S' => r = some (.long (lostA α x)) ∧ S' = S) := by
  refine Ct.of (by decide) (Nat.le_of_ble_eq_true rfl) (fun X hM => ?_)
  have hO := hM.1
  obtain rfl := hM.l
  show Jg X 0 0 S 0 [(0, .ref (sA S 9 0)), (1, .int x)] []
  have np60 := c.2.2.1.2.2.2.2.2.1.2
  have n6 := c.2.2.1.1.2
  have nu4 := c.2.2.1.2.2.1.2
  refine j_iload_n (q := 1) hO dX9_lost_0 rfl rfl ?_
  refine j_if_lt (tgt := 21) (q := 4) hO dX9_lost_1 rfl (by decide) (fun c1 => ?_) (fun c1 => ?_)
  · refine j_ldc2 (q := 24) hO dX9_lost_21 rfl mw_459 ?_
    exact j_lret hM dX9_lost_24 (Nat.le_of_ble_eq_true rfl) (Nat.le_of_ble_eq_true rfl) ⟨by unfold lostA; rw [if_neg (fun z => z.1 c1)], rfl⟩
  · refine j_iload_n (q := 5) hO dX9_lost_4 rfl rfl ?_
    refine j_iconst (v := 4) (q := 6) hO dX9_lost_5 rfl (by decide) ?_
    refine j_icmp_ge (tgt := 21) (q := 9) hO dX9_lost_6 rfl (by decide) (fun c6 => ?_) (fun c6 => ?_)
    · refine j_ldc2 (q := 24) hO dX9_lost_21 rfl mw_459 ?_
      exact j_lret hM dX9_lost_24 (Nat.le_of_ble_eq_true rfl) (Nat.le_of_ble_eq_true rfl) ⟨by unfold lostA; rw [if_neg (fun z => z.2 c6)], rfl⟩
    · obtain ⟨cc, hcc, rfl⟩ := w_in c1 c6
      have hN19 := c.1.2.2.2.2.2.2.2.2.2.2.2
      refine j_aload_n (q := 10) hO dX9_lost_9 rfl rfl ?_
      refine j_getRs (x := 9) (j := 9) (q := 13) hO CK_9 dX9_lost_10 rfl mw_81 rfl c.1.c9 rfl rfl (by decide) rfl c.1.r9 ?_
      refine j_getRs (x := 8) (j := 0) (q := 16) hO CK_8 dX9_lost_13 rfl mw_55 rfl c.1.c8 rfl rfl (by decide) rfl c.1.2.2.1.2.2 ?_
      refine j_iload_n (q := 17) hO dX9_lost_16 rfl rfl ?_
      refine j_lald (x := 19) (q := 18) hO dX9_lost_17 rfl rfl c.1.c19 rfl rfl rfl (j := cc) rfl (by rw [hN19]; omega) (by rw [hN19]; decide) ?_
      refine j_goto (tgt := 24) hO dX9_lost_18 (by decide) ?_
      exact j_lret hM dX9_lost_24 (Nat.le_of_ble_eq_true rfl) (Nat.le_of_ble_eq_true rfl) ⟨by unfold lostA; rw [if_pos ⟨c1, c6⟩, nn_nI (by omega), ← c.2.2.2.1.2.2.2.2.2.2.2.2.2.1 cc hcc], rfl⟩
set_option maxHeartbeats 4000000 in
set_option maxRecDepth 100000 in
theorem c_9_interval (l : Launch) (S : St) (α : Al) (nb nh nu nr nk np t : Nat) (x kd e : Int32) (c : Ci S α nb nh nu nr nk np t) : Ct l yX9_interval cX9_interval 6 (some .double) (rm 1 0 0 21) [.ref (sA S 9 0), .int x, .int kd, .int e] S (fun r S' => r = some (.double (intA α x kd e)) ∧ S' = S) := by
  refine Ct.of (by decide) (Nat.le_of_ble_eq_true rfl) (fun X hM => ?_)
  have hO := hM.1
  obtain rfl := hM.l
  show Jg X 0 0 S 0 [(0, .ref (sA S 9 0)), (1, .int x), (2, .int kd), (3, .int e)] []
  have np60 := c.2.2.1.2.2.2.2.2.1.2
  have n6 := c.2.2.1.1.2
  have nu4 := c.2.2.1.2.2.1.2
  refine j_aload_n (q := 1) hO dX9_interval_0 rfl rfl ?_
  refine j_iload_n (q := 2) hO dX9_interval_1 rfl rfl ?_
  refine j_callV (x := 9) (q := 5) hO (c_9_beltNumbered (lx X) _ α nb nh nu nr nk np t _ c) M_9_beltNumbered mw_205 CK_9 rfl c.1.c9 rfl rfl rfl (by unfold roomy; rw [hM.R]; exact ⟨⟨Nat.le_of_ble_eq_true rfl, Nat.le_of_ble_eq_true rfl⟩, ⟨Nat.le_of_ble_eq_true rfl, Nat.le_of_ble_eq_true rfl⟩, Nat.le_of_ble_eq_true rfl⟩) dX9_interval_2 rfl (fun v_2 S_2 hp_2 => ?_)
  obtain ⟨eS, hor⟩ := hp_2
  refine Jg.same eS ?_
  clear eS
  rcases hor with ⟨ci, rfl⟩ | ⟨b, hb, rfl, rfl⟩
  · refine j_astoreN (q := 7) hO dX9_interval_5 rfl (by rw [hM.nL]; decide) rfl ?_
    refine j_aloadN (q := 9) hO dX9_interval_7 rfl rfl ?_
    refine j_ifnullN (tgt := 28) hO dX9_interval_9 (by decide) ?_
    refine j_ldc2d (q := 31) hO dX9_interval_28 rfl mw_480 ?_
    exact j_dret hM dX9_interval_31 (Nat.le_of_ble_eq_true rfl) (Nat.le_of_ble_eq_true rfl) ⟨by unfold intA; rw [if_neg (fun z => z.1 (isK_0a ci))], rfl⟩
  · refine j_astore (q := 7) hO dX9_interval_5 rfl (by rw [hM.nL]; decide) rfl ?_
    refine j_aload (q := 9) hO dX9_interval_7 rfl rfl ?_
    refine j_ifnull (q := 12) hO dX9_interval_9 rfl ?_
    refine j_iload_n (q := 13) hO dX9_interval_12 rfl rfl ?_
    refine j_callS (q := 16) hO (c_9_isKind (lx X) _ _) M_9_isKind mw_321 rfl rfl (by unfold roomy; rw [hM.R]; exact ⟨⟨Nat.le_of_ble_eq_true rfl, Nat.le_of_ble_eq_true rfl⟩, ⟨Nat.le_of_ble_eq_true rfl, Nat.le_of_ble_eq_true rfl⟩, Nat.le_of_ble_eq_true rfl⟩) dX9_interval_13 rfl (fun v_13 S_13 hp_13 => ?_)
    obtain ⟨rfl, eS⟩ := hp_13
    refine Jg.same eS ?_
    clear eS
    refine j_if_eq (tgt := 28) (q := 19) hO dX9_interval_16 rfl (by decide) (fun cK => ?_) (fun cK => ?_)
    · refine j_ldc2d (q := 31) hO dX9_interval_28 rfl mw_480 ?_
      exact j_dret hM dX9_interval_31 (Nat.le_of_ble_eq_true rfl) (Nat.le_of_ble_eq_true rfl) ⟨by unfold intA; rw [if_neg (fun z => z.1 (isK_0b cK))], rfl⟩
    · refine j_iload_n (q := 20) hO dX9_interval_19 rfl rfl ?_
      refine j_if_lt (tgt := 28) (q := 23) hO dX9_interval_20 rfl (by decide) (fun c20 => ?_) (fun c20 => ?_)
      · refine j_ldc2d (q := 31) hO dX9_interval_28 rfl mw_480 ?_
        exact j_dret hM dX9_interval_31 (Nat.le_of_ble_eq_true rfl) (Nat.le_of_ble_eq_true rfl) ⟨by unfold intA; rw [if_neg (fun z => z.2.1 c20)], rfl⟩
      · refine j_iload_n (q := 24) hO dX9_interval_23 rfl rfl ?_
        refine j_iconst (v := 1) (q := 25) hO dX9_interval_24 rfl (by decide) ?_
        refine j_icmp_le (tgt := 32) (q := 28) hO dX9_interval_25 rfl (by decide) (fun c25 => ?_) (fun c25 => ?_)
        · obtain ⟨kk, hkk, rfl⟩ := ik_in cK
          obtain ⟨⟨-, -, -, -, eb3⟩, -, -, eb17, ebo⟩ := c.2.1.2.2.1 b hb
          have hbc : b < sC S 0 := by have := c.2.1.1.1; omega
          have hcb : b < sC S 17 := by have := c.2.1.1.2.2.2.2.2.2.2; omega
          have hca : 5 * b + kk < sC S 4 := by have := c.2.1.1.2.2.2.2.2.2.1; omega
          obtain ⟨o0, o1, o2, o3⟩ := c.2.2.2.1.2.2.2.2.2.1 (5 * b + kk) (by omega)
          have hik := isK_1 c.2.2.1.1.1 n6 hb hkk
          refine j_aload (q := 34) hO dX9_interval_32 rfl rfl ?_
          refine j_getRs (x := 0) (j := 3) (q := 37) hO CK_0 dX9_interval_34 rfl mw_172 rfl hbc rfl rfl (by decide) rfl eb3 ?_
          refine j_iload_n (q := 38) hO dX9_interval_37 rfl rfl ?_
          refine j_aald (x := 17) (c0 := 10) (q := 39) hO dX9_interval_38 rfl rfl hcb rfl rfl (fun _ => rfl) rfl (j := kk) rfl (by rw [eb17]; exact hkk) (by rw [eb17]; decide) ?_
          rw [ebo kk hkk]
          refine j_astore (q := 41) hO dX9_interval_39 rfl (by rw [hM.nL]; decide) rfl ?_
          refine j_aload (q := 43) hO dX9_interval_41 rfl rfl ?_
          refine j_getI (x := 4) (j := 0) (q := 46) hO CK_4 dX9_interval_43 rfl mw_150 rfl hca rfl rfl (by decide) (Or.inl rfl) ?_
          refine j_iconst (v := 2) (q := 47) hO dX9_interval_46 rfl (by decide) ?_
          refine j_icmp_ge (tgt := 54) (q := 50) hO dX9_interval_47 rfl (by decide) (fun c47 => ?_) (fun c47 => ?_)
          · refine j_iload_n (q := 55) hO dX9_interval_54 rfl rfl ?_
            refine j_if_ne (tgt := 66) (q := 58) hO dX9_interval_55 rfl (by decide) (fun c55 => ?_) (fun c55 => ?_)
            · refine j_aload (q := 68) hO dX9_interval_66 rfl rfl ?_
              refine j_getI (x := 4) (j := 3) (q := 71) hO CK_4 dX9_interval_68 rfl mw_155 rfl hca rfl rfl (by decide) (Or.inl rfl) ?_
              refine j_i2d (q := 72) hO dX9_interval_71 rfl ?_
              refine j_ldc2d (q := 75) hO dX9_interval_72 rfl mw_271 ?_
              refine j_ddiv (q := 76) hO dX9_interval_75 rfl (n64_of (ddiv_ok (i2d_ok _) (dNz_of (by decide +kernel)))) ?_
              exact j_dret hM dX9_interval_76 (Nat.le_of_ble_eq_true rfl) (Nat.le_of_ble_eq_true rfl) ⟨by unfold intA; rw [nn_nI (by omega), nn_nI (by omega), if_pos ⟨hik, c20, fun z => absurd c25 (Int32.not_le.mpr z), by rw [← o0]; exact c47⟩, if_neg c55, ← o3], rfl⟩
            · refine j_aload (q := 60) hO dX9_interval_58 rfl rfl ?_
              refine j_getI (x := 4) (j := 2) (q := 63) hO CK_4 dX9_interval_60 rfl mw_153 rfl hca rfl rfl (by decide) (Or.inl rfl) ?_
              refine j_goto (tgt := 71) hO dX9_interval_63 (by decide) ?_
              refine j_i2d (q := 72) hO dX9_interval_71 rfl ?_
              refine j_ldc2d (q := 75) hO dX9_interval_72 rfl mw_271 ?_
              refine j_ddiv (q := 76) hO dX9_interval_75 rfl (n64_of (ddiv_ok (i2d_ok _) (dNz_of (by decide +kernel)))) ?_
              exact j_dret hM dX9_interval_76 (Nat.le_of_ble_eq_true rfl) (Nat.le_of_ble_eq_true rfl) ⟨by unfold intA; rw [nn_nI (by omega), nn_nI (by omega), if_pos ⟨hik, c20, fun z => absurd c25 (Int32.not_le.mpr z), by rw [← o0]; exact c47⟩, if_pos c55, ← o2], rfl⟩
          · refine j_ldc2d (q := 53) hO dX9_interval_50 rfl mw_480 ?_
            exact j_dret hM dX9_interval_53 (Nat.le_of_ble_eq_true rfl) (Nat.le_of_ble_eq_true rfl) ⟨by unfold intA; rw [nn_nI (by omega), nn_nI (by omega), if_neg (fun z => c47 (by rw [o0]; exact z.2.2.2))], rfl⟩
        · refine j_ldc2d (q := 31) hO dX9_interval_28 rfl mw_480 ?_
          exact j_dret hM dX9_interval_31 (Nat.le_of_ble_eq_true rfl) (Nat.le_of_ble_eq_true rfl) ⟨by unfold intA; rw [if_neg (fun z => z.2.2.1 (Int32.not_le.mp c25))], rfl⟩
set_option maxHeartbeats 4000000 in
set_option maxRecDepth 100000 in
theorem c_9_pieceKind (l : Launch) (S : St) (α : Al) (nb nh nu nr nk np t : Nat) (x : Int64) (c : Ci S α nb nh nu nr nk np t) : Ct l yX9_pieceKind cX9_pieceKind 3 (some .int) (rm 0 0 0 0) [.ref (sA S 9 0), .long x] S (fun r S' => r = some (.int (pkA α x)) ∧ S' = S) := by
  refine Ct.of (by decide) (Nat.le_of_ble_eq_true rfl) (fun X hM => ?_)
  have hO := hM.1
  obtain rfl := hM.l
  show Jg X 0 0 S 0 [(0, .ref (sA S 9 0)), (1, .long x)] []
  have np60 := c.2.2.1.2.2.2.2.2.1.2
  have n6 := c.2.2.1.1.2
  have nu4 := c.2.2.1.2.2.1.2
  refine j_lload_n (q := 1) hO dX9_pieceKind_0 rfl rfl ?_
  refine j_lconst (v := 0) (q := 2) hO dX9_pieceKind_1 rfl (by decide) ?_
  refine j_lcmp (q := 3) hO dX9_pieceKind_2 rfl ?_
  refine j_if_lt (tgt := 29) (q := 6) hO dX9_pieceKind_3 rfl (by decide) (fun c3 => ?_) (fun c3 => ?_)
  · refine j_iconst (v := (-1)) (q := 30) hO dX9_pieceKind_29 rfl (by decide) ?_
    exact j_iret hM dX9_pieceKind_30 (Nat.le_of_ble_eq_true rfl) (Nat.le_of_ble_eq_true rfl) ⟨by unfold pkA; rw [if_neg (fun z => z.1 c3)], rfl⟩
  · refine j_lload_n (q := 7) hO dX9_pieceKind_6 rfl rfl ?_
    refine j_aload_n (q := 8) hO dX9_pieceKind_7 rfl rfl ?_
    refine j_getI (x := 9) (j := 15) (q := 11) hO CK_9 dX9_pieceKind_8 rfl mw_87 rfl c.1.c9 rfl rfl (by decide) (Or.inl rfl) ?_
    refine j_i2l (q := 12) hO dX9_pieceKind_11 rfl ?_
    refine j_lcmp (q := 13) hO dX9_pieceKind_12 rfl ?_
    refine j_if_ge (tgt := 29) (q := 16) hO dX9_pieceKind_13 rfl (by decide) (fun c13 => ?_) (fun c13 => ?_)
    · refine j_iconst (v := (-1)) (q := 30) hO dX9_pieceKind_29 rfl (by decide) ?_
      exact j_iret hM dX9_pieceKind_30 (Nat.le_of_ble_eq_true rfl) (Nat.le_of_ble_eq_true rfl) ⟨by unfold pkA; rw [if_neg (fun z => z.2 (by rw [← c.2.1.2.1.2.2.2.2.2.2]; exact c13))], rfl⟩
    · obtain ⟨jj, hjj, rfl⟩ := pk_in2 (c.2.1.2.1.2.2.2.2.2.2.trans c.2.2.1.2.2.2.2.2.1.1) np60 c3 c13
      have hN16 := c.1.2.2.2.2.2.2.2.2.1
      have hh6 : jj < sC S 6 := by have := c.2.1.1.2.2.2.2.2.1; omega
      obtain ⟨e16, -, -, -, epk, -⟩ := c.2.1.2.2.2.2.2.2.2 jj hjj
      refine j_aload_n (q := 17) hO dX9_pieceKind_16 rfl rfl ?_
      refine j_getRs (x := 9) (j := 6) (q := 20) hO CK_9 dX9_pieceKind_17 rfl mw_78 rfl c.1.c9 rfl rfl (by decide) rfl c.1.r6 ?_
      refine j_lload_n (q := 21) hO dX9_pieceKind_20 rfl rfl ?_
      refine j_l2i (q := 22) hO dX9_pieceKind_21 rfl ?_
      refine j_aald (x := 16) (c0 := 9) (q := 23) hO dX9_pieceKind_22 rfl rfl c.1.c16 rfl rfl (fun _ => rfl) rfl (j := jj) (lN_i jj) (by rw [hN16]; omega) (by rw [hN16]; decide) ?_
      rw [e16]
      refine j_getI (x := 6) (j := 3) (q := 26) hO CK_6 dX9_pieceKind_23 rfl mw_336 rfl hh6 rfl rfl (by decide) (Or.inl rfl) ?_
      refine j_goto (tgt := 30) hO dX9_pieceKind_26 (by decide) ?_
      exact j_iret hM dX9_pieceKind_30 (Nat.le_of_ble_eq_true rfl) (Nat.le_of_ble_eq_true rfl) ⟨by unfold pkA; rw [if_pos ⟨c3, by rw [← c.2.1.2.1.2.2.2.2.2.2]; exact c13⟩, lN_i, nn_nI (by omega), ← epk], rfl⟩

set_option maxHeartbeats 4000000 in
set_option maxRecDepth 100000 in
theorem c_9_comeOn (l : Launch) (S : St) (α : Al) (nb nh nu nr nk np n p : Nat) (k : Kx S α nb nh nu nr nk np n) (hp : p < np) : Ct l yX9_comeOn cX9_comeOn 3 (none : Option Jvm.ClassFile.FieldType) (rm 1 0 0 21) [.ref (sA S 9 0), .ref (sA S 6 p)] S (fun r S' => r = none ∧ Sw S S' ∧ Cd S' (mv1 α p) nb nu nk np ∧ sI S' 6 p 7 = aI (mv1 α p) 28 p ∧ ∀ j, j ≠ p → sI S' 6 j 7 = sI S 6 j 7) := by
  refine Ct.of (by decide) (Nat.le_of_ble_eq_true rfl) (fun X hM => ?_)
  have hO := hM.1
  obtain rfl := hM.l
  show Jg X 0 0 S 0 [(0, .ref (sA S 9 0)), (1, .ref (sA S 6 p))] []
  have kT := k
  have np60 := k.2.2.1.2.2.2.2.2.1.2
  have n6 := k.2.2.1.1.2
  have n8 := k.2.2.1.2.1.2
  have hpc : p < sC S 6 := by have := k.2.1.1.2.2.2.2.2.1; omega
  obtain ⟨ep0, epn, ⟨b0, ef1, ef2, ef3⟩, ept, epk, eps⟩ := k.2.1.2.2.2.2.2.2.2 p hp
  have d1 := k.2.2.2.1.1
  obtain ⟨q5a, q5b⟩ := k.2.2.2.1.2.2.2.2.1 p hp
  rcases Classical.em (aI α 25 p = 1) with hon | hon
  · refine j_aload_n (q := 1) hO dX9_comeOn_0 rfl rfl ?_
    obtain ⟨b, hb, hbp, eo, e27⟩ := q5a hon
    have hbc : b < sC S 0 := by have := k.2.1.1.1; omega
    have d2 := k.2.2.2.1.2.1 b hb
    refine j_getRs (x := 6) (j := 5) (q := 4) hO CK_6 dX9_comeOn_1 rfl mw_339 rfl hpc rfl rfl (by decide) rfl eo ?_
    refine j_astore_n (q := 5) hO dX9_comeOn_4 rfl (by rw [hM.nL]; decide) rfl ?_
    refine j_aload_n (q := 6) hO dX9_comeOn_5 rfl rfl ?_
    refine j_aload_n (q := 7) hO dX9_comeOn_6 rfl rfl ?_
    refine j_ifnull (q := 10) hO dX9_comeOn_7 rfl ?_
    refine j_aload_n (q := 11) hO dX9_comeOn_10 rfl rfl ?_
    refine j_aload_n (q := 12) hO dX9_comeOn_11 rfl rfl ?_
    refine j_getI (x := 9) (j := 16) (q := 15) hO CK_9 dX9_comeOn_12 rfl mw_88 rfl kT.1.c9 rfl rfl (by decide) (Or.inl rfl) ?_
    refine j_callV (x := 0) (q := 18) hO (c_0_movesAt (lx X) _ b _ hbc) M_0_movesAt mw_375 CK_0 rfl hbc rfl rfl rfl (by unfold roomy; rw [hM.R]; exact ⟨⟨Nat.le_of_ble_eq_true rfl, Nat.le_of_ble_eq_true rfl⟩, ⟨Nat.le_of_ble_eq_true rfl, Nat.le_of_ble_eq_true rfl⟩, Nat.le_of_ble_eq_true rfl⟩) dX9_comeOn_15 rfl (fun v_15 S_15 hp_15 => ?_)
    obtain ⟨rfl, eS⟩ := hp_15
    refine Jg.same eS ?_
    clear eS
    refine j_if_eq (tgt := 25) (q := 21) hO dX9_comeOn_18 rfl (by decide) (fun c18 => ?_) (fun c18 => ?_)
    · refine j_iconst (v := 0) (q := 26) hO dX9_comeOn_25 rfl (by decide) ?_
      refine j_putZ (x := 6) (j := 7) (q := 29) hO CK_6 dX9_comeOn_26 rfl mw_341 rfl hpc rfl rfl (by decide) rfl (by decide +kernel) rfl (by decide) ?_
      refine j_aload_n (q := 30) hO dX9_comeOn_29 rfl rfl ?_
      refine j_getI (x := 6) (j := 7) (q := 33) hO CK_6 dX9_comeOn_30 rfl mw_341 rfl hpc rfl rfl (by decide) (Or.inr rfl) ?_
      refine j_if_eq (tgt := 46) (q := 36) hO dX9_comeOn_33 rfl (by decide) (fun c33 => ?_) (fun c33 => ?_)
      · exact j_vret hM dX9_comeOn_46 (Nat.le_of_ble_eq_true rfl) (Nat.le_of_ble_eq_true rfl) ⟨rfl, (Sw.I7 Sw.rf : Sw S (pI S 6 p 7 0)), by rw [mv1_n2 hbp (by omega) (by rw [← d1, ← d2]; exact of0 c18)]; exact k.2.2.2.1.mvn, by rw [mv1_n2 hbp (by omega) (by rw [← d1, ← d2]; exact of0 c18), pI_s, qI_I (by omega), qI_s], fun j hj => by rw [pI_I (by omega)]⟩
      · exact absurd pI_s c33
    · refine j_iconst (v := 1) (q := 22) hO dX9_comeOn_21 rfl (by decide) ?_
      refine j_goto (tgt := 26) hO dX9_comeOn_22 (by decide) ?_
      refine j_putZ (x := 6) (j := 7) (q := 29) hO CK_6 dX9_comeOn_26 rfl mw_341 rfl hpc rfl rfl (by decide) rfl (by decide +kernel) rfl (by decide) ?_
      refine j_aload_n (q := 30) hO dX9_comeOn_29 rfl rfl ?_
      refine j_getI (x := 6) (j := 7) (q := 33) hO CK_6 dX9_comeOn_30 rfl mw_341 rfl hpc rfl rfl (by decide) (Or.inr rfl) ?_
      refine j_if_eq (tgt := 46) (q := 36) hO dX9_comeOn_33 rfl (by decide) (fun c33 => ?_) (fun c33 => ?_)
      · exact absurd (pI_s.symm.trans c33) (by decide)
      · refine j_aload_n (q := 37) hO dX9_comeOn_36 rfl rfl ?_
        refine j_dup (q := 38) hO dX9_comeOn_37 rfl rfl ?_
        refine j_getI (x := 6) (j := 6) (q := 41) hO CK_6 dX9_comeOn_38 rfl mw_340 rfl hpc rfl rfl (by decide) (Or.inl rfl) ?_
        refine j_iconst (v := 1) (q := 42) hO dX9_comeOn_41 rfl (by decide) ?_
        refine j_iadd (q := 43) hO dX9_comeOn_42 rfl ?_
        refine j_putI (x := 6) (j := 6) (q := 46) hO CK_6 dX9_comeOn_43 rfl mw_340 rfl hpc rfl rfl (by decide) rfl (by decide +kernel) rfl ?_
        exact j_vret hM dX9_comeOn_46 (Nat.le_of_ble_eq_true rfl) (Nat.le_of_ble_eq_true rfl) ⟨rfl, (Sw.I7 Sw.rf).tr (Sc.rf.I rfl).w, by rw [mv1_y hon hbp (by omega) (by rw [← d1, ← d2]; exact of1 c18)]; exact k.2.2.2.1.mvy hp hon, by rw [mv1_y hon hbp (by omega) (by rw [← d1, ← d2]; exact of1 c18), pI_I (by omega), pI_s, qI_I (by omega), qI_s], fun j hj => by rw [pI_I (by omega), pI_I (by omega)]⟩
  · refine j_aload_n (q := 1) hO dX9_comeOn_0 rfl rfl ?_
    have eo := q5b hon
    refine j_getRn (x := 6) (j := 5) (q := 4) hO CK_6 dX9_comeOn_1 rfl mw_339 rfl hpc rfl rfl (by decide) rfl eo ?_
    refine j_astore_nN (q := 5) hO dX9_comeOn_4 rfl (by rw [hM.nL]; decide) rfl ?_
    refine j_aload_n (q := 6) hO dX9_comeOn_5 rfl rfl ?_
    refine j_aload_nN (q := 7) hO dX9_comeOn_6 rfl rfl ?_
    refine j_ifnullN (tgt := 25) hO dX9_comeOn_7 (by decide) ?_
    refine j_iconst (v := 0) (q := 26) hO dX9_comeOn_25 rfl (by decide) ?_
    refine j_putZ (x := 6) (j := 7) (q := 29) hO CK_6 dX9_comeOn_26 rfl mw_341 rfl hpc rfl rfl (by decide) rfl (by decide +kernel) rfl (by decide) ?_
    refine j_aload_n (q := 30) hO dX9_comeOn_29 rfl rfl ?_
    refine j_getI (x := 6) (j := 7) (q := 33) hO CK_6 dX9_comeOn_30 rfl mw_341 rfl hpc rfl rfl (by decide) (Or.inr rfl) ?_
    refine j_if_eq (tgt := 46) (q := 36) hO dX9_comeOn_33 rfl (by decide) (fun c33 => ?_) (fun c33 => ?_)
    · exact j_vret hM dX9_comeOn_46 (Nat.le_of_ble_eq_true rfl) (Nat.le_of_ble_eq_true rfl) ⟨rfl, (Sw.I7 Sw.rf : Sw S (pI S 6 p 7 0)), by rw [mv1_n1 hon]; exact k.2.2.2.1.mvn, by rw [mv1_n1 hon, pI_s, qI_I (by omega), qI_s], fun j hj => by rw [pI_I (by omega)]⟩
    · exact absurd pI_s c33
set_option maxHeartbeats 4000000 in
set_option maxRecDepth 100000 in
theorem c_9_act (l : Launch) (S : St) (α : Al) (nb nh nu nr nk np n p : Nat) (k : Kx S α nb nh nu nr nk np n) (dn : Dn α nb nk np n) (hn : n + 30 < 2 ^ 30) (hp : p < np) (hm : ¬ aI α 28 p = 0 → aI α 25 p = 1) (hw : aI α 25 p = 0 ↔ ¬ aI α 23 p < aI α 0 35) (hc : sI S 6 p 7 = aI α 28 p) (hoc : ∀ a, ¬ aI α 32 a < 0) : Ct l yX9_act cX9_act 3 (none : Option Jvm.ClassFile.FieldType) (rm 4 0 0 93) [.ref (sA S 9 0), .ref (sA S 6 p)] S (fun r S' => r = none ∧ Sc S S' ∧ Cd S' (act1 α p) nb nu nk np) := by
  refine Ct.of (by decide) (Nat.le_of_ble_eq_true rfl) (fun X hM => ?_)
  have hO := hM.1
  obtain rfl := hM.l
  show Jg X 0 0 S 0 [(0, .ref (sA S 9 0)), (1, .ref (sA S 6 p))] []
  have kT := k
  have np60 := k.2.2.1.2.2.2.2.2.1.2
  have n6 := k.2.2.1.1.2
  have n8 := k.2.2.1.2.1.2
  have hpc : p < sC S 6 := by have := k.2.1.1.2.2.2.2.2.1; omega
  obtain ⟨ep0, epn, ⟨b0, ef1, ef2, ef3⟩, ept, epk, eps⟩ := k.2.1.2.2.2.2.2.2.2 p hp
  have d1 := k.2.2.2.1.1
  obtain ⟨q5a, q5b⟩ := k.2.2.2.1.2.2.2.2.1 p hp
  obtain ⟨jm, hjm, hj5⟩ := dn.2.2.2.1
  rcases Classical.em (aI α 25 p = 1) with hon | hon
  · refine j_aload_n (q := 1) hO dX9_act_0 rfl rfl ?_
    obtain ⟨b, hb, hbp, eo, e27⟩ := q5a hon
    have hbc : b < sC S 0 := by have := k.2.1.1.1; omega
    have d2 := k.2.2.2.1.2.1 b hb
    refine j_getRs (x := 6) (j := 5) (q := 4) hO CK_6 dX9_act_1 rfl mw_339 rfl hpc rfl rfl (by decide) rfl eo ?_
    refine j_astore_n (q := 5) hO dX9_act_4 rfl (by rw [hM.nL]; decide) rfl ?_
    refine j_aload_n (q := 6) hO dX9_act_5 rfl rfl ?_
    refine j_getI (x := 6) (j := 2) (q := 9) hO CK_6 dX9_act_6 rfl mw_334 rfl hpc rfl rfl (by decide) (Or.inl rfl) ?_
    refine j_aload_n (q := 10) hO dX9_act_9 rfl rfl ?_
    refine j_getI (x := 9) (j := 16) (q := 13) hO CK_9 dX9_act_10 rfl mw_88 rfl kT.1.c9 rfl rfl (by decide) (Or.inl rfl) ?_
    refine j_icmp_ne (tgt := 28) (q := 16) hO dX9_act_13 rfl (by decide) (fun c13 => ?_) (fun c13 => ?_)
    · refine j_aload_n (q := 29) hO dX9_act_28 rfl rfl ?_
      refine j_ifnull (q := 32) hO dX9_act_29 rfl ?_
      refine j_aload_n (q := 33) hO dX9_act_32 rfl rfl ?_
      refine j_getI (x := 6) (j := 7) (q := 36) hO CK_6 dX9_act_33 rfl mw_341 rfl hpc rfl rfl (by decide) (Or.inr rfl) ?_
      refine j_if_eq (tgt := 62) (q := 39) hO dX9_act_36 rfl (by decide) (fun c36 => ?_) (fun c36 => ?_)
      · exact j_vret hM dX9_act_62 (Nat.le_of_ble_eq_true rfl) (Nat.le_of_ble_eq_true rfl) ⟨rfl, Sc.rf, by rw [act1_s (fun z => c13 (ept.trans (z.trans d1.symm))) (hc.symm.trans c36)]; exact k.2.2.2.1⟩
      · refine j_aload_n (q := 40) hO dX9_act_39 rfl rfl ?_
        refine j_aload_n (q := 41) hO dX9_act_40 rfl rfl ?_
        refine j_aload_n (q := 42) hO dX9_act_41 rfl rfl ?_
        refine j_callV (x := 9) (q := 45) hO (c_9_passHeads (lx X) _ α nb nh nu nr nk np n p b k (by omega) hp hb hon hbp) M_9_passHeads mw_403 CK_9 rfl kT.1.c9 rfl rfl rfl (by unfold roomy; rw [hM.R]; exact ⟨⟨Nat.le_of_ble_eq_true rfl, Nat.le_of_ble_eq_true rfl⟩, ⟨Nat.le_of_ble_eq_true rfl, Nat.le_of_ble_eq_true rfl⟩, Nat.le_of_ble_eq_true rfl⟩) dX9_act_42 rfl (fun v_42 S_42 hp_42 => ?_)
        obtain ⟨rfl, scP, dP⟩ := hp_42
        have kT : Kx S_42 (passL α p nh) nb nh nu nr nk np (n + nh) := k.to scP (Sm.rf.pass nh) dP (passL_T k.2.2.2.2.1 nh) (passL_I (by decide) (by omega) nh)
        obtain ⟨I, J, D, R, hfm⟩ := (scP).form
        refine Jg.same hfm ?_
        rw [hfm] at kT scP dP
        clear hfm
        have q25 := (passL_I (α := α) (p := p) (k := 25) (j := p) (by decide) (by omega) nh).trans hon
        have q26 := (passL_I (α := α) (p := p) (k := 26) (j := p) (by decide) (by omega) nh).trans hbp
        obtain ⟨_, _, _, _, g27⟩ := (kT.2.2.2.1.2.2.2.2.1 p hp).1 q25
        have gb1 := (kT.2.1.2.2.1 b hb).1.2.2.1
        refine j_aload_n (q := 46) hO dX9_act_45 rfl rfl ?_
        refine j_getI (x := 6) (j := 6) (q := 49) hO CK_6 dX9_act_46 rfl mw_340 rfl hpc rfl rfl (by decide) (Or.inl rfl) ?_
        refine j_aload_n (q := 50) hO dX9_act_49 rfl rfl ?_
        refine j_getI (x := 0) (j := 1) (q := 53) hO CK_0 dX9_act_50 rfl mw_168 rfl hbc rfl rfl (by decide) (Or.inl rfl) ?_
        refine j_icmp_ne (tgt := 62) (q := 56) hO dX9_act_53 rfl (by decide) (fun c53 => ?_) (fun c53 => ?_)
        · exact j_vret hM dX9_act_62 (Nat.le_of_ble_eq_true rfl) (Nat.le_of_ble_eq_true rfl) ⟨rfl, scP, by rw [act1_m (fun z => c13 (ept.trans (z.trans d1.symm))) (fun z => c36 (hc.trans z)) k.nps.2.1, end_n q26 (by omega) (fun z => c53 (g27.trans (z.trans gb1.symm)))]; exact dP⟩
        · refine j_aload_n (q := 57) hO dX9_act_56 rfl rfl ?_
          refine j_aload_n (q := 58) hO dX9_act_57 rfl rfl ?_
          refine j_aload_n (q := 59) hO dX9_act_58 rfl rfl ?_
          refine j_callV (x := 9) (q := 62) hO (c_9_leave (lx X) _ (passL α p nh) nb nh nu nr nk np (n + nh) p b kT (dn.pass nh) (by omega) hp hb q25 q26 (fun a => by rw [passL_I (by decide) (by omega)]; exact hoc a)) M_9_leave mw_416 CK_9 rfl kT.1.c9 rfl rfl rfl (by unfold roomy; rw [hM.R]; exact ⟨⟨Nat.le_of_ble_eq_true rfl, Nat.le_of_ble_eq_true rfl⟩, ⟨Nat.le_of_ble_eq_true rfl, Nat.le_of_ble_eq_true rfl⟩, Nat.le_of_ble_eq_true rfl⟩) dX9_act_59 rfl (fun v_59 S_59 hp_59 => ?_)
          obtain ⟨rfl, scE, dE⟩ := hp_59
          exact j_vret hM dX9_act_62 (Nat.le_of_ble_eq_true rfl) (Nat.le_of_ble_eq_true rfl) ⟨rfl, scP.tr scE, by rw [act1_m (fun z => c13 (ept.trans (z.trans d1.symm))) (fun z => c36 (hc.trans z)) k.nps.2.1, end_leave q26 (by omega) (g27.symm.trans (c53.trans gb1))]; exact dE⟩
    · exact absurd ((hw.mpr (i_irr (ept.symm.trans (c13.trans d1)))).symm.trans hon) (by decide)
  · refine j_aload_n (q := 1) hO dX9_act_0 rfl rfl ?_
    have eo := q5b hon
    refine j_getRn (x := 6) (j := 5) (q := 4) hO CK_6 dX9_act_1 rfl mw_339 rfl hpc rfl rfl (by decide) rfl eo ?_
    refine j_astore_nN (q := 5) hO dX9_act_4 rfl (by rw [hM.nL]; decide) rfl ?_
    refine j_aload_n (q := 6) hO dX9_act_5 rfl rfl ?_
    refine j_getI (x := 6) (j := 2) (q := 9) hO CK_6 dX9_act_6 rfl mw_334 rfl hpc rfl rfl (by decide) (Or.inl rfl) ?_
    refine j_aload_n (q := 10) hO dX9_act_9 rfl rfl ?_
    refine j_getI (x := 9) (j := 16) (q := 13) hO CK_9 dX9_act_10 rfl mw_88 rfl kT.1.c9 rfl rfl (by decide) (Or.inl rfl) ?_
    refine j_icmp_ne (tgt := 28) (q := 16) hO dX9_act_13 rfl (by decide) (fun c13 => ?_) (fun c13 => ?_)
    · refine j_aload_nN (q := 29) hO dX9_act_28 rfl rfl ?_
      refine j_ifnullN (tgt := 62) hO dX9_act_29 (by decide) ?_
      exact j_vret hM dX9_act_62 (Nat.le_of_ble_eq_true rfl) (Nat.le_of_ble_eq_true rfl) ⟨rfl, Sc.rf, by rw [act1_s (fun z => c13 (ept.trans (z.trans d1.symm))) (Classical.byContradiction (fun z => hon (hm z)))]; exact k.2.2.2.1⟩
    · refine j_aload_n (q := 17) hO dX9_act_16 rfl rfl ?_
      refine j_aload_n (q := 18) hO dX9_act_17 rfl rfl ?_
      refine j_aload_n (q := 19) hO dX9_act_18 rfl rfl ?_
      refine j_getRs (x := 6) (j := 1) (q := 22) hO CK_6 dX9_act_19 rfl mw_332 rfl hpc rfl rfl (by decide) rfl ef3 ?_
      refine j_callV (x := 9) (q := 25) hO (c_9_enter (lx X) _ α nb nh nu nr nk np n jm p b0 k (by omega) hp ef2 (hw.mpr (i_irr (ept.symm.trans (c13.trans d1)))) hjm (by have := ctF_lt (α := α) (s := 5) hp (by rw [(hw.mpr (i_irr (ept.symm.trans (c13.trans d1))))]; decide); omega)) M_9_enter mw_383 CK_9 rfl kT.1.c9 rfl rfl rfl (by unfold roomy; rw [hM.R]; exact ⟨⟨Nat.le_of_ble_eq_true rfl, Nat.le_of_ble_eq_true rfl⟩, ⟨Nat.le_of_ble_eq_true rfl, Nat.le_of_ble_eq_true rfl⟩, Nat.le_of_ble_eq_true rfl⟩) dX9_act_22 rfl (fun v_22 S_22 hp_22 => ?_)
      obtain ⟨rfl, scE, dE⟩ := hp_22
      refine j_goto (tgt := 62) hO dX9_act_25 (by decide) ?_
      exact j_vret hM dX9_act_62 (Nat.le_of_ble_eq_true rfl) (Nat.le_of_ble_eq_true rfl) ⟨rfl, scE, by rw [act1_e (hw.mpr (i_irr (ept.symm.trans (c13.trans d1)))) (ept.symm.trans (c13.trans d1)) ef1 (by omega)]; exact dE⟩
set_option maxHeartbeats 4000000 in
set_option maxRecDepth 100000 in
theorem c_9_passOneTenth (l : Launch) (S : St) (α : Al) (nb nh nu nr nk np n : Nat) (k : Kx S α nb nh nu nr nk np n) (dn : Dn α nb nk np n) (hn : n + 1100 < 2 ^ 30) (w : Wt (mvL α np) 0 np) (oc : Oc α n) : Ct l yX9_passOneTenth cX9_passOneTenth 2 (none : Option Jvm.ClassFile.FieldType) (rm 5 0 0 115) [.ref (sA S 9 0)] S (fun r S' => r = none ∧ Sw S S' ∧ Cd S' (actL (mvL α np) np) nb nu nk np) := by
  refine Ct.of (by decide) (Nat.le_of_ble_eq_true rfl) (fun X hM => ?_)
  have hO := hM.1
  obtain rfl := hM.l
  show Jg X 0 0 S 0 [(0, .ref (sA S 9 0))] []
  have np60 := k.2.2.1.2.2.2.2.2.1.2
  have hN16 := k.1.2.2.2.2.2.2.2.2.1
  have cm := k.2.2.1.sm (Sm.rf.mvB np)
  have dm := dn.mv np
  have om : Oc (mvL α np) n := oc.same (fun _ => mvL_I (by decide) (by decide) np) (Nat.le_refl _)
  have loop2 : ∀ m h, h + m = np → ∀ T, Sw S T → Cd T (actL (mvL α np) h) nb nu nk np → (∀ j, j < np → sI T 6 j 7 = aI (actL (mvL α np) h) 28 j) → Jg X 0 0 T 28 [(0, .ref (sA S 9 0)), (1, .int (nI h))] [] := by
    intro m
    induction m with
    | zero =>
      intro h hz T hT dT hC
      obtain ⟨I, J, D, R, rfl⟩ := hT.form
      obtain ⟨dA, mA⟩ := Dn.actB cm dm mvL_Mv h (by omega)
      have wA := Wt.actB cm dm mvL_Mv w h (by omega)
      have kT : Kx (mk4 S I J D R) (actL (mvL α np) h) nb nh nu nr nk np (n + 17 * h) := k.tow hT ((Sm.rf.mvB np).actB h) dT dA.2.2.2.2.2.2 ((actL_now h).trans (mvL_I (by decide) (by decide) np))
      have hcnt := kT.2.1.2.1.2.2.2.2.2.2.trans kT.2.2.1.2.2.2.2.2.1.1
      have hN16' := kT.1.2.2.2.2.2.2.2.2.1
      refine j_iload_n (q := 29) hO dX9_passOneTenth_28 rfl rfl ?_
      refine j_aload_n (q := 30) hO dX9_passOneTenth_29 rfl rfl ?_
      refine j_getI (x := 9) (j := 15) (q := 33) hO CK_9 dX9_passOneTenth_30 rfl mw_87 rfl kT.1.c9 rfl rfl (by decide) (Or.inl rfl) ?_
      refine j_icmp_ge (tgt := 52) (q := 36) hO dX9_passOneTenth_33 rfl (by decide) (fun c33 => ?_) (fun c33 => ?_)
      · exact j_vret hM dX9_passOneTenth_52 (Nat.le_of_ble_eq_true rfl) (Nat.le_of_ble_eq_true rfl) ⟨rfl, hT, by rw [show h = np by omega] at dT; exact dT⟩
      · exact absurd (by rw [hcnt]; exact nI_le (by omega) (by omega)) c33
    | succ m ih =>
      intro h hz T hT dT hC
      obtain ⟨I, J, D, R, rfl⟩ := hT.form
      obtain ⟨dA, mA⟩ := Dn.actB cm dm mvL_Mv h (by omega)
      have wA := Wt.actB cm dm mvL_Mv w h (by omega)
      have kT : Kx (mk4 S I J D R) (actL (mvL α np) h) nb nh nu nr nk np (n + 17 * h) := k.tow hT ((Sm.rf.mvB np).actB h) dT dA.2.2.2.2.2.2 ((actL_now h).trans (mvL_I (by decide) (by decide) np))
      have hcnt := kT.2.1.2.1.2.2.2.2.2.2.trans kT.2.2.1.2.2.2.2.2.1.1
      have hN16' := kT.1.2.2.2.2.2.2.2.2.1
      refine j_iload_n (q := 29) hO dX9_passOneTenth_28 rfl rfl ?_
      refine j_aload_n (q := 30) hO dX9_passOneTenth_29 rfl rfl ?_
      refine j_getI (x := 9) (j := 15) (q := 33) hO CK_9 dX9_passOneTenth_30 rfl mw_87 rfl kT.1.c9 rfl rfl (by decide) (Or.inl rfl) ?_
      refine j_icmp_ge (tgt := 52) (q := 36) hO dX9_passOneTenth_33 rfl (by decide) (fun c33 => ?_) (fun c33 => ?_)
      · exact absurd c33 (by rw [hcnt]; exact nI_ge (by omega) (by omega))
      · have e16 := (kT.2.1.2.2.2.2.2.2.2 h (by omega)).1
        refine j_aload_n (q := 37) hO dX9_passOneTenth_36 rfl rfl ?_
        refine j_aload_n (q := 38) hO dX9_passOneTenth_37 rfl rfl ?_
        refine j_getRs (x := 9) (j := 6) (q := 41) hO CK_9 dX9_passOneTenth_38 rfl mw_78 rfl kT.1.c9 rfl rfl (by decide) rfl kT.1.r6 ?_
        refine j_iload_n (q := 42) hO dX9_passOneTenth_41 rfl rfl ?_
        refine j_aald (x := 16) (c0 := 9) (q := 43) hO dX9_passOneTenth_42 rfl rfl kT.1.c16 rfl rfl (fun _ => rfl) rfl (j := h) rfl (by rw [hN16']; omega) (by rw [hN16']; decide) ?_
        rw [e16]
        refine j_callV (x := 9) (q := 46) hO (c_9_act (lx X) _ (actL (mvL α np) h) nb nh nu nr nk np (n + 17 * h) h kT dA (by omega) (by omega) (mA h (Nat.le_refl _) (by omega)) ((wA h (by omega)).2 (Nat.le_refl _)) (hC h (by omega)) (fun a => (Oc.actB om h).pos (by omega))) M_9_act mw_379 CK_9 rfl kT.1.c9 rfl rfl rfl (by unfold roomy; rw [hM.R]; exact ⟨⟨Nat.le_of_ble_eq_true rfl, Nat.le_of_ble_eq_true rfl⟩, ⟨Nat.le_of_ble_eq_true rfl, Nat.le_of_ble_eq_true rfl⟩, Nat.le_of_ble_eq_true rfl⟩) dX9_passOneTenth_43 rfl (fun v_43 S_43 hp_43 => ?_)
        obtain ⟨rfl, scA, dA2⟩ := hp_43
        refine j_iinc (v := nI (h + 1)) (q := 49) hO dX9_passOneTenth_46 rfl rfl (nI_S h) (by rw [hM.nL]; decide) rfl ?_
        refine j_goto (tgt := 28) hO dX9_passOneTenth_49 (by decide) ?_
        refine Jg.lv (lv' := [(0, .ref (sA S 9 0)), (1, .int (nI (h + 1)))]) ⟨rfl, rfl, trivial⟩ ?_
        refine ih (h + 1) (by omega) _ (hT.tr scA.w) dA2 (fun j hj => ?_)
        rw [scA.2.2.2.1 6 j 7 rfl, hC j hj]
        exact ((Lc.actA (p := h) (Lc.rf (α := actL (mvL α np) h))).2.1 j).symm
  have loop : ∀ m h, h + m = np → ∀ T, Sw S T → Cd T (mvL α h) nb nu nk np → (∀ j, j < h → sI T 6 j 7 = aI (mvL α h) 28 j) → Jg X 0 0 T 2 [(0, .ref (sA S 9 0)), (1, .int (nI h))] [] := by
    intro m
    induction m with
    | zero =>
      intro h hz T hT dT hC
      obtain rfl : h = np := by omega
      obtain ⟨I, J, D, R, rfl⟩ := hT.form
      have kT := k.tow hT (Sm.rf.mvB h) dT (k.2.2.2.2.1.same (mvL_I (by decide) (by decide) h)) (mvL_I (by decide) (by decide) h)
      have hcnt := kT.2.1.2.1.2.2.2.2.2.2.trans kT.2.2.1.2.2.2.2.2.1.1
      have hN16' := kT.1.2.2.2.2.2.2.2.2.1
      refine j_iload_n (q := 3) hO dX9_passOneTenth_2 rfl rfl ?_
      refine j_aload_n (q := 4) hO dX9_passOneTenth_3 rfl rfl ?_
      refine j_getI (x := 9) (j := 15) (q := 7) hO CK_9 dX9_passOneTenth_4 rfl mw_87 rfl kT.1.c9 rfl rfl (by decide) (Or.inl rfl) ?_
      refine j_icmp_ge (tgt := 26) (q := 10) hO dX9_passOneTenth_7 rfl (by decide) (fun c7 => ?_) (fun c7 => ?_)
      · refine j_iconst (v := 0) (q := 27) hO dX9_passOneTenth_26 rfl (by decide) ?_
        refine j_istore_n (q := 28) hO dX9_passOneTenth_27 rfl (by rw [hM.nL]; decide) rfl ?_
        refine Jg.lv (lv' := [(0, .ref (sA S 9 0)), (1, .int (nI 0))]) ⟨rfl, rfl, trivial⟩ ?_
        exact loop2 h 0 (by omega) _ hT dT hC
      · exact absurd (by rw [hcnt]; exact nI_le (Nat.le_refl _) (by omega)) c7
    | succ m ih =>
      intro h hz T hT dT hC
      obtain ⟨I, J, D, R, rfl⟩ := hT.form
      have kT := k.tow hT (Sm.rf.mvB h) dT (k.2.2.2.2.1.same (mvL_I (by decide) (by decide) h)) (mvL_I (by decide) (by decide) h)
      have hcnt := kT.2.1.2.1.2.2.2.2.2.2.trans kT.2.2.1.2.2.2.2.2.1.1
      have hN16' := kT.1.2.2.2.2.2.2.2.2.1
      refine j_iload_n (q := 3) hO dX9_passOneTenth_2 rfl rfl ?_
      refine j_aload_n (q := 4) hO dX9_passOneTenth_3 rfl rfl ?_
      refine j_getI (x := 9) (j := 15) (q := 7) hO CK_9 dX9_passOneTenth_4 rfl mw_87 rfl kT.1.c9 rfl rfl (by decide) (Or.inl rfl) ?_
      refine j_icmp_ge (tgt := 26) (q := 10) hO dX9_passOneTenth_7 rfl (by decide) (fun c7 => ?_) (fun c7 => ?_)
      · exact absurd c7 (by rw [hcnt]; exact nI_ge (by omega) (by omega))
      · have e16 := (kT.2.1.2.2.2.2.2.2.2 h (by omega)).1
        refine j_aload_n (q := 11) hO dX9_passOneTenth_10 rfl rfl ?_
        refine j_aload_n (q := 12) hO dX9_passOneTenth_11 rfl rfl ?_
        refine j_getRs (x := 9) (j := 6) (q := 15) hO CK_9 dX9_passOneTenth_12 rfl mw_78 rfl kT.1.c9 rfl rfl (by decide) rfl kT.1.r6 ?_
        refine j_iload_n (q := 16) hO dX9_passOneTenth_15 rfl rfl ?_
        refine j_aald (x := 16) (c0 := 9) (q := 17) hO dX9_passOneTenth_16 rfl rfl kT.1.c16 rfl rfl (fun _ => rfl) rfl (j := h) rfl (by rw [hN16']; omega) (by rw [hN16']; decide) ?_
        rw [e16]
        refine j_callV (x := 9) (q := 20) hO (c_9_comeOn (lx X) _ (mvL α h) nb nh nu nr nk np n h kT (by omega)) M_9_comeOn mw_371 CK_9 rfl kT.1.c9 rfl rfl rfl (by unfold roomy; rw [hM.R]; exact ⟨⟨Nat.le_of_ble_eq_true rfl, Nat.le_of_ble_eq_true rfl⟩, ⟨Nat.le_of_ble_eq_true rfl, Nat.le_of_ble_eq_true rfl⟩, Nat.le_of_ble_eq_true rfl⟩) dX9_passOneTenth_17 rfl (fun v_17 S_17 hp_17 => ?_)
        obtain ⟨rfl, sw1, dd1, ee1, ee2⟩ := hp_17
        refine j_iinc (v := nI (h + 1)) (q := 23) hO dX9_passOneTenth_20 rfl rfl (nI_S h) (by rw [hM.nL]; decide) rfl ?_
        refine j_goto (tgt := 2) hO dX9_passOneTenth_23 (by decide) ?_
        refine Jg.lv (lv' := [(0, .ref (sA S 9 0)), (1, .int (nI (h + 1)))]) ⟨rfl, rfl, trivial⟩ ?_
        refine ih (h + 1) (by omega) _ (hT.tr sw1) dd1 (fun j hj => ?_)
        by_cases q : j = h
        · subst q; exact ee1
        · rw [ee2 j q, hC j (by omega)]; exact (mv1_I (by omega) (by omega)).symm
  refine j_iconst (v := 0) (q := 1) hO dX9_passOneTenth_0 rfl (by decide) ?_
  refine j_istore_n (q := 2) hO dX9_passOneTenth_1 rfl (by rw [hM.nL]; decide) rfl ?_
  refine Jg.lv (lv' := [(0, .ref (sA S 9 0)), (1, .int (nI 0))]) ⟨rfl, rfl, trivial⟩ ?_
  exact loop np 0 (by omega) S Sw.rf k.2.2.2.1 (fun j hj => absurd hj (Nat.not_lt_zero _))
set_option maxHeartbeats 4000000 in
set_option maxRecDepth 100000 in
theorem c_9_run (l : Launch) (S : St) (α : Al) (nb nh nu nr nk np t : Nat) (x : Int32) (c : Ci S α nb nh nu nr nk np t) : Ct l yX9_run cX9_run 3 (some .int) (rm 6 0 0 136) [.ref (sA S 9 0), .int x] S (fun r S' => r = some (.int (runA α x)) ∧ Sw S S' ∧ Cd S' (runF α x) nb nu nk np) := by
  refine Ct.of (by decide) (Nat.le_of_ble_eq_true rfl) (fun X hM => ?_)
  have hO := hM.1
  obtain rfl := hM.l
  show Jg X 0 0 S 0 [(0, .ref (sA S 9 0)), (1, .int x)] []
  have np60 := c.2.2.1.2.2.2.2.2.1.2
  have t4 := c.2.2.2.2.2.1.2
  refine j_iload_n (q := 1) hO dX9_run_0 rfl rfl ?_
  refine j_aload_n (q := 2) hO dX9_run_1 rfl rfl ?_
  refine j_getI (x := 9) (j := 16) (q := 5) hO CK_9 dX9_run_2 rfl mw_88 rfl c.1.c9 rfl rfl (by decide) (Or.inl rfl) ?_
  refine j_icmp_lt (tgt := 15) (q := 8) hO dX9_run_5 rfl (by decide) (fun c5 => ?_) (fun c5 => ?_)
  · refine j_iconst (v := (-1)) (q := 16) hO dX9_run_15 rfl (by decide) ?_
    exact j_iret hM dX9_run_16 (Nat.le_of_ble_eq_true rfl) (Nat.le_of_ble_eq_true rfl) ⟨by unfold runA; rw [show kRun α x = false from decide_eq_false (fun z => z.1 (by rw [← c.2.2.2.1.1]; exact c5))]; rfl, Sw.rf, by unfold runF; rw [show kRun α x = false from decide_eq_false (fun z => z.1 (by rw [← c.2.2.2.1.1]; exact c5))]; exact c.2.2.2.1⟩
  · refine j_iload_n (q := 9) hO dX9_run_8 rfl rfl ?_
    refine j_sipush (v := 10000) (q := 12) hO dX9_run_9 rfl (by decide) ?_
    refine j_icmp_le (tgt := 17) (q := 15) hO dX9_run_12 rfl (by decide) (fun c12 => ?_) (fun c12 => ?_)
    · obtain ⟨u, hu, rfl⟩ := run_in (c.2.2.2.1.1.trans c.2.2.2.2.2.1.1) (by omega) c5 c12
      have kr : kRun α (nI u) = true := by unfold kRun; exact decide_eq_true ⟨by rw [← c.2.2.2.1.1]; exact c5, fun z => gt_nle z c12⟩
      have hrf : runF α (nI u) = runL α (u - t) := by unfold runF; rw [kr, c.2.2.2.2.2.1.1, nn_nI (by omega), nn_nI (by omega)]; rfl
      refine j_aload_n (q := 18) hO dX9_run_17 rfl rfl ?_
      refine j_getI (x := 9) (j := 16) (q := 21) hO CK_9 dX9_run_18 rfl mw_88 rfl c.1.c9 rfl rfl (by decide) (Or.inl rfl) ?_
      refine j_iconst (v := 1) (q := 22) hO dX9_run_21 rfl (by decide) ?_
      refine j_iadd (q := 23) hO dX9_run_22 rfl ?_
      refine j_istore_n (q := 24) hO dX9_run_23 rfl (by rw [hM.nL]; decide) rfl ?_
      have loop : ∀ m h, h + m = u - t → ∀ T, Sw S T → Cd T (runL α h) nb nu nk np → Jg X 0 0 T 24 [(0, .ref (sA S 9 0)), (1, .int (nI u)), (2, .int (nI (t + h + 1)))] [] := by
        intro m
        induction m with
        | zero =>
          intro h hz T hT dT
          obtain ⟨I, J, D, R, rfl⟩ := hT.form
          obtain ⟨cR, dR, nR⟩ := runL_inv c.2.2.1 c.2.2.2.2.1 c.2.2.2.2.2.1.1 h (by omega)
          obtain ⟨oR, wR, sR1⟩ := run_inv2 c.2.2.1 c.2.2.2.2.1 c.2.2.2.2.2.1.1 c.2.2.2.2.2.2.1 c.2.2.2.2.2.2.2 h (by omega)
          have shT := c.1.sw hT
          have csT := c.2.1.sw hT sR1
          have hcnt := csT.2.1.2.2.2.2.2.2.trans cR.2.2.2.2.2.1.1
          have npR : nn (aI (runL α h) 0 26) = np := by rw [cR.2.2.2.2.2.1.1]; exact nn_nI (by omega)
          refine j_iload_n (q := 25) hO dX9_run_24 rfl rfl ?_
          refine j_iload_n (q := 26) hO dX9_run_25 rfl rfl ?_
          refine j_icmp_gt (tgt := 60) (q := 29) hO dX9_run_26 rfl (by decide) (fun c26 => ?_) (fun c26 => ?_)
          · have dF : Cd (pI (mk4 S I J D R) 9 0 16 (nI u)) (runL α (u - t)) nb nu nk np := by
              have := dT.nowF (v := nI u)
              rw [qI_id (by rw [nR, show t + h = u by omega])] at this
              rw [show u - t = h by omega]
              exact this
            refine j_aload_n (q := 61) hO dX9_run_60 rfl rfl ?_
            refine j_iload_n (q := 62) hO dX9_run_61 rfl rfl ?_
            refine j_putI (x := 9) (j := 16) (q := 65) hO CK_9 dX9_run_62 rfl mw_88 rfl shT.c9 rfl rfl (by decide) rfl (by decide +kernel) rfl ?_
            refine j_aload_n (q := 66) hO dX9_run_65 rfl rfl ?_
            refine j_getRs (x := 9) (j := 7) (q := 69) hO CK_9 dX9_run_66 rfl mw_79 rfl shT.c9 rfl rfl (by decide) rfl shT.r7 ?_
            refine j_getI (x := 3) (j := 1) (q := 72) hO CK_3 dX9_run_69 rfl mw_41 rfl shT.c3a rfl rfl (by decide) (Or.inl rfl) ?_
            exact j_iret hM dX9_run_72 (Nat.le_of_ble_eq_true rfl) (Nat.le_of_ble_eq_true rfl) ⟨by unfold runA; rw [kr, hrf]; exact congrArg (fun z => some (Value.int z)) dF.2.2.2.2.2.2.1.1, hT.tr (Sc.rf.I rfl).w, by rw [hrf]; exact dF⟩
          · exact absurd (by rw [nI_ltI (by omega) (by omega)]; omega) c26
        | succ m ih =>
          intro h hz T hT dT
          obtain ⟨I, J, D, R, rfl⟩ := hT.form
          obtain ⟨cR, dR, nR⟩ := runL_inv c.2.2.1 c.2.2.2.2.1 c.2.2.2.2.2.1.1 h (by omega)
          obtain ⟨oR, wR, sR1⟩ := run_inv2 c.2.2.1 c.2.2.2.2.1 c.2.2.2.2.2.1.1 c.2.2.2.2.2.2.1 c.2.2.2.2.2.2.2 h (by omega)
          have shT := c.1.sw hT
          have csT := c.2.1.sw hT sR1
          have hcnt := csT.2.1.2.2.2.2.2.2.trans cR.2.2.2.2.2.1.1
          have npR : nn (aI (runL α h) 0 26) = np := by rw [cR.2.2.2.2.2.1.1]; exact nn_nI (by omega)
          refine j_iload_n (q := 25) hO dX9_run_24 rfl rfl ?_
          refine j_iload_n (q := 26) hO dX9_run_25 rfl rfl ?_
          refine j_icmp_gt (tgt := 60) (q := 29) hO dX9_run_26 rfl (by decide) (fun c26 => ?_) (fun c26 => ?_)
          · exact absurd c26 (by rw [nI_ltI (by omega) (by omega)]; omega)
          · refine j_aload_n (q := 30) hO dX9_run_29 rfl rfl ?_
            refine j_getRs (x := 9) (j := 9) (q := 33) hO CK_9 dX9_run_30 rfl mw_81 rfl shT.c9 rfl rfl (by decide) rfl shT.r9 ?_
            refine j_callV (x := 8) (q := 36) hO (c_8_atRest (lx X) _ shT.c8 shT.2.2.1.2.2 shT.c19 shT.2.2.2.2.2.2.2.2.2.2.2) M_8_atRest mw_363 CK_8 rfl shT.c8 rfl rfl rfl (by unfold roomy; rw [hM.R]; exact ⟨⟨Nat.le_of_ble_eq_true rfl, Nat.le_of_ble_eq_true rfl⟩, ⟨Nat.le_of_ble_eq_true rfl, Nat.le_of_ble_eq_true rfl⟩, Nat.le_of_ble_eq_true rfl⟩) dX9_run_33 rfl (fun v_33 S_33 hp_33 => ?_)
            obtain ⟨rfl, rfl⟩ := hp_33
            refine j_aload_n (q := 37) hO dX9_run_36 rfl rfl ?_
            refine j_getI (x := 9) (j := 15) (q := 40) hO CK_9 dX9_run_37 rfl mw_87 rfl shT.c9 rfl rfl (by decide) (Or.inl rfl) ?_
            refine j_i2l (q := 41) hO dX9_run_40 rfl ?_
            refine j_lcmp (q := 42) hO dX9_run_41 rfl ?_
            refine j_if_ge (tgt := 60) (q := 45) hO dX9_run_42 rfl (by decide) (fun c42 => ?_) (fun c42 => ?_)
            · have dF : Cd (pI (mk4 S I J D R) 9 0 16 (nI u)) (runL α (u - t)) nb nu nk np := by
                have := (dT.nowF (v := nI u)).e28 (β := runL (runL α h) (u - t - h)) (by
                  have g := run_rs (rest_all dT dR np60 (by rw [← hcnt]; exact c42)) npR nR (u - t - h)
                  rw [show t + h + (u - t - h) = u by omega] at g
                  exact g)
                rw [← run_add, show h + (u - t - h) = u - t by omega] at this
                exact this
              refine j_aload_n (q := 61) hO dX9_run_60 rfl rfl ?_
              refine j_iload_n (q := 62) hO dX9_run_61 rfl rfl ?_
              refine j_putI (x := 9) (j := 16) (q := 65) hO CK_9 dX9_run_62 rfl mw_88 rfl shT.c9 rfl rfl (by decide) rfl (by decide +kernel) rfl ?_
              refine j_aload_n (q := 66) hO dX9_run_65 rfl rfl ?_
              refine j_getRs (x := 9) (j := 7) (q := 69) hO CK_9 dX9_run_66 rfl mw_79 rfl shT.c9 rfl rfl (by decide) rfl shT.r7 ?_
              refine j_getI (x := 3) (j := 1) (q := 72) hO CK_3 dX9_run_69 rfl mw_41 rfl shT.c3a rfl rfl (by decide) (Or.inl rfl) ?_
              exact j_iret hM dX9_run_72 (Nat.le_of_ble_eq_true rfl) (Nat.le_of_ble_eq_true rfl) ⟨by unfold runA; rw [kr, hrf]; exact congrArg (fun z => some (Value.int z)) dF.2.2.2.2.2.2.1.1, hT.tr (Sc.rf.I rfl).w, by rw [hrf]; exact dF⟩
            · refine j_aload_n (q := 46) hO dX9_run_45 rfl rfl ?_
              refine j_iload_n (q := 47) hO dX9_run_46 rfl rfl ?_
              refine j_putI (x := 9) (j := 16) (q := 50) hO CK_9 dX9_run_47 rfl mw_88 rfl shT.c9 rfl rfl (by decide) rfl (by decide +kernel) rfl ?_
              have sm1 : Sm (runL α h) (qI (runL α h) 0 35 (aI (runL α h) 0 35 + 1)) := Sm.rf.I rfl (Or.inr rfl)
              have e1 : aI (runL α h) 0 35 + 1 = nI (t + h + 1) := by rw [nR]; exact nI_1 _
              have kT : Kx (pI (mk4 S I J D R) 9 0 16 (nI (t + h + 1))) (qI (runL α h) 0 35 (aI (runL α h) 0 35 + 1)) nb nh nu nr nk np (1020 * (t + h)) := ⟨shT.sc (Sc.rf.I rfl), csT.sc (Sc.rf.I rfl) sm1, cR.sm sm1, by rw [e1]; exact dT.nowF, dR.2.2.2.2.2.2.same rfl, t + h + 1, by rw [e1]; exact qI_s, by omega⟩
              refine j_aload_n (q := 51) hO dX9_run_50 rfl rfl ?_
              refine j_callV (x := 9) (q := 54) hO (c_9_passOneTenth (lx X) _ (qI (runL α h) 0 35 (aI (runL α h) 0 35 + 1)) nb nh nu nr nk np (1020 * (t + h)) kT (dR.tick nR (by omega)) (by omega) (wR.tick cR nR (by omega)) (oR.same (fun _ => qI_I (by omega)) (Nat.le_refl _))) M_9_passOneTenth mw_367 CK_9 rfl shT.c9 rfl rfl rfl (by unfold roomy; rw [hM.R]; exact ⟨⟨Nat.le_of_ble_eq_true rfl, Nat.le_of_ble_eq_true rfl⟩, ⟨Nat.le_of_ble_eq_true rfl, Nat.le_of_ble_eq_true rfl⟩, Nat.le_of_ble_eq_true rfl⟩) dX9_run_51 rfl (fun v_51 S_51 hp_51 => ?_)
              obtain ⟨rfl, sw2, dP⟩ := hp_51
              have dN : Cd S_51 (runL α (h + 1)) nb nu nk np := by
                show Cd S_51 (tenthF (runL α h)) nb nu nk np
                unfold tenthF
                rw [npR]
                exact dP
              refine j_iinc (v := nI (t + h + 1 + 1)) (q := 57) hO dX9_run_54 rfl rfl (nI_S _) (by rw [hM.nL]; decide) rfl ?_
              refine j_goto (tgt := 24) hO dX9_run_57 (by decide) ?_
              refine Jg.lv (lv' := [(0, .ref (sA S 9 0)), (1, .int (nI u)), (2, .int (nI (t + (h + 1) + 1)))]) ⟨rfl, rfl, rfl, trivial⟩ ?_
              exact ih (h + 1) (by omega) _ ((hT.tr (Sc.rf.I rfl).w).tr sw2) dN
      refine Jg.lv (lv' := [(0, .ref (sA S 9 0)), (1, .int (nI u)), (2, .int (nI (t + 0 + 1)))]) ⟨rfl, rfl, by show some (Value.int (sI S 9 0 16 + 1)) = _; rw [c.2.2.2.1.1, c.2.2.2.2.2.1.1]; exact congrArg (fun z => some (Value.int z)) (nI_1 _), trivial⟩ ?_
      exact loop (u - t) 0 (by omega) S Sw.rf c.2.2.2.1
    · refine j_iconst (v := (-1)) (q := 16) hO dX9_run_15 rfl (by decide) ?_
      exact j_iret hM dX9_run_16 (Nat.le_of_ble_eq_true rfl) (Nat.le_of_ble_eq_true rfl) ⟨by unfold runA; rw [show kRun α x = false from decide_eq_false (fun z => z.2 (gt_of c12))]; rfl, Sw.rf, by unfold runF; rw [show kRun α x = false from decide_eq_false (fun z => z.2 (gt_of c12))]; exact c.2.2.2.1⟩

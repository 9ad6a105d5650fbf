set_option maxHeartbeats 4000000 in
set_option maxRecDepth 100000 in
theorem c_10_same (l : Launch) (S : St) (α : Al) (np : Nat) (hm : MSh S) (hnp : aI α 0 26 = nI np) (hn60 : np ≤ 60) : Ct l yX10_same cX10_same 3 (some .boolean) (rm 2 0 0 43) [.ref (sA S 10 0)] (wr S α) (fun r S' => r = some (.int (sameA α np)) ∧ S' = wr S α) := by
  refine Ct.of (by decide) (Nat.le_of_ble_eq_true rfl) (fun X hM => ?_)
  have hO := hM.1
  obtain rfl := hM.l
  show Jg X 0 0 (wr S α) 0 [(0, .ref (sA S 10 0))] []
  have loop : ∀ m h, h + m = np → Jg X 0 0 (wr S α) 4 [(0, .ref (sA S 10 0)), (1, .int (nI (enF α h))), (2, .int (nI h))] [] := by
    intro m
    induction m with
    | zero =>
      intro h hz
      obtain rfl : h = np := by omega
      refine j_iload_n (q := 5) hO dX10_same_4 rfl rfl ?_
      refine j_aload_n (q := 6) hO dX10_same_5 rfl rfl ?_
      refine m_getI (j := 26) (q := 9) hO hm dX10_same_6 rfl mw_524 (by decide) rfl ?_
      refine j_icmp_ge (tgt := 39) (q := 12) hO dX10_same_9 rfl (by decide) (fun ct => ?_) (fun ct => ?_)
      · refine j_iload_n (q := 40) hO dX10_same_39 rfl rfl ?_
        refine j_i2l (q := 41) hO dX10_same_40 rfl ?_
        refine j_aload_n (q := 42) hO dX10_same_41 rfl rfl ?_
        refine j_callV (x := 10) (q := 45) hO (c_10_inside (lx X) S _ _ hm hnp hn60) M_10_inside mw_776 CK_10 rfl hm.1 rfl rfl rfl (by unfold roomy; rw [hM.R]; exact ⟨⟨Nat.le_of_ble_eq_true rfl, Nat.le_of_ble_eq_true rfl⟩, ⟨Nat.le_of_ble_eq_true rfl, Nat.le_of_ble_eq_true rfl⟩, Nat.le_of_ble_eq_true rfl⟩) dX10_same_42 rfl (fun v_42 S_42 hp_42 => ?_)
        obtain ⟨hv, rfl⟩ := hp_42
        obtain ⟨zi, hzi⟩ : ∃ z, z = inA α h := ⟨_, rfl⟩
        rw [← hzi] at hv
        subst hv
        refine j_aload_n (q := 46) hO dX10_same_45 rfl rfl ?_
        refine j_iconst (v := 3) (q := 47) hO dX10_same_46 rfl (by decide) ?_
        refine j_callV (x := 10) (q := 50) hO (c_10_count (lx X) S _ _ 3 hm hnp hn60) M_10_count mw_755 CK_10 rfl hm.1 rfl rfl rfl (by unfold roomy; rw [hM.R]; exact ⟨⟨Nat.le_of_ble_eq_true rfl, Nat.le_of_ble_eq_true rfl⟩, ⟨Nat.le_of_ble_eq_true rfl, Nat.le_of_ble_eq_true rfl⟩, Nat.le_of_ble_eq_true rfl⟩) dX10_same_47 rfl (fun v_47 S_47 hp_47 => ?_)
        obtain ⟨hv, rfl⟩ := hp_47
        obtain ⟨z3, hz3⟩ : ∃ z, z = nI (ctF α 3 h) := ⟨_, rfl⟩
        rw [← hz3] at hv
        subst hv
        refine j_i2l (q := 51) hO dX10_same_50 rfl ?_
        refine j_ladd (q := 52) hO dX10_same_51 rfl ?_
        refine j_aload_n (q := 53) hO dX10_same_52 rfl rfl ?_
        refine j_iconst (v := 4) (q := 54) hO dX10_same_53 rfl (by decide) ?_
        refine j_callV (x := 10) (q := 57) hO (c_10_count (lx X) S _ _ 4 hm hnp hn60) M_10_count mw_755 CK_10 rfl hm.1 rfl rfl rfl (by unfold roomy; rw [hM.R]; exact ⟨⟨Nat.le_of_ble_eq_true rfl, Nat.le_of_ble_eq_true rfl⟩, ⟨Nat.le_of_ble_eq_true rfl, Nat.le_of_ble_eq_true rfl⟩, Nat.le_of_ble_eq_true rfl⟩) dX10_same_54 rfl (fun v_54 S_54 hp_54 => ?_)
        obtain ⟨hv, rfl⟩ := hp_54
        obtain ⟨z4, hz4⟩ : ∃ z, z = nI (ctF α 4 h) := ⟨_, rfl⟩
        rw [← hz4] at hv
        subst hv
        refine j_i2l (q := 58) hO dX10_same_57 rfl ?_
        refine j_ladd (q := 59) hO dX10_same_58 rfl ?_
        refine j_aload_n (q := 60) hO dX10_same_59 rfl rfl ?_
        refine j_iconst (v := 5) (q := 61) hO dX10_same_60 rfl (by decide) ?_
        refine j_callV (x := 10) (q := 64) hO (c_10_count (lx X) S _ _ 5 hm hnp hn60) M_10_count mw_755 CK_10 rfl hm.1 rfl rfl rfl (by unfold roomy; rw [hM.R]; exact ⟨⟨Nat.le_of_ble_eq_true rfl, Nat.le_of_ble_eq_true rfl⟩, ⟨Nat.le_of_ble_eq_true rfl, Nat.le_of_ble_eq_true rfl⟩, Nat.le_of_ble_eq_true rfl⟩) dX10_same_61 rfl (fun v_61 S_61 hp_61 => ?_)
        obtain ⟨hv, rfl⟩ := hp_61
        obtain ⟨z5, hz5⟩ : ∃ z, z = nI (ctF α 5 h) := ⟨_, rfl⟩
        rw [← hz5] at hv
        subst hv
        refine j_i2l (q := 65) hO dX10_same_64 rfl ?_
        refine j_ladd (q := 66) hO dX10_same_65 rfl ?_
        refine j_lcmp (q := 67) hO dX10_same_66 rfl ?_
        refine j_if_ne (tgt := 74) (q := 70) hO dX10_same_67 rfl (by decide) (fun c67 => ?_) (fun c67 => ?_)
        · refine j_iconst (v := 0) (q := 75) hO dX10_same_74 rfl (by decide) ?_
          exact j_zret hM dX10_same_75 (Nat.le_of_ble_eq_true rfl) (Nat.le_of_ble_eq_true rfl) (by decide) ⟨by unfold sameA; rw [hz3, hz4, hz5, hzi] at c67; rw [if_neg c67], rfl⟩
        · refine j_iconst (v := 1) (q := 71) hO dX10_same_70 rfl (by decide) ?_
          refine j_goto (tgt := 75) hO dX10_same_71 (by decide) ?_
          exact j_zret hM dX10_same_75 (Nat.le_of_ble_eq_true rfl) (Nat.le_of_ble_eq_true rfl) (by decide) ⟨by unfold sameA; rw [hz3, hz4, hz5, hzi] at c67; rw [if_pos c67], rfl⟩
      · exact absurd (by first | (rw [hnp]; exact nI_le (Nat.le_refl _) (by omega)) | exact Int32.le_refl _) ct
    | succ m ih =>
      intro h hz
      refine j_iload_n (q := 5) hO dX10_same_4 rfl rfl ?_
      refine j_aload_n (q := 6) hO dX10_same_5 rfl rfl ?_
      refine m_getI (j := 26) (q := 9) hO hm dX10_same_6 rfl mw_524 (by decide) rfl ?_
      refine j_icmp_ge (tgt := 39) (q := 12) hO dX10_same_9 rfl (by decide) (fun ct => ?_) (fun ct => ?_)
      · exact absurd ct (by first | (rw [hnp]; exact nI_ge (by omega) (by omega)) | exact nI_ge (by omega) (by omega))
      · refine j_iload_n (q := 13) hO dX10_same_12 rfl rfl ?_
        refine j_aload_n (q := 14) hO dX10_same_13 rfl rfl ?_
        refine m_getA (j := 29) (x := 42) (q := 17) hO hm dX10_same_14 rfl mw_527 (by decide) rfl rfl ?_
        refine j_iload_n (q := 18) hO dX10_same_17 rfl rfl ?_
        refine m_iald (x := 42) (a := 23) (q := 19) hO hm MK_42 dX10_same_18 rfl rfl rfl (by omega) ?_
        refine j_aload_n (q := 20) hO dX10_same_19 rfl rfl ?_
        refine m_getI (j := 35) (q := 23) hO hm dX10_same_20 rfl mw_533 (by decide) rfl ?_
        refine j_icmp_gt (tgt := 30) (q := 26) hO dX10_same_23 rfl (by decide) (fun c23 => ?_) (fun c23 => ?_)
        · refine j_iconst (v := 0) (q := 31) hO dX10_same_30 rfl (by decide) ?_
          refine j_iadd (q := 32) hO dX10_same_31 rfl ?_
          refine j_istore_n (q := 33) hO dX10_same_32 rfl (by rw [hM.nL]; decide) rfl ?_
          refine j_iinc (v := nI (h + 1)) (q := 36) hO dX10_same_33 rfl rfl (nI_S h) (by rw [hM.nL]; decide) rfl ?_
          refine j_goto (tgt := 4) hO dX10_same_36 (by decide) ?_
          refine Jg.lv (lv' := [(0, .ref (sA S 10 0)), (1, .int (nI (enF α (h + 1)))), (2, .int (nI (h + 1)))]) ⟨rfl, (congrArg (fun z => some (Value.int z)) (en_s0 c23)), rfl, trivial⟩ ?_
          exact ih (h + 1) (by omega)
        · refine j_iconst (v := 1) (q := 27) hO dX10_same_26 rfl (by decide) ?_
          refine j_goto (tgt := 31) hO dX10_same_27 (by decide) ?_
          refine j_iadd (q := 32) hO dX10_same_31 rfl ?_
          refine j_istore_n (q := 33) hO dX10_same_32 rfl (by rw [hM.nL]; decide) rfl ?_
          refine j_iinc (v := nI (h + 1)) (q := 36) hO dX10_same_33 rfl rfl (nI_S h) (by rw [hM.nL]; decide) rfl ?_
          refine j_goto (tgt := 4) hO dX10_same_36 (by decide) ?_
          refine Jg.lv (lv' := [(0, .ref (sA S 10 0)), (1, .int (nI (enF α (h + 1)))), (2, .int (nI (h + 1)))]) ⟨rfl, (congrArg (fun z => some (Value.int z)) (en_s1 c23)), rfl, trivial⟩ ?_
          exact ih (h + 1) (by omega)
  refine j_iconst (v := 0) (q := 1) hO dX10_same_0 rfl (by decide) ?_
  refine j_istore_n (q := 2) hO dX10_same_1 rfl (by rw [hM.nL]; decide) rfl ?_
  refine j_iconst (v := 0) (q := 3) hO dX10_same_2 rfl (by decide) ?_
  refine j_istore_n (q := 4) hO dX10_same_3 rfl (by rw [hM.nL]; decide) rfl ?_
  refine Jg.lv (lv' := [(0, .ref (sA S 10 0)), (1, .int (nI (enF α 0))), (2, .int (nI 0))]) ⟨rfl, rfl, rfl, trivial⟩ ?_
  exact loop np 0 (by omega)

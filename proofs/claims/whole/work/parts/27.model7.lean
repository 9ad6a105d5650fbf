set_option maxHeartbeats 4000000 in
set_option maxRecDepth 100000 in
theorem c_10_joinTo (l : Launch) (S : St) (α : Al) (nb : Nat) (b0 to : Int32) (hm : MSh S) (hnb : aI α 0 1 = nI nb) (hb6 : nb ≤ 6) : Ct l yX10_joinTo cX10_joinTo 4 (some .boolean) (rm 1 0 0 21) [.ref (sA S 10 0), .int b0, .int to] (wr S α) (fun r S' => r = some (.int (boA (kJoin α b0 to))) ∧ S' = wr S (joinF α b0 to)) := by
  refine Ct.of (by decide) (Nat.le_of_ble_eq_true rfl) (fun X hM => ?_)
  have hO := hM.1
  obtain rfl := hM.l
  show Jg X 0 0 (wr S α) 0 [(0, .ref (sA S 10 0)), (1, .int b0), (2, .int to)] []
  refine j_iload_n (q := 1) hO dX10_joinTo_0 rfl rfl ?_
  refine j_iconst (v := (-1)) (q := 2) hO dX10_joinTo_1 rfl (by decide) ?_
  refine j_icmp_eq (tgt := 34) (q := 5) hO dX10_joinTo_2 rfl (by decide) (fun c2 => ?_) (fun c2 => ?_)
  · refine j_iconst (v := 1) (q := 35) hO dX10_joinTo_34 rfl (by decide) ?_
    refine j_goto (tgt := 39) hO dX10_joinTo_35 (by decide) ?_
    refine j_istore_n (q := 40) hO dX10_joinTo_39 rfl (by rw [hM.nL]; decide) rfl ?_
    refine j_aload_n (q := 41) hO dX10_joinTo_40 rfl rfl ?_
    refine j_iload_n (q := 42) hO dX10_joinTo_41 rfl rfl ?_
    refine j_callV (x := 10) (q := 45) hO (c_10_isBelt (lx X) _ _ hm.1) M_10_isBelt mw_653 CK_10 rfl hm.1 rfl rfl rfl (by unfold roomy; rw [hM.R]; exact ⟨⟨Nat.le_of_ble_eq_true rfl, Nat.le_of_ble_eq_true rfl⟩, ⟨Nat.le_of_ble_eq_true rfl, Nat.le_of_ble_eq_true rfl⟩, Nat.le_of_ble_eq_true rfl⟩) dX10_joinTo_42 rfl (fun v_42 S_42 hp_42 => ?_)
    obtain ⟨rfl, rfl⟩ := hp_42
    refine j_if_eq (tgt := 59) (q := 48) hO dX10_joinTo_45 rfl (by decide) (fun c45 => ?_) (fun c45 => ?_)
    · refine j_iconst (v := 0) (q := 60) hO dX10_joinTo_59 rfl (by decide) ?_
      exact j_zret hM dX10_joinTo_60 (Nat.le_of_ble_eq_true rfl) (Nat.le_of_ble_eq_true rfl) (by decide) ⟨by unfold boA kJoin; rw [decide_eq_false (fun z => z.1 c45)]; rfl, by unfold joinF kJoin; rw [decide_eq_false (fun z => z.1 c45)]; rfl⟩
    · refine j_iload_n (q := 49) hO dX10_joinTo_48 rfl rfl ?_
      refine j_if_eq (tgt := 59) (q := 52) hO dX10_joinTo_49 rfl (by decide) (fun c49 => ?_) (fun c49 => ?_)
      · exact absurd c49 (by decide)
      · refine j_aload_n (q := 53) hO dX10_joinTo_52 rfl rfl ?_
        refine j_callV (x := 10) (q := 56) hO (c_10_isOpen (lx X) _ hm.1) M_10_isOpen mw_645 CK_10 rfl hm.1 rfl rfl rfl (by unfold roomy; rw [hM.R]; exact ⟨⟨Nat.le_of_ble_eq_true rfl, Nat.le_of_ble_eq_true rfl⟩, ⟨Nat.le_of_ble_eq_true rfl, Nat.le_of_ble_eq_true rfl⟩, Nat.le_of_ble_eq_true rfl⟩) dX10_joinTo_53 rfl (fun v_53 S_53 hp_53 => ?_)
        obtain ⟨rfl, rfl⟩ := hp_53
        refine j_if_ne (tgt := 61) (q := 59) hO dX10_joinTo_56 rfl (by decide) (fun c56 => ?_) (fun c56 => ?_)
        · obtain ⟨b, hbn, rfl⟩ := iB_in hnb hb6 c45
          have enb : nn (nI b) = b := nn_nI (by omega)
          refine j_aload_n (q := 62) hO dX10_joinTo_61 rfl rfl ?_
          refine m_getA (j := 4) (x := 22) (q := 65) hO hm dX10_joinTo_62 rfl mw_502 (by decide) rfl rfl ?_
          refine j_iload_n (q := 66) hO dX10_joinTo_65 rfl rfl ?_
          refine j_iload_n (q := 67) hO dX10_joinTo_66 rfl rfl ?_
          refine m_iast (x := 22) (a := 3) (q := 68) hO hm MK_22 dX10_joinTo_67 rfl rfl (j := b) rfl (by omega) ?_
          refine j_iconst (v := 1) (q := 69) hO dX10_joinTo_68 rfl (by decide) ?_
          exact j_zret hM dX10_joinTo_69 (Nat.le_of_ble_eq_true rfl) (Nat.le_of_ble_eq_true rfl) (by decide) ⟨by unfold boA kJoin; rw [decide_eq_true ⟨c45, decide_eq_true (Or.inl c2), op1 c56⟩]; rfl, by unfold joinF kJoin; rw [decide_eq_true ⟨c45, decide_eq_true (Or.inl c2), op1 c56⟩, enb]; rfl⟩
        · refine j_iconst (v := 0) (q := 60) hO dX10_joinTo_59 rfl (by decide) ?_
          exact j_zret hM dX10_joinTo_60 (Nat.le_of_ble_eq_true rfl) (Nat.le_of_ble_eq_true rfl) (by decide) ⟨by unfold boA kJoin; rw [decide_eq_false (fun z => op0 c56 z.2.2)]; rfl, by unfold joinF kJoin; rw [decide_eq_false (fun z => op0 c56 z.2.2)]; rfl⟩
  · refine j_iload_n (q := 6) hO dX10_joinTo_5 rfl rfl ?_
    refine j_if_lt (tgt := 17) (q := 9) hO dX10_joinTo_6 rfl (by decide) (fun c6 => ?_) (fun c6 => ?_)
    · refine j_iload_n (q := 18) hO dX10_joinTo_17 rfl rfl ?_
      refine j_bipush (v := (-2)) (q := 20) hO dX10_joinTo_18 rfl (by decide) ?_
      refine j_icmp_gt (tgt := 38) (q := 23) hO dX10_joinTo_20 rfl (by decide) (fun c20 => ?_) (fun c20 => ?_)
      · refine j_iconst (v := 0) (q := 39) hO dX10_joinTo_38 rfl (by decide) ?_
        refine j_istore_n (q := 40) hO dX10_joinTo_39 rfl (by rw [hM.nL]; decide) rfl ?_
        refine j_aload_n (q := 41) hO dX10_joinTo_40 rfl rfl ?_
        refine j_iload_n (q := 42) hO dX10_joinTo_41 rfl rfl ?_
        refine j_callV (x := 10) (q := 45) hO (c_10_isBelt (lx X) _ _ hm.1) M_10_isBelt mw_653 CK_10 rfl hm.1 rfl rfl rfl (by unfold roomy; rw [hM.R]; exact ⟨⟨Nat.le_of_ble_eq_true rfl, Nat.le_of_ble_eq_true rfl⟩, ⟨Nat.le_of_ble_eq_true rfl, Nat.le_of_ble_eq_true rfl⟩, Nat.le_of_ble_eq_true rfl⟩) dX10_joinTo_42 rfl (fun v_42 S_42 hp_42 => ?_)
        obtain ⟨rfl, rfl⟩ := hp_42
        refine j_if_eq (tgt := 59) (q := 48) hO dX10_joinTo_45 rfl (by decide) (fun c45 => ?_) (fun c45 => ?_)
        · refine j_iconst (v := 0) (q := 60) hO dX10_joinTo_59 rfl (by decide) ?_
          exact j_zret hM dX10_joinTo_60 (Nat.le_of_ble_eq_true rfl) (Nat.le_of_ble_eq_true rfl) (by decide) ⟨by unfold boA kJoin; rw [decide_eq_false (fun z => z.1 c45)]; rfl, by unfold joinF kJoin; rw [decide_eq_false (fun z => z.1 c45)]; rfl⟩
        · refine j_iload_n (q := 49) hO dX10_joinTo_48 rfl rfl ?_
          refine j_if_eq (tgt := 59) (q := 52) hO dX10_joinTo_49 rfl (by decide) (fun c49 => ?_) (fun c49 => ?_)
          · refine j_iconst (v := 0) (q := 60) hO dX10_joinTo_59 rfl (by decide) ?_
            exact j_zret hM dX10_joinTo_60 (Nat.le_of_ble_eq_true rfl) (Nat.le_of_ble_eq_true rfl) (by decide) ⟨by unfold boA kJoin; rw [decide_eq_false (fun z => absurd z.2.1 (by unfold jTo; rw [decide_eq_false (fun z => z.elim c2 (fun z => z.elim (fun q => q.1 c6) (fun q => q.1 c20)))]; decide))]; rfl, by unfold joinF kJoin; rw [decide_eq_false (fun z => absurd z.2.1 (by unfold jTo; rw [decide_eq_false (fun z => z.elim c2 (fun z => z.elim (fun q => q.1 c6) (fun q => q.1 c20)))]; decide))]; rfl⟩
          · exact absurd rfl c49
      · refine j_iload_n (q := 24) hO dX10_joinTo_23 rfl rfl ?_
        refine j_bipush (v := (-2)) (q := 26) hO dX10_joinTo_24 rfl (by decide) ?_
        refine j_aload_n (q := 27) hO dX10_joinTo_26 rfl rfl ?_
        refine m_getI (j := 13) (q := 30) hO hm dX10_joinTo_27 rfl mw_511 (by decide) rfl ?_
        refine j_isub (q := 31) hO dX10_joinTo_30 rfl ?_
        refine j_icmp_le (tgt := 38) (q := 34) hO dX10_joinTo_31 rfl (by decide) (fun c31 => ?_) (fun c31 => ?_)
        · refine j_iconst (v := 0) (q := 39) hO dX10_joinTo_38 rfl (by decide) ?_
          refine j_istore_n (q := 40) hO dX10_joinTo_39 rfl (by rw [hM.nL]; decide) rfl ?_
          refine j_aload_n (q := 41) hO dX10_joinTo_40 rfl rfl ?_
          refine j_iload_n (q := 42) hO dX10_joinTo_41 rfl rfl ?_
          refine j_callV (x := 10) (q := 45) hO (c_10_isBelt (lx X) _ _ hm.1) M_10_isBelt mw_653 CK_10 rfl hm.1 rfl rfl rfl (by unfold roomy; rw [hM.R]; exact ⟨⟨Nat.le_of_ble_eq_true rfl, Nat.le_of_ble_eq_true rfl⟩, ⟨Nat.le_of_ble_eq_true rfl, Nat.le_of_ble_eq_true rfl⟩, Nat.le_of_ble_eq_true rfl⟩) dX10_joinTo_42 rfl (fun v_42 S_42 hp_42 => ?_)
          obtain ⟨rfl, rfl⟩ := hp_42
          refine j_if_eq (tgt := 59) (q := 48) hO dX10_joinTo_45 rfl (by decide) (fun c45 => ?_) (fun c45 => ?_)
          · refine j_iconst (v := 0) (q := 60) hO dX10_joinTo_59 rfl (by decide) ?_
            exact j_zret hM dX10_joinTo_60 (Nat.le_of_ble_eq_true rfl) (Nat.le_of_ble_eq_true rfl) (by decide) ⟨by unfold boA kJoin; rw [decide_eq_false (fun z => z.1 c45)]; rfl, by unfold joinF kJoin; rw [decide_eq_false (fun z => z.1 c45)]; rfl⟩
          · refine j_iload_n (q := 49) hO dX10_joinTo_48 rfl rfl ?_
            refine j_if_eq (tgt := 59) (q := 52) hO dX10_joinTo_49 rfl (by decide) (fun c49 => ?_) (fun c49 => ?_)
            · refine j_iconst (v := 0) (q := 60) hO dX10_joinTo_59 rfl (by decide) ?_
              exact j_zret hM dX10_joinTo_60 (Nat.le_of_ble_eq_true rfl) (Nat.le_of_ble_eq_true rfl) (by decide) ⟨by unfold boA kJoin; rw [decide_eq_false (fun z => absurd z.2.1 (by unfold jTo; rw [decide_eq_false (fun z => z.elim c2 (fun z => z.elim (fun q => q.1 c6) (fun q => q.2 c31)))]; decide))]; rfl, by unfold joinF kJoin; rw [decide_eq_false (fun z => absurd z.2.1 (by unfold jTo; rw [decide_eq_false (fun z => z.elim c2 (fun z => z.elim (fun q => q.1 c6) (fun q => q.2 c31)))]; decide))]; rfl⟩
            · exact absurd rfl c49
        · refine j_iconst (v := 1) (q := 35) hO dX10_joinTo_34 rfl (by decide) ?_
          refine j_goto (tgt := 39) hO dX10_joinTo_35 (by decide) ?_
          refine j_istore_n (q := 40) hO dX10_joinTo_39 rfl (by rw [hM.nL]; decide) rfl ?_
          refine j_aload_n (q := 41) hO dX10_joinTo_40 rfl rfl ?_
          refine j_iload_n (q := 42) hO dX10_joinTo_41 rfl rfl ?_
          refine j_callV (x := 10) (q := 45) hO (c_10_isBelt (lx X) _ _ hm.1) M_10_isBelt mw_653 CK_10 rfl hm.1 rfl rfl rfl (by unfold roomy; rw [hM.R]; exact ⟨⟨Nat.le_of_ble_eq_true rfl, Nat.le_of_ble_eq_true rfl⟩, ⟨Nat.le_of_ble_eq_true rfl, Nat.le_of_ble_eq_true rfl⟩, Nat.le_of_ble_eq_true rfl⟩) dX10_joinTo_42 rfl (fun v_42 S_42 hp_42 => ?_)
          obtain ⟨rfl, rfl⟩ := hp_42
          refine j_if_eq (tgt := 59) (q := 48) hO dX10_joinTo_45 rfl (by decide) (fun c45 => ?_) (fun c45 => ?_)
          · refine j_iconst (v := 0) (q := 60) hO dX10_joinTo_59 rfl (by decide) ?_
            exact j_zret hM dX10_joinTo_60 (Nat.le_of_ble_eq_true rfl) (Nat.le_of_ble_eq_true rfl) (by decide) ⟨by unfold boA kJoin; rw [decide_eq_false (fun z => z.1 c45)]; rfl, by unfold joinF kJoin; rw [decide_eq_false (fun z => z.1 c45)]; rfl⟩
          · refine j_iload_n (q := 49) hO dX10_joinTo_48 rfl rfl ?_
            refine j_if_eq (tgt := 59) (q := 52) hO dX10_joinTo_49 rfl (by decide) (fun c49 => ?_) (fun c49 => ?_)
            · exact absurd c49 (by decide)
            · refine j_aload_n (q := 53) hO dX10_joinTo_52 rfl rfl ?_
              refine j_callV (x := 10) (q := 56) hO (c_10_isOpen (lx X) _ hm.1) M_10_isOpen mw_645 CK_10 rfl hm.1 rfl rfl rfl (by unfold roomy; rw [hM.R]; exact ⟨⟨Nat.le_of_ble_eq_true rfl, Nat.le_of_ble_eq_true rfl⟩, ⟨Nat.le_of_ble_eq_true rfl, Nat.le_of_ble_eq_true rfl⟩, Nat.le_of_ble_eq_true rfl⟩) dX10_joinTo_53 rfl (fun v_53 S_53 hp_53 => ?_)
              obtain ⟨rfl, rfl⟩ := hp_53
              refine j_if_ne (tgt := 61) (q := 59) hO dX10_joinTo_56 rfl (by decide) (fun c56 => ?_) (fun c56 => ?_)
              · obtain ⟨b, hbn, rfl⟩ := iB_in hnb hb6 c45
                have enb : nn (nI b) = b := nn_nI (by omega)
                refine j_aload_n (q := 62) hO dX10_joinTo_61 rfl rfl ?_
                refine m_getA (j := 4) (x := 22) (q := 65) hO hm dX10_joinTo_62 rfl mw_502 (by decide) rfl rfl ?_
                refine j_iload_n (q := 66) hO dX10_joinTo_65 rfl rfl ?_
                refine j_iload_n (q := 67) hO dX10_joinTo_66 rfl rfl ?_
                refine m_iast (x := 22) (a := 3) (q := 68) hO hm MK_22 dX10_joinTo_67 rfl rfl (j := b) rfl (by omega) ?_
                refine j_iconst (v := 1) (q := 69) hO dX10_joinTo_68 rfl (by decide) ?_
                exact j_zret hM dX10_joinTo_69 (Nat.le_of_ble_eq_true rfl) (Nat.le_of_ble_eq_true rfl) (by decide) ⟨by unfold boA kJoin; rw [decide_eq_true ⟨c45, decide_eq_true (Or.inr (Or.inr ⟨c20, c31⟩)), op1 c56⟩]; rfl, by unfold joinF kJoin; rw [decide_eq_true ⟨c45, decide_eq_true (Or.inr (Or.inr ⟨c20, c31⟩)), op1 c56⟩, enb]; rfl⟩
              · refine j_iconst (v := 0) (q := 60) hO dX10_joinTo_59 rfl (by decide) ?_
                exact j_zret hM dX10_joinTo_60 (Nat.le_of_ble_eq_true rfl) (Nat.le_of_ble_eq_true rfl) (by decide) ⟨by unfold boA kJoin; rw [decide_eq_false (fun z => op0 c56 z.2.2)]; rfl, by unfold joinF kJoin; rw [decide_eq_false (fun z => op0 c56 z.2.2)]; rfl⟩
    · refine j_iload_n (q := 10) hO dX10_joinTo_9 rfl rfl ?_
      refine j_aload_n (q := 11) hO dX10_joinTo_10 rfl rfl ?_
      refine m_getI (j := 1) (q := 14) hO hm dX10_joinTo_11 rfl mw_499 (by decide) rfl ?_
      refine j_icmp_lt (tgt := 34) (q := 17) hO dX10_joinTo_14 rfl (by decide) (fun c14 => ?_) (fun c14 => ?_)
      · refine j_iconst (v := 1) (q := 35) hO dX10_joinTo_34 rfl (by decide) ?_
        refine j_goto (tgt := 39) hO dX10_joinTo_35 (by decide) ?_
        refine j_istore_n (q := 40) hO dX10_joinTo_39 rfl (by rw [hM.nL]; decide) rfl ?_
        refine j_aload_n (q := 41) hO dX10_joinTo_40 rfl rfl ?_
        refine j_iload_n (q := 42) hO dX10_joinTo_41 rfl rfl ?_
        refine j_callV (x := 10) (q := 45) hO (c_10_isBelt (lx X) _ _ hm.1) M_10_isBelt mw_653 CK_10 rfl hm.1 rfl rfl rfl (by unfold roomy; rw [hM.R]; exact ⟨⟨Nat.le_of_ble_eq_true rfl, Nat.le_of_ble_eq_true rfl⟩, ⟨Nat.le_of_ble_eq_true rfl, Nat.le_of_ble_eq_true rfl⟩, Nat.le_of_ble_eq_true rfl⟩) dX10_joinTo_42 rfl (fun v_42 S_42 hp_42 => ?_)
        obtain ⟨rfl, rfl⟩ := hp_42
        refine j_if_eq (tgt := 59) (q := 48) hO dX10_joinTo_45 rfl (by decide) (fun c45 => ?_) (fun c45 => ?_)
        · refine j_iconst (v := 0) (q := 60) hO dX10_joinTo_59 rfl (by decide) ?_
          exact j_zret hM dX10_joinTo_60 (Nat.le_of_ble_eq_true rfl) (Nat.le_of_ble_eq_true rfl) (by decide) ⟨by unfold boA kJoin; rw [decide_eq_false (fun z => z.1 c45)]; rfl, by unfold joinF kJoin; rw [decide_eq_false (fun z => z.1 c45)]; rfl⟩
        · refine j_iload_n (q := 49) hO dX10_joinTo_48 rfl rfl ?_
          refine j_if_eq (tgt := 59) (q := 52) hO dX10_joinTo_49 rfl (by decide) (fun c49 => ?_) (fun c49 => ?_)
          · exact absurd c49 (by decide)
          · refine j_aload_n (q := 53) hO dX10_joinTo_52 rfl rfl ?_
            refine j_callV (x := 10) (q := 56) hO (c_10_isOpen (lx X) _ hm.1) M_10_isOpen mw_645 CK_10 rfl hm.1 rfl rfl rfl (by unfold roomy; rw [hM.R]; exact ⟨⟨Nat.le_of_ble_eq_true rfl, Nat.le_of_ble_eq_true rfl⟩, ⟨Nat.le_of_ble_eq_true rfl, Nat.le_of_ble_eq_true rfl⟩, Nat.le_of_ble_eq_true rfl⟩) dX10_joinTo_53 rfl (fun v_53 S_53 hp_53 => ?_)
            obtain ⟨rfl, rfl⟩ := hp_53
            refine j_if_ne (tgt := 61) (q := 59) hO dX10_joinTo_56 rfl (by decide) (fun c56 => ?_) (fun c56 => ?_)
            · obtain ⟨b, hbn, rfl⟩ := iB_in hnb hb6 c45
              have enb : nn (nI b) = b := nn_nI (by omega)
              refine j_aload_n (q := 62) hO dX10_joinTo_61 rfl rfl ?_
              refine m_getA (j := 4) (x := 22) (q := 65) hO hm dX10_joinTo_62 rfl mw_502 (by decide) rfl rfl ?_
              refine j_iload_n (q := 66) hO dX10_joinTo_65 rfl rfl ?_
              refine j_iload_n (q := 67) hO dX10_joinTo_66 rfl rfl ?_
              refine m_iast (x := 22) (a := 3) (q := 68) hO hm MK_22 dX10_joinTo_67 rfl rfl (j := b) rfl (by omega) ?_
              refine j_iconst (v := 1) (q := 69) hO dX10_joinTo_68 rfl (by decide) ?_
              exact j_zret hM dX10_joinTo_69 (Nat.le_of_ble_eq_true rfl) (Nat.le_of_ble_eq_true rfl) (by decide) ⟨by unfold boA kJoin; rw [decide_eq_true ⟨c45, decide_eq_true (Or.inr (Or.inl ⟨c6, c14⟩)), op1 c56⟩]; rfl, by unfold joinF kJoin; rw [decide_eq_true ⟨c45, decide_eq_true (Or.inr (Or.inl ⟨c6, c14⟩)), op1 c56⟩, enb]; rfl⟩
            · refine j_iconst (v := 0) (q := 60) hO dX10_joinTo_59 rfl (by decide) ?_
              exact j_zret hM dX10_joinTo_60 (Nat.le_of_ble_eq_true rfl) (Nat.le_of_ble_eq_true rfl) (by decide) ⟨by unfold boA kJoin; rw [decide_eq_false (fun z => op0 c56 z.2.2)]; rfl, by unfold joinF kJoin; rw [decide_eq_false (fun z => op0 c56 z.2.2)]; rfl⟩
      · refine j_iload_n (q := 18) hO dX10_joinTo_17 rfl rfl ?_
        refine j_bipush (v := (-2)) (q := 20) hO dX10_joinTo_18 rfl (by decide) ?_
        refine j_icmp_gt (tgt := 38) (q := 23) hO dX10_joinTo_20 rfl (by decide) (fun c20 => ?_) (fun c20 => ?_)
        · refine j_iconst (v := 0) (q := 39) hO dX10_joinTo_38 rfl (by decide) ?_
          refine j_istore_n (q := 40) hO dX10_joinTo_39 rfl (by rw [hM.nL]; decide) rfl ?_
          refine j_aload_n (q := 41) hO dX10_joinTo_40 rfl rfl ?_
          refine j_iload_n (q := 42) hO dX10_joinTo_41 rfl rfl ?_
          refine j_callV (x := 10) (q := 45) hO (c_10_isBelt (lx X) _ _ hm.1) M_10_isBelt mw_653 CK_10 rfl hm.1 rfl rfl rfl (by unfold roomy; rw [hM.R]; exact ⟨⟨Nat.le_of_ble_eq_true rfl, Nat.le_of_ble_eq_true rfl⟩, ⟨Nat.le_of_ble_eq_true rfl, Nat.le_of_ble_eq_true rfl⟩, Nat.le_of_ble_eq_true rfl⟩) dX10_joinTo_42 rfl (fun v_42 S_42 hp_42 => ?_)
          obtain ⟨rfl, rfl⟩ := hp_42
          refine j_if_eq (tgt := 59) (q := 48) hO dX10_joinTo_45 rfl (by decide) (fun c45 => ?_) (fun c45 => ?_)
          · refine j_iconst (v := 0) (q := 60) hO dX10_joinTo_59 rfl (by decide) ?_
            exact j_zret hM dX10_joinTo_60 (Nat.le_of_ble_eq_true rfl) (Nat.le_of_ble_eq_true rfl) (by decide) ⟨by unfold boA kJoin; rw [decide_eq_false (fun z => z.1 c45)]; rfl, by unfold joinF kJoin; rw [decide_eq_false (fun z => z.1 c45)]; rfl⟩
          · refine j_iload_n (q := 49) hO dX10_joinTo_48 rfl rfl ?_
            refine j_if_eq (tgt := 59) (q := 52) hO dX10_joinTo_49 rfl (by decide) (fun c49 => ?_) (fun c49 => ?_)
            · refine j_iconst (v := 0) (q := 60) hO dX10_joinTo_59 rfl (by decide) ?_
              exact j_zret hM dX10_joinTo_60 (Nat.le_of_ble_eq_true rfl) (Nat.le_of_ble_eq_true rfl) (by decide) ⟨by unfold boA kJoin; rw [decide_eq_false (fun z => absurd z.2.1 (by unfold jTo; rw [decide_eq_false (fun z => z.elim c2 (fun z => z.elim (fun q => c14 q.2) (fun q => q.1 c20)))]; decide))]; rfl, by unfold joinF kJoin; rw [decide_eq_false (fun z => absurd z.2.1 (by unfold jTo; rw [decide_eq_false (fun z => z.elim c2 (fun z => z.elim (fun q => c14 q.2) (fun q => q.1 c20)))]; decide))]; rfl⟩
            · exact absurd rfl c49
        · refine j_iload_n (q := 24) hO dX10_joinTo_23 rfl rfl ?_
          refine j_bipush (v := (-2)) (q := 26) hO dX10_joinTo_24 rfl (by decide) ?_
          refine j_aload_n (q := 27) hO dX10_joinTo_26 rfl rfl ?_
          refine m_getI (j := 13) (q := 30) hO hm dX10_joinTo_27 rfl mw_511 (by decide) rfl ?_
          refine j_isub (q := 31) hO dX10_joinTo_30 rfl ?_
          refine j_icmp_le (tgt := 38) (q := 34) hO dX10_joinTo_31 rfl (by decide) (fun c31 => ?_) (fun c31 => ?_)
          · refine j_iconst (v := 0) (q := 39) hO dX10_joinTo_38 rfl (by decide) ?_
            refine j_istore_n (q := 40) hO dX10_joinTo_39 rfl (by rw [hM.nL]; decide) rfl ?_
            refine j_aload_n (q := 41) hO dX10_joinTo_40 rfl rfl ?_
            refine j_iload_n (q := 42) hO dX10_joinTo_41 rfl rfl ?_
            refine j_callV (x := 10) (q := 45) hO (c_10_isBelt (lx X) _ _ hm.1) M_10_isBelt mw_653 CK_10 rfl hm.1 rfl rfl rfl (by unfold roomy; rw [hM.R]; exact ⟨⟨Nat.le_of_ble_eq_true rfl, Nat.le_of_ble_eq_true rfl⟩, ⟨Nat.le_of_ble_eq_true rfl, Nat.le_of_ble_eq_true rfl⟩, Nat.le_of_ble_eq_true rfl⟩) dX10_joinTo_42 rfl (fun v_42 S_42 hp_42 => ?_)
            obtain ⟨rfl, rfl⟩ := hp_42
            refine j_if_eq (tgt := 59) (q := 48) hO dX10_joinTo_45 rfl (by decide) (fun c45 => ?_) (fun c45 => ?_)
            · refine j_iconst (v := 0) (q := 60) hO dX10_joinTo_59 rfl (by decide) ?_
              exact j_zret hM dX10_joinTo_60 (Nat.le_of_ble_eq_true rfl) (Nat.le_of_ble_eq_true rfl) (by decide) ⟨by unfold boA kJoin; rw [decide_eq_false (fun z => z.1 c45)]; rfl, by unfold joinF kJoin; rw [decide_eq_false (fun z => z.1 c45)]; rfl⟩
            · refine j_iload_n (q := 49) hO dX10_joinTo_48 rfl rfl ?_
              refine j_if_eq (tgt := 59) (q := 52) hO dX10_joinTo_49 rfl (by decide) (fun c49 => ?_) (fun c49 => ?_)
              · refine j_iconst (v := 0) (q := 60) hO dX10_joinTo_59 rfl (by decide) ?_
                exact j_zret hM dX10_joinTo_60 (Nat.le_of_ble_eq_true rfl) (Nat.le_of_ble_eq_true rfl) (by decide) ⟨by unfold boA kJoin; rw [decide_eq_false (fun z => absurd z.2.1 (by unfold jTo; rw [decide_eq_false (fun z => z.elim c2 (fun z => z.elim (fun q => c14 q.2) (fun q => q.2 c31)))]; decide))]; rfl, by unfold joinF kJoin; rw [decide_eq_false (fun z => absurd z.2.1 (by unfold jTo; rw [decide_eq_false (fun z => z.elim c2 (fun z => z.elim (fun q => c14 q.2) (fun q => q.2 c31)))]; decide))]; rfl⟩
              · exact absurd rfl c49
          · refine j_iconst (v := 1) (q := 35) hO dX10_joinTo_34 rfl (by decide) ?_
            refine j_goto (tgt := 39) hO dX10_joinTo_35 (by decide) ?_
            refine j_istore_n (q := 40) hO dX10_joinTo_39 rfl (by rw [hM.nL]; decide) rfl ?_
            refine j_aload_n (q := 41) hO dX10_joinTo_40 rfl rfl ?_
            refine j_iload_n (q := 42) hO dX10_joinTo_41 rfl rfl ?_
            refine j_callV (x := 10) (q := 45) hO (c_10_isBelt (lx X) _ _ hm.1) M_10_isBelt mw_653 CK_10 rfl hm.1 rfl rfl rfl (by unfold roomy; rw [hM.R]; exact ⟨⟨Nat.le_of_ble_eq_true rfl, Nat.le_of_ble_eq_true rfl⟩, ⟨Nat.le_of_ble_eq_true rfl, Nat.le_of_ble_eq_true rfl⟩, Nat.le_of_ble_eq_true rfl⟩) dX10_joinTo_42 rfl (fun v_42 S_42 hp_42 => ?_)
            obtain ⟨rfl, rfl⟩ := hp_42
            refine j_if_eq (tgt := 59) (q := 48) hO dX10_joinTo_45 rfl (by decide) (fun c45 => ?_) (fun c45 => ?_)
            · refine j_iconst (v := 0) (q := 60) hO dX10_joinTo_59 rfl (by decide) ?_
              exact j_zret hM dX10_joinTo_60 (Nat.le_of_ble_eq_true rfl) (Nat.le_of_ble_eq_true rfl) (by decide) ⟨by unfold boA kJoin; rw [decide_eq_false (fun z => z.1 c45)]; rfl, by unfold joinF kJoin; rw [decide_eq_false (fun z => z.1 c45)]; rfl⟩
            · refine j_iload_n (q := 49) hO dX10_joinTo_48 rfl rfl ?_
              refine j_if_eq (tgt := 59) (q := 52) hO dX10_joinTo_49 rfl (by decide) (fun c49 => ?_) (fun c49 => ?_)
              · exact absurd c49 (by decide)
              · refine j_aload_n (q := 53) hO dX10_joinTo_52 rfl rfl ?_
                refine j_callV (x := 10) (q := 56) hO (c_10_isOpen (lx X) _ hm.1) M_10_isOpen mw_645 CK_10 rfl hm.1 rfl rfl rfl (by unfold roomy; rw [hM.R]; exact ⟨⟨Nat.le_of_ble_eq_true rfl, Nat.le_of_ble_eq_true rfl⟩, ⟨Nat.le_of_ble_eq_true rfl, Nat.le_of_ble_eq_true rfl⟩, Nat.le_of_ble_eq_true rfl⟩) dX10_joinTo_53 rfl (fun v_53 S_53 hp_53 => ?_)
                obtain ⟨rfl, rfl⟩ := hp_53
                refine j_if_ne (tgt := 61) (q := 59) hO dX10_joinTo_56 rfl (by decide) (fun c56 => ?_) (fun c56 => ?_)
                · obtain ⟨b, hbn, rfl⟩ := iB_in hnb hb6 c45
                  have enb : nn (nI b) = b := nn_nI (by omega)
                  refine j_aload_n (q := 62) hO dX10_joinTo_61 rfl rfl ?_
                  refine m_getA (j := 4) (x := 22) (q := 65) hO hm dX10_joinTo_62 rfl mw_502 (by decide) rfl rfl ?_
                  refine j_iload_n (q := 66) hO dX10_joinTo_65 rfl rfl ?_
                  refine j_iload_n (q := 67) hO dX10_joinTo_66 rfl rfl ?_
                  refine m_iast (x := 22) (a := 3) (q := 68) hO hm MK_22 dX10_joinTo_67 rfl rfl (j := b) rfl (by omega) ?_
                  refine j_iconst (v := 1) (q := 69) hO dX10_joinTo_68 rfl (by decide) ?_
                  exact j_zret hM dX10_joinTo_69 (Nat.le_of_ble_eq_true rfl) (Nat.le_of_ble_eq_true rfl) (by decide) ⟨by unfold boA kJoin; rw [decide_eq_true ⟨c45, decide_eq_true (Or.inr (Or.inr ⟨c20, c31⟩)), op1 c56⟩]; rfl, by unfold joinF kJoin; rw [decide_eq_true ⟨c45, decide_eq_true (Or.inr (Or.inr ⟨c20, c31⟩)), op1 c56⟩, enb]; rfl⟩
                · refine j_iconst (v := 0) (q := 60) hO dX10_joinTo_59 rfl (by decide) ?_
                  exact j_zret hM dX10_joinTo_60 (Nat.le_of_ble_eq_true rfl) (Nat.le_of_ble_eq_true rfl) (by decide) ⟨by unfold boA kJoin; rw [decide_eq_false (fun z => op0 c56 z.2.2)]; rfl, by unfold joinF kJoin; rw [decide_eq_false (fun z => op0 c56 z.2.2)]; rfl⟩
set_option maxHeartbeats 4000000 in
set_option maxRecDepth 100000 in
theorem c_10_run (l : Launch) (S : St) (α : Al) (nb nh nu nr nk np t : Nat) (u0 : Int32) (hm : MSh S) (c : Cf α nb nh nu nr nk np) (d : Dn α nb nk np (1020 * t)) (ht : aI α 0 35 = nI t) (ht1 : t ≤ 10000) : Ct l yX10_run cX10_run 2 (some .int) (rm 5 0 0 114) [.ref (sA S 10 0), .int u0] (wr S α) (runPost S α u0) := by
  refine Ct.of (by decide) (Nat.le_of_ble_eq_true rfl) (fun X hM => ?_)
  have hO := hM.1
  obtain rfl := hM.l
  show Jg X 0 0 (wr S α) 0 [(0, .ref (sA S 10 0)), (1, .int u0)] []
  have loop : ∀ u, t ≤ u → u ≤ 10000 → kRun α (nI u) = true → ∀ f m, t + m + f = u → runPost S α (nI u) = runPost S α (nI u) → OkM X cX10_run yX10_run.cls (lx X) (rm 5 0 0 114) 2 (some .int) yX10_run.name (runPost S α (nI u)) → Jg X 0 0 (wr S (runL α m)) 17 [(0, .ref (sA S 10 0)), (1, .int (nI u))] [] := by
    intro u htu hu hk f
    induction f with
    | zero =>
      intro m hz _ hM
      obtain ⟨e1, e2, e3⟩ := runL_inv c d ht m (by omega)
      have em : nn (nI u) - nn (aI α 0 35) = m := by rw [nn_nI (by omega), ht, nn_nI (by omega)]; omega
      refine j_aload_n (q := 18) hO dX10_run_17 rfl rfl ?_
      refine m_getI (j := 35) (q := 21) hO hm dX10_run_18 rfl mw_533 (by decide) rfl ?_
      refine j_iload_n (q := 22) hO dX10_run_21 rfl rfl ?_
      refine j_icmp_ge (tgt := 32) (q := 25) hO dX10_run_22 rfl (by decide) (fun c22 => ?_) (fun c22 => ?_)
      · refine j_aload_n (q := 33) hO dX10_run_32 rfl rfl ?_
        refine m_getI (j := 36) (q := 36) hO hm dX10_run_33 rfl mw_534 (by decide) rfl ?_
        exact j_iret hM dX10_run_36 (Nat.le_of_ble_eq_true rfl) (Nat.le_of_ble_eq_true rfl) ⟨by unfold runA runF; rw [hk]; show some (Value.int (aI (runL α m) 0 36)) = some (Value.int (aI (runL α (nn (nI u) - nn (aI α 0 35))) 0 36)); rw [em], by unfold runF; rw [hk]; show wr S (runL α m) = wr S (runL α (nn (nI u) - nn (aI α 0 35))); rw [em]⟩
      · exact absurd (by rw [e3]; exact nI_le (by omega) (by omega)) c22
    | succ f ih =>
      intro m hz _ hM
      obtain ⟨e1, e2, e3⟩ := runL_inv c d ht m (by omega)
      refine j_aload_n (q := 18) hO dX10_run_17 rfl rfl ?_
      refine m_getI (j := 35) (q := 21) hO hm dX10_run_18 rfl mw_533 (by decide) rfl ?_
      refine j_iload_n (q := 22) hO dX10_run_21 rfl rfl ?_
      refine j_icmp_ge (tgt := 32) (q := 25) hO dX10_run_22 rfl (by decide) (fun c22 => ?_) (fun c22 => ?_)
      · exact absurd c22 (by rw [e3]; exact nI_ge (by omega) (by omega))
      · refine j_aload_n (q := 26) hO dX10_run_25 rfl rfl ?_
        refine j_callV (x := 10) (q := 29) hO (c_10_tenth (lx X) S (runL α m) nb nh nu nr nk np _ (t + m) hm e1 e2 e3 (by omega) (by omega)) M_10_tenth mw_689 CK_10 rfl hm.1 rfl rfl rfl (by unfold roomy; rw [hM.R]; exact ⟨⟨Nat.le_of_ble_eq_true rfl, Nat.le_of_ble_eq_true rfl⟩, ⟨Nat.le_of_ble_eq_true rfl, Nat.le_of_ble_eq_true rfl⟩, Nat.le_of_ble_eq_true rfl⟩) dX10_run_26 rfl (fun v_26 S_26 hp_26 => ?_)
        obtain ⟨rfl, rfl⟩ := hp_26
        refine j_goto (tgt := 17) hO dX10_run_29 (by decide) ?_
        refine Jg.lv (lv' := [(0, .ref (sA S 10 0)), (1, .int (nI u))]) ⟨rfl, rfl, trivial⟩ ?_
        exact ih (m + 1) (by omega) rfl hM
  refine j_iload_n (q := 1) hO dX10_run_0 rfl rfl ?_
  refine j_aload_n (q := 2) hO dX10_run_1 rfl rfl ?_
  refine m_getI (j := 35) (q := 5) hO hm dX10_run_2 rfl mw_533 (by decide) rfl ?_
  refine j_icmp_lt (tgt := 15) (q := 8) hO dX10_run_5 rfl (by decide) (fun c5 => ?_) (fun c5 => ?_)
  · refine j_iconst (v := (-1)) (q := 16) hO dX10_run_15 rfl (by decide) ?_
    exact j_iret hM dX10_run_16 (Nat.le_of_ble_eq_true rfl) (Nat.le_of_ble_eq_true rfl) ⟨by unfold runA kRun; rw [decide_eq_false (fun z => z.1 c5)]; rfl, by unfold runF kRun; rw [decide_eq_false (fun z => z.1 c5)]; rfl⟩
  · refine j_iload_n (q := 9) hO dX10_run_8 rfl rfl ?_
    refine j_sipush (v := 10000) (q := 12) hO dX10_run_9 rfl (by decide) ?_
    refine j_icmp_le (tgt := 17) (q := 15) hO dX10_run_12 rfl (by decide) (fun c12 => ?_) (fun c12 => ?_)
    · obtain ⟨u, hu, rfl⟩ := run_in ht (by omega) c5 c12
      refine Jg.lv (lv' := [(0, .ref (sA S 10 0)), (1, .int (nI u))]) ⟨rfl, rfl, trivial⟩ ?_
      exact loop u hu.1 hu.2 (decide_eq_true ⟨c5, fun z => gt_nle z c12⟩) (u - t) 0 (by omega) rfl hM
    · refine j_iconst (v := (-1)) (q := 16) hO dX10_run_15 rfl (by decide) ?_
      exact j_iret hM dX10_run_16 (Nat.le_of_ble_eq_true rfl) (Nat.le_of_ble_eq_true rfl) ⟨by unfold runA kRun; rw [decide_eq_false (fun z => z.2 (gt_of c12))]; rfl, by unfold runF kRun; rw [decide_eq_false (fun z => z.2 (gt_of c12))]; rfl⟩
set_option maxHeartbeats 4000000 in
set_option maxRecDepth 100000 in
theorem c_10_event (l : Launch) (S : St) (α : Al) (k w : Int32) (hm : MSh S) : Ct l yX10_event cX10_event 3 (some .int) (rm 0 0 0 0) [.ref (sA S 10 0), .int k, .int w] (wr S α) (fun r S' => r = some (.int (evA α k w)) ∧ S' = wr S α) := by
  refine Ct.of (by decide) (Nat.le_of_ble_eq_true rfl) (fun X hM => ?_)
  have hO := hM.1
  obtain rfl := hM.l
  show Jg X 0 0 (wr S α) 0 [(0, .ref (sA S 10 0)), (1, .int k), (2, .int w)] []
  refine j_iload_n (q := 1) hO dX10_event_0 rfl rfl ?_
  refine j_if_lt (tgt := 41) (q := 4) hO dX10_event_1 rfl (by decide) (fun c1 => ?_) (fun c1 => ?_)
  · refine j_iconst (v := (-1)) (q := 42) hO dX10_event_41 rfl (by decide) ?_
    exact j_iret hM dX10_event_42 (Nat.le_of_ble_eq_true rfl) (Nat.le_of_ble_eq_true rfl) ⟨by unfold evA; rw [if_neg (fun z => z.1 c1)], rfl⟩
  · refine j_iload_n (q := 5) hO dX10_event_4 rfl rfl ?_
    refine j_aload_n (q := 6) hO dX10_event_5 rfl rfl ?_
    refine m_getI (j := 36) (q := 9) hO hm dX10_event_6 rfl mw_534 (by decide) rfl ?_
    refine j_icmp_ge (tgt := 41) (q := 12) hO dX10_event_9 rfl (by decide) (fun c9 => ?_) (fun c9 => ?_)
    · refine j_iconst (v := (-1)) (q := 42) hO dX10_event_41 rfl (by decide) ?_
      exact j_iret hM dX10_event_42 (Nat.le_of_ble_eq_true rfl) (Nat.le_of_ble_eq_true rfl) ⟨by unfold evA; rw [if_neg (fun z => z.2.1 c9)], rfl⟩
    · refine j_iload_n (q := 13) hO dX10_event_12 rfl rfl ?_
      refine j_sipush (v := 2000) (q := 16) hO dX10_event_13 rfl (by decide) ?_
      refine j_icmp_ge (tgt := 41) (q := 19) hO dX10_event_16 rfl (by decide) (fun c16 => ?_) (fun c16 => ?_)
      · refine j_iconst (v := (-1)) (q := 42) hO dX10_event_41 rfl (by decide) ?_
        exact j_iret hM dX10_event_42 (Nat.le_of_ble_eq_true rfl) (Nat.le_of_ble_eq_true rfl) ⟨by unfold evA; rw [if_neg (fun z => z.2.2.1 c16)], rfl⟩
      · refine j_iload_n (q := 20) hO dX10_event_19 rfl rfl ?_
        refine j_if_lt (tgt := 41) (q := 23) hO dX10_event_20 rfl (by decide) (fun c20 => ?_) (fun c20 => ?_)
        · refine j_iconst (v := (-1)) (q := 42) hO dX10_event_41 rfl (by decide) ?_
          exact j_iret hM dX10_event_42 (Nat.le_of_ble_eq_true rfl) (Nat.le_of_ble_eq_true rfl) ⟨by unfold evA; rw [if_neg (fun z => z.2.2.2.1 c20)], rfl⟩
        · refine j_iload_n (q := 24) hO dX10_event_23 rfl rfl ?_
          refine j_iconst (v := 4) (q := 25) hO dX10_event_24 rfl (by decide) ?_
          refine j_icmp_ge (tgt := 41) (q := 28) hO dX10_event_25 rfl (by decide) (fun c25 => ?_) (fun c25 => ?_)
          · refine j_iconst (v := (-1)) (q := 42) hO dX10_event_41 rfl (by decide) ?_
            exact j_iret hM dX10_event_42 (Nat.le_of_ble_eq_true rfl) (Nat.le_of_ble_eq_true rfl) ⟨by unfold evA; rw [if_neg (fun z => z.2.2.2.2 c25)], rfl⟩
          · obtain ⟨kk, hkk, rfl⟩ := k_in c1 c16
            obtain ⟨ww, hww, rfl⟩ := w_in c20 c25
            refine j_aload_n (q := 29) hO dX10_event_28 rfl rfl ?_
            refine m_getA (j := 37) (x := 48) (q := 32) hO hm dX10_event_29 rfl mw_535 (by decide) rfl rfl ?_
            refine j_iconst (v := 4) (q := 33) hO dX10_event_32 rfl (by decide) ?_
            refine j_iload_n (q := 34) hO dX10_event_33 rfl rfl ?_
            refine j_imul (q := 35) hO dX10_event_34 rfl ?_
            refine j_iload_n (q := 36) hO dX10_event_35 rfl rfl ?_
            refine j_iadd (q := 37) hO dX10_event_36 rfl ?_
            refine m_iald (x := 48) (a := 29) (q := 38) hO hm MK_48 dX10_event_37 rfl rfl (j := 4 * kk + ww) (ix4 kk ww) (by omega) ?_
            refine j_goto (tgt := 42) hO dX10_event_38 (by decide) ?_
            exact j_iret hM dX10_event_42 (Nat.le_of_ble_eq_true rfl) (Nat.le_of_ble_eq_true rfl) ⟨by unfold evA; rw [if_pos ⟨c1, c9, c16, c20, c25⟩, nn_nI (by omega), nn_nI (by omega)], rfl⟩
set_option maxHeartbeats 4000000 in
set_option maxRecDepth 100000 in
theorem c_10_jam (l : Launch) (S : St) (α : Al) (jm : Nat) (k w : Int32) (hm : MSh S) (hjm : aI α 0 38 = nI jm) (hj60 : jm ≤ 60) : Ct l yX10_jam cX10_jam 3 (some .int) (rm 0 0 0 0) [.ref (sA S 10 0), .int k, .int w] (wr S α) (fun r S' => r = some (.int (jamA α k w)) ∧ S' = wr S α) := by
  refine Ct.of (by decide) (Nat.le_of_ble_eq_true rfl) (fun X hM => ?_)
  have hO := hM.1
  obtain rfl := hM.l
  show Jg X 0 0 (wr S α) 0 [(0, .ref (sA S 10 0)), (1, .int k), (2, .int w)] []
  refine j_iload_n (q := 1) hO dX10_jam_0 rfl rfl ?_
  refine j_if_lt (tgt := 34) (q := 4) hO dX10_jam_1 rfl (by decide) (fun c1 => ?_) (fun c1 => ?_)
  · refine j_iconst (v := (-1)) (q := 35) hO dX10_jam_34 rfl (by decide) ?_
    exact j_iret hM dX10_jam_35 (Nat.le_of_ble_eq_true rfl) (Nat.le_of_ble_eq_true rfl) ⟨by unfold jamA; rw [if_neg (fun z => z.1 c1)], rfl⟩
  · refine j_iload_n (q := 5) hO dX10_jam_4 rfl rfl ?_
    refine j_aload_n (q := 6) hO dX10_jam_5 rfl rfl ?_
    refine m_getI (j := 38) (q := 9) hO hm dX10_jam_6 rfl mw_536 (by decide) rfl ?_
    refine j_icmp_ge (tgt := 34) (q := 12) hO dX10_jam_9 rfl (by decide) (fun c9 => ?_) (fun c9 => ?_)
    · refine j_iconst (v := (-1)) (q := 35) hO dX10_jam_34 rfl (by decide) ?_
      exact j_iret hM dX10_jam_35 (Nat.le_of_ble_eq_true rfl) (Nat.le_of_ble_eq_true rfl) ⟨by unfold jamA; rw [if_neg (fun z => z.2.1 c9)], rfl⟩
    · refine j_iload_n (q := 13) hO dX10_jam_12 rfl rfl ?_
      refine j_if_lt (tgt := 34) (q := 16) hO dX10_jam_13 rfl (by decide) (fun c13 => ?_) (fun c13 => ?_)
      · refine j_iconst (v := (-1)) (q := 35) hO dX10_jam_34 rfl (by decide) ?_
        exact j_iret hM dX10_jam_35 (Nat.le_of_ble_eq_true rfl) (Nat.le_of_ble_eq_true rfl) ⟨by unfold jamA; rw [if_neg (fun z => z.2.2.1 c13)], rfl⟩
      · refine j_iload_n (q := 17) hO dX10_jam_16 rfl rfl ?_
        refine j_iconst (v := 4) (q := 18) hO dX10_jam_17 rfl (by decide) ?_
        refine j_icmp_ge (tgt := 34) (q := 21) hO dX10_jam_18 rfl (by decide) (fun c18 => ?_) (fun c18 => ?_)
        · refine j_iconst (v := (-1)) (q := 35) hO dX10_jam_34 rfl (by decide) ?_
          exact j_iret hM dX10_jam_35 (Nat.le_of_ble_eq_true rfl) (Nat.le_of_ble_eq_true rfl) ⟨by unfold jamA; rw [if_neg (fun z => z.2.2.2 c18)], rfl⟩
        · obtain ⟨kk, hkk, rfl⟩ := kj_in hjm c1 c9
          obtain ⟨ww, hww, rfl⟩ := w_in c13 c18
          refine j_aload_n (q := 22) hO dX10_jam_21 rfl rfl ?_
          refine m_getA (j := 39) (x := 49) (q := 25) hO hm dX10_jam_22 rfl mw_537 (by decide) rfl rfl ?_
          refine j_iconst (v := 4) (q := 26) hO dX10_jam_25 rfl (by decide) ?_
          refine j_iload_n (q := 27) hO dX10_jam_26 rfl rfl ?_
          refine j_imul (q := 28) hO dX10_jam_27 rfl ?_
          refine j_iload_n (q := 29) hO dX10_jam_28 rfl rfl ?_
          refine j_iadd (q := 30) hO dX10_jam_29 rfl ?_
          refine m_iald (x := 49) (a := 30) (q := 31) hO hm MK_49 dX10_jam_30 rfl rfl (j := 4 * kk + ww) (ix4 kk ww) (by omega) ?_
          refine j_goto (tgt := 35) hO dX10_jam_31 (by decide) ?_
          exact j_iret hM dX10_jam_35 (Nat.le_of_ble_eq_true rfl) (Nat.le_of_ble_eq_true rfl) ⟨by unfold jamA; rw [if_pos ⟨c1, c9, c13, c18⟩, nn_nI (by omega), nn_nI (by omega)], rfl⟩
set_option maxHeartbeats 4000000 in
set_option maxRecDepth 100000 in
theorem c_10_isKind (l : Launch) (S : St) (α : Al) (b kd : Int32) (hm : MSh S) : Ct l yX10_isKind cX10_isKind 3 (some .boolean) (rm 1 0 0 21) [.ref (sA S 10 0), .int b, .int kd] (wr S α) (fun r S' => r = some (.int (isK α b kd)) ∧ S' = wr S α) := by
  refine Ct.of (by decide) (Nat.le_of_ble_eq_true rfl) (fun X hM => ?_)
  have hO := hM.1
  obtain rfl := hM.l
  show Jg X 0 0 (wr S α) 0 [(0, .ref (sA S 10 0)), (1, .int b), (2, .int kd)] []
  refine j_aload_n (q := 1) hO dX10_isKind_0 rfl rfl ?_
  refine j_iload_n (q := 2) hO dX10_isKind_1 rfl rfl ?_
  refine j_callV (x := 10) (q := 5) hO (c_10_isBelt (lx X) _ _ hm.1) M_10_isBelt mw_653 CK_10 rfl hm.1 rfl rfl rfl (by unfold roomy; rw [hM.R]; exact ⟨⟨Nat.le_of_ble_eq_true rfl, Nat.le_of_ble_eq_true rfl⟩, ⟨Nat.le_of_ble_eq_true rfl, Nat.le_of_ble_eq_true rfl⟩, Nat.le_of_ble_eq_true rfl⟩) dX10_isKind_2 rfl (fun v_2 S_2 hp_2 => ?_)
  obtain ⟨rfl, rfl⟩ := hp_2
  refine j_if_eq (tgt := 21) (q := 8) hO dX10_isKind_5 rfl (by decide) (fun c5 => ?_) (fun c5 => ?_)
  · refine j_iconst (v := 0) (q := 22) hO dX10_isKind_21 rfl (by decide) ?_
    exact j_zret hM dX10_isKind_22 (Nat.le_of_ble_eq_true rfl) (Nat.le_of_ble_eq_true rfl) (by decide) ⟨by unfold isK; rw [if_neg (fun z => z.1 c5)], rfl⟩
  · refine j_iload_n (q := 9) hO dX10_isKind_8 rfl rfl ?_
    refine j_if_lt (tgt := 21) (q := 12) hO dX10_isKind_9 rfl (by decide) (fun c9 => ?_) (fun c9 => ?_)
    · refine j_iconst (v := 0) (q := 22) hO dX10_isKind_21 rfl (by decide) ?_
      exact j_zret hM dX10_isKind_22 (Nat.le_of_ble_eq_true rfl) (Nat.le_of_ble_eq_true rfl) (by decide) ⟨by unfold isK; rw [if_neg (fun z => z.2.1 c9)], rfl⟩
    · refine j_iload_n (q := 13) hO dX10_isKind_12 rfl rfl ?_
      refine j_iconst (v := 5) (q := 14) hO dX10_isKind_13 rfl (by decide) ?_
      refine j_icmp_ge (tgt := 21) (q := 17) hO dX10_isKind_14 rfl (by decide) (fun c14 => ?_) (fun c14 => ?_)
      · refine j_iconst (v := 0) (q := 22) hO dX10_isKind_21 rfl (by decide) ?_
        exact j_zret hM dX10_isKind_22 (Nat.le_of_ble_eq_true rfl) (Nat.le_of_ble_eq_true rfl) (by decide) ⟨by unfold isK; rw [if_neg (fun z => z.2.2 c14)], rfl⟩
      · refine j_iconst (v := 1) (q := 18) hO dX10_isKind_17 rfl (by decide) ?_
        refine j_goto (tgt := 22) hO dX10_isKind_18 (by decide) ?_
        exact j_zret hM dX10_isKind_22 (Nat.le_of_ble_eq_true rfl) (Nat.le_of_ble_eq_true rfl) (by decide) ⟨by unfold isK; rw [if_pos ⟨c5, c9, c14⟩], rfl⟩
set_option maxHeartbeats 4000000 in
set_option maxRecDepth 100000 in
theorem c_10_out (l : Launch) (S : St) (α : Al) (nb : Nat) (b kd : Int32) (hm : MSh S) (hnb : aI α 0 1 = nI nb) (hb6 : nb ≤ 6) : Ct l yX10_out cX10_out 3 (some .long) (rm 2 0 0 43) [.ref (sA S 10 0), .int b, .int kd] (wr S α) (fun r S' => r = some (.long (outA α b kd)) ∧ S' = wr S α) := by
  refine Ct.of (by decide) (Nat.le_of_ble_eq_true rfl) (fun X hM => ?_)
  have hO := hM.1
  obtain rfl := hM.l
  show Jg X 0 0 (wr S α) 0 [(0, .ref (sA S 10 0)), (1, .int b), (2, .int kd)] []
  refine j_aload_n (q := 1) hO dX10_out_0 rfl rfl ?_
  refine j_iload_n (q := 2) hO dX10_out_1 rfl rfl ?_
  refine j_iload_n (q := 3) hO dX10_out_2 rfl rfl ?_
  refine j_callV (x := 10) (q := 6) hO (c_10_isKind (lx X) S _ _ _ hm) M_10_isKind mw_746 CK_10 rfl hm.1 rfl rfl rfl (by unfold roomy; rw [hM.R]; exact ⟨⟨Nat.le_of_ble_eq_true rfl, Nat.le_of_ble_eq_true rfl⟩, ⟨Nat.le_of_ble_eq_true rfl, Nat.le_of_ble_eq_true rfl⟩, Nat.le_of_ble_eq_true rfl⟩) dX10_out_3 rfl (fun v_3 S_3 hp_3 => ?_)
  obtain ⟨rfl, rfl⟩ := hp_3
  refine j_if_eq (tgt := 23) (q := 9) hO dX10_out_6 rfl (by decide) (fun c6 => ?_) (fun c6 => ?_)
  · refine j_ldc2 (q := 26) hO dX10_out_23 rfl mw_750 ?_
    exact j_lret hM dX10_out_26 (Nat.le_of_ble_eq_true rfl) (Nat.le_of_ble_eq_true rfl) ⟨by unfold outA; rw [if_pos c6], rfl⟩
  · obtain ⟨q1, q2, q3⟩ := isK_in c6
    obtain ⟨bb, hbb, rfl⟩ := iB_in hnb hb6 q1
    obtain ⟨kk, hkk, rfl⟩ := kd_in q2 q3
    refine j_aload_n (q := 10) hO dX10_out_9 rfl rfl ?_
    refine m_getA (j := 41) (x := 51) (q := 13) hO hm dX10_out_10 rfl mw_539 (by decide) rfl rfl ?_
    refine j_iconst (v := 5) (q := 14) hO dX10_out_13 rfl (by decide) ?_
    refine j_iload_n (q := 15) hO dX10_out_14 rfl rfl ?_
    refine j_imul (q := 16) hO dX10_out_15 rfl ?_
    refine j_iload_n (q := 17) hO dX10_out_16 rfl rfl ?_
    refine j_iadd (q := 18) hO dX10_out_17 rfl ?_
    refine m_iald (x := 51) (a := 32) (q := 19) hO hm MK_51 dX10_out_18 rfl rfl (j := 5 * bb + kk) (ix5 bb kk) (by omega) ?_
    refine j_i2l (q := 20) hO dX10_out_19 rfl ?_
    refine j_goto (tgt := 26) hO dX10_out_20 (by decide) ?_
    exact j_lret hM dX10_out_26 (Nat.le_of_ble_eq_true rfl) (Nat.le_of_ble_eq_true rfl) ⟨by unfold outA; rw [if_neg c6, nn_nI (by omega), nn_nI (by omega)], rfl⟩
set_option maxHeartbeats 4000000 in
set_option maxRecDepth 100000 in
theorem c_10_lost (l : Launch) (S : St) (α : Al) (x : Int32) (hm : MSh S) : Ct l yX10_lost cX10_lost 2 (some .long) (rm 0 0 0 0) [.ref (sA S 10 0), .int x] (wr S α) (fun r S' => r = some (.long (lostA α x)) ∧ S' = wr S α) := by
  refine Ct.of (by decide) (Nat.le_of_ble_eq_true rfl) (fun X hM => ?_)
  have hO := hM.1
  obtain rfl := hM.l
  show Jg X 0 0 (wr S α) 0 [(0, .ref (sA S 10 0)), (1, .int x)] []
  refine j_iload_n (q := 1) hO dX10_lost_0 rfl rfl ?_
  refine j_if_lt (tgt := 18) (q := 4) hO dX10_lost_1 rfl (by decide) (fun c1 => ?_) (fun c1 => ?_)
  · refine j_ldc2 (q := 21) hO dX10_lost_18 rfl mw_750 ?_
    exact j_lret hM dX10_lost_21 (Nat.le_of_ble_eq_true rfl) (Nat.le_of_ble_eq_true rfl) ⟨by unfold lostA; rw [if_neg (fun z => z.1 c1)], rfl⟩
  · refine j_iload_n (q := 5) hO dX10_lost_4 rfl rfl ?_
    refine j_iconst (v := 4) (q := 6) hO dX10_lost_5 rfl (by decide) ?_
    refine j_icmp_ge (tgt := 18) (q := 9) hO dX10_lost_6 rfl (by decide) (fun c6 => ?_) (fun c6 => ?_)
    · refine j_ldc2 (q := 21) hO dX10_lost_18 rfl mw_750 ?_
      exact j_lret hM dX10_lost_21 (Nat.le_of_ble_eq_true rfl) (Nat.le_of_ble_eq_true rfl) ⟨by unfold lostA; rw [if_neg (fun z => z.2 c6)], rfl⟩
    · obtain ⟨cc, hcc, rfl⟩ := w_in c1 c6
      refine j_aload_n (q := 10) hO dX10_lost_9 rfl rfl ?_
      refine m_getA (j := 40) (x := 50) (q := 13) hO hm dX10_lost_10 rfl mw_538 (by decide) rfl rfl ?_
      refine j_iload_n (q := 14) hO dX10_lost_13 rfl rfl ?_
      refine m_lald (x := 50) (a := 31) (q := 15) hO hm MK_50 dX10_lost_14 rfl rfl (j := cc) rfl (by omega) ?_
      refine j_goto (tgt := 21) hO dX10_lost_15 (by decide) ?_
      exact j_lret hM dX10_lost_21 (Nat.le_of_ble_eq_true rfl) (Nat.le_of_ble_eq_true rfl) ⟨by unfold lostA; rw [if_pos ⟨c1, c6⟩, nn_nI (by omega)], rfl⟩
set_option maxHeartbeats 4000000 in
set_option maxRecDepth 100000 in
theorem c_10_inside (l : Launch) (S : St) (α : Al) (np : Nat) (hm : MSh S) (hnp : aI α 0 26 = nI np) (hn60 : np ≤ 60) : Ct l yX10_inside cX10_inside 1 (some .long) (rm 1 0 0 23) [.ref (sA S 10 0)] (wr S α) (fun r S' => r = some (.long (inA α np)) ∧ S' = wr S α) := by
  refine Ct.of (by decide) (Nat.le_of_ble_eq_true rfl) (fun X hM => ?_)
  have hO := hM.1
  obtain rfl := hM.l
  show Jg X 0 0 (wr S α) 0 [(0, .ref (sA S 10 0))] []
  refine j_aload_n (q := 1) hO dX10_inside_0 rfl rfl ?_
  refine j_iconst (v := 1) (q := 2) hO dX10_inside_1 rfl (by decide) ?_
  refine j_callV (x := 10) (q := 5) hO (c_10_count (lx X) S _ np 1 hm hnp hn60) M_10_count mw_755 CK_10 rfl hm.1 rfl rfl rfl (by unfold roomy; rw [hM.R]; exact ⟨⟨Nat.le_of_ble_eq_true rfl, Nat.le_of_ble_eq_true rfl⟩, ⟨Nat.le_of_ble_eq_true rfl, Nat.le_of_ble_eq_true rfl⟩, Nat.le_of_ble_eq_true rfl⟩) dX10_inside_2 rfl (fun v_2 S_2 hp_2 => ?_)
  obtain ⟨rfl, rfl⟩ := hp_2
  refine j_aload_n (q := 6) hO dX10_inside_5 rfl rfl ?_
  refine j_iconst (v := 2) (q := 7) hO dX10_inside_6 rfl (by decide) ?_
  refine j_callV (x := 10) (q := 10) hO (c_10_count (lx X) S _ np 2 hm hnp hn60) M_10_count mw_755 CK_10 rfl hm.1 rfl rfl rfl (by unfold roomy; rw [hM.R]; exact ⟨⟨Nat.le_of_ble_eq_true rfl, Nat.le_of_ble_eq_true rfl⟩, ⟨Nat.le_of_ble_eq_true rfl, Nat.le_of_ble_eq_true rfl⟩, Nat.le_of_ble_eq_true rfl⟩) dX10_inside_7 rfl (fun v_7 S_7 hp_7 => ?_)
  obtain ⟨rfl, rfl⟩ := hp_7
  refine j_iadd (q := 11) hO dX10_inside_10 rfl ?_
  refine j_i2l (q := 12) hO dX10_inside_11 rfl ?_
  exact j_lret hM dX10_inside_12 (Nat.le_of_ble_eq_true rfl) (Nat.le_of_ble_eq_true rfl) ⟨rfl, rfl⟩
set_option maxHeartbeats 4000000 in
set_option maxRecDepth 100000 in
theorem c_10_interval (l : Launch) (S : St) (α : Al) (nb : Nat) (b kd e : Int32) (hm : MSh S) (hnb : aI α 0 1 = nI nb) (hb6 : nb ≤ 6) : Ct l yX10_interval cX10_interval 4 (some .double) (rm 2 0 0 43) [.ref (sA S 10 0), .int b, .int kd, .int e] (wr S α) (fun r S' => r = some (.double (intA α b kd e)) ∧ S' = wr S α) := by
  refine Ct.of (by decide) (Nat.le_of_ble_eq_true rfl) (fun X hM => ?_)
  have hO := hM.1
  obtain rfl := hM.l
  show Jg X 0 0 (wr S α) 0 [(0, .ref (sA S 10 0)), (1, .int b), (2, .int kd), (3, .int e)] []
  refine j_aload_n (q := 1) hO dX10_interval_0 rfl rfl ?_
  refine j_iload_n (q := 2) hO dX10_interval_1 rfl rfl ?_
  refine j_iload_n (q := 3) hO dX10_interval_2 rfl rfl ?_
  refine j_callV (x := 10) (q := 6) hO (c_10_isKind (lx X) S _ _ _ hm) M_10_isKind mw_746 CK_10 rfl hm.1 rfl rfl rfl (by unfold roomy; rw [hM.R]; exact ⟨⟨Nat.le_of_ble_eq_true rfl, Nat.le_of_ble_eq_true rfl⟩, ⟨Nat.le_of_ble_eq_true rfl, Nat.le_of_ble_eq_true rfl⟩, Nat.le_of_ble_eq_true rfl⟩) dX10_interval_3 rfl (fun v_3 S_3 hp_3 => ?_)
  obtain ⟨rfl, rfl⟩ := hp_3
  refine j_if_eq (tgt := 32) (q := 9) hO dX10_interval_6 rfl (by decide) (fun c6 => ?_) (fun c6 => ?_)
  · refine j_ldc2d (q := 35) hO dX10_interval_32 rfl mw_771 ?_
    exact j_dret hM dX10_interval_35 (Nat.le_of_ble_eq_true rfl) (Nat.le_of_ble_eq_true rfl) ⟨by unfold intA; rw [if_neg (fun z => z.1 c6)], rfl⟩
  · refine j_iload_n (q := 10) hO dX10_interval_9 rfl rfl ?_
    refine j_if_lt (tgt := 32) (q := 13) hO dX10_interval_10 rfl (by decide) (fun c10 => ?_) (fun c10 => ?_)
    · refine j_ldc2d (q := 35) hO dX10_interval_32 rfl mw_771 ?_
      exact j_dret hM dX10_interval_35 (Nat.le_of_ble_eq_true rfl) (Nat.le_of_ble_eq_true rfl) ⟨by unfold intA; rw [if_neg (fun z => z.2.1 c10)], rfl⟩
    · refine j_iload_n (q := 14) hO dX10_interval_13 rfl rfl ?_
      refine j_iconst (v := 1) (q := 15) hO dX10_interval_14 rfl (by decide) ?_
      refine j_icmp_gt (tgt := 32) (q := 18) hO dX10_interval_15 rfl (by decide) (fun c15 => ?_) (fun c15 => ?_)
      · refine j_ldc2d (q := 35) hO dX10_interval_32 rfl mw_771 ?_
        exact j_dret hM dX10_interval_35 (Nat.le_of_ble_eq_true rfl) (Nat.le_of_ble_eq_true rfl) ⟨by unfold intA; rw [if_neg (fun z => z.2.2.1 c15)], rfl⟩
      · obtain ⟨q1, q2, q3⟩ := isK_in c6
        obtain ⟨bb, hbb, rfl⟩ := iB_in hnb hb6 q1
        obtain ⟨kk, hkk, rfl⟩ := kd_in q2 q3
        refine j_aload_n (q := 19) hO dX10_interval_18 rfl rfl ?_
        refine m_getA (j := 41) (x := 51) (q := 22) hO hm dX10_interval_19 rfl mw_539 (by decide) rfl rfl ?_
        refine j_iconst (v := 5) (q := 23) hO dX10_interval_22 rfl (by decide) ?_
        refine j_iload_n (q := 24) hO dX10_interval_23 rfl rfl ?_
        refine j_imul (q := 25) hO dX10_interval_24 rfl ?_
        refine j_iload_n (q := 26) hO dX10_interval_25 rfl rfl ?_
        refine j_iadd (q := 27) hO dX10_interval_26 rfl ?_
        refine m_iald (x := 51) (a := 32) (q := 28) hO hm MK_51 dX10_interval_27 rfl rfl (j := 5 * bb + kk) (ix5 bb kk) (by omega) ?_
        refine j_iconst (v := 2) (q := 29) hO dX10_interval_28 rfl (by decide) ?_
        refine j_icmp_ge (tgt := 36) (q := 32) hO dX10_interval_29 rfl (by decide) (fun c29 => ?_) (fun c29 => ?_)
        · refine j_iload_n (q := 37) hO dX10_interval_36 rfl rfl ?_
          refine j_if_ne (tgt := 53) (q := 40) hO dX10_interval_37 rfl (by decide) (fun c37 => ?_) (fun c37 => ?_)
          · refine j_aload_n (q := 54) hO dX10_interval_53 rfl rfl ?_
            refine m_getA (j := 44) (x := 54) (q := 57) hO hm dX10_interval_54 rfl mw_542 (by decide) rfl rfl ?_
            refine j_iconst (v := 5) (q := 58) hO dX10_interval_57 rfl (by decide) ?_
            refine j_iload_n (q := 59) hO dX10_interval_58 rfl rfl ?_
            refine j_imul (q := 60) hO dX10_interval_59 rfl ?_
            refine j_iload_n (q := 61) hO dX10_interval_60 rfl rfl ?_
            refine j_iadd (q := 62) hO dX10_interval_61 rfl ?_
            refine m_iald (x := 54) (a := 35) (q := 63) hO hm MK_54 dX10_interval_62 rfl rfl (j := 5 * bb + kk) (ix5 bb kk) (by omega) ?_
            refine j_i2d (q := 64) hO dX10_interval_63 rfl ?_
            refine j_ldc2d (q := 67) hO dX10_interval_64 rfl mw_676 ?_
            refine j_ddiv (q := 68) hO dX10_interval_67 rfl (n64_of (ddiv_ok (i2d_ok _) (dNz_of (by decide +kernel)))) ?_
            exact j_dret hM dX10_interval_68 (Nat.le_of_ble_eq_true rfl) (Nat.le_of_ble_eq_true rfl) ⟨by unfold intA; rw [nn_nI (by omega), nn_nI (by omega), if_pos ⟨c6, c10, c15, c29⟩, if_neg c37], rfl⟩
          · refine j_aload_n (q := 41) hO dX10_interval_40 rfl rfl ?_
            refine m_getA (j := 43) (x := 53) (q := 44) hO hm dX10_interval_41 rfl mw_541 (by decide) rfl rfl ?_
            refine j_iconst (v := 5) (q := 45) hO dX10_interval_44 rfl (by decide) ?_
            refine j_iload_n (q := 46) hO dX10_interval_45 rfl rfl ?_
            refine j_imul (q := 47) hO dX10_interval_46 rfl ?_
            refine j_iload_n (q := 48) hO dX10_interval_47 rfl rfl ?_
            refine j_iadd (q := 49) hO dX10_interval_48 rfl ?_
            refine m_iald (x := 53) (a := 34) (q := 50) hO hm MK_53 dX10_interval_49 rfl rfl (j := 5 * bb + kk) (ix5 bb kk) (by omega) ?_
            refine j_goto (tgt := 63) hO dX10_interval_50 (by decide) ?_
            refine j_i2d (q := 64) hO dX10_interval_63 rfl ?_
            refine j_ldc2d (q := 67) hO dX10_interval_64 rfl mw_676 ?_
            refine j_ddiv (q := 68) hO dX10_interval_67 rfl (n64_of (ddiv_ok (i2d_ok _) (dNz_of (by decide +kernel)))) ?_
            exact j_dret hM dX10_interval_68 (Nat.le_of_ble_eq_true rfl) (Nat.le_of_ble_eq_true rfl) ⟨by unfold intA; rw [nn_nI (by omega), nn_nI (by omega), if_pos ⟨c6, c10, c15, c29⟩, if_pos c37], rfl⟩
        · refine j_ldc2d (q := 35) hO dX10_interval_32 rfl mw_771 ?_
          exact j_dret hM dX10_interval_35 (Nat.le_of_ble_eq_true rfl) (Nat.le_of_ble_eq_true rfl) ⟨by unfold intA; rw [nn_nI (by omega), nn_nI (by omega), if_neg (fun z => c29 z.2.2.2)], rfl⟩
set_option maxHeartbeats 4000000 in
set_option maxRecDepth 100000 in
theorem c_10_pieceKind (l : Launch) (S : St) (α : Al) (np : Nat) (x : Int64) (hm : MSh S) (hnp : aI α 0 26 = nI np) (hn60 : np ≤ 60) : Ct l yX10_pieceKind cX10_pieceKind 3 (some .int) (rm 0 0 0 0) [.ref (sA S 10 0), .long x] (wr S α) (fun r S' => r = some (.int (pkA α x)) ∧ S' = wr S α) := by
  refine Ct.of (by decide) (Nat.le_of_ble_eq_true rfl) (fun X hM => ?_)
  have hO := hM.1
  obtain rfl := hM.l
  show Jg X 0 0 (wr S α) 0 [(0, .ref (sA S 10 0)), (1, .long x)] []
  refine j_lload_n (q := 1) hO dX10_pieceKind_0 rfl rfl ?_
  refine j_lconst (v := 0) (q := 2) hO dX10_pieceKind_1 rfl (by decide) ?_
  refine j_lcmp (q := 3) hO dX10_pieceKind_2 rfl ?_
  refine j_if_lt (tgt := 26) (q := 6) hO dX10_pieceKind_3 rfl (by decide) (fun c3 => ?_) (fun c3 => ?_)
  · refine j_iconst (v := (-1)) (q := 27) hO dX10_pieceKind_26 rfl (by decide) ?_
    exact j_iret hM dX10_pieceKind_27 (Nat.le_of_ble_eq_true rfl) (Nat.le_of_ble_eq_true rfl) ⟨by unfold pkA; rw [if_neg (fun z => z.1 c3)], rfl⟩
  · refine j_lload_n (q := 7) hO dX10_pieceKind_6 rfl rfl ?_
    refine j_aload_n (q := 8) hO dX10_pieceKind_7 rfl rfl ?_
    refine m_getI (j := 26) (q := 11) hO hm dX10_pieceKind_8 rfl mw_524 (by decide) rfl ?_
    refine j_i2l (q := 12) hO dX10_pieceKind_11 rfl ?_
    refine j_lcmp (q := 13) hO dX10_pieceKind_12 rfl ?_
    refine j_if_ge (tgt := 26) (q := 16) hO dX10_pieceKind_13 rfl (by decide) (fun c13 => ?_) (fun c13 => ?_)
    · refine j_iconst (v := (-1)) (q := 27) hO dX10_pieceKind_26 rfl (by decide) ?_
      exact j_iret hM dX10_pieceKind_27 (Nat.le_of_ble_eq_true rfl) (Nat.le_of_ble_eq_true rfl) ⟨by unfold pkA; rw [if_neg (fun z => z.2 c13)], rfl⟩
    · obtain ⟨jj, hjj, rfl⟩ := pk_in2 hnp hn60 c3 c13
      refine j_aload_n (q := 17) hO dX10_pieceKind_16 rfl rfl ?_
      refine m_getA (j := 27) (x := 40) (q := 20) hO hm dX10_pieceKind_17 rfl mw_525 (by decide) rfl rfl ?_
      refine j_lload_n (q := 21) hO dX10_pieceKind_20 rfl rfl ?_
      refine j_l2i (q := 22) hO dX10_pieceKind_21 rfl ?_
      refine m_iald (x := 40) (a := 21) (q := 23) hO hm MK_40 dX10_pieceKind_22 rfl rfl (j := jj) (lN_i jj) (by omega) ?_
      refine j_goto (tgt := 27) hO dX10_pieceKind_23 (by decide) ?_
      exact j_iret hM dX10_pieceKind_27 (Nat.le_of_ble_eq_true rfl) (Nat.le_of_ble_eq_true rfl) ⟨by unfold pkA; rw [if_pos ⟨c3, c13⟩, lN_i, nn_nI (by omega)], rfl⟩

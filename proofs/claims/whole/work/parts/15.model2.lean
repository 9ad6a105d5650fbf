set_option maxHeartbeats 4000000 in
set_option maxRecDepth 100000 in
theorem c_10_count (l : Launch) (S : St) (α : Al) (np : Nat) (s : Int32) (hm : MSh S) (hnp : aI α 0 26 = nI np) (hn60 : np ≤ 60) : Ct l yX10_count cX10_count 4 (some .int) (rm 0 0 0 0) [.ref (sA S 10 0), .int s] (wr S α) (fun r S' => r = some (.int (nI (ctF α s np))) ∧ S' = wr S α) := by
  refine Ct.of (by decide) (Nat.le_of_ble_eq_true rfl) (fun X hM => ?_)
  have hO := hM.1
  obtain rfl := hM.l
  show Jg X 0 0 (wr S α) 0 [(0, .ref (sA S 10 0)), (1, .int s)] []
  have loop : ∀ m h, h + m = np → Jg X 0 0 (wr S α) 4 [(0, .ref (sA S 10 0)), (1, .int s), (2, .int (nI (ctF α s h))), (3, .int (nI h))] [] := by
    intro m
    induction m with
    | zero =>
      intro h hz
      obtain rfl : h = np := by omega
      refine j_iload_n (q := 5) hO dX10_count_4 rfl rfl ?_
      refine j_aload_n (q := 6) hO dX10_count_5 rfl rfl ?_
      refine m_getI (j := 26) (q := 9) hO hm dX10_count_6 rfl mw_524 (by decide) rfl ?_
      refine j_icmp_ge (tgt := 36) (q := 12) hO dX10_count_9 rfl (by decide) (fun ct => ?_) (fun ct => ?_)
      · refine j_iload_n (q := 37) hO dX10_count_36 rfl rfl ?_
        exact j_iret hM dX10_count_37 (Nat.le_of_ble_eq_true rfl) (Nat.le_of_ble_eq_true rfl) ⟨rfl, rfl⟩
      · exact absurd (by first | (rw [hnp]; exact nI_le (Nat.le_refl _) (by omega)) | exact Int32.le_refl _) ct
    | succ m ih =>
      intro h hz
      refine j_iload_n (q := 5) hO dX10_count_4 rfl rfl ?_
      refine j_aload_n (q := 6) hO dX10_count_5 rfl rfl ?_
      refine m_getI (j := 26) (q := 9) hO hm dX10_count_6 rfl mw_524 (by decide) rfl ?_
      refine j_icmp_ge (tgt := 36) (q := 12) hO dX10_count_9 rfl (by decide) (fun ct => ?_) (fun ct => ?_)
      · exact absurd ct (by first | (rw [hnp]; exact nI_ge (by omega) (by omega)) | exact nI_ge (by omega) (by omega))
      · refine j_iload_n (q := 13) hO dX10_count_12 rfl rfl ?_
        refine j_aload_n (q := 14) hO dX10_count_13 rfl rfl ?_
        refine m_getA (j := 31) (x := 44) (q := 17) hO hm dX10_count_14 rfl mw_529 (by decide) rfl rfl ?_
        refine j_iload_n (q := 18) hO dX10_count_17 rfl rfl ?_
        refine m_iald (x := 44) (a := 25) (q := 19) hO hm MK_44 dX10_count_18 rfl rfl rfl (by omega) ?_
        refine j_iload_n (q := 20) hO dX10_count_19 rfl rfl ?_
        refine j_icmp_ne (tgt := 27) (q := 23) hO dX10_count_20 rfl (by decide) (fun c20 => ?_) (fun c20 => ?_)
        · refine j_iconst (v := 0) (q := 28) hO dX10_count_27 rfl (by decide) ?_
          refine j_iadd (q := 29) hO dX10_count_28 rfl ?_
          refine j_istore_n (q := 30) hO dX10_count_29 rfl (by rw [hM.nL]; decide) rfl ?_
          refine j_iinc (v := nI (h + 1)) (q := 33) hO dX10_count_30 rfl rfl (nI_S h) (by rw [hM.nL]; decide) rfl ?_
          refine j_goto (tgt := 4) hO dX10_count_33 (by decide) ?_
          refine Jg.lv (lv' := [(0, .ref (sA S 10 0)), (1, .int s), (2, .int (nI (ctF α s (h + 1)))), (3, .int (nI (h + 1)))]) ⟨rfl, rfl, (congrArg (fun z => some (Value.int z)) (ct_s0 c20)), rfl, trivial⟩ ?_
          exact ih (h + 1) (by omega)
        · refine j_iconst (v := 1) (q := 24) hO dX10_count_23 rfl (by decide) ?_
          refine j_goto (tgt := 28) hO dX10_count_24 (by decide) ?_
          refine j_iadd (q := 29) hO dX10_count_28 rfl ?_
          refine j_istore_n (q := 30) hO dX10_count_29 rfl (by rw [hM.nL]; decide) rfl ?_
          refine j_iinc (v := nI (h + 1)) (q := 33) hO dX10_count_30 rfl rfl (nI_S h) (by rw [hM.nL]; decide) rfl ?_
          refine j_goto (tgt := 4) hO dX10_count_33 (by decide) ?_
          refine Jg.lv (lv' := [(0, .ref (sA S 10 0)), (1, .int s), (2, .int (nI (ctF α s (h + 1)))), (3, .int (nI (h + 1)))]) ⟨rfl, rfl, (congrArg (fun z => some (Value.int z)) (ct_s1 c20)), rfl, trivial⟩ ?_
          exact ih (h + 1) (by omega)
  refine j_iconst (v := 0) (q := 1) hO dX10_count_0 rfl (by decide) ?_
  refine j_istore_n (q := 2) hO dX10_count_1 rfl (by rw [hM.nL]; decide) rfl ?_
  refine j_iconst (v := 0) (q := 3) hO dX10_count_2 rfl (by decide) ?_
  refine j_istore_n (q := 4) hO dX10_count_3 rfl (by rw [hM.nL]; decide) rfl ?_
  refine Jg.lv (lv' := [(0, .ref (sA S 10 0)), (1, .int s), (2, .int (nI (ctF α s 0))), (3, .int (nI 0))]) ⟨rfl, rfl, rfl, rfl, trivial⟩ ?_
  exact loop np 0 (by omega)
set_option maxHeartbeats 4000000 in
set_option maxRecDepth 100000 in
theorem c_10_piecesOn (l : Launch) (S : St) (α : Al) (np : Nat) (b : Int32) (hm : MSh S) (hnp : aI α 0 26 = nI np) (hn60 : np ≤ 60) : Ct l yX10_piecesOn cX10_piecesOn 4 (some .int) (rm 0 0 0 0) [.ref (sA S 10 0), .int b] (wr S α) (fun r S' => r = some (.int (nI (pcF α b np))) ∧ S' = wr S α) := by
  refine Ct.of (by decide) (Nat.le_of_ble_eq_true rfl) (fun X hM => ?_)
  have hO := hM.1
  obtain rfl := hM.l
  show Jg X 0 0 (wr S α) 0 [(0, .ref (sA S 10 0)), (1, .int b)] []
  have loop : ∀ m h, h + m = np → Jg X 0 0 (wr S α) 4 [(0, .ref (sA S 10 0)), (1, .int b), (2, .int (nI (pcF α b h))), (3, .int (nI h))] [] := by
    intro m
    induction m with
    | zero =>
      intro h hz
      obtain rfl : h = np := by omega
      refine j_iload_n (q := 5) hO dX10_piecesOn_4 rfl rfl ?_
      refine j_aload_n (q := 6) hO dX10_piecesOn_5 rfl rfl ?_
      refine m_getI (j := 26) (q := 9) hO hm dX10_piecesOn_6 rfl mw_524 (by decide) rfl ?_
      refine j_icmp_ge (tgt := 46) (q := 12) hO dX10_piecesOn_9 rfl (by decide) (fun ct => ?_) (fun ct => ?_)
      · refine j_iload_n (q := 47) hO dX10_piecesOn_46 rfl rfl ?_
        exact j_iret hM dX10_piecesOn_47 (Nat.le_of_ble_eq_true rfl) (Nat.le_of_ble_eq_true rfl) ⟨rfl, rfl⟩
      · exact absurd (by first | (rw [hnp]; exact nI_le (Nat.le_refl _) (by omega)) | exact Int32.le_refl _) ct
    | succ m ih =>
      intro h hz
      refine j_iload_n (q := 5) hO dX10_piecesOn_4 rfl rfl ?_
      refine j_aload_n (q := 6) hO dX10_piecesOn_5 rfl rfl ?_
      refine m_getI (j := 26) (q := 9) hO hm dX10_piecesOn_6 rfl mw_524 (by decide) rfl ?_
      refine j_icmp_ge (tgt := 46) (q := 12) hO dX10_piecesOn_9 rfl (by decide) (fun ct => ?_) (fun ct => ?_)
      · exact absurd ct (by first | (rw [hnp]; exact nI_ge (by omega) (by omega)) | exact nI_ge (by omega) (by omega))
      · refine j_iload_n (q := 13) hO dX10_piecesOn_12 rfl rfl ?_
        refine j_aload_n (q := 14) hO dX10_piecesOn_13 rfl rfl ?_
        refine m_getA (j := 31) (x := 44) (q := 17) hO hm dX10_piecesOn_14 rfl mw_529 (by decide) rfl rfl ?_
        refine j_iload_n (q := 18) hO dX10_piecesOn_17 rfl rfl ?_
        refine m_iald (x := 44) (a := 25) (q := 19) hO hm MK_44 dX10_piecesOn_18 rfl rfl rfl (by omega) ?_
        refine j_iconst (v := 1) (q := 20) hO dX10_piecesOn_19 rfl (by decide) ?_
        refine j_icmp_ne (tgt := 37) (q := 23) hO dX10_piecesOn_20 rfl (by decide) (fun c20 => ?_) (fun c20 => ?_)
        · refine j_iconst (v := 0) (q := 38) hO dX10_piecesOn_37 rfl (by decide) ?_
          refine j_iadd (q := 39) hO dX10_piecesOn_38 rfl ?_
          refine j_istore_n (q := 40) hO dX10_piecesOn_39 rfl (by rw [hM.nL]; decide) rfl ?_
          refine j_iinc (v := nI (h + 1)) (q := 43) hO dX10_piecesOn_40 rfl rfl (nI_S h) (by rw [hM.nL]; decide) rfl ?_
          refine j_goto (tgt := 4) hO dX10_piecesOn_43 (by decide) ?_
          refine Jg.lv (lv' := [(0, .ref (sA S 10 0)), (1, .int b), (2, .int (nI (pcF α b (h + 1)))), (3, .int (nI (h + 1)))]) ⟨rfl, rfl, (congrArg (fun z => some (Value.int z)) (pc_s0 (fun z => c20 z.1))), rfl, trivial⟩ ?_
          exact ih (h + 1) (by omega)
        · refine j_aload_n (q := 24) hO dX10_piecesOn_23 rfl rfl ?_
          refine m_getA (j := 32) (x := 45) (q := 27) hO hm dX10_piecesOn_24 rfl mw_530 (by decide) rfl rfl ?_
          refine j_iload_n (q := 28) hO dX10_piecesOn_27 rfl rfl ?_
          refine m_iald (x := 45) (a := 26) (q := 29) hO hm MK_45 dX10_piecesOn_28 rfl rfl rfl (by omega) ?_
          refine j_iload_n (q := 30) hO dX10_piecesOn_29 rfl rfl ?_
          refine j_icmp_ne (tgt := 37) (q := 33) hO dX10_piecesOn_30 rfl (by decide) (fun c30 => ?_) (fun c30 => ?_)
          · refine j_iconst (v := 0) (q := 38) hO dX10_piecesOn_37 rfl (by decide) ?_
            refine j_iadd (q := 39) hO dX10_piecesOn_38 rfl ?_
            refine j_istore_n (q := 40) hO dX10_piecesOn_39 rfl (by rw [hM.nL]; decide) rfl ?_
            refine j_iinc (v := nI (h + 1)) (q := 43) hO dX10_piecesOn_40 rfl rfl (nI_S h) (by rw [hM.nL]; decide) rfl ?_
            refine j_goto (tgt := 4) hO dX10_piecesOn_43 (by decide) ?_
            refine Jg.lv (lv' := [(0, .ref (sA S 10 0)), (1, .int b), (2, .int (nI (pcF α b (h + 1)))), (3, .int (nI (h + 1)))]) ⟨rfl, rfl, (congrArg (fun z => some (Value.int z)) (pc_s0 (fun z => c30 z.2))), rfl, trivial⟩ ?_
            exact ih (h + 1) (by omega)
          · refine j_iconst (v := 1) (q := 34) hO dX10_piecesOn_33 rfl (by decide) ?_
            refine j_goto (tgt := 38) hO dX10_piecesOn_34 (by decide) ?_
            refine j_iadd (q := 39) hO dX10_piecesOn_38 rfl ?_
            refine j_istore_n (q := 40) hO dX10_piecesOn_39 rfl (by rw [hM.nL]; decide) rfl ?_
            refine j_iinc (v := nI (h + 1)) (q := 43) hO dX10_piecesOn_40 rfl rfl (nI_S h) (by rw [hM.nL]; decide) rfl ?_
            refine j_goto (tgt := 4) hO dX10_piecesOn_43 (by decide) ?_
            refine Jg.lv (lv' := [(0, .ref (sA S 10 0)), (1, .int b), (2, .int (nI (pcF α b (h + 1)))), (3, .int (nI (h + 1)))]) ⟨rfl, rfl, (congrArg (fun z => some (Value.int z)) (pc_s1 ⟨c20, c30⟩)), rfl, trivial⟩ ?_
            exact ih (h + 1) (by omega)
  refine j_iconst (v := 0) (q := 1) hO dX10_piecesOn_0 rfl (by decide) ?_
  refine j_istore_n (q := 2) hO dX10_piecesOn_1 rfl (by rw [hM.nL]; decide) rfl ?_
  refine j_iconst (v := 0) (q := 3) hO dX10_piecesOn_2 rfl (by decide) ?_
  refine j_istore_n (q := 4) hO dX10_piecesOn_3 rfl (by rw [hM.nL]; decide) rfl ?_
  refine Jg.lv (lv' := [(0, .ref (sA S 10 0)), (1, .int b), (2, .int (nI (pcF α b 0))), (3, .int (nI 0))]) ⟨rfl, rfl, rfl, rfl, trivial⟩ ?_
  exact loop np 0 (by omega)
set_option maxHeartbeats 4000000 in
set_option maxRecDepth 100000 in
theorem c_10_sizesOn (l : Launch) (S : St) (α : Al) (np : Nat) (b w : Int32) (hm : MSh S) (hnp : aI α 0 26 = nI np) (hn60 : np ≤ 60) (hsz : ∀ j, j < np → dNn (aD α 22 j)) : Ct l yX10_sizesOn cX10_sizesOn 6 (some .double) (rm 0 0 0 0) [.ref (sA S 10 0), .int b, .int w] (wr S α) (fun r S' => r = some (.double (szF α b w np)) ∧ S' = wr S α) := by
  refine Ct.of (by decide) (Nat.le_of_ble_eq_true rfl) (fun X hM => ?_)
  have hO := hM.1
  obtain rfl := hM.l
  show Jg X 0 0 (wr S α) 0 [(0, .ref (sA S 10 0)), (1, .int b), (2, .int w)] []
  have loop : ∀ m h, h + m = np → Jg X 0 0 (wr S α) 5 [(0, .ref (sA S 10 0)), (1, .int b), (2, .int w), (3, .double (szF α b w h)), (5, .int (nI h))] [] := by
    intro m
    induction m with
    | zero =>
      intro h hz
      obtain rfl : h = np := by omega
      refine j_iload (q := 7) hO dX10_sizesOn_5 rfl rfl ?_
      refine j_aload_n (q := 8) hO dX10_sizesOn_7 rfl rfl ?_
      refine m_getI (j := 26) (q := 11) hO hm dX10_sizesOn_8 rfl mw_524 (by decide) rfl ?_
      refine j_icmp_ge (tgt := 62) (q := 14) hO dX10_sizesOn_11 rfl (by decide) (fun ct => ?_) (fun ct => ?_)
      · refine j_dload_n (q := 63) hO dX10_sizesOn_62 rfl rfl ?_
        exact j_dret hM dX10_sizesOn_63 (Nat.le_of_ble_eq_true rfl) (Nat.le_of_ble_eq_true rfl) ⟨rfl, rfl⟩
      · exact absurd (by first | (rw [hnp]; exact nI_le (Nat.le_refl _) (by omega)) | exact Int32.le_refl _) ct
    | succ m ih =>
      intro h hz
      refine j_iload (q := 7) hO dX10_sizesOn_5 rfl rfl ?_
      refine j_aload_n (q := 8) hO dX10_sizesOn_7 rfl rfl ?_
      refine m_getI (j := 26) (q := 11) hO hm dX10_sizesOn_8 rfl mw_524 (by decide) rfl ?_
      refine j_icmp_ge (tgt := 62) (q := 14) hO dX10_sizesOn_11 rfl (by decide) (fun ct => ?_) (fun ct => ?_)
      · exact absurd ct (by first | (rw [hnp]; exact nI_ge (by omega) (by omega)) | exact nI_ge (by omega) (by omega))
      · refine j_dload_n (q := 15) hO dX10_sizesOn_14 rfl rfl ?_
        refine j_iload (q := 17) hO dX10_sizesOn_15 rfl rfl ?_
        refine j_iload_n (q := 18) hO dX10_sizesOn_17 rfl rfl ?_
        refine j_icmp_eq (tgt := 43) (q := 21) hO dX10_sizesOn_18 rfl (by decide) (fun c18 => ?_) (fun c18 => ?_)
        · refine j_aload_n (q := 44) hO dX10_sizesOn_43 rfl rfl ?_
          refine m_getA (j := 28) (x := 41) (q := 47) hO hm dX10_sizesOn_44 rfl mw_526 (by decide) rfl rfl ?_
          refine j_iload (q := 49) hO dX10_sizesOn_47 rfl rfl ?_
          refine m_dald (x := 41) (a := 22) (q := 50) hO hm MK_41 dX10_sizesOn_49 rfl rfl rfl (by omega) ?_
          refine j_goto (tgt := 54) hO dX10_sizesOn_50 (by decide) ?_
          refine j_dadd (q := 55) hO dX10_sizesOn_54 rfl (n64_of (dadd_nn (szF_pz hsz h (by omega)).1 (hsz h (by omega))).ok) ?_
          refine j_dstore_n (q := 56) hO dX10_sizesOn_55 rfl (by rw [hM.nL]; decide) rfl ?_
          refine j_iinc (v := nI (h + 1)) (q := 59) hO dX10_sizesOn_56 rfl rfl (nI_S h) (by rw [hM.nL]; decide) rfl ?_
          refine j_goto (tgt := 5) hO dX10_sizesOn_59 (by decide) ?_
          refine Jg.lv (lv' := [(0, .ref (sA S 10 0)), (1, .int b), (2, .int w), (3, .double (szF α b w (h + 1))), (5, .int (nI (h + 1)))]) ⟨rfl, rfl, rfl, (congrArg (fun z => some (Value.double z)) (sz_s1 (Or.inl c18))), rfl, trivial⟩ ?_
          exact ih (h + 1) (by omega)
        · refine j_aload_n (q := 22) hO dX10_sizesOn_21 rfl rfl ?_
          refine m_getA (j := 31) (x := 44) (q := 25) hO hm dX10_sizesOn_22 rfl mw_529 (by decide) rfl rfl ?_
          refine j_iload (q := 27) hO dX10_sizesOn_25 rfl rfl ?_
          refine m_iald (x := 44) (a := 25) (q := 28) hO hm MK_44 dX10_sizesOn_27 rfl rfl rfl (by omega) ?_
          refine j_iconst (v := 1) (q := 29) hO dX10_sizesOn_28 rfl (by decide) ?_
          refine j_icmp_ne (tgt := 53) (q := 32) hO dX10_sizesOn_29 rfl (by decide) (fun c29 => ?_) (fun c29 => ?_)
          · refine j_dconst0 (q := 54) hO dX10_sizesOn_53 rfl ?_
            refine j_dadd (q := 55) hO dX10_sizesOn_54 rfl (n64_of (dadd_nn (szF_pz hsz h (by omega)).1 nn_0).ok) ?_
            refine j_dstore_n (q := 56) hO dX10_sizesOn_55 rfl (by rw [hM.nL]; decide) rfl ?_
            refine j_iinc (v := nI (h + 1)) (q := 59) hO dX10_sizesOn_56 rfl rfl (nI_S h) (by rw [hM.nL]; decide) rfl ?_
            refine j_goto (tgt := 5) hO dX10_sizesOn_59 (by decide) ?_
            refine Jg.lv (lv' := [(0, .ref (sA S 10 0)), (1, .int b), (2, .int w), (3, .double (szF α b w (h + 1))), (5, .int (nI (h + 1)))]) ⟨rfl, rfl, rfl, (congrArg (fun z => some (Value.double z)) (sz_s0 c18 (fun z => c29 z.1))), rfl, trivial⟩ ?_
            exact ih (h + 1) (by omega)
          · refine j_aload_n (q := 33) hO dX10_sizesOn_32 rfl rfl ?_
            refine m_getA (j := 32) (x := 45) (q := 36) hO hm dX10_sizesOn_33 rfl mw_530 (by decide) rfl rfl ?_
            refine j_iload (q := 38) hO dX10_sizesOn_36 rfl rfl ?_
            refine m_iald (x := 45) (a := 26) (q := 39) hO hm MK_45 dX10_sizesOn_38 rfl rfl rfl (by omega) ?_
            refine j_iload_n (q := 40) hO dX10_sizesOn_39 rfl rfl ?_
            refine j_icmp_ne (tgt := 53) (q := 43) hO dX10_sizesOn_40 rfl (by decide) (fun c40 => ?_) (fun c40 => ?_)
            · refine j_dconst0 (q := 54) hO dX10_sizesOn_53 rfl ?_
              refine j_dadd (q := 55) hO dX10_sizesOn_54 rfl (n64_of (dadd_nn (szF_pz hsz h (by omega)).1 nn_0).ok) ?_
              refine j_dstore_n (q := 56) hO dX10_sizesOn_55 rfl (by rw [hM.nL]; decide) rfl ?_
              refine j_iinc (v := nI (h + 1)) (q := 59) hO dX10_sizesOn_56 rfl rfl (nI_S h) (by rw [hM.nL]; decide) rfl ?_
              refine j_goto (tgt := 5) hO dX10_sizesOn_59 (by decide) ?_
              refine Jg.lv (lv' := [(0, .ref (sA S 10 0)), (1, .int b), (2, .int w), (3, .double (szF α b w (h + 1))), (5, .int (nI (h + 1)))]) ⟨rfl, rfl, rfl, (congrArg (fun z => some (Value.double z)) (sz_s0 c18 (fun z => c40 z.2))), rfl, trivial⟩ ?_
              exact ih (h + 1) (by omega)
            · refine j_aload_n (q := 44) hO dX10_sizesOn_43 rfl rfl ?_
              refine m_getA (j := 28) (x := 41) (q := 47) hO hm dX10_sizesOn_44 rfl mw_526 (by decide) rfl rfl ?_
              refine j_iload (q := 49) hO dX10_sizesOn_47 rfl rfl ?_
              refine m_dald (x := 41) (a := 22) (q := 50) hO hm MK_41 dX10_sizesOn_49 rfl rfl rfl (by omega) ?_
              refine j_goto (tgt := 54) hO dX10_sizesOn_50 (by decide) ?_
              refine j_dadd (q := 55) hO dX10_sizesOn_54 rfl (n64_of (dadd_nn (szF_pz hsz h (by omega)).1 (hsz h (by omega))).ok) ?_
              refine j_dstore_n (q := 56) hO dX10_sizesOn_55 rfl (by rw [hM.nL]; decide) rfl ?_
              refine j_iinc (v := nI (h + 1)) (q := 59) hO dX10_sizesOn_56 rfl rfl (nI_S h) (by rw [hM.nL]; decide) rfl ?_
              refine j_goto (tgt := 5) hO dX10_sizesOn_59 (by decide) ?_
              refine Jg.lv (lv' := [(0, .ref (sA S 10 0)), (1, .int b), (2, .int w), (3, .double (szF α b w (h + 1))), (5, .int (nI (h + 1)))]) ⟨rfl, rfl, rfl, (congrArg (fun z => some (Value.double z)) (sz_s1 (Or.inr ⟨c29, c40⟩))), rfl, trivial⟩ ?_
              exact ih (h + 1) (by omega)
  refine j_dconst0 (q := 1) hO dX10_sizesOn_0 rfl ?_
  refine j_dstore_n (q := 2) hO dX10_sizesOn_1 rfl (by rw [hM.nL]; decide) rfl ?_
  refine j_iconst (v := 0) (q := 3) hO dX10_sizesOn_2 rfl (by decide) ?_
  refine j_istore (q := 5) hO dX10_sizesOn_3 rfl (by rw [hM.nL]; decide) rfl ?_
  refine Jg.lv (lv' := [(0, .ref (sA S 10 0)), (1, .int b), (2, .int w), (3, .double (szF α b w 0)), (5, .int (nI 0))]) ⟨rfl, rfl, rfl, rfl, rfl, trivial⟩ ?_
  exact loop np 0 (by omega)
set_option maxHeartbeats 4000000 in
set_option maxRecDepth 100000 in
theorem c_10_pass (l : Launch) (S : St) (α : Al) (n nh p : Nat) (hm : MSh S) (hnh : aI α 0 9 = nI nh) (hn8 : nh ≤ 8) (hp : p < 60) (hT : TT α n) (hn : n + 8 < 2 ^ 30) : Ct l yX10_pass cX10_pass 3 (none : Option Jvm.ClassFile.FieldType) (rm 1 0 0 24) [.ref (sA S 10 0), .int (nI p)] (wr S α) (fun r S' => r = none ∧ S' = wr S (passL α p nh)) := by
  refine Ct.of (by decide) (Nat.le_of_ble_eq_true rfl) (fun X hM => ?_)
  have hO := hM.1
  obtain rfl := hM.l
  show Jg X 0 0 (wr S α) 0 [(0, .ref (sA S 10 0)), (1, .int (nI p))] []
  have loop : ∀ m h, h + m = nh → Jg X 0 0 (wr S (passL α p h)) 2 [(0, .ref (sA S 10 0)), (1, .int (nI p)), (2, .int (nI h))] [] := by
    intro m
    induction m with
    | zero =>
      intro h hz
      obtain rfl : h = nh := by omega
      have hh := (passL_I (α := α) (p := p) (k := 0) (j := 9) (by decide) (by decide) h).trans hnh
      refine j_iload_n (q := 3) hO dX10_pass_2 rfl rfl ?_
      refine j_aload_n (q := 4) hO dX10_pass_3 rfl rfl ?_
      refine m_getI (j := 9) (q := 7) hO hm dX10_pass_4 rfl mw_507 (by decide) rfl ?_
      refine j_icmp_ge (tgt := 73) (q := 10) hO dX10_pass_7 rfl (by decide) (fun ct => ?_) (fun ct => ?_)
      · exact j_vret hM dX10_pass_73 (Nat.le_of_ble_eq_true rfl) (Nat.le_of_ble_eq_true rfl) ⟨rfl, rfl⟩
      · exact absurd (by first | (rw [hh]; exact nI_le (Nat.le_refl _) (by omega)) | exact Int32.le_refl _) ct
    | succ m ih =>
      intro h hz
      have hh := (passL_I (α := α) (p := p) (k := 0) (j := 9) (by decide) (by decide) h).trans hnh
      refine j_iload_n (q := 3) hO dX10_pass_2 rfl rfl ?_
      refine j_aload_n (q := 4) hO dX10_pass_3 rfl rfl ?_
      refine m_getI (j := 9) (q := 7) hO hm dX10_pass_4 rfl mw_507 (by decide) rfl ?_
      refine j_icmp_ge (tgt := 73) (q := 10) hO dX10_pass_7 rfl (by decide) (fun ct => ?_) (fun ct => ?_)
      · exact absurd ct (by first | (rw [hh]; exact nI_ge (by omega) (by omega)) | exact nI_ge (by omega) (by omega))
      · refine j_aload_n (q := 11) hO dX10_pass_10 rfl rfl ?_
        refine m_getA (j := 10) (x := 27) (q := 14) hO hm dX10_pass_11 rfl mw_508 (by decide) rfl rfl ?_
        refine j_iload_n (q := 15) hO dX10_pass_14 rfl rfl ?_
        refine m_iald (x := 27) (a := 8) (q := 16) hO hm MK_27 dX10_pass_15 rfl rfl rfl (by omega) ?_
        refine j_aload_n (q := 17) hO dX10_pass_16 rfl rfl ?_
        refine m_getA (j := 32) (x := 45) (q := 20) hO hm dX10_pass_17 rfl mw_530 (by decide) rfl rfl ?_
        refine j_iload_n (q := 21) hO dX10_pass_20 rfl rfl ?_
        refine m_iald (x := 45) (a := 26) (q := 22) hO hm MK_45 dX10_pass_21 rfl rfl rfl (by omega) ?_
        refine j_icmp_ne (tgt := 67) (q := 25) hO dX10_pass_22 rfl (by decide) (fun c22 => ?_) (fun c22 => ?_)
        · refine j_iinc (v := nI (h + 1)) (q := 70) hO dX10_pass_67 rfl rfl (nI_S h) (by rw [hM.nL]; decide) rfl ?_
          refine j_goto (tgt := 2) hO dX10_pass_70 (by decide) ?_
          refine Jg.lv (lv' := [(0, .ref (sA S 10 0)), (1, .int (nI p)), (2, .int (nI (h + 1)))]) ⟨rfl, rfl, rfl, trivial⟩ ?_
          rw [← (pass_s (fun z => c22 z.1) : passL α p (h + 1) = _)]
          exact ih (h + 1) (by omega)
        · refine j_aload_n (q := 26) hO dX10_pass_25 rfl rfl ?_
          refine m_getA (j := 11) (x := 28) (q := 29) hO hm dX10_pass_26 rfl mw_509 (by decide) rfl rfl ?_
          refine j_iload_n (q := 30) hO dX10_pass_29 rfl rfl ?_
          refine m_iald (x := 28) (a := 9) (q := 31) hO hm MK_28 dX10_pass_30 rfl rfl rfl (by omega) ?_
          refine j_aload_n (q := 32) hO dX10_pass_31 rfl rfl ?_
          refine m_getA (j := 33) (x := 46) (q := 35) hO hm dX10_pass_32 rfl mw_531 (by decide) rfl rfl ?_
          refine j_iload_n (q := 36) hO dX10_pass_35 rfl rfl ?_
          refine m_iald (x := 46) (a := 27) (q := 37) hO hm MK_46 dX10_pass_36 rfl rfl rfl (by omega) ?_
          refine j_icmp_ne (tgt := 67) (q := 40) hO dX10_pass_37 rfl (by decide) (fun c37 => ?_) (fun c37 => ?_)
          · refine j_iinc (v := nI (h + 1)) (q := 70) hO dX10_pass_67 rfl rfl (nI_S h) (by rw [hM.nL]; decide) rfl ?_
            refine j_goto (tgt := 2) hO dX10_pass_70 (by decide) ?_
            refine Jg.lv (lv' := [(0, .ref (sA S 10 0)), (1, .int (nI p)), (2, .int (nI (h + 1)))]) ⟨rfl, rfl, rfl, trivial⟩ ?_
            rw [← (pass_s (fun z => c37 z.2) : passL α p (h + 1) = _)]
            exact ih (h + 1) (by omega)
          · refine j_aload_n (q := 41) hO dX10_pass_40 rfl rfl ?_
            refine j_iload_n (q := 42) hO dX10_pass_41 rfl rfl ?_
            refine j_aload_n (q := 43) hO dX10_pass_42 rfl rfl ?_
            refine j_iload_n (q := 44) hO dX10_pass_43 rfl rfl ?_
            refine j_iload_n (q := 45) hO dX10_pass_44 rfl rfl ?_
            refine j_callV (x := 10) (q := 48) hO (c_10_chance (lx X) S _ _ _ hm) M_10_chance mw_717 CK_10 rfl hm.1 rfl rfl rfl (by unfold roomy; rw [hM.R]; exact ⟨⟨Nat.le_of_ble_eq_true rfl, Nat.le_of_ble_eq_true rfl⟩, ⟨Nat.le_of_ble_eq_true rfl, Nat.le_of_ble_eq_true rfl⟩, Nat.le_of_ble_eq_true rfl⟩) dX10_pass_45 rfl (fun v_45 S_45 hp_45 => ?_)
            obtain ⟨rfl, rfl⟩ := hp_45
            refine j_aload_n (q := 49) hO dX10_pass_48 rfl rfl ?_
            refine m_getA (j := 12) (x := 29) (q := 52) hO hm dX10_pass_49 rfl mw_510 (by decide) rfl rfl ?_
            refine j_iload_n (q := 53) hO dX10_pass_52 rfl rfl ?_
            refine m_dald (x := 29) (a := 10) (q := 54) hO hm MK_29 dX10_pass_53 rfl rfl rfl (by omega) ?_
            refine j_dcmp (q := 55) hO dX10_pass_54 rfl ?_
            refine j_if_ge (tgt := 62) (q := 58) hO dX10_pass_55 rfl (by decide) (fun c55 => ?_) (fun c55 => ?_)
            · refine j_iconst (v := 1) (q := 63) hO dX10_pass_62 rfl (by decide) ?_
              refine j_iload_n (q := 64) hO dX10_pass_63 rfl rfl ?_
              refine j_callV (x := 10) (q := 67) hO (c_10_note (lx X) S _ (n + h) _ _ _ hm (passL_T hT h) (by omega)) M_10_note mw_701 CK_10 rfl hm.1 rfl rfl rfl (by unfold roomy; rw [hM.R]; exact ⟨⟨Nat.le_of_ble_eq_true rfl, Nat.le_of_ble_eq_true rfl⟩, ⟨Nat.le_of_ble_eq_true rfl, Nat.le_of_ble_eq_true rfl⟩, Nat.le_of_ble_eq_true rfl⟩) dX10_pass_64 rfl (fun v_64 S_64 hp_64 => ?_)
              obtain ⟨rfl, rfl⟩ := hp_64
              refine j_iinc (v := nI (h + 1)) (q := 70) hO dX10_pass_67 rfl rfl (nI_S h) (by rw [hM.nL]; decide) rfl ?_
              refine j_goto (tgt := 2) hO dX10_pass_70 (by decide) ?_
              refine Jg.lv (lv' := [(0, .ref (sA S 10 0)), (1, .int (nI p)), (2, .int (nI (h + 1)))]) ⟨rfl, rfl, rfl, trivial⟩ ?_
              rw [← (pass_y1 c22 c37 c55 : passL α p (h + 1) = _)]
              exact ih (h + 1) (by omega)
            · refine j_iconst (v := 2) (q := 59) hO dX10_pass_58 rfl (by decide) ?_
              refine j_goto (tgt := 63) hO dX10_pass_59 (by decide) ?_
              refine j_iload_n (q := 64) hO dX10_pass_63 rfl rfl ?_
              refine j_callV (x := 10) (q := 67) hO (c_10_note (lx X) S _ (n + h) _ _ _ hm (passL_T hT h) (by omega)) M_10_note mw_701 CK_10 rfl hm.1 rfl rfl rfl (by unfold roomy; rw [hM.R]; exact ⟨⟨Nat.le_of_ble_eq_true rfl, Nat.le_of_ble_eq_true rfl⟩, ⟨Nat.le_of_ble_eq_true rfl, Nat.le_of_ble_eq_true rfl⟩, Nat.le_of_ble_eq_true rfl⟩) dX10_pass_64 rfl (fun v_64 S_64 hp_64 => ?_)
              obtain ⟨rfl, rfl⟩ := hp_64
              refine j_iinc (v := nI (h + 1)) (q := 70) hO dX10_pass_67 rfl rfl (nI_S h) (by rw [hM.nL]; decide) rfl ?_
              refine j_goto (tgt := 2) hO dX10_pass_70 (by decide) ?_
              refine Jg.lv (lv' := [(0, .ref (sA S 10 0)), (1, .int (nI p)), (2, .int (nI (h + 1)))]) ⟨rfl, rfl, rfl, trivial⟩ ?_
              rw [← (pass_y2 c22 c37 c55 : passL α p (h + 1) = _)]
              exact ih (h + 1) (by omega)
  refine j_iconst (v := 0) (q := 1) hO dX10_pass_0 rfl (by decide) ?_
  refine j_istore_n (q := 2) hO dX10_pass_1 rfl (by rw [hM.nL]; decide) rfl ?_
  refine Jg.lv (lv' := [(0, .ref (sA S 10 0)), (1, .int (nI p)), (2, .int (nI 0))]) ⟨rfl, rfl, rfl, trivial⟩ ?_
  exact loop nh 0 (by omega)

set_option maxHeartbeats 4000000 in
set_option maxRecDepth 100000 in
theorem c_9_loadWith (l : Launch) (S : St) (α : Al) (nb nh nu nr nk np n p b : Nat) (k : Kx S α nb nh nu nr nk np n) (hp : p < np) (hb : b < nb) : Ct l yX9_loadWith cX9_loadWith 7 (some .double) (rm 0 0 0 0) [.ref (sA S 9 0), .ref (sA S 6 p), .ref (sA S 0 b)] S (fun r S' => r = some (.double (szF α (nI b) (nI p) np)) ∧ S' = S) := by
  refine Ct.of (by decide) (Nat.le_of_ble_eq_true rfl) (fun X hM => ?_)
  have hO := hM.1
  obtain rfl := hM.l
  show Jg X 0 0 S 0 [(0, .ref (sA S 9 0)), (1, .ref (sA S 6 p)), (2, .ref (sA S 0 b))] []
  refine Jg.inj (fun hinj => ?_)
  have kT := k
  have np60 := k.2.2.1.2.2.2.2.2.1.2
  have n6 := k.2.2.1.1.2
  have hcnt := k.2.1.2.1.2.2.2.2.2.2.trans k.2.2.1.2.2.2.2.2.1.1
  have hpc : p < sC S 6 := by have := k.2.1.1.2.2.2.2.2.1; omega
  have hbc : b < sC S 0 := by have := k.2.1.1.1; omega
  have hN16 := k.1.2.2.2.2.2.2.2.2.1
  have hsz : ∀ j, j < np → dNn (aD α 22 j) := fun j hj => (k.2.2.1.2.2.2.2.2.2.2.2.2.2 j hj).2.1.nn
  have loop : ∀ m h, h + m = np → Jg X 0 0 S 5 [(0, .ref (sA S 9 0)), (1, .ref (sA S 6 p)), (2, .ref (sA S 0 b)), (3, .double (szF α (nI b) (nI p) h)), (5, .int (nI h))] [] := by
    intro m
    induction m with
    | zero =>
      intro h hz
      obtain rfl : h = np := by omega
      refine j_iload (q := 7) hO dX9_loadWith_5 rfl rfl ?_
      refine j_aload_n (q := 8) hO dX9_loadWith_7 rfl rfl ?_
      refine j_getI (x := 9) (j := 15) (q := 11) hO CK_9 dX9_loadWith_8 rfl mw_87 rfl kT.1.c9 rfl rfl (by decide) (Or.inl rfl) ?_
      refine j_icmp_ge (tgt := 52) (q := 14) hO dX9_loadWith_11 rfl (by decide) (fun c11 => ?_) (fun c11 => ?_)
      · refine j_dload_n (q := 53) hO dX9_loadWith_52 rfl rfl ?_
        exact j_dret hM dX9_loadWith_53 (Nat.le_of_ble_eq_true rfl) (Nat.le_of_ble_eq_true rfl) ⟨rfl, rfl⟩
      · exact absurd (by rw [hcnt]; exact nI_le (Nat.le_refl _) (by omega)) c11
    | succ m ih =>
      intro h hz
      refine j_iload (q := 7) hO dX9_loadWith_5 rfl rfl ?_
      refine j_aload_n (q := 8) hO dX9_loadWith_7 rfl rfl ?_
      refine j_getI (x := 9) (j := 15) (q := 11) hO CK_9 dX9_loadWith_8 rfl mw_87 rfl kT.1.c9 rfl rfl (by decide) (Or.inl rfl) ?_
      refine j_icmp_ge (tgt := 52) (q := 14) hO dX9_loadWith_11 rfl (by decide) (fun c11 => ?_) (fun c11 => ?_)
      · exact absurd c11 (by rw [hcnt]; exact nI_ge (by omega) (by omega))
      · have hh6 : h < sC S 6 := by have := k.2.1.1.2.2.2.2.2.1; omega
        obtain ⟨e16, enum, -, -, -, e4⟩ := k.2.1.2.2.2.2.2.2.2 h (by omega)
        have onb := k.2.2.2.1.onb hinj k.2.1.1.1 n6 (show h < np by omega) hb
        refine j_aload_n (q := 15) hO dX9_loadWith_14 rfl rfl ?_
        refine j_getRs (x := 9) (j := 6) (q := 18) hO CK_9 dX9_loadWith_15 rfl mw_78 rfl kT.1.c9 rfl rfl (by decide) rfl kT.1.r6 ?_
        refine j_iload (q := 20) hO dX9_loadWith_18 rfl rfl ?_
        refine j_aald (x := 16) (c0 := 9) (q := 21) hO dX9_loadWith_20 rfl rfl kT.1.c16 rfl rfl (fun _ => rfl) rfl (j := h) rfl (by omega) (by omega) ?_
        rw [e16]
        refine j_astore (q := 23) hO dX9_loadWith_21 rfl (by rw [hM.nL]; decide) rfl ?_
        refine j_aload (q := 25) hO dX9_loadWith_23 rfl rfl ?_
        refine j_aload_n (q := 26) hO dX9_loadWith_25 rfl rfl ?_
        refine j_acmp_eq (rx := some (sA S 6 h)) (ry := some (sA S 6 p)) (tgt := 38) (q := 29) hO dX9_loadWith_26 rfl (by decide) rfl rfl (fun c26 => ?_) (fun c26 => ?_)
        · refine j_dload_n (q := 39) hO dX9_loadWith_38 rfl rfl ?_
          refine j_aload (q := 41) hO dX9_loadWith_39 rfl rfl ?_
          refine j_getD (x := 6) (j := 4) (q := 44) hO CK_6 dX9_loadWith_41 rfl mw_338 rfl hh6 rfl rfl (by decide) rfl ?_
          refine j_dadd (q := 45) hO dX9_loadWith_44 rfl (n64_of (by show dOk (FP.dadd _ (sD S 6 h 4)); rw [e4]; exact (dadd_nn (szF_pz hsz h (by omega)).1 (hsz h (by omega))).ok)) ?_
          refine j_dstore_n (q := 46) hO dX9_loadWith_45 rfl (by rw [hM.nL]; decide) rfl ?_
          refine j_iinc (v := nI (h + 1)) (q := 49) hO dX9_loadWith_46 rfl rfl (nI_S h) (by rw [hM.nL]; decide) rfl ?_
          refine j_goto (tgt := 5) hO dX9_loadWith_49 (by decide) ?_
          refine Jg.lv (lv' := [(0, .ref (sA S 9 0)), (1, .ref (sA S 6 p)), (2, .ref (sA S 0 b)), (3, .double (szF α (nI b) (nI p) (h + 1))), (5, .int (nI (h + 1)))]) ⟨rfl, rfl, rfl, (congrArg (fun z => some (Value.double z)) (by show FP.dadd _ (sD S 6 h 4) = _; rw [e4]; exact sz_s1 (Or.inl (congrArg nI (show h = p from hinj 6 h p hh6 hpc (Option.some.inj c26)))))), rfl, trivial⟩ ?_
          exact ih (h + 1) (by omega)
        · refine j_aload (q := 31) hO dX9_loadWith_29 rfl rfl ?_
          refine j_getR (x := 6) (j := 5) (q := 34) hO CK_6 dX9_loadWith_31 rfl mw_339 rfl hh6 rfl rfl (by decide) rfl ?_
          refine j_aload_n (q := 35) hO dX9_loadWith_34 rfl rfl ?_
          refine j_acmp_ne (rx := (sR S 6 h 5).map (sA S 0)) (ry := some (sA S 0 b)) (tgt := 46) (q := 38) hO dX9_loadWith_35 rfl (by decide) rfl rfl (fun c35 => ?_) (fun c35 => ?_)
          · refine j_iinc (v := nI (h + 1)) (q := 49) hO dX9_loadWith_46 rfl rfl (nI_S h) (by rw [hM.nL]; decide) rfl ?_
            refine j_goto (tgt := 5) hO dX9_loadWith_49 (by decide) ?_
            refine Jg.lv (lv' := [(0, .ref (sA S 9 0)), (1, .ref (sA S 6 p)), (2, .ref (sA S 0 b)), (3, .double (szF α (nI b) (nI p) (h + 1))), (5, .int (nI (h + 1)))]) ⟨rfl, rfl, rfl, (congrArg (fun z => some (Value.double z)) (sz_sk hsz (show h < np by omega) (fun z => c26 (by rw [show h = p from (nI_eq (by omega) (by omega)).mp z])) (fun z => c35 (onb.mpr z)))), rfl, trivial⟩ ?_
            exact ih (h + 1) (by omega)
          · refine j_dload_n (q := 39) hO dX9_loadWith_38 rfl rfl ?_
            refine j_aload (q := 41) hO dX9_loadWith_39 rfl rfl ?_
            refine j_getD (x := 6) (j := 4) (q := 44) hO CK_6 dX9_loadWith_41 rfl mw_338 rfl hh6 rfl rfl (by decide) rfl ?_
            refine j_dadd (q := 45) hO dX9_loadWith_44 rfl (n64_of (by show dOk (FP.dadd _ (sD S 6 h 4)); rw [e4]; exact (dadd_nn (szF_pz hsz h (by omega)).1 (hsz h (by omega))).ok)) ?_
            refine j_dstore_n (q := 46) hO dX9_loadWith_45 rfl (by rw [hM.nL]; decide) rfl ?_
            refine j_iinc (v := nI (h + 1)) (q := 49) hO dX9_loadWith_46 rfl rfl (nI_S h) (by rw [hM.nL]; decide) rfl ?_
            refine j_goto (tgt := 5) hO dX9_loadWith_49 (by decide) ?_
            refine Jg.lv (lv' := [(0, .ref (sA S 9 0)), (1, .ref (sA S 6 p)), (2, .ref (sA S 0 b)), (3, .double (szF α (nI b) (nI p) (h + 1))), (5, .int (nI (h + 1)))]) ⟨rfl, rfl, rfl, (congrArg (fun z => some (Value.double z)) (by show FP.dadd _ (sD S 6 h 4) = _; rw [e4]; exact sz_s1 (Or.inr (onb.mp c35)))), rfl, trivial⟩ ?_
            exact ih (h + 1) (by omega)
  refine j_dconst0 (q := 1) hO dX9_loadWith_0 rfl ?_
  refine j_dstore_n (q := 2) hO dX9_loadWith_1 rfl (by rw [hM.nL]; decide) rfl ?_
  refine j_iconst (v := 0) (q := 3) hO dX9_loadWith_2 rfl (by decide) ?_
  refine j_istore (q := 5) hO dX9_loadWith_3 rfl (by rw [hM.nL]; decide) rfl ?_
  refine Jg.lv (lv' := [(0, .ref (sA S 9 0)), (1, .ref (sA S 6 p)), (2, .ref (sA S 0 b)), (3, .double (szF α (nI b) (nI p) 0)), (5, .int (nI 0))]) ⟨rfl, rfl, rfl, rfl, rfl, trivial⟩ ?_
  exact loop np 0 (by omega)
set_option maxHeartbeats 4000000 in
set_option maxRecDepth 100000 in
theorem c_9_jamBy (l : Launch) (S : St) (α : Al) (nb nh nu nr nk np n jm p b : Nat) (k : Kx S α nb nh nu nr nk np n) (hn : n + 8 < 2 ^ 30) (hp : p < np) (hb : b < nb) (hlim : aI α 25 p = 0) (hjm : aI α 0 38 = nI jm) (hj60 : jm < 60) : Ct l yX9_jamBy cX9_jamBy 5 (none : Option Jvm.ClassFile.FieldType) (rm 1 0 0 24) [.ref (sA S 9 0), .ref (sA S 6 p), .ref (sA S 0 b)] S (fun r S' => r = none ∧ Sc S S' ∧ Cd S' (jamF α p b np) nb nu nk np) := by
  refine Ct.of (by decide) (Nat.le_of_ble_eq_true rfl) (fun X hM => ?_)
  have hO := hM.1
  obtain rfl := hM.l
  show Jg X 0 0 S 0 [(0, .ref (sA S 9 0)), (1, .ref (sA S 6 p)), (2, .ref (sA S 0 b))] []
  refine Jg.inj (fun hinj => ?_)
  have kT := k
  have np60 := k.2.2.1.2.2.2.2.2.1.2
  have n6 := k.2.2.1.1.2
  have hcnt := k.2.1.2.1.2.2.2.2.2.2.trans k.2.2.1.2.2.2.2.2.1.1
  have hpc : p < sC S 6 := by have := k.2.1.1.2.2.2.2.2.1; omega
  have hbc : b < sC S 0 := by have := k.2.1.1.1; omega
  have hN16 := k.1.2.2.2.2.2.2.2.2.1
  have hsz : ∀ j, j < np → dNn (aD α 22 j) := fun j hj => (k.2.2.1.2.2.2.2.2.2.2.2.2.2 j hj).2.1.nn
  have loop : ∀ m h, h + m = np → Jg X 0 0 S 5 [(0, .ref (sA S 9 0)), (1, .ref (sA S 6 p)), (2, .ref (sA S 0 b)), (3, .int (nI (pcF α (nI b) h))), (4, .int (nI h))] [] := by
    intro m
    induction m with
    | zero =>
      intro h hz
      obtain rfl : h = np := by omega
      refine j_iload (q := 7) hO dX9_jamBy_5 rfl rfl ?_
      refine j_aload_n (q := 8) hO dX9_jamBy_7 rfl rfl ?_
      refine j_getI (x := 9) (j := 15) (q := 11) hO CK_9 dX9_jamBy_8 rfl mw_87 rfl kT.1.c9 rfl rfl (by decide) (Or.inl rfl) ?_
      refine j_icmp_ge (tgt := 37) (q := 14) hO dX9_jamBy_11 rfl (by decide) (fun c11 => ?_) (fun c11 => ?_)
      · have hN19 := k.1.2.2.2.2.2.2.2.2.2.2.2
        obtain ⟨eb0, ebn, -, -, -⟩ := (k.2.1.2.2.1 b hb).1
        have eb8 := (k.2.1.2.2.1 b hb).2.2.1.2.2
        have epn := (k.2.1.2.2.2.2.2.2.2 p hp).2.1
        obtain ⟨tn, htn, htn2⟩ := k.2.2.2.2.2
        have d1 := k.2.2.2.1.1
        have dA : Cd (pI S 0 b 9 (sI S 9 0 16 + sI S 0 b 8)) (qI α 7 b (aI α 0 35 + aI α 6 b)) nb nu nk h := by rw [d1, eb8]; exact k.2.2.2.1.until
        have dB : Cd (pJ (pI S 0 b 9 (sI S 9 0 16 + sI S 0 b 8)) 19 0 0 (sJ S 19 0 0 + 1)) (qJ (qI (qI α 7 b (aI α 0 35 + aI α 6 b)) 25 p 5) 31 0 (aJ α 31 0 + 1)) nb nu nk h := dA.loses hp hlim (by decide)
        have dC : Cd (pJ (pJ (pI S 0 b 9 (sI S 9 0 16 + sI S 0 b 8)) 19 0 0 (sJ S 19 0 0 + 1)) 19 0 3 (sJ (pJ (pI S 0 b 9 (sI S 9 0 16 + sI S 0 b 8)) 19 0 0 (sJ S 19 0 0 + 1)) 19 0 3 + (sI S 0 b 8).toInt64)) (qJ (qJ (qI (qI α 7 b (aI α 0 35 + aI α 6 b)) 25 p 5) 31 0 (aJ α 31 0 + 1)) 31 3 (aJ α 31 3 + (aI α 6 b).toInt64)) nb nu nk h := dB.l3e (by rw [show sJ (pJ (pI S 0 b 9 (sI S 9 0 16 + sI S 0 b 8)) 19 0 0 (sJ S 19 0 0 + 1)) 19 0 3 = aJ α 31 3 from (show u3 (sJ S) 19 0 0 (sJ S 19 0 0 + 1) 19 0 3 = sJ S 19 0 3 from u3_ne (by omega)).trans (k.2.2.2.1.2.2.2.2.2.2.2.2.2.1 3 (by decide)), eb8])
        have shC : Sh (pJ (pJ (pI S 0 b 9 (sI S 9 0 16 + sI S 0 b 8)) 19 0 0 (sJ S 19 0 0 + 1)) 19 0 3 (sJ (pJ (pI S 0 b 9 (sI S 9 0 16 + sI S 0 b 8)) 19 0 0 (sJ S 19 0 0 + 1)) 19 0 3 + (sI S 0 b 8).toInt64)) := k.1.sc (((Sc.rf.I rfl).J).J)
        have hpcl := pcF_le (α := α) (b := nI b) h
        have dD := dC.jr (p := p) (b := b) (o := pcF α (nI b) h) shC hjm hj60 htn htn2 (by omega) (by omega) (by omega)
        obtain ⟨tt, htot, htot2, htot3⟩ := k.tot
        refine j_aload_n (q := 38) hO dX9_jamBy_37 rfl rfl ?_
        refine j_aload_n (q := 39) hO dX9_jamBy_38 rfl rfl ?_
        refine j_getI (x := 9) (j := 16) (q := 42) hO CK_9 dX9_jamBy_39 rfl mw_88 rfl kT.1.c9 rfl rfl (by decide) (Or.inl rfl) ?_
        refine j_aload_n (q := 43) hO dX9_jamBy_42 rfl rfl ?_
        refine j_getI (x := 0) (j := 8) (q := 46) hO CK_0 dX9_jamBy_43 rfl mw_177 rfl hbc rfl rfl (by decide) (Or.inl rfl) ?_
        refine j_iadd (q := 47) hO dX9_jamBy_46 rfl ?_
        refine j_putI (x := 0) (j := 9) (q := 50) hO CK_0 dX9_jamBy_47 rfl mw_179 rfl hbc rfl rfl (by decide) rfl (by decide +kernel) rfl ?_
        refine j_aload_n (q := 51) hO dX9_jamBy_50 rfl rfl ?_
        refine j_getRs (x := 9) (j := 9) (q := 54) hO CK_9 dX9_jamBy_51 rfl mw_81 rfl kT.1.c9 rfl rfl (by decide) rfl kT.1.r9 ?_
        refine j_getRs (x := 8) (j := 0) (q := 57) hO CK_8 dX9_jamBy_54 rfl mw_55 rfl kT.1.c8 rfl rfl (by decide) rfl kT.1.2.2.1.2.2 ?_
        refine j_iconst (v := 0) (q := 58) hO dX9_jamBy_57 rfl (by decide) ?_
        refine j_dup2_11 (q := 59) hO dX9_jamBy_58 rfl rfl rfl ?_
        refine j_lald (x := 19) (q := 60) hO dX9_jamBy_59 rfl rfl kT.1.c19 rfl rfl rfl (j := 0) rfl (show 0 < sN S 19 0 by rw [hN19]; decide) (show sN S 19 0 < 2 ^ 31 by rw [hN19]; decide) ?_
        refine j_lconst (v := 1) (q := 61) hO dX9_jamBy_60 rfl (by decide) ?_
        refine j_ladd (q := 62) hO dX9_jamBy_61 rfl ?_
        refine j_last (x := 19) (q := 63) hO dX9_jamBy_62 rfl rfl kT.1.c19 rfl rfl rfl (j := 0) rfl (show 0 < sN S 19 0 by rw [hN19]; decide) (show sN S 19 0 < 2 ^ 31 by rw [hN19]; decide) ?_
        refine j_aload_n (q := 64) hO dX9_jamBy_63 rfl rfl ?_
        refine j_getRs (x := 9) (j := 9) (q := 67) hO CK_9 dX9_jamBy_64 rfl mw_81 rfl kT.1.c9 rfl rfl (by decide) rfl kT.1.r9 ?_
        refine j_getRs (x := 8) (j := 0) (q := 70) hO CK_8 dX9_jamBy_67 rfl mw_55 rfl kT.1.c8 rfl rfl (by decide) rfl kT.1.2.2.1.2.2 ?_
        refine j_iconst (v := 3) (q := 71) hO dX9_jamBy_70 rfl (by decide) ?_
        refine j_dup2_11 (q := 72) hO dX9_jamBy_71 rfl rfl rfl ?_
        refine j_lald (x := 19) (q := 73) hO dX9_jamBy_72 rfl rfl kT.1.c19 rfl rfl rfl (j := 3) rfl (show 3 < sN S 19 0 by rw [hN19]; decide) (show sN S 19 0 < 2 ^ 31 by rw [hN19]; decide) ?_
        refine j_aload_n (q := 74) hO dX9_jamBy_73 rfl rfl ?_
        refine j_getI (x := 0) (j := 8) (q := 77) hO CK_0 dX9_jamBy_74 rfl mw_177 rfl hbc rfl rfl (by decide) (Or.inl rfl) ?_
        refine j_i2l (q := 78) hO dX9_jamBy_77 rfl ?_
        refine j_ladd (q := 79) hO dX9_jamBy_78 rfl ?_
        refine j_last (x := 19) (q := 80) hO dX9_jamBy_79 rfl rfl kT.1.c19 rfl rfl rfl (j := 3) rfl (show 3 < sN S 19 0 by rw [hN19]; decide) (show sN S 19 0 < 2 ^ 31 by rw [hN19]; decide) ?_
        refine j_aload_n (q := 81) hO dX9_jamBy_80 rfl rfl ?_
        refine j_getRs (x := 9) (j := 8) (q := 84) hO CK_9 dX9_jamBy_81 rfl mw_80 rfl kT.1.c9 rfl rfl (by decide) rfl kT.1.r8 ?_
        refine j_aload_n (q := 85) hO dX9_jamBy_84 rfl rfl ?_
        refine j_getI (x := 9) (j := 16) (q := 88) hO CK_9 dX9_jamBy_85 rfl mw_88 rfl kT.1.c9 rfl rfl (by decide) (Or.inl rfl) ?_
        refine j_aload_n (q := 89) hO dX9_jamBy_88 rfl rfl ?_
        refine j_getI (x := 6) (j := 0) (q := 92) hO CK_6 dX9_jamBy_89 rfl mw_330 rfl hpc rfl rfl (by decide) (Or.inl rfl) ?_
        refine j_aload_n (q := 93) hO dX9_jamBy_92 rfl rfl ?_
        refine j_getI (x := 0) (j := 0) (q := 96) hO CK_0 dX9_jamBy_93 rfl mw_166 rfl hbc rfl rfl (by decide) (Or.inl rfl) ?_
        refine j_iload_n (q := 97) hO dX9_jamBy_96 rfl rfl ?_
        refine j_callV (x := 3) (q := 100) hO (c_3_add (lx X) _ 1 jm _ _ _ _ k.1.c3 k.1.2.2.1.2.1 k.1.c18 (by show sN S 18 1 ≤ 2000; rw [k.1.2.2.2.2.2.2.2.2.2.2.1]; decide) ((show sI S 3 1 1 = aI α 0 38 from k.2.2.2.1.2.2.2.2.2.2.1.2).trans hjm) (by omega)) M_3_add mw_391 CK_3 rfl k.1.c3 rfl rfl rfl (by unfold roomy; rw [hM.R]; exact ⟨⟨Nat.le_of_ble_eq_true rfl, Nat.le_of_ble_eq_true rfl⟩, ⟨Nat.le_of_ble_eq_true rfl, Nat.le_of_ble_eq_true rfl⟩, Nat.le_of_ble_eq_true rfl⟩) dX9_jamBy_97 rfl (fun v_97 S_97 hp_97 => ?_)
        obtain ⟨rfl, rfl⟩ := hp_97
        have scD : Sc S _ := ((((Sc.rf.I rfl).J).J).log : Sc S (logF (pJ (pJ (pI S 0 b 9 (sI S 9 0 16 + sI S 0 b 8)) 19 0 0 (sJ S 19 0 0 + 1)) 19 0 3 (sJ (pJ (pI S 0 b 9 (sI S 9 0 16 + sI S 0 b 8)) 19 0 0 (sJ S 19 0 0 + 1)) 19 0 3 + (sI S 0 b 8).toInt64)) 1 (sI S 9 0 16) (sI S 6 p 0) (sI S 0 b 0) (nI (pcF α (nI b) h))))
        have dD' : Cd (logF (pJ (pJ (pI S 0 b 9 (sI S 9 0 16 + sI S 0 b 8)) 19 0 0 (sJ S 19 0 0 + 1)) 19 0 3 (sJ (pJ (pI S 0 b 9 (sI S 9 0 16 + sI S 0 b 8)) 19 0 0 (sJ S 19 0 0 + 1)) 19 0 3 + (sI S 0 b 8).toInt64)) 1 (sI S 9 0 16) (sI S 6 p 0) (sI S 0 b 0) (nI (pcF α (nI b) h))) (jrF (qJ (qJ (qI (qI α 7 b (aI α 0 35 + aI α 6 b)) 25 p 5) 31 0 (aJ α 31 0 + 1)) 31 3 (aJ α 31 3 + (aI α 6 b).toInt64)) (nI p) (nI b) (nI (pcF α (nI b) h))) nb nu nk h := by rw [epn, ebn]; exact dD
        have shD := k.1.sc scD
        obtain ⟨I, J, D, R, hfm⟩ := scD.form
        refine Jg.same hfm ?_
        rw [hfm] at scD dD' shD
        clear hfm
        refine j_aload_n (q := 101) hO dX9_jamBy_100 rfl rfl ?_
        refine j_getRs (x := 9) (j := 7) (q := 104) hO CK_9 dX9_jamBy_101 rfl mw_79 rfl shD.c9 rfl rfl (by decide) rfl shD.r7 ?_
        refine j_aload_n (q := 105) hO dX9_jamBy_104 rfl rfl ?_
        refine j_getI (x := 9) (j := 16) (q := 108) hO CK_9 dX9_jamBy_105 rfl mw_88 rfl shD.c9 rfl rfl (by decide) (Or.inl rfl) ?_
        refine j_aload_n (q := 109) hO dX9_jamBy_108 rfl rfl ?_
        refine j_getI (x := 6) (j := 0) (q := 112) hO CK_6 dX9_jamBy_109 rfl mw_330 rfl hpc rfl rfl (by decide) (Or.inl rfl) ?_
        refine j_iconst (v := 3) (q := 113) hO dX9_jamBy_112 rfl (by decide) ?_
        refine j_aload_n (q := 114) hO dX9_jamBy_113 rfl rfl ?_
        refine j_getI (x := 0) (j := 0) (q := 117) hO CK_0 dX9_jamBy_114 rfl mw_166 rfl hbc rfl rfl (by decide) (Or.inl rfl) ?_
        refine j_callV (x := 3) (q := 120) hO (c_3_add (lx X) _ 0 tt _ _ _ _ shD.c3a shD.2.2.1.1 shD.c18a (by rw [shD.2.2.2.2.2.2.2.2.2.1]; decide) (dD'.2.2.2.2.2.2.1.1.trans ((jrF_I (by decide) (by omega)).trans htot2)) (by omega)) M_3_add mw_391 CK_3 rfl shD.c3a rfl rfl rfl (by unfold roomy; rw [hM.R]; exact ⟨⟨Nat.le_of_ble_eq_true rfl, Nat.le_of_ble_eq_true rfl⟩, ⟨Nat.le_of_ble_eq_true rfl, Nat.le_of_ble_eq_true rfl⟩, Nat.le_of_ble_eq_true rfl⟩) dX9_jamBy_117 rfl (fun v_117 S_117 hp_117 => ?_)
        obtain ⟨rfl, rfl⟩ := hp_117
        have hfin := dD'.note (p := p) (w := 3) (h := b) shD ((jrF_I (by decide) (by omega)).trans htot2) (by omega) ((jrF_I (by decide) (by omega)).trans htn) htn2 (by omega) (by decide) (by omega)
        rw [show nI 3 = (3 : Int32) from rfl, jam_eq] at hfin
        rw [show nI p = sI (mk4 S I J D R) 6 p 0 from ((scD.2.2.2.1 6 p 0 rfl).trans epn).symm, show nI b = sI (mk4 S I J D R) 0 b 0 from ((scD.2.2.2.1 0 b 0 rfl).trans ebn).symm] at hfin
        exact j_vret hM dX9_jamBy_120 (Nat.le_of_ble_eq_true rfl) (Nat.le_of_ble_eq_true rfl) ⟨rfl, scD.log, hfin⟩
      · exact absurd (by rw [hcnt]; exact nI_le (Nat.le_refl _) (by omega)) c11
    | succ m ih =>
      intro h hz
      refine j_iload (q := 7) hO dX9_jamBy_5 rfl rfl ?_
      refine j_aload_n (q := 8) hO dX9_jamBy_7 rfl rfl ?_
      refine j_getI (x := 9) (j := 15) (q := 11) hO CK_9 dX9_jamBy_8 rfl mw_87 rfl kT.1.c9 rfl rfl (by decide) (Or.inl rfl) ?_
      refine j_icmp_ge (tgt := 37) (q := 14) hO dX9_jamBy_11 rfl (by decide) (fun c11 => ?_) (fun c11 => ?_)
      · exact absurd c11 (by rw [hcnt]; exact nI_ge (by omega) (by omega))
      · have hh6 : h < sC S 6 := by have := k.2.1.1.2.2.2.2.2.1; omega
        obtain ⟨e16, enum, -, -, -, e4⟩ := k.2.1.2.2.2.2.2.2.2 h (by omega)
        have onb := k.2.2.2.1.onb hinj k.2.1.1.1 n6 (show h < np by omega) hb
        refine j_aload_n (q := 15) hO dX9_jamBy_14 rfl rfl ?_
        refine j_getRs (x := 9) (j := 6) (q := 18) hO CK_9 dX9_jamBy_15 rfl mw_78 rfl kT.1.c9 rfl rfl (by decide) rfl kT.1.r6 ?_
        refine j_iload (q := 20) hO dX9_jamBy_18 rfl rfl ?_
        refine j_aald (x := 16) (c0 := 9) (q := 21) hO dX9_jamBy_20 rfl rfl kT.1.c16 rfl rfl (fun _ => rfl) rfl (j := h) rfl (by omega) (by omega) ?_
        rw [e16]
        refine j_getR (x := 6) (j := 5) (q := 24) hO CK_6 dX9_jamBy_21 rfl mw_339 rfl hh6 rfl rfl (by decide) rfl ?_
        refine j_aload_n (q := 25) hO dX9_jamBy_24 rfl rfl ?_
        refine j_acmp_ne (rx := (sR S 6 h 5).map (sA S 0)) (ry := some (sA S 0 b)) (tgt := 31) (q := 28) hO dX9_jamBy_25 rfl (by decide) rfl rfl (fun c25 => ?_) (fun c25 => ?_)
        · refine j_iinc (v := nI (h + 1)) (q := 34) hO dX9_jamBy_31 rfl rfl (nI_S h) (by rw [hM.nL]; decide) rfl ?_
          refine j_goto (tgt := 5) hO dX9_jamBy_34 (by decide) ?_
          refine Jg.lv (lv' := [(0, .ref (sA S 9 0)), (1, .ref (sA S 6 p)), (2, .ref (sA S 0 b)), (3, .int (nI (pcF α (nI b) (h + 1)))), (4, .int (nI (h + 1)))]) ⟨rfl, rfl, rfl, (congrArg (fun z => some (Value.int z)) (pc_t0 (fun z => c25 (onb.mpr z)))), rfl, trivial⟩ ?_
          exact ih (h + 1) (by omega)
        · refine j_iinc (q := 31) hO dX9_jamBy_28 rfl rfl rfl (by rw [hM.nL]; decide) rfl ?_
          refine j_iinc (v := nI (h + 1)) (q := 34) hO dX9_jamBy_31 rfl rfl (nI_S h) (by rw [hM.nL]; decide) rfl ?_
          refine j_goto (tgt := 5) hO dX9_jamBy_34 (by decide) ?_
          refine Jg.lv (lv' := [(0, .ref (sA S 9 0)), (1, .ref (sA S 6 p)), (2, .ref (sA S 0 b)), (3, .int (nI (pcF α (nI b) (h + 1)))), (4, .int (nI (h + 1)))]) ⟨rfl, rfl, rfl, (congrArg (fun z => some (Value.int z)) (pc_t1 (onb.mp c25))), rfl, trivial⟩ ?_
          exact ih (h + 1) (by omega)
  refine j_iconst (v := 0) (q := 1) hO dX9_jamBy_0 rfl (by decide) ?_
  refine j_istore_n (q := 2) hO dX9_jamBy_1 rfl (by rw [hM.nL]; decide) rfl ?_
  refine j_iconst (v := 0) (q := 3) hO dX9_jamBy_2 rfl (by decide) ?_
  refine j_istore (q := 5) hO dX9_jamBy_3 rfl (by rw [hM.nL]; decide) rfl ?_
  refine Jg.lv (lv' := [(0, .ref (sA S 9 0)), (1, .ref (sA S 6 p)), (2, .ref (sA S 0 b)), (3, .int (nI (pcF α (nI b) 0))), (4, .int (nI 0))]) ⟨rfl, rfl, rfl, rfl, rfl, trivial⟩ ?_
  exact loop np 0 (by omega)

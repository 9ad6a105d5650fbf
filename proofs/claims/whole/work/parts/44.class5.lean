set_option maxHeartbeats 4000000 in
set_option maxRecDepth 100000 in
theorem c_9_leave (l : Launch) (S : St) (α : Al) (nb nh nu nr nk np n p b : Nat) (k : Kx S α nb nh nu nr nk np n) (dn : Dn α nb nk np n) (hn : n + 12 < 2 ^ 30) (hp : p < np) (hb : b < nb) (hon : aI α 25 p = 1) (hbp : aI α 26 p = nI b) (hoc : ∀ a, ¬ aI α 32 a < 0) : Ct l yX9_leave cX9_leave 3 (none : Option Jvm.ClassFile.FieldType) (rm 3 0 0 71) [.ref (sA S 9 0), .ref (sA S 6 p), .ref (sA S 0 b)] S (fun r S' => r = none ∧ Sc S S' ∧ Cd S' (leaveF α p b) nb nu nk np) := by
  refine Ct.of (by decide) (Nat.le_of_ble_eq_true rfl) (fun X hM => ?_)
  have hO := hM.1
  obtain rfl := hM.l
  show Jg X 0 0 S 0 [(0, .ref (sA S 9 0)), (1, .ref (sA S 6 p)), (2, .ref (sA S 0 b))] []
  have kT := k
  have np60 := k.2.2.1.2.2.2.2.2.1.2
  have n6 := k.2.2.1.1.2
  have n8 := k.2.2.1.2.1.2
  have hpc : p < sC S 6 := by have := k.2.1.1.2.2.2.2.2.1; omega
  have hbc : b < sC S 0 := by have := k.2.1.1.1; omega
  have hN19 := k.1.2.2.2.2.2.2.2.2.2.2.2
  obtain ⟨⟨eb0, ebn, eb1, eb2, eb3⟩, ebx, ⟨eb6, eb7, eb8⟩, eb17, ebo⟩ := k.2.1.2.2.1 b hb
  obtain ⟨ep0, epn, epf, ept, epk, eps⟩ := k.2.1.2.2.2.2.2.2.2 p hp
  obtain ⟨tn, htn, htn2⟩ := k.2.2.2.2.2
  have d1 := k.2.2.2.1.1
  have d2 := k.2.2.2.1.2.1 b hb
  obtain ⟨tt, htot, htot2, htot3⟩ := k.tot
  refine j_aload_n (q := 1) hO dX9_leave_0 rfl rfl ?_
  refine j_null (q := 2) hO dX9_leave_1 rfl ?_
  refine j_putR (fty := tyX6 5) (x := 6) (j := 5) (q := 5) hO CK_6 dX9_leave_2 rfl mw_339 rfl hpc rfl rfl (by decide) rfl (by decide +kernel) (fun r => by cases r <;> rfl) (fun r => by cases r <;> rfl) rfl (v := none) rfl (fun r e => by cases e) ?_
  obtain ⟨jm, hjm, hj5⟩ := dn.2.2.2.1
  have hj60 : jm < 60 := by have := ctF_lt (α := α) (s := 5) hp (by rw [hon]; decide); omega
  have u4 := k.2.2.1.2.2.1.2
  have k4 := k.2.2.1.2.2.2.2.1.2
  have hpk : ∀ h, h < nk → PkOk (aD α 17 h) (aD α 18 h) (aI α 20 h) := fun h hh => by obtain ⟨w, w1, w2⟩ := dn.2.2.2.2.2.1 h hh; rw [w1]; exact (k.2.2.1.2.2.2.2.2.2.2.2.2.1 h hh).2 w (by have := ctF_le (α := α) (s := 4) np; omega)
  have k0 : Kx (pR S 6 p 5 none) (qI α 25 p 0) nb nh nu nr nk np n := k.to (Sc.rf.R) (Sm.rf.I rfl (Or.inl (by decide))) (k.2.2.2.1.off hp hon) (k.2.2.2.2.1.same rfl) rfl
  refine j_aload_n (q := 6) hO dX9_leave_5 rfl rfl ?_
  refine j_aload_n (q := 7) hO dX9_leave_6 rfl rfl ?_
  refine j_aload_n (q := 8) hO dX9_leave_7 rfl rfl ?_
  rcases hrob : robF α p with _ | r
  · refine j_callV (x := 9) (q := 11) hO (c_9_takenByRobot (lx X) _ (qI α 25 p 0) nb nh nu nr nk np n p b k0 (by omega) hp hb hbp) M_9_takenByRobot mw_420 CK_9 rfl kT.1.c9 rfl rfl rfl (by unfold roomy; rw [hM.R]; exact ⟨⟨Nat.le_of_ble_eq_true rfl, Nat.le_of_ble_eq_true rfl⟩, ⟨Nat.le_of_ble_eq_true rfl, Nat.le_of_ble_eq_true rfl⟩, Nat.le_of_ble_eq_true rfl⟩) dX9_leave_8 rfl (fun v_8 S_8 hp_8 => ?_)
    obtain ⟨rfl, eS⟩ := hp_8.o hrob
    refine Jg.same eS ?_
    clear eS
    refine j_if_ne (tgt := 23) (q := 14) hO dX9_leave_11 rfl (by decide) (fun c11 => ?_) (fun c11 => ?_)
    · exact absurd rfl c11
    · refine j_aload_n (q := 15) hO dX9_leave_14 rfl rfl ?_
      refine j_aload_n (q := 16) hO dX9_leave_15 rfl rfl ?_
      refine j_aload_n (q := 17) hO dX9_leave_16 rfl rfl ?_
      rcases hpick : pickF α p with _ | r
      · refine j_callV (x := 9) (q := 20) hO (c_9_takenByPicker (lx X) _ (qI α 25 p 0) nb nh nu nr nk np n p b k0 (by omega) hp hb hbp hpk) M_9_takenByPicker mw_424 CK_9 rfl kT.1.c9 rfl rfl rfl (by unfold roomy; rw [hM.R]; exact ⟨⟨Nat.le_of_ble_eq_true rfl, Nat.le_of_ble_eq_true rfl⟩, ⟨Nat.le_of_ble_eq_true rfl, Nat.le_of_ble_eq_true rfl⟩, Nat.le_of_ble_eq_true rfl⟩) dX9_leave_17 rfl (fun v_17 S_17 hp_17 => ?_)
        obtain ⟨rfl, eS⟩ := hp_17.o hpick
        refine Jg.same eS ?_
        clear eS
        refine j_if_eq (tgt := 39) (q := 23) hO dX9_leave_20 rfl (by decide) (fun c20 => ?_) (fun c20 => ?_)
        · rcases ebx with ⟨t, e3, ht, eo1, eo2⟩ | ⟨e3, eo1, eo2⟩ | ⟨u, e3, hu, eo1, eo2⟩
          · refine j_aload_n (q := 40) hO dX9_leave_39 rfl rfl ?_
            refine j_getRs (x := 0) (j := 4) (q := 43) hO CK_0 dX9_leave_40 rfl mw_173 rfl hbc rfl rfl (by decide) rfl eo1 ?_
            refine j_ifnull (q := 46) hO dX9_leave_43 rfl ?_
            refine j_aload_n (q := 47) hO dX9_leave_46 rfl rfl ?_
            refine j_aload_n (q := 48) hO dX9_leave_47 rfl rfl ?_
            refine j_aload_n (q := 49) hO dX9_leave_48 rfl rfl ?_
            refine j_getRs (x := 0) (j := 4) (q := 52) hO CK_0 dX9_leave_49 rfl mw_173 rfl hbc rfl rfl (by decide) rfl eo1 ?_
            refine j_callV (x := 9) (q := 55) hO (c_9_enter (lx X) _ (qI α 25 p 0) nb nh nu nr nk np n jm p t k0 (by omega) hp ht qI_s hjm hj60) M_9_enter mw_383 CK_9 rfl kT.1.c9 rfl rfl rfl (by unfold roomy; rw [hM.R]; exact ⟨⟨Nat.le_of_ble_eq_true rfl, Nat.le_of_ble_eq_true rfl⟩, ⟨Nat.le_of_ble_eq_true rfl, Nat.le_of_ble_eq_true rfl⟩, Nat.le_of_ble_eq_true rfl⟩) dX9_leave_52 rfl (fun v_52 S_52 hp_52 => ?_)
            obtain ⟨rfl, scE, dE⟩ := hp_52
            refine j_goto (tgt := 126) hO dX9_leave_55 (by decide) ?_
            exact j_vret hM dX9_leave_126 (Nat.le_of_ble_eq_true rfl) (Nat.le_of_ble_eq_true rfl) ⟨rfl, ((Sc.rf.R : Sc S (pR S 6 p 5 none))).tr scE, by rw [leave_n hrob hpick, go_e e3 (by omega), ← enter_lim]; exact dE⟩
          · refine j_aload_n (q := 40) hO dX9_leave_39 rfl rfl ?_
            refine j_getRn (x := 0) (j := 4) (q := 43) hO CK_0 dX9_leave_40 rfl mw_173 rfl hbc rfl rfl (by decide) rfl eo1 ?_
            refine j_ifnullN (tgt := 58) hO dX9_leave_43 (by decide) ?_
            refine j_aload_n (q := 59) hO dX9_leave_58 rfl rfl ?_
            refine j_getRn (x := 0) (j := 5) (q := 62) hO CK_0 dX9_leave_59 rfl mw_174 rfl hbc rfl rfl (by decide) rfl eo2 ?_
            refine j_ifnullN (tgt := 77) hO dX9_leave_62 (by decide) ?_
            refine j_aload_n (q := 78) hO dX9_leave_77 rfl rfl ?_
            refine j_getRs (x := 9) (j := 9) (q := 81) hO CK_9 dX9_leave_78 rfl mw_81 rfl kT.1.c9 rfl rfl (by decide) rfl kT.1.r9 ?_
            refine j_dup (q := 82) hO dX9_leave_81 rfl rfl ?_
            refine j_getI (x := 8) (j := 2) (q := 85) hO CK_8 dX9_leave_82 rfl mw_59 rfl kT.1.c8 rfl rfl (by decide) (Or.inl rfl) ?_
            refine j_iconst (v := 1) (q := 86) hO dX9_leave_85 rfl (by decide) ?_
            refine j_iadd (q := 87) hO dX9_leave_86 rfl ?_
            refine j_putI (x := 8) (j := 2) (q := 90) hO CK_8 dX9_leave_87 rfl mw_59 rfl kT.1.c8 rfl rfl (by decide) rfl (by decide +kernel) rfl ?_
            obtain ⟨kd, ekd, hkd⟩ := (k.2.2.1.2.2.2.2.2.2.2.2.2.2 p hp).1
            have d3 : Cd (pI (pR S 6 p 5 none) 8 0 2 (sI (pR S 6 p 5 none) 8 0 2 + 1)) (qI α 25 p 3) nb nu nk np := by have := k0.2.2.2.1.tally2 hp qI_s; rw [qI_idem] at this; exact this
            have sc1 : Sc S (pI (pR S 6 p 5 none) 8 0 2 (sI (pR S 6 p 5 none) 8 0 2 + 1)) := (Sc.rf.R).I rfl
            have kT : Kx (pI (pR S 6 p 5 none) 8 0 2 (sI (pR S 6 p 5 none) 8 0 2 + 1)) (qI α 25 p 3) nb nh nu nr nk np n := k.to sc1 (Sm.rf.I rfl (Or.inl (by decide))) d3 (k.2.2.2.2.1.same rfl) rfl
            obtain ⟨I, J, D, R, hfm⟩ := (sc1).form
            refine Jg.same hfm ?_
            rw [hfm] at kT sc1 d3
            clear hfm
            obtain ⟨⟨-, -, -, -, gb3⟩, -, -, gb17, gbo⟩ := kT.2.1.2.2.1 b hb
            have gpk := (kT.2.1.2.2.2.2.2.2.2 p hp).2.2.2.2.1.trans ekd
            have hcb : b < sC S 17 := by have := k.2.1.1.2.2.2.2.2.2.2; omega
            have hca : 5 * b + kd < sC S 4 := by have := k.2.1.1.2.2.2.2.2.2.1; omega
            refine j_aload_n (q := 91) hO dX9_leave_90 rfl rfl ?_
            refine j_getRs (x := 0) (j := 3) (q := 94) hO CK_0 dX9_leave_91 rfl mw_172 rfl hbc rfl rfl (by decide) rfl gb3 ?_
            refine j_aload_n (q := 95) hO dX9_leave_94 rfl rfl ?_
            refine j_getI (x := 6) (j := 3) (q := 98) hO CK_6 dX9_leave_95 rfl mw_336 rfl hpc rfl rfl (by decide) (Or.inl rfl) ?_
            refine j_aald (x := 17) (c0 := 10) (q := 99) hO dX9_leave_98 rfl rfl hcb rfl rfl (fun _ => rfl) rfl (j := kd) gpk (by rw [gb17]; exact hkd) (by rw [gb17]; decide) ?_
            rw [gbo kd hkd]
            refine j_aload_n (q := 100) hO dX9_leave_99 rfl rfl ?_
            refine j_getI (x := 9) (j := 16) (q := 103) hO CK_9 dX9_leave_100 rfl mw_88 rfl kT.1.c9 rfl rfl (by decide) (Or.inl rfl) ?_
            refine j_callV (x := 4) (q := 106) hO (c_4_add (lx X) _ (5 * b + kd) _ hca) M_4_add mw_437 CK_4 rfl hca rfl rfl rfl (by unfold roomy; rw [hM.R]; exact ⟨⟨Nat.le_of_ble_eq_true rfl, Nat.le_of_ble_eq_true rfl⟩, ⟨Nat.le_of_ble_eq_true rfl, Nat.le_of_ble_eq_true rfl⟩, Nat.le_of_ble_eq_true rfl⟩) dX9_leave_103 rfl (fun v_103 S_103 hp_103 => ?_)
            obtain ⟨rfl, eS⟩ := hp_103
            refine Jg.same eS ?_
            clear eS
            have d4 : Cd (outsF (mk4 S I J D R) (5 * b + kd) (sI (mk4 S I J D R) 9 0 16)) (qI (qI (gapF (qI α 25 p 3) (5 * b + kd)) 32 (5 * b + kd) (aI α 32 (5 * b + kd) + 1)) 33 (5 * b + kd) (aI α 0 35)) nb nu nk np := d3.outs (by omega) (hoc _)
            have sc2 : Sc S (outsF (mk4 S I J D R) (5 * b + kd) (sI (mk4 S I J D R) 9 0 16)) := sc1.outs
            have kT : Kx (outsF (mk4 S I J D R) (5 * b + kd) (sI (mk4 S I J D R) 9 0 16)) (qI (qI (gapF (qI α 25 p 3) (5 * b + kd)) 32 (5 * b + kd) (aI α 32 (5 * b + kd) + 1)) 33 (5 * b + kd) (aI α 0 35)) nb nh nu nr nk np n := k.to sc2 ((((Sm.rf.I rfl (Or.inl (by decide))).gap).I rfl (Or.inl (by decide))).I rfl (Or.inl (by decide))) d4 (k.2.2.2.2.1.same (by rw [qI_I (by omega), qI_I (by omega), gapF_I (by decide) (by decide), qI_I (by omega)])) (by rw [qI_I (by omega), qI_I (by omega), gapF_I (by decide) (by decide), qI_I (by omega)])
            clear d3 sc1 gb3 gb17 gbo gpk
            obtain ⟨I, J, D, R, hfm⟩ := (sc2).form
            refine Jg.same hfm ?_
            rw [hfm] at kT sc2 d4
            clear hfm
            obtain ⟨tt, htot, htot2, htot3⟩ := kT.tot
            have fpn := (kT.2.1.2.2.2.2.2.2.2 p hp).2.1
            have fbn := (kT.2.1.2.2.1 b hb).1.2.1
            refine j_aload_n (q := 107) hO dX9_leave_106 rfl rfl ?_
            refine j_getRs (x := 9) (j := 7) (q := 110) hO CK_9 dX9_leave_107 rfl mw_79 rfl kT.1.c9 rfl rfl (by decide) rfl kT.1.r7 ?_
            refine j_aload_n (q := 111) hO dX9_leave_110 rfl rfl ?_
            refine j_getI (x := 9) (j := 16) (q := 114) hO CK_9 dX9_leave_111 rfl mw_88 rfl kT.1.c9 rfl rfl (by decide) (Or.inl rfl) ?_
            refine j_aload_n (q := 115) hO dX9_leave_114 rfl rfl ?_
            refine j_getI (x := 6) (j := 0) (q := 118) hO CK_6 dX9_leave_115 rfl mw_330 rfl hpc rfl rfl (by decide) (Or.inl rfl) ?_
            refine j_iconst (v := 4) (q := 119) hO dX9_leave_118 rfl (by decide) ?_
            refine j_aload_n (q := 120) hO dX9_leave_119 rfl rfl ?_
            refine j_getI (x := 0) (j := 0) (q := 123) hO CK_0 dX9_leave_120 rfl mw_166 rfl hbc rfl rfl (by decide) (Or.inl rfl) ?_
            refine j_callV (x := 3) (q := 126) hO (c_3_add (lx X) _ 0 tt _ _ _ _ kT.1.c3a kT.1.2.2.1.1 kT.1.c18a (by rw [kT.1.2.2.2.2.2.2.2.2.2.1]; decide) htot (by omega)) M_3_add mw_391 CK_3 rfl kT.1.c3a rfl rfl rfl (by unfold roomy; rw [hM.R]; exact ⟨⟨Nat.le_of_ble_eq_true rfl, Nat.le_of_ble_eq_true rfl⟩, ⟨Nat.le_of_ble_eq_true rfl, Nat.le_of_ble_eq_true rfl⟩, Nat.le_of_ble_eq_true rfl⟩) dX9_leave_123 rfl (fun v_123 S_123 hp_123 => ?_)
            obtain ⟨rfl, rfl⟩ := hp_123
            have hL := (kT.note (p := p) (w := 4) (h := b) (by omega) (by omega) (by decide) (by omega)).2.2.2.1
            exact j_vret hM dX9_leave_126 (Nat.le_of_ble_eq_true rfl) (Nat.le_of_ble_eq_true rfl) ⟨rfl, sc2.log, by rw [leave_n hrob hpick, go_o e3, at_eq hbp ekd (by omega) hkd, ← out_lim hbp]; exact hL.lg fpn fbn⟩
          · refine j_aload_n (q := 40) hO dX9_leave_39 rfl rfl ?_
            refine j_getRn (x := 0) (j := 4) (q := 43) hO CK_0 dX9_leave_40 rfl mw_173 rfl hbc rfl rfl (by decide) rfl eo1 ?_
            refine j_ifnullN (tgt := 58) hO dX9_leave_43 (by decide) ?_
            refine j_aload_n (q := 59) hO dX9_leave_58 rfl rfl ?_
            refine j_getRs (x := 0) (j := 5) (q := 62) hO CK_0 dX9_leave_59 rfl mw_174 rfl hbc rfl rfl (by decide) rfl eo2 ?_
            refine j_ifnull (q := 65) hO dX9_leave_62 rfl ?_
            refine j_aload_n (q := 66) hO dX9_leave_65 rfl rfl ?_
            refine j_aload_n (q := 67) hO dX9_leave_66 rfl rfl ?_
            refine j_aload_n (q := 68) hO dX9_leave_67 rfl rfl ?_
            refine j_getRs (x := 0) (j := 5) (q := 71) hO CK_0 dX9_leave_68 rfl mw_174 rfl hbc rfl rfl (by decide) rfl eo2 ?_
            refine j_callV (x := 9) (q := 74) hO (c_9_fill (lx X) _ (qI α 25 p 0) nb nh nu nr nk np n p u k0 (by omega) hp hu qI_s (dn.2.2.2.2.1 u (by omega))) M_9_fill mw_433 CK_9 rfl kT.1.c9 rfl rfl rfl (by unfold roomy; rw [hM.R]; exact ⟨⟨Nat.le_of_ble_eq_true rfl, Nat.le_of_ble_eq_true rfl⟩, ⟨Nat.le_of_ble_eq_true rfl, Nat.le_of_ble_eq_true rfl⟩, Nat.le_of_ble_eq_true rfl⟩) dX9_leave_71 rfl (fun v_71 S_71 hp_71 => ?_)
            obtain ⟨rfl, scE, dE⟩ := hp_71
            refine j_goto (tgt := 126) hO dX9_leave_74 (by decide) ?_
            exact j_vret hM dX9_leave_126 (Nat.le_of_ble_eq_true rfl) (Nat.le_of_ble_eq_true rfl) ⟨rfl, ((Sc.rf.R : Sc S (pR S 6 p 5 none))).tr scE, by rw [leave_n hrob hpick, go_f e3 (by omega), ← fill_lim]; exact dE⟩
        · exact absurd rfl c20
      · refine j_callV (x := 9) (q := 20) hO (c_9_takenByPicker (lx X) _ (qI α 25 p 0) nb nh nu nr nk np n p b k0 (by omega) hp hb hbp hpk) M_9_takenByPicker mw_424 CK_9 rfl kT.1.c9 rfl rfl rfl (by unfold roomy; rw [hM.R]; exact ⟨⟨Nat.le_of_ble_eq_true rfl, Nat.le_of_ble_eq_true rfl⟩, ⟨Nat.le_of_ble_eq_true rfl, Nat.le_of_ble_eq_true rfl⟩, Nat.le_of_ble_eq_true rfl⟩) dX9_leave_17 rfl (fun v_17 S_17 hp_17 => ?_)
        obtain ⟨rfl, scR, dR⟩ := hp_17.s hpick
        have kT : Kx S_17 (noteF (pkF (qI α 25 p 0) r) (nI p) 5 (nI r)) nb nh nu nr nk np (n + 1) := k0.to scR (((Sm.rf.I rfl (Or.inl (by decide))).I rfl (Or.inl (by decide))).note) dR (TT.note (k0.2.2.2.2.1.same rfl)) (noteF_I (by decide) (by omega))
        replace scR : Sc S S_17 := ((Sc.rf.R : Sc S (pR S 6 p 5 none))).tr scR
        obtain ⟨I, J, D, R, hfm⟩ := (scR).form
        refine Jg.same hfm ?_
        rw [hfm] at kT scR dR
        clear hfm
        refine j_if_eq (tgt := 39) (q := 23) hO dX9_leave_20 rfl (by decide) (fun c20 => ?_) (fun c20 => ?_)
        · exact absurd c20 (by decide)
        · refine j_aload_n (q := 24) hO dX9_leave_23 rfl rfl ?_
          refine j_getRs (x := 9) (j := 9) (q := 27) hO CK_9 dX9_leave_24 rfl mw_81 rfl kT.1.c9 rfl rfl (by decide) rfl kT.1.r9 ?_
          refine j_dup (q := 28) hO dX9_leave_27 rfl rfl ?_
          refine j_getI (x := 8) (j := 3) (q := 31) hO CK_8 dX9_leave_28 rfl mw_61 rfl kT.1.c8 rfl rfl (by decide) (Or.inl rfl) ?_
          refine j_iconst (v := 1) (q := 32) hO dX9_leave_31 rfl (by decide) ?_
          refine j_iadd (q := 33) hO dX9_leave_32 rfl ?_
          refine j_putI (x := 8) (j := 3) (q := 36) hO CK_8 dX9_leave_33 rfl mw_61 rfl kT.1.c8 rfl rfl (by decide) rfl (by decide +kernel) rfl ?_
          refine j_goto (tgt := 126) hO dX9_leave_36 (by decide) ?_
          exact j_vret hM dX9_leave_126 (Nat.le_of_ble_eq_true rfl) (Nat.le_of_ble_eq_true rfl) ⟨rfl, scR.I rfl, by rw [leave_p hrob hpick, ← tP_lim]; exact dR.tally3 hp (by rw [noteF_I (by decide) (by omega)]; exact qI_s)⟩
  · refine j_callV (x := 9) (q := 11) hO (c_9_takenByRobot (lx X) _ (qI α 25 p 0) nb nh nu nr nk np n p b k0 (by omega) hp hb hbp) M_9_takenByRobot mw_420 CK_9 rfl kT.1.c9 rfl rfl rfl (by unfold roomy; rw [hM.R]; exact ⟨⟨Nat.le_of_ble_eq_true rfl, Nat.le_of_ble_eq_true rfl⟩, ⟨Nat.le_of_ble_eq_true rfl, Nat.le_of_ble_eq_true rfl⟩, Nat.le_of_ble_eq_true rfl⟩) dX9_leave_8 rfl (fun v_8 S_8 hp_8 => ?_)
    obtain ⟨rfl, scR, dR⟩ := hp_8.s hrob
    have kT : Kx S_8 (noteF (qI α 25 p 0) (nI p) 6 (nI r)) nb nh nu nr nk np (n + 1) := k0.to scR (Sm.rf.note) dR (k0.2.2.2.2.1.note) (noteF_I (by decide) (by omega))
    replace scR : Sc S S_8 := ((Sc.rf.R : Sc S (pR S 6 p 5 none))).tr scR
    obtain ⟨I, J, D, R, hfm⟩ := (scR).form
    refine Jg.same hfm ?_
    rw [hfm] at kT scR dR
    clear hfm
    refine j_if_ne (tgt := 23) (q := 14) hO dX9_leave_11 rfl (by decide) (fun c11 => ?_) (fun c11 => ?_)
    · refine j_aload_n (q := 24) hO dX9_leave_23 rfl rfl ?_
      refine j_getRs (x := 9) (j := 9) (q := 27) hO CK_9 dX9_leave_24 rfl mw_81 rfl kT.1.c9 rfl rfl (by decide) rfl kT.1.r9 ?_
      refine j_dup (q := 28) hO dX9_leave_27 rfl rfl ?_
      refine j_getI (x := 8) (j := 3) (q := 31) hO CK_8 dX9_leave_28 rfl mw_61 rfl kT.1.c8 rfl rfl (by decide) (Or.inl rfl) ?_
      refine j_iconst (v := 1) (q := 32) hO dX9_leave_31 rfl (by decide) ?_
      refine j_iadd (q := 33) hO dX9_leave_32 rfl ?_
      refine j_putI (x := 8) (j := 3) (q := 36) hO CK_8 dX9_leave_33 rfl mw_61 rfl kT.1.c8 rfl rfl (by decide) rfl (by decide +kernel) rfl ?_
      refine j_goto (tgt := 126) hO dX9_leave_36 (by decide) ?_
      exact j_vret hM dX9_leave_126 (Nat.le_of_ble_eq_true rfl) (Nat.le_of_ble_eq_true rfl) ⟨rfl, scR.I rfl, by rw [leave_r hrob, ← tR_lim]; exact dR.tally3 hp (by rw [noteF_I (by decide) (by omega)]; exact qI_s)⟩
    · exact absurd c11 (by decide)

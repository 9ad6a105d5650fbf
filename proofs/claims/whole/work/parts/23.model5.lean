set_option maxHeartbeats 4000000 in
set_option maxRecDepth 100000 in
theorem c_10_tenth (l : Launch) (S : St) (α : Al) (nb nh nu nr nk np n t : Nat) (hm : MSh S) (c : Cf α nb nh nu nr nk np) (d : Dn α nb nk np n) (ht : aI α 0 35 = nI t) (ht1 : t < 10000) (hn : n + 2000 < 2 ^ 30) : Ct l yX10_tenth cX10_tenth 2 (none : Option Jvm.ClassFile.FieldType) (rm 4 0 0 93) [.ref (sA S 10 0)] (wr S α) (fun r S' => r = none ∧ S' = wr S (tenthF α)) := by
  refine Ct.of (by decide) (Nat.le_of_ble_eq_true rfl) (fun X hM => ?_)
  have hO := hM.1
  obtain rfl := hM.l
  show Jg X 0 0 (wr S α) 0 [(0, .ref (sA S 10 0))] []
  have loop2 : ∀ γ, Cf γ nb nh nu nr nk np → Dn γ nb nk np n → Mv γ 0 np → wr S (actL γ np) = wr S (tenthF α) → ∀ m h, h + m = np → Jg X 0 0 (wr S (actL γ h)) 90 [(0, .ref (sA S 10 0)), (1, .int (nI h))] [] := by
    intro γ c1 d1 m1 hfin m
    induction m with
    | zero =>
      intro h hz
      obtain rfl : h = np := by omega
      have hnp := (c1.sm (Sm.rf.actB h)).2.2.2.2.2.1.1
      have h60 := (c1.sm (Sm.rf.actB h)).2.2.2.2.2.1.2
      refine j_iload_n (q := 91) hO dX10_tenth_90 rfl rfl ?_
      refine j_aload_n (q := 92) hO dX10_tenth_91 rfl rfl ?_
      refine m_getI (j := 26) (q := 95) hO hm dX10_tenth_92 rfl mw_524 (by decide) rfl ?_
      refine j_icmp_ge (tgt := 187) (q := 98) hO dX10_tenth_95 rfl (by decide) (fun c95 => ?_) (fun c95 => ?_)
      · exact j_vret hM dX10_tenth_187 (Nat.le_of_ble_eq_true rfl) (Nat.le_of_ble_eq_true rfl) ⟨rfl, hfin⟩
      · exact absurd (by rw [hnp]; exact nI_le (Nat.le_refl _) (by omega)) c95
    | succ m ih =>
      intro h hz
      obtain ⟨hd, hmv⟩ := Dn.actB c1 d1 m1 h (by omega)
      have cc := c1.sm (Sm.rf.actB h)
      have hnp := cc.2.2.2.2.2.1.1
      have hp60 : h < 60 := by have := cc.2.2.2.2.2.1.2; omega
      have hsz : ∀ j, j < np → dNn (aD (actL γ h) 22 j) := fun j hj => (cc.2.2.2.2.2.2.2.2.2.2 j hj).2.1.nn
      obtain ⟨jm, hjm, hjl⟩ := hd.2.2.2.1
      have hb6 := cc.1.2
      have np60 := cc.2.2.2.2.2.1.2
      have e9 : nn (aI (actL γ h) 0 9) = nh := by rw [cc.2.1.1]; exact nn_nI (by have := cc.2.1.2; omega)
      refine j_iload_n (q := 91) hO dX10_tenth_90 rfl rfl ?_
      refine j_aload_n (q := 92) hO dX10_tenth_91 rfl rfl ?_
      refine m_getI (j := 26) (q := 95) hO hm dX10_tenth_92 rfl mw_524 (by decide) rfl ?_
      refine j_icmp_ge (tgt := 187) (q := 98) hO dX10_tenth_95 rfl (by decide) (fun c95 => ?_) (fun c95 => ?_)
      · exact absurd c95 (by rw [hnp]; exact nI_ge (by omega) (by omega))
      · refine j_aload_n (q := 99) hO dX10_tenth_98 rfl rfl ?_
        refine m_getA (j := 31) (x := 44) (q := 102) hO hm dX10_tenth_99 rfl mw_529 (by decide) rfl rfl ?_
        refine j_iload_n (q := 103) hO dX10_tenth_102 rfl rfl ?_
        refine m_iald (x := 44) (a := 25) (q := 104) hO hm MK_44 dX10_tenth_103 rfl rfl rfl (by omega) ?_
        refine j_if_ne (tgt := 134) (q := 107) hO dX10_tenth_104 rfl (by decide) (fun c104 => ?_) (fun c104 => ?_)
        · refine j_aload_n (q := 135) hO dX10_tenth_134 rfl rfl ?_
          refine m_getA (j := 34) (x := 47) (q := 138) hO hm dX10_tenth_135 rfl mw_532 (by decide) rfl rfl ?_
          refine j_iload_n (q := 139) hO dX10_tenth_138 rfl rfl ?_
          refine m_zald (x := 47) (a := 28) (q := 140) hO hm MK_47 dX10_tenth_139 rfl rfl rfl (by omega) ?_
          refine j_if_eq (tgt := 181) (q := 143) hO dX10_tenth_140 rfl (by decide) (fun c140 => ?_) (fun c140 => ?_)
          · refine j_iinc (v := nI (h + 1)) (q := 184) hO dX10_tenth_181 rfl rfl (nI_S h) (by rw [hM.nL]; decide) rfl ?_
            refine j_goto (tgt := 90) hO dX10_tenth_184 (by decide) ?_
            refine Jg.lv (lv' := [(0, .ref (sA S 10 0)), (1, .int (nI (h + 1)))]) ⟨rfl, rfl, trivial⟩ ?_
            have hI := ih (h + 1) (by omega)
            rw [(act_s (fun z => c104 z.1) c140 : actL γ (h + 1) = _)] at hI
            exact hI
          · have s1 : aI (actL γ h) 25 h = 1 := hmv h (Nat.le_refl _) (by omega) c140
            obtain ⟨b, hb, hbn⟩ := hd.2.2.1 h (by omega) s1
            have hb' : aI (passL (actL γ h) h nh) 26 h = nI b := (passL_I (by decide) (by omega) nh).trans hb
            have hj60 : jm < 60 := by have := ctF_lt (α := actL γ h) (s := 5) (p := h) (n := np) (by omega) (by rw [s1]; decide); have := cc.2.2.2.2.2.1.2; omega
            refine j_aload_n (q := 144) hO dX10_tenth_143 rfl rfl ?_
            refine j_iload_n (q := 145) hO dX10_tenth_144 rfl rfl ?_
            refine j_callV (x := 10) (q := 148) hO (c_10_pass (lx X) S (actL γ h) _ nh h hm cc.2.1.1 cc.2.1.2 hp60 hd.2.2.2.2.2.2 (by have := cc.2.2.2.2.2.1.2; omega)) M_10_pass mw_713 CK_10 rfl hm.1 rfl rfl rfl (by unfold roomy; rw [hM.R]; exact ⟨⟨Nat.le_of_ble_eq_true rfl, Nat.le_of_ble_eq_true rfl⟩, ⟨Nat.le_of_ble_eq_true rfl, Nat.le_of_ble_eq_true rfl⟩, Nat.le_of_ble_eq_true rfl⟩) dX10_tenth_145 rfl (fun v_145 S_145 hp_145 => ?_)
            obtain ⟨rfl, rfl⟩ := hp_145
            refine j_aload_n (q := 149) hO dX10_tenth_148 rfl rfl ?_
            refine m_getA (j := 33) (x := 46) (q := 152) hO hm dX10_tenth_149 rfl mw_531 (by decide) rfl rfl ?_
            refine j_iload_n (q := 153) hO dX10_tenth_152 rfl rfl ?_
            refine m_iald (x := 46) (a := 27) (q := 154) hO hm MK_46 dX10_tenth_153 rfl rfl rfl (by omega) ?_
            refine j_aload_n (q := 155) hO dX10_tenth_154 rfl rfl ?_
            refine m_getA (j := 2) (x := 20) (q := 158) hO hm dX10_tenth_155 rfl mw_500 (by decide) rfl rfl ?_
            refine j_aload_n (q := 159) hO dX10_tenth_158 rfl rfl ?_
            refine m_getA (j := 32) (x := 45) (q := 162) hO hm dX10_tenth_159 rfl mw_530 (by decide) rfl rfl ?_
            refine j_iload_n (q := 163) hO dX10_tenth_162 rfl rfl ?_
            refine m_iald (x := 45) (a := 26) (q := 164) hO hm MK_45 dX10_tenth_163 rfl rfl rfl (by omega) ?_
            refine m_iald (x := 20) (a := 1) (q := 165) hO hm MK_20 dX10_tenth_164 rfl rfl (j := b) hb' (by omega) ?_
            refine j_icmp_ne (tgt := 181) (q := 168) hO dX10_tenth_165 rfl (by decide) (fun c165 => ?_) (fun c165 => ?_)
            · refine j_iinc (v := nI (h + 1)) (q := 184) hO dX10_tenth_181 rfl rfl (nI_S h) (by rw [hM.nL]; decide) rfl ?_
              refine j_goto (tgt := 90) hO dX10_tenth_184 (by decide) ?_
              refine Jg.lv (lv' := [(0, .ref (sA S 10 0)), (1, .int (nI (h + 1)))]) ⟨rfl, rfl, trivial⟩ ?_
              have hI := ih (h + 1) (by omega)
              rw [((act_m (fun z => c104 z.1) c140 e9).trans (end_n hb' (by omega) c165) : actL γ (h + 1) = _)] at hI
              exact hI
            · obtain ⟨kd, hkd, hk5⟩ := (cc.2.2.2.2.2.2.2.2.2.2 h (by omega)).1
              have cp := cc.sm (Sm.rf.pass (p := h) nh)
              have dp := hd.pass (p := h) nh
              have hc165 : aI (passL (actL γ h) h nh) 27 h = aI (passL (actL γ h) h nh) 1 b := c165
              rcases hTk : takenF (passL (actL γ h) h nh) h with _ | δ
              · refine j_aload_n (q := 169) hO dX10_tenth_168 rfl rfl ?_
                refine j_iload_n (q := 170) hO dX10_tenth_169 rfl rfl ?_
                refine j_callV (x := 10) (q := 173) hO (c_10_isTaken (lx X) S (passL (actL γ h) h nh) _ nr nk h hm cp.2.2.2.1.1 cp.2.2.2.1.2 cp.2.2.2.2.1.1 cp.2.2.2.2.1.2 hp60 (fun k hk => by obtain ⟨w, hw, hwl⟩ := dp.2.2.2.2.2.1 k hk; rw [hw]; exact (cp.2.2.2.2.2.2.2.2.2.1 k hk).2 w (by have := ctF_le (α := (passL (actL γ h) h nh)) (s := 4) np; have := cp.2.2.2.2.2.1.2; omega)) dp.2.2.2.2.2.2 (by have := cp.2.1.2; have := cc.2.2.2.2.2.1.2; omega)) M_10_isTaken mw_726 CK_10 rfl hm.1 rfl rfl rfl (by unfold roomy; rw [hM.R]; exact ⟨⟨Nat.le_of_ble_eq_true rfl, Nat.le_of_ble_eq_true rfl⟩, ⟨Nat.le_of_ble_eq_true rfl, Nat.le_of_ble_eq_true rfl⟩, Nat.le_of_ble_eq_true rfl⟩) dX10_tenth_170 rfl (fun v_170 S_170 hp_170 => ?_)
                obtain ⟨rfl, rfl⟩ := hp_170.o hTk
                refine j_if_ne (tgt := 181) (q := 176) hO dX10_tenth_173 rfl (by decide) (fun c173 => ?_) (fun c173 => ?_)
                · exact absurd rfl c173
                · refine j_aload_n (q := 177) hO dX10_tenth_176 rfl rfl ?_
                  refine j_iload_n (q := 178) hO dX10_tenth_177 rfl rfl ?_
                  refine j_callV (x := 10) (q := 181) hO (c_10_goOn (lx X) S (passL (actL γ h) h nh) _ np nh jm h b kd hm cp.2.2.2.2.2.1.1 cp.2.2.2.2.2.1.2 cp.2.1.1 cp.2.1.2 ((passL_I (by decide) (by decide) nh).trans hjm) hj60 hp60 hb' (by omega) ((passL_I (by decide) (by omega) nh).trans hkd) hk5 (by rcases (cp.2.2.2.2.2.2.1 b hbn).2.2.1 with ⟨t, q1, q2⟩ | q1 | ⟨k, q1, q2⟩; exact Or.inl ⟨t, q1, by omega⟩; exact Or.inr (Or.inl q1); exact Or.inr (Or.inr ⟨k, q1, by have := cp.2.2.1.2; omega⟩)) (fun j hj => (cp.2.2.2.2.2.2.2.2.2.2 j hj).2.1.nn) dp.2.2.2.2.1 ((cp.2.2.2.2.2.2.2.2.2.2 h (by omega)).2.1.nn) dp.2.2.2.2.2.2 (by have := cp.2.1.2; have := cc.2.2.2.2.2.1.2; omega)) M_10_goOn mw_730 CK_10 rfl hm.1 rfl rfl rfl (by unfold roomy; rw [hM.R]; exact ⟨⟨Nat.le_of_ble_eq_true rfl, Nat.le_of_ble_eq_true rfl⟩, ⟨Nat.le_of_ble_eq_true rfl, Nat.le_of_ble_eq_true rfl⟩, Nat.le_of_ble_eq_true rfl⟩) dX10_tenth_178 rfl (fun v_178 S_178 hp_178 => ?_)
                  obtain ⟨rfl, rfl⟩ := hp_178
                  refine j_iinc (v := nI (h + 1)) (q := 184) hO dX10_tenth_181 rfl rfl (nI_S h) (by rw [hM.nL]; decide) rfl ?_
                  refine j_goto (tgt := 90) hO dX10_tenth_184 (by decide) ?_
                  refine Jg.lv (lv' := [(0, .ref (sA S 10 0)), (1, .int (nI (h + 1)))]) ⟨rfl, rfl, trivial⟩ ?_
                  have hI := ih (h + 1) (by omega)
                  rw [((act_m (fun z => c104 z.1) c140 e9).trans (end_g hb' (by omega) hc165 hTk) : actL γ (h + 1) = _)] at hI
                  exact hI
              · refine j_aload_n (q := 169) hO dX10_tenth_168 rfl rfl ?_
                refine j_iload_n (q := 170) hO dX10_tenth_169 rfl rfl ?_
                refine j_callV (x := 10) (q := 173) hO (c_10_isTaken (lx X) S (passL (actL γ h) h nh) _ nr nk h hm cp.2.2.2.1.1 cp.2.2.2.1.2 cp.2.2.2.2.1.1 cp.2.2.2.2.1.2 hp60 (fun k hk => by obtain ⟨w, hw, hwl⟩ := dp.2.2.2.2.2.1 k hk; rw [hw]; exact (cp.2.2.2.2.2.2.2.2.2.1 k hk).2 w (by have := ctF_le (α := (passL (actL γ h) h nh)) (s := 4) np; have := cp.2.2.2.2.2.1.2; omega)) dp.2.2.2.2.2.2 (by have := cp.2.1.2; have := cc.2.2.2.2.2.1.2; omega)) M_10_isTaken mw_726 CK_10 rfl hm.1 rfl rfl rfl (by unfold roomy; rw [hM.R]; exact ⟨⟨Nat.le_of_ble_eq_true rfl, Nat.le_of_ble_eq_true rfl⟩, ⟨Nat.le_of_ble_eq_true rfl, Nat.le_of_ble_eq_true rfl⟩, Nat.le_of_ble_eq_true rfl⟩) dX10_tenth_170 rfl (fun v_170 S_170 hp_170 => ?_)
                obtain ⟨rfl, rfl⟩ := hp_170.s hTk
                refine j_if_ne (tgt := 181) (q := 176) hO dX10_tenth_173 rfl (by decide) (fun c173 => ?_) (fun c173 => ?_)
                · refine j_iinc (v := nI (h + 1)) (q := 184) hO dX10_tenth_181 rfl rfl (nI_S h) (by rw [hM.nL]; decide) rfl ?_
                  refine j_goto (tgt := 90) hO dX10_tenth_184 (by decide) ?_
                  refine Jg.lv (lv' := [(0, .ref (sA S 10 0)), (1, .int (nI (h + 1)))]) ⟨rfl, rfl, trivial⟩ ?_
                  have hI := ih (h + 1) (by omega)
                  rw [((act_m (fun z => c104 z.1) c140 e9).trans (end_t hb' (by omega) hc165 hTk) : actL γ (h + 1) = _)] at hI
                  exact hI
                · exact absurd c173 (by decide)
        · refine j_aload_n (q := 108) hO dX10_tenth_107 rfl rfl ?_
          refine m_getA (j := 29) (x := 42) (q := 111) hO hm dX10_tenth_108 rfl mw_527 (by decide) rfl rfl ?_
          refine j_iload_n (q := 112) hO dX10_tenth_111 rfl rfl ?_
          refine m_iald (x := 42) (a := 23) (q := 113) hO hm MK_42 dX10_tenth_112 rfl rfl rfl (by omega) ?_
          refine j_aload_n (q := 114) hO dX10_tenth_113 rfl rfl ?_
          refine m_getI (j := 35) (q := 117) hO hm dX10_tenth_114 rfl mw_533 (by decide) rfl ?_
          refine j_icmp_ne (tgt := 134) (q := 120) hO dX10_tenth_117 rfl (by decide) (fun c117 => ?_) (fun c117 => ?_)
          · refine j_aload_n (q := 135) hO dX10_tenth_134 rfl rfl ?_
            refine m_getA (j := 34) (x := 47) (q := 138) hO hm dX10_tenth_135 rfl mw_532 (by decide) rfl rfl ?_
            refine j_iload_n (q := 139) hO dX10_tenth_138 rfl rfl ?_
            refine m_zald (x := 47) (a := 28) (q := 140) hO hm MK_47 dX10_tenth_139 rfl rfl rfl (by omega) ?_
            refine j_if_eq (tgt := 181) (q := 143) hO dX10_tenth_140 rfl (by decide) (fun c140 => ?_) (fun c140 => ?_)
            · refine j_iinc (v := nI (h + 1)) (q := 184) hO dX10_tenth_181 rfl rfl (nI_S h) (by rw [hM.nL]; decide) rfl ?_
              refine j_goto (tgt := 90) hO dX10_tenth_184 (by decide) ?_
              refine Jg.lv (lv' := [(0, .ref (sA S 10 0)), (1, .int (nI (h + 1)))]) ⟨rfl, rfl, trivial⟩ ?_
              have hI := ih (h + 1) (by omega)
              rw [(act_s (fun z => c117 z.2) c140 : actL γ (h + 1) = _)] at hI
              exact hI
            · have s1 : aI (actL γ h) 25 h = 1 := hmv h (Nat.le_refl _) (by omega) c140
              obtain ⟨b, hb, hbn⟩ := hd.2.2.1 h (by omega) s1
              have hb' : aI (passL (actL γ h) h nh) 26 h = nI b := (passL_I (by decide) (by omega) nh).trans hb
              have hj60 : jm < 60 := by have := ctF_lt (α := actL γ h) (s := 5) (p := h) (n := np) (by omega) (by rw [s1]; decide); have := cc.2.2.2.2.2.1.2; omega
              refine j_aload_n (q := 144) hO dX10_tenth_143 rfl rfl ?_
              refine j_iload_n (q := 145) hO dX10_tenth_144 rfl rfl ?_
              refine j_callV (x := 10) (q := 148) hO (c_10_pass (lx X) S (actL γ h) _ nh h hm cc.2.1.1 cc.2.1.2 hp60 hd.2.2.2.2.2.2 (by have := cc.2.2.2.2.2.1.2; omega)) M_10_pass mw_713 CK_10 rfl hm.1 rfl rfl rfl (by unfold roomy; rw [hM.R]; exact ⟨⟨Nat.le_of_ble_eq_true rfl, Nat.le_of_ble_eq_true rfl⟩, ⟨Nat.le_of_ble_eq_true rfl, Nat.le_of_ble_eq_true rfl⟩, Nat.le_of_ble_eq_true rfl⟩) dX10_tenth_145 rfl (fun v_145 S_145 hp_145 => ?_)
              obtain ⟨rfl, rfl⟩ := hp_145
              refine j_aload_n (q := 149) hO dX10_tenth_148 rfl rfl ?_
              refine m_getA (j := 33) (x := 46) (q := 152) hO hm dX10_tenth_149 rfl mw_531 (by decide) rfl rfl ?_
              refine j_iload_n (q := 153) hO dX10_tenth_152 rfl rfl ?_
              refine m_iald (x := 46) (a := 27) (q := 154) hO hm MK_46 dX10_tenth_153 rfl rfl rfl (by omega) ?_
              refine j_aload_n (q := 155) hO dX10_tenth_154 rfl rfl ?_
              refine m_getA (j := 2) (x := 20) (q := 158) hO hm dX10_tenth_155 rfl mw_500 (by decide) rfl rfl ?_
              refine j_aload_n (q := 159) hO dX10_tenth_158 rfl rfl ?_
              refine m_getA (j := 32) (x := 45) (q := 162) hO hm dX10_tenth_159 rfl mw_530 (by decide) rfl rfl ?_
              refine j_iload_n (q := 163) hO dX10_tenth_162 rfl rfl ?_
              refine m_iald (x := 45) (a := 26) (q := 164) hO hm MK_45 dX10_tenth_163 rfl rfl rfl (by omega) ?_
              refine m_iald (x := 20) (a := 1) (q := 165) hO hm MK_20 dX10_tenth_164 rfl rfl (j := b) hb' (by omega) ?_
              refine j_icmp_ne (tgt := 181) (q := 168) hO dX10_tenth_165 rfl (by decide) (fun c165 => ?_) (fun c165 => ?_)
              · refine j_iinc (v := nI (h + 1)) (q := 184) hO dX10_tenth_181 rfl rfl (nI_S h) (by rw [hM.nL]; decide) rfl ?_
                refine j_goto (tgt := 90) hO dX10_tenth_184 (by decide) ?_
                refine Jg.lv (lv' := [(0, .ref (sA S 10 0)), (1, .int (nI (h + 1)))]) ⟨rfl, rfl, trivial⟩ ?_
                have hI := ih (h + 1) (by omega)
                rw [((act_m (fun z => c117 z.2) c140 e9).trans (end_n hb' (by omega) c165) : actL γ (h + 1) = _)] at hI
                exact hI
              · obtain ⟨kd, hkd, hk5⟩ := (cc.2.2.2.2.2.2.2.2.2.2 h (by omega)).1
                have cp := cc.sm (Sm.rf.pass (p := h) nh)
                have dp := hd.pass (p := h) nh
                have hc165 : aI (passL (actL γ h) h nh) 27 h = aI (passL (actL γ h) h nh) 1 b := c165
                rcases hTk : takenF (passL (actL γ h) h nh) h with _ | δ
                · refine j_aload_n (q := 169) hO dX10_tenth_168 rfl rfl ?_
                  refine j_iload_n (q := 170) hO dX10_tenth_169 rfl rfl ?_
                  refine j_callV (x := 10) (q := 173) hO (c_10_isTaken (lx X) S (passL (actL γ h) h nh) _ nr nk h hm cp.2.2.2.1.1 cp.2.2.2.1.2 cp.2.2.2.2.1.1 cp.2.2.2.2.1.2 hp60 (fun k hk => by obtain ⟨w, hw, hwl⟩ := dp.2.2.2.2.2.1 k hk; rw [hw]; exact (cp.2.2.2.2.2.2.2.2.2.1 k hk).2 w (by have := ctF_le (α := (passL (actL γ h) h nh)) (s := 4) np; have := cp.2.2.2.2.2.1.2; omega)) dp.2.2.2.2.2.2 (by have := cp.2.1.2; have := cc.2.2.2.2.2.1.2; omega)) M_10_isTaken mw_726 CK_10 rfl hm.1 rfl rfl rfl (by unfold roomy; rw [hM.R]; exact ⟨⟨Nat.le_of_ble_eq_true rfl, Nat.le_of_ble_eq_true rfl⟩, ⟨Nat.le_of_ble_eq_true rfl, Nat.le_of_ble_eq_true rfl⟩, Nat.le_of_ble_eq_true rfl⟩) dX10_tenth_170 rfl (fun v_170 S_170 hp_170 => ?_)
                  obtain ⟨rfl, rfl⟩ := hp_170.o hTk
                  refine j_if_ne (tgt := 181) (q := 176) hO dX10_tenth_173 rfl (by decide) (fun c173 => ?_) (fun c173 => ?_)
                  · exact absurd rfl c173
                  · refine j_aload_n (q := 177) hO dX10_tenth_176 rfl rfl ?_
                    refine j_iload_n (q := 178) hO dX10_tenth_177 rfl rfl ?_
                    refine j_callV (x := 10) (q := 181) hO (c_10_goOn (lx X) S (passL (actL γ h) h nh) _ np nh jm h b kd hm cp.2.2.2.2.2.1.1 cp.2.2.2.2.2.1.2 cp.2.1.1 cp.2.1.2 ((passL_I (by decide) (by decide) nh).trans hjm) hj60 hp60 hb' (by omega) ((passL_I (by decide) (by omega) nh).trans hkd) hk5 (by rcases (cp.2.2.2.2.2.2.1 b hbn).2.2.1 with ⟨t, q1, q2⟩ | q1 | ⟨k, q1, q2⟩; exact Or.inl ⟨t, q1, by omega⟩; exact Or.inr (Or.inl q1); exact Or.inr (Or.inr ⟨k, q1, by have := cp.2.2.1.2; omega⟩)) (fun j hj => (cp.2.2.2.2.2.2.2.2.2.2 j hj).2.1.nn) dp.2.2.2.2.1 ((cp.2.2.2.2.2.2.2.2.2.2 h (by omega)).2.1.nn) dp.2.2.2.2.2.2 (by have := cp.2.1.2; have := cc.2.2.2.2.2.1.2; omega)) M_10_goOn mw_730 CK_10 rfl hm.1 rfl rfl rfl (by unfold roomy; rw [hM.R]; exact ⟨⟨Nat.le_of_ble_eq_true rfl, Nat.le_of_ble_eq_true rfl⟩, ⟨Nat.le_of_ble_eq_true rfl, Nat.le_of_ble_eq_true rfl⟩, Nat.le_of_ble_eq_true rfl⟩) dX10_tenth_178 rfl (fun v_178 S_178 hp_178 => ?_)
                    obtain ⟨rfl, rfl⟩ := hp_178
                    refine j_iinc (v := nI (h + 1)) (q := 184) hO dX10_tenth_181 rfl rfl (nI_S h) (by rw [hM.nL]; decide) rfl ?_
                    refine j_goto (tgt := 90) hO dX10_tenth_184 (by decide) ?_
                    refine Jg.lv (lv' := [(0, .ref (sA S 10 0)), (1, .int (nI (h + 1)))]) ⟨rfl, rfl, trivial⟩ ?_
                    have hI := ih (h + 1) (by omega)
                    rw [((act_m (fun z => c117 z.2) c140 e9).trans (end_g hb' (by omega) hc165 hTk) : actL γ (h + 1) = _)] at hI
                    exact hI
                · refine j_aload_n (q := 169) hO dX10_tenth_168 rfl rfl ?_
                  refine j_iload_n (q := 170) hO dX10_tenth_169 rfl rfl ?_
                  refine j_callV (x := 10) (q := 173) hO (c_10_isTaken (lx X) S (passL (actL γ h) h nh) _ nr nk h hm cp.2.2.2.1.1 cp.2.2.2.1.2 cp.2.2.2.2.1.1 cp.2.2.2.2.1.2 hp60 (fun k hk => by obtain ⟨w, hw, hwl⟩ := dp.2.2.2.2.2.1 k hk; rw [hw]; exact (cp.2.2.2.2.2.2.2.2.2.1 k hk).2 w (by have := ctF_le (α := (passL (actL γ h) h nh)) (s := 4) np; have := cp.2.2.2.2.2.1.2; omega)) dp.2.2.2.2.2.2 (by have := cp.2.1.2; have := cc.2.2.2.2.2.1.2; omega)) M_10_isTaken mw_726 CK_10 rfl hm.1 rfl rfl rfl (by unfold roomy; rw [hM.R]; exact ⟨⟨Nat.le_of_ble_eq_true rfl, Nat.le_of_ble_eq_true rfl⟩, ⟨Nat.le_of_ble_eq_true rfl, Nat.le_of_ble_eq_true rfl⟩, Nat.le_of_ble_eq_true rfl⟩) dX10_tenth_170 rfl (fun v_170 S_170 hp_170 => ?_)
                  obtain ⟨rfl, rfl⟩ := hp_170.s hTk
                  refine j_if_ne (tgt := 181) (q := 176) hO dX10_tenth_173 rfl (by decide) (fun c173 => ?_) (fun c173 => ?_)
                  · refine j_iinc (v := nI (h + 1)) (q := 184) hO dX10_tenth_181 rfl rfl (nI_S h) (by rw [hM.nL]; decide) rfl ?_
                    refine j_goto (tgt := 90) hO dX10_tenth_184 (by decide) ?_
                    refine Jg.lv (lv' := [(0, .ref (sA S 10 0)), (1, .int (nI (h + 1)))]) ⟨rfl, rfl, trivial⟩ ?_
                    have hI := ih (h + 1) (by omega)
                    rw [((act_m (fun z => c117 z.2) c140 e9).trans (end_t hb' (by omega) hc165 hTk) : actL γ (h + 1) = _)] at hI
                    exact hI
                  · exact absurd c173 (by decide)
          · obtain ⟨b, hb, hbn⟩ := (cc.2.2.2.2.2.2.2.2.2.2 h (by omega)).2.2.1
            have hj60 : jm < 60 := by have := ctF_lt (α := actL γ h) (s := 5) (p := h) (n := np) (by omega) (by rw [c104]; decide); have := cc.2.2.2.2.2.1.2; omega
            refine j_aload_n (q := 121) hO dX10_tenth_120 rfl rfl ?_
            refine j_iload_n (q := 122) hO dX10_tenth_121 rfl rfl ?_
            refine j_aload_n (q := 123) hO dX10_tenth_122 rfl rfl ?_
            refine m_getA (j := 30) (x := 43) (q := 126) hO hm dX10_tenth_123 rfl mw_528 (by decide) rfl rfl ?_
            refine j_iload_n (q := 127) hO dX10_tenth_126 rfl rfl ?_
            refine m_iald (x := 43) (a := 24) (q := 128) hO hm MK_43 dX10_tenth_127 rfl rfl rfl (by omega) ?_
            refine j_callV (x := 10) (q := 131) hO (c_10_enter (lx X) S (actL γ h) _ np nh jm h b hm hnp cc.2.2.2.2.2.1.2 cc.2.1.1 cc.2.1.2 hjm hj60 hp60 (by omega) hsz hd.2.2.2.2.2.2 (by have := cc.2.2.2.2.2.1.2; omega)) M_10_enter mw_693 CK_10 rfl hm.1 rfl rfl (by rw [hb]; rfl) (by unfold roomy; rw [hM.R]; exact ⟨⟨Nat.le_of_ble_eq_true rfl, Nat.le_of_ble_eq_true rfl⟩, ⟨Nat.le_of_ble_eq_true rfl, Nat.le_of_ble_eq_true rfl⟩, Nat.le_of_ble_eq_true rfl⟩) dX10_tenth_128 rfl (fun v_128 S_128 hp_128 => ?_)
            obtain ⟨rfl, rfl⟩ := hp_128
            refine j_goto (tgt := 181) hO dX10_tenth_131 (by decide) ?_
            refine j_iinc (v := nI (h + 1)) (q := 184) hO dX10_tenth_181 rfl rfl (nI_S h) (by rw [hM.nL]; decide) rfl ?_
            refine j_goto (tgt := 90) hO dX10_tenth_184 (by decide) ?_
            refine Jg.lv (lv' := [(0, .ref (sA S 10 0)), (1, .int (nI (h + 1)))]) ⟨rfl, rfl, trivial⟩ ?_
            have hI := ih (h + 1) (by omega)
            rw [(act_e c104 c117 hb (by omega) : actL γ (h + 1) = _)] at hI
            exact hI
  have loop1 : ∀ m h, h + m = np → Jg X 0 0 (wr S (mvL (qI α 0 35 (aI α 0 35 + 1)) h)) 12 [(0, .ref (sA S 10 0)), (1, .int (nI h))] [] := by
    intro m
    induction m with
    | zero =>
      intro h hz
      obtain rfl : h = np := by omega
      have h60 := c.2.2.2.2.2.1.2
      have cm := c.sm ((Sm.rf.I rfl (Or.inr rfl)).mvB h : Sm α (mvL (qI α 0 35 (aI α 0 35 + 1)) h))
      have hnp := cm.2.2.2.2.2.1.1
      have dm := (d.tick ht ht1).mv h
      have hb6 := cm.1.2
      have np60 := cm.2.2.2.2.2.1.2
      refine j_iload_n (q := 13) hO dX10_tenth_12 rfl rfl ?_
      refine j_aload_n (q := 14) hO dX10_tenth_13 rfl rfl ?_
      refine m_getI (j := 26) (q := 17) hO hm dX10_tenth_14 rfl mw_524 (by decide) rfl ?_
      refine j_icmp_ge (tgt := 88) (q := 20) hO dX10_tenth_17 rfl (by decide) (fun c17 => ?_) (fun c17 => ?_)
      · refine j_iconst (v := 0) (q := 89) hO dX10_tenth_88 rfl (by decide) ?_
        refine j_istore_n (q := 90) hO dX10_tenth_89 rfl (by rw [hM.nL]; decide) rfl ?_
        refine Jg.lv (lv' := [(0, .ref (sA S 10 0)), (1, .int (nI 0))]) ⟨rfl, rfl, trivial⟩ ?_
        exact loop2 (mvL (qI α 0 35 (aI α 0 35 + 1)) h) cm dm mvL_Mv (by unfold tenthF; rw [show nn (aI α 0 26) = h from by rw [c.2.2.2.2.2.1.1]; exact nn_nI (by omega)]) h 0 (by omega)
      · exact absurd (by rw [hnp]; exact nI_le (Nat.le_refl _) (by omega)) c17
    | succ m ih =>
      intro h hz
      have cm := c.sm ((Sm.rf.I rfl (Or.inr rfl)).mvB h : Sm α (mvL (qI α 0 35 (aI α 0 35 + 1)) h))
      have hnp := cm.2.2.2.2.2.1.1
      have hp60 : h < 60 := by have := cm.2.2.2.2.2.1.2; omega
      have dm := (d.tick ht ht1).mv h
      have hb6 := cm.1.2
      have np60 := cm.2.2.2.2.2.1.2
      refine j_iload_n (q := 13) hO dX10_tenth_12 rfl rfl ?_
      refine j_aload_n (q := 14) hO dX10_tenth_13 rfl rfl ?_
      refine m_getI (j := 26) (q := 17) hO hm dX10_tenth_14 rfl mw_524 (by decide) rfl ?_
      refine j_icmp_ge (tgt := 88) (q := 20) hO dX10_tenth_17 rfl (by decide) (fun c17 => ?_) (fun c17 => ?_)
      · exact absurd c17 (by rw [hnp]; exact nI_ge (by omega) (by omega))
      · refine j_aload_n (q := 21) hO dX10_tenth_20 rfl rfl ?_
        refine m_getA (j := 34) (x := 47) (q := 24) hO hm dX10_tenth_21 rfl mw_532 (by decide) rfl rfl ?_
        refine j_iload_n (q := 25) hO dX10_tenth_24 rfl rfl ?_
        refine j_aload_n (q := 26) hO dX10_tenth_25 rfl rfl ?_
        refine m_getA (j := 31) (x := 44) (q := 29) hO hm dX10_tenth_26 rfl mw_529 (by decide) rfl rfl ?_
        refine j_iload_n (q := 30) hO dX10_tenth_29 rfl rfl ?_
        refine m_iald (x := 44) (a := 25) (q := 31) hO hm MK_44 dX10_tenth_30 rfl rfl rfl (by omega) ?_
        refine j_iconst (v := 1) (q := 32) hO dX10_tenth_31 rfl (by decide) ?_
        refine j_icmp_ne (tgt := 57) (q := 35) hO dX10_tenth_32 rfl (by decide) (fun c32 => ?_) (fun c32 => ?_)
        · refine j_iconst (v := 0) (q := 58) hO dX10_tenth_57 rfl (by decide) ?_
          refine m_zast (x := 47) (a := 28) (q := 59) hO hm MK_47 dX10_tenth_58 rfl rfl (by decide) rfl (by omega) ?_
          refine j_aload_n (q := 60) hO dX10_tenth_59 rfl rfl ?_
          refine m_getA (j := 33) (x := 46) (q := 63) hO hm dX10_tenth_60 rfl mw_531 (by decide) rfl rfl ?_
          refine j_iload_n (q := 64) hO dX10_tenth_63 rfl rfl ?_
          refine j_dup2_11 (q := 65) hO dX10_tenth_64 rfl rfl rfl ?_
          refine m_iald (x := 46) (a := 27) (q := 66) hO hm MK_46 dX10_tenth_65 rfl rfl rfl (by omega) ?_
          refine j_aload_n (q := 67) hO dX10_tenth_66 rfl rfl ?_
          refine m_getA (j := 34) (x := 47) (q := 70) hO hm dX10_tenth_67 rfl mw_532 (by decide) rfl rfl ?_
          refine j_iload_n (q := 71) hO dX10_tenth_70 rfl rfl ?_
          refine m_zald (x := 47) (a := 28) (q := 72) hO hm MK_47 dX10_tenth_71 rfl rfl rfl (by omega) ?_
          refine j_if_eq (tgt := 79) (q := 75) hO dX10_tenth_72 rfl (by decide) (fun c72 => ?_) (fun c72 => ?_)
          · refine j_iconst (v := 0) (q := 80) hO dX10_tenth_79 rfl (by decide) ?_
            refine j_iadd (q := 81) hO dX10_tenth_80 rfl ?_
            refine m_iast (x := 46) (a := 27) (q := 82) hO hm MK_46 dX10_tenth_81 rfl rfl rfl (by omega) ?_
            refine j_iinc (v := nI (h + 1)) (q := 85) hO dX10_tenth_82 rfl rfl (nI_S h) (by rw [hM.nL]; decide) rfl ?_
            refine j_goto (tgt := 12) hO dX10_tenth_85 (by decide) ?_
            refine Jg.lv (lv' := [(0, .ref (sA S 10 0)), (1, .int (nI (h + 1)))]) ⟨rfl, rfl, trivial⟩ ?_
            have hI := ih (h + 1) (by omega)
            rw [(mv_n1 c32 : mvL (qI α 0 35 (aI α 0 35 + 1)) (h + 1) = _)] at hI
            exact hI
          · exact absurd qI_s c72
        · obtain ⟨b, hb, hbn⟩ := dm.2.2.1 h (by omega) c32
          refine j_aload_n (q := 36) hO dX10_tenth_35 rfl rfl ?_
          refine m_getI (j := 35) (q := 39) hO hm dX10_tenth_36 rfl mw_533 (by decide) rfl ?_
          refine j_aload_n (q := 40) hO dX10_tenth_39 rfl rfl ?_
          refine m_getA (j := 8) (x := 26) (q := 43) hO hm dX10_tenth_40 rfl mw_506 (by decide) rfl rfl ?_
          refine j_aload_n (q := 44) hO dX10_tenth_43 rfl rfl ?_
          refine m_getA (j := 32) (x := 45) (q := 47) hO hm dX10_tenth_44 rfl mw_530 (by decide) rfl rfl ?_
          refine j_iload_n (q := 48) hO dX10_tenth_47 rfl rfl ?_
          refine m_iald (x := 45) (a := 26) (q := 49) hO hm MK_45 dX10_tenth_48 rfl rfl rfl (by omega) ?_
          refine m_iald (x := 26) (a := 7) (q := 50) hO hm MK_26 dX10_tenth_49 rfl rfl (j := b) hb (by omega) ?_
          refine j_icmp_le (tgt := 57) (q := 53) hO dX10_tenth_50 rfl (by decide) (fun c50 => ?_) (fun c50 => ?_)
          · refine j_iconst (v := 0) (q := 58) hO dX10_tenth_57 rfl (by decide) ?_
            refine m_zast (x := 47) (a := 28) (q := 59) hO hm MK_47 dX10_tenth_58 rfl rfl (by decide) rfl (by omega) ?_
            refine j_aload_n (q := 60) hO dX10_tenth_59 rfl rfl ?_
            refine m_getA (j := 33) (x := 46) (q := 63) hO hm dX10_tenth_60 rfl mw_531 (by decide) rfl rfl ?_
            refine j_iload_n (q := 64) hO dX10_tenth_63 rfl rfl ?_
            refine j_dup2_11 (q := 65) hO dX10_tenth_64 rfl rfl rfl ?_
            refine m_iald (x := 46) (a := 27) (q := 66) hO hm MK_46 dX10_tenth_65 rfl rfl rfl (by omega) ?_
            refine j_aload_n (q := 67) hO dX10_tenth_66 rfl rfl ?_
            refine m_getA (j := 34) (x := 47) (q := 70) hO hm dX10_tenth_67 rfl mw_532 (by decide) rfl rfl ?_
            refine j_iload_n (q := 71) hO dX10_tenth_70 rfl rfl ?_
            refine m_zald (x := 47) (a := 28) (q := 72) hO hm MK_47 dX10_tenth_71 rfl rfl rfl (by omega) ?_
            refine j_if_eq (tgt := 79) (q := 75) hO dX10_tenth_72 rfl (by decide) (fun c72 => ?_) (fun c72 => ?_)
            · refine j_iconst (v := 0) (q := 80) hO dX10_tenth_79 rfl (by decide) ?_
              refine j_iadd (q := 81) hO dX10_tenth_80 rfl ?_
              refine m_iast (x := 46) (a := 27) (q := 82) hO hm MK_46 dX10_tenth_81 rfl rfl rfl (by omega) ?_
              refine j_iinc (v := nI (h + 1)) (q := 85) hO dX10_tenth_82 rfl rfl (nI_S h) (by rw [hM.nL]; decide) rfl ?_
              refine j_goto (tgt := 12) hO dX10_tenth_85 (by decide) ?_
              refine Jg.lv (lv' := [(0, .ref (sA S 10 0)), (1, .int (nI (h + 1)))]) ⟨rfl, rfl, trivial⟩ ?_
              have hI := ih (h + 1) (by omega)
              rw [(mv_n2 hb (by omega) c50 : mvL (qI α 0 35 (aI α 0 35 + 1)) (h + 1) = _)] at hI
              exact hI
            · exact absurd qI_s c72
          · refine j_iconst (v := 1) (q := 54) hO dX10_tenth_53 rfl (by decide) ?_
            refine j_goto (tgt := 58) hO dX10_tenth_54 (by decide) ?_
            refine m_zast (x := 47) (a := 28) (q := 59) hO hm MK_47 dX10_tenth_58 rfl rfl (by decide) rfl (by omega) ?_
            refine j_aload_n (q := 60) hO dX10_tenth_59 rfl rfl ?_
            refine m_getA (j := 33) (x := 46) (q := 63) hO hm dX10_tenth_60 rfl mw_531 (by decide) rfl rfl ?_
            refine j_iload_n (q := 64) hO dX10_tenth_63 rfl rfl ?_
            refine j_dup2_11 (q := 65) hO dX10_tenth_64 rfl rfl rfl ?_
            refine m_iald (x := 46) (a := 27) (q := 66) hO hm MK_46 dX10_tenth_65 rfl rfl rfl (by omega) ?_
            refine j_aload_n (q := 67) hO dX10_tenth_66 rfl rfl ?_
            refine m_getA (j := 34) (x := 47) (q := 70) hO hm dX10_tenth_67 rfl mw_532 (by decide) rfl rfl ?_
            refine j_iload_n (q := 71) hO dX10_tenth_70 rfl rfl ?_
            refine m_zald (x := 47) (a := 28) (q := 72) hO hm MK_47 dX10_tenth_71 rfl rfl rfl (by omega) ?_
            refine j_if_eq (tgt := 79) (q := 75) hO dX10_tenth_72 rfl (by decide) (fun c72 => ?_) (fun c72 => ?_)
            · exact absurd (qI_s.symm.trans c72) (by decide)
            · refine j_iconst (v := 1) (q := 76) hO dX10_tenth_75 rfl (by decide) ?_
              refine j_goto (tgt := 80) hO dX10_tenth_76 (by decide) ?_
              refine j_iadd (q := 81) hO dX10_tenth_80 rfl ?_
              refine m_iast (x := 46) (a := 27) (q := 82) hO hm MK_46 dX10_tenth_81 rfl rfl rfl (by omega) ?_
              refine j_iinc (v := nI (h + 1)) (q := 85) hO dX10_tenth_82 rfl rfl (nI_S h) (by rw [hM.nL]; decide) rfl ?_
              refine j_goto (tgt := 12) hO dX10_tenth_85 (by decide) ?_
              refine Jg.lv (lv' := [(0, .ref (sA S 10 0)), (1, .int (nI (h + 1)))]) ⟨rfl, rfl, trivial⟩ ?_
              have hI := ih (h + 1) (by omega)
              rw [(mv_y c32 hb (by omega) c50 : mvL (qI α 0 35 (aI α 0 35 + 1)) (h + 1) = _)] at hI
              exact hI
  refine j_aload_n (q := 1) hO dX10_tenth_0 rfl rfl ?_
  refine j_dup (q := 2) hO dX10_tenth_1 rfl rfl ?_
  refine m_getI (j := 35) (q := 5) hO hm dX10_tenth_2 rfl mw_533 (by decide) rfl ?_
  refine j_iconst (v := 1) (q := 6) hO dX10_tenth_5 rfl (by decide) ?_
  refine j_iadd (q := 7) hO dX10_tenth_6 rfl ?_
  refine m_putI (j := 35) (q := 10) hO hm dX10_tenth_7 rfl mw_533 (by decide) rfl rfl (by decide +kernel) ?_
  refine j_iconst (v := 0) (q := 11) hO dX10_tenth_10 rfl (by decide) ?_
  refine j_istore_n (q := 12) hO dX10_tenth_11 rfl (by rw [hM.nL]; decide) rfl ?_
  refine Jg.lv (lv' := [(0, .ref (sA S 10 0)), (1, .int (nI 0))]) ⟨rfl, rfl, trivial⟩ ?_
  exact loop1 np 0 (by omega)

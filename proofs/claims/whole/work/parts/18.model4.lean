set_option maxHeartbeats 4000000 in
set_option maxRecDepth 100000 in
theorem c_10_isTaken (l : Launch) (S : St) (α : Al) (n nr nk p : Nat) (hm : MSh S) (hnr : aI α 0 16 = nI nr) (hn4 : nr ≤ 4) (hnk : aI α 0 20 = nI nk) (hk4 : nk ≤ 4) (hp : p < 60) (hpk : ∀ h, h < nk → PkOk (aD α 17 h) (aD α 18 h) (aI α 20 h)) (hT : TT α n) (hn : n < 2 ^ 30) : Ct l yX10_isTaken cX10_isTaken 4 (some .boolean) (rm 1 0 0 24) [.ref (sA S 10 0), .int (nI p)] (wr S α) (takPost S α p) := by
  refine Ct.of (by decide) (Nat.le_of_ble_eq_true rfl) (fun X hM => ?_)
  have hO := hM.1
  obtain rfl := hM.l
  show Jg X 0 0 (wr S α) 0 [(0, .ref (sA S 10 0)), (1, .int (nI p))] []
  have loop2 : ∀ m h, h + m = nk → scn (pickF α p) (aI α 21 p) (pickB α p) m h → robF α p = none → Jg X 0 0 (wr S α) 96 [(0, .ref (sA S 10 0)), (1, .int (nI p)), (2, .int (aI α 26 p)), (3, .int (nI h))] [] := by
    intro m
    induction m with
    | zero =>
      intro h hz hs hr0
      obtain rfl : h = nk := by omega
      refine j_iload_n (q := 97) hO dX10_isTaken_96 rfl rfl ?_
      refine j_aload_n (q := 98) hO dX10_isTaken_97 rfl rfl ?_
      refine m_getI (j := 20) (q := 101) hO hm dX10_isTaken_98 rfl mw_518 (by decide) rfl ?_
      refine j_icmp_ge (tgt := 209) (q := 104) hO dX10_isTaken_101 rfl (by decide) (fun c101 => ?_) (fun c101 => ?_)
      · refine j_iconst (v := 0) (q := 210) hO dX10_isTaken_209 rfl (by decide) ?_
        exact j_zret hM dX10_isTaken_210 (Nat.le_of_ble_eq_true rfl) (Nat.le_of_ble_eq_true rfl) (by decide) (takPost.n hr0 hs.z)
      · exact absurd (by rw [hnk]; exact nI_le (Nat.le_refl _) (by omega)) c101
    | succ m ih =>
      intro h hz hs hr0
      refine j_iload_n (q := 97) hO dX10_isTaken_96 rfl rfl ?_
      refine j_aload_n (q := 98) hO dX10_isTaken_97 rfl rfl ?_
      refine m_getI (j := 20) (q := 101) hO hm dX10_isTaken_98 rfl mw_518 (by decide) rfl ?_
      refine j_icmp_ge (tgt := 209) (q := 104) hO dX10_isTaken_101 rfl (by decide) (fun c101 => ?_) (fun c101 => ?_)
      · exact absurd c101 (by rw [hnk]; exact nI_ge (by omega) (by omega))
      · refine j_aload_n (q := 105) hO dX10_isTaken_104 rfl rfl ?_
        refine m_getA (j := 27) (x := 40) (q := 108) hO hm dX10_isTaken_105 rfl mw_525 (by decide) rfl rfl ?_
        refine j_iload_n (q := 109) hO dX10_isTaken_108 rfl rfl ?_
        refine m_iald (x := 40) (a := 21) (q := 110) hO hm MK_40 dX10_isTaken_109 rfl rfl rfl (by omega) ?_
        refine j_if_le (tgt := 209) (q := 113) hO dX10_isTaken_110 rfl (by decide) (fun c110 => ?_) (fun c110 => ?_)
        · refine j_iconst (v := 0) (q := 210) hO dX10_isTaken_209 rfl (by decide) ?_
          exact j_zret hM dX10_isTaken_210 (Nat.le_of_ble_eq_true rfl) (Nat.le_of_ble_eq_true rfl) (by decide) (takPost.n hr0 (hs.c c110))
        · refine j_aload_n (q := 114) hO dX10_isTaken_113 rfl rfl ?_
          refine m_getA (j := 21) (x := 35) (q := 117) hO hm dX10_isTaken_114 rfl mw_519 (by decide) rfl rfl ?_
          refine j_iload_n (q := 118) hO dX10_isTaken_117 rfl rfl ?_
          refine m_iald (x := 35) (a := 16) (q := 119) hO hm MK_35 dX10_isTaken_118 rfl rfl rfl (by omega) ?_
          refine j_iload_n (q := 120) hO dX10_isTaken_119 rfl rfl ?_
          refine j_icmp_ne (tgt := 203) (q := 123) hO dX10_isTaken_120 rfl (by decide) (fun c120 => ?_) (fun c120 => ?_)
          · refine j_iinc (v := nI (h + 1)) (q := 206) hO dX10_isTaken_203 rfl rfl (nI_S h) (by rw [hM.nL]; decide) rfl ?_
            refine j_goto (tgt := 96) hO dX10_isTaken_206 (by decide) ?_
            refine Jg.lv (lv' := [(0, .ref (sA S 10 0)), (1, .int (nI p)), (2, .int (aI α 26 p)), (3, .int (nI (h + 1)))]) ⟨rfl, rfl, rfl, rfl, trivial⟩ ?_
            exact ih (h + 1) (by omega) (hs.n c110 (decide_eq_false (fun z => c120 z.1))) hr0
          · refine j_aload_n (q := 124) hO dX10_isTaken_123 rfl rfl ?_
            refine m_getI (j := 35) (q := 127) hO hm dX10_isTaken_124 rfl mw_533 (by decide) rfl ?_
            refine j_aload_n (q := 128) hO dX10_isTaken_127 rfl rfl ?_
            refine m_getA (j := 24) (x := 38) (q := 131) hO hm dX10_isTaken_128 rfl mw_522 (by decide) rfl rfl ?_
            refine j_iload_n (q := 132) hO dX10_isTaken_131 rfl rfl ?_
            refine m_iald (x := 38) (a := 19) (q := 133) hO hm MK_38 dX10_isTaken_132 rfl rfl rfl (by omega) ?_
            refine j_icmp_lt (tgt := 203) (q := 136) hO dX10_isTaken_133 rfl (by decide) (fun c133 => ?_) (fun c133 => ?_)
            · refine j_iinc (v := nI (h + 1)) (q := 206) hO dX10_isTaken_203 rfl rfl (nI_S h) (by rw [hM.nL]; decide) rfl ?_
              refine j_goto (tgt := 96) hO dX10_isTaken_206 (by decide) ?_
              refine Jg.lv (lv' := [(0, .ref (sA S 10 0)), (1, .int (nI p)), (2, .int (aI α 26 p)), (3, .int (nI (h + 1)))]) ⟨rfl, rfl, rfl, rfl, trivial⟩ ?_
              exact ih (h + 1) (by omega) (hs.n c110 (decide_eq_false (fun z => z.2 c133))) hr0
            · refine j_aload_n (q := 137) hO dX10_isTaken_136 rfl rfl ?_
              refine m_getA (j := 24) (x := 38) (q := 140) hO hm dX10_isTaken_137 rfl mw_522 (by decide) rfl rfl ?_
              refine j_iload_n (q := 141) hO dX10_isTaken_140 rfl rfl ?_
              refine j_aload_n (q := 142) hO dX10_isTaken_141 rfl rfl ?_
              refine m_getI (j := 35) (q := 145) hO hm dX10_isTaken_142 rfl mw_533 (by decide) rfl ?_
              refine j_iconst (v := 1) (q := 146) hO dX10_isTaken_145 rfl (by decide) ?_
              refine j_iadd (q := 147) hO dX10_isTaken_146 rfl ?_
              refine j_ldc2d (q := 150) hO dX10_isTaken_147 rfl mw_676 ?_
              refine j_aload_n (q := 151) hO dX10_isTaken_150 rfl rfl ?_
              refine m_getA (j := 22) (x := 36) (q := 154) hO hm dX10_isTaken_151 rfl mw_520 (by decide) rfl rfl ?_
              refine j_iload_n (q := 155) hO dX10_isTaken_154 rfl rfl ?_
              refine m_dald (x := 36) (a := 17) (q := 156) hO hm MK_36 dX10_isTaken_155 rfl rfl rfl (by omega) ?_
              refine j_ddiv (q := 157) hO dX10_isTaken_156 rfl (hpk h (by omega)).1 ?_
              refine j_dconst1 (q := 158) hO dX10_isTaken_157 rfl ?_
              refine j_aload_n (q := 159) hO dX10_isTaken_158 rfl rfl ?_
              refine m_getA (j := 23) (x := 37) (q := 162) hO hm dX10_isTaken_159 rfl mw_521 (by decide) rfl rfl ?_
              refine j_iload_n (q := 163) hO dX10_isTaken_162 rfl rfl ?_
              refine m_dald (x := 37) (a := 18) (q := 164) hO hm MK_37 dX10_isTaken_163 rfl rfl rfl (by omega) ?_
              refine j_aload_n (q := 165) hO dX10_isTaken_164 rfl rfl ?_
              refine m_getA (j := 25) (x := 39) (q := 168) hO hm dX10_isTaken_165 rfl mw_523 (by decide) rfl rfl ?_
              refine j_iload_n (q := 169) hO dX10_isTaken_168 rfl rfl ?_
              refine m_iald (x := 39) (a := 20) (q := 170) hO hm MK_39 dX10_isTaken_169 rfl rfl rfl (by omega) ?_
              refine j_i2d (q := 171) hO dX10_isTaken_170 rfl ?_
              refine j_dmul (q := 172) hO dX10_isTaken_171 rfl (hpk h (by omega)).2.1 ?_
              refine j_dadd (q := 173) hO dX10_isTaken_172 rfl (hpk h (by omega)).2.2.1 ?_
              refine j_dmul (q := 174) hO dX10_isTaken_173 rfl (hpk h (by omega)).2.2.2 ?_
              refine j_d2i (q := 175) hO dX10_isTaken_174 rfl ?_
              refine j_iadd (q := 176) hO dX10_isTaken_175 rfl ?_
              refine m_iast (x := 38) (a := 19) (q := 177) hO hm MK_38 dX10_isTaken_176 rfl rfl rfl (by omega) ?_
              refine j_aload_n (q := 178) hO dX10_isTaken_177 rfl rfl ?_
              refine m_getA (j := 25) (x := 39) (q := 181) hO hm dX10_isTaken_178 rfl mw_523 (by decide) rfl rfl ?_
              refine j_iload_n (q := 182) hO dX10_isTaken_181 rfl rfl ?_
              refine j_dup2_11 (q := 183) hO dX10_isTaken_182 rfl rfl rfl ?_
              refine m_iald (x := 39) (a := 20) (q := 184) hO hm MK_39 dX10_isTaken_183 rfl rfl rfl (by omega) ?_
              refine j_iconst (v := 1) (q := 185) hO dX10_isTaken_184 rfl (by decide) ?_
              refine j_iadd (q := 186) hO dX10_isTaken_185 rfl ?_
              refine m_iast (x := 39) (a := 20) (q := 187) hO hm MK_39 dX10_isTaken_186 rfl rfl rfl (by omega) ?_
              refine j_aload_n (q := 188) hO dX10_isTaken_187 rfl rfl ?_
              refine m_getA (j := 31) (x := 44) (q := 191) hO hm dX10_isTaken_188 rfl mw_529 (by decide) rfl rfl ?_
              refine j_iload_n (q := 192) hO dX10_isTaken_191 rfl rfl ?_
              refine j_iconst (v := 4) (q := 193) hO dX10_isTaken_192 rfl (by decide) ?_
              refine m_iast (x := 44) (a := 25) (q := 194) hO hm MK_44 dX10_isTaken_193 rfl rfl rfl (by omega) ?_
              refine j_aload_n (q := 195) hO dX10_isTaken_194 rfl rfl ?_
              refine j_iload_n (q := 196) hO dX10_isTaken_195 rfl rfl ?_
              refine j_iconst (v := 5) (q := 197) hO dX10_isTaken_196 rfl (by decide) ?_
              refine j_iload_n (q := 198) hO dX10_isTaken_197 rfl rfl ?_
              refine j_callV (x := 10) (q := 201) hO (c_10_note (lx X) S _ n _ _ _ hm (hT.same rfl) hn) M_10_note mw_701 CK_10 rfl hm.1 rfl rfl rfl (by unfold roomy; rw [hM.R]; exact ⟨⟨Nat.le_of_ble_eq_true rfl, Nat.le_of_ble_eq_true rfl⟩, ⟨Nat.le_of_ble_eq_true rfl, Nat.le_of_ble_eq_true rfl⟩, Nat.le_of_ble_eq_true rfl⟩) dX10_isTaken_198 rfl (fun v_198 S_198 hp_198 => ?_)
              obtain ⟨rfl, rfl⟩ := hp_198
              refine j_iconst (v := 1) (q := 202) hO dX10_isTaken_201 rfl (by decide) ?_
              exact j_zret hM dX10_isTaken_202 (Nat.le_of_ble_eq_true rfl) (Nat.le_of_ble_eq_true rfl) (by decide) (takPost.p hr0 (hs.y c110 (decide_eq_true ⟨c120, c133⟩)))
  have loop1 : ∀ m r, r + m = nr → scn (robF α p) (aI α 21 p) (robB α p) m r → Jg X 0 0 (wr S α) 9 [(0, .ref (sA S 10 0)), (1, .int (nI p)), (2, .int (aI α 26 p)), (3, .int (nI r))] [] := by
    intro m
    induction m with
    | zero =>
      intro r hz hs
      obtain rfl : r = nr := by omega
      refine j_iload_n (q := 10) hO dX10_isTaken_9 rfl rfl ?_
      refine j_aload_n (q := 11) hO dX10_isTaken_10 rfl rfl ?_
      refine m_getI (j := 16) (q := 14) hO hm dX10_isTaken_11 rfl mw_514 (by decide) rfl ?_
      refine j_icmp_ge (tgt := 94) (q := 17) hO dX10_isTaken_14 rfl (by decide) (fun c14 => ?_) (fun c14 => ?_)
      · refine j_iconst (v := 0) (q := 95) hO dX10_isTaken_94 rfl (by decide) ?_
        refine j_istore_n (q := 96) hO dX10_isTaken_95 rfl (by rw [hM.nL]; decide) rfl ?_
        refine Jg.lv (lv' := [(0, .ref (sA S 10 0)), (1, .int (nI p)), (2, .int (aI α 26 p)), (3, .int (nI 0))]) ⟨rfl, rfl, rfl, rfl, trivial⟩ ?_
        exact loop2 nk 0 (by omega) (by unfold scn pickF; rw [show nn (aI α 0 20) = nk from by rw [hnk]; exact nn_nI (by omega)]) hs.z
      · exact absurd (by rw [hnr]; exact nI_le (Nat.le_refl _) (by omega)) c14
    | succ m ih =>
      intro r hz hs
      refine j_iload_n (q := 10) hO dX10_isTaken_9 rfl rfl ?_
      refine j_aload_n (q := 11) hO dX10_isTaken_10 rfl rfl ?_
      refine m_getI (j := 16) (q := 14) hO hm dX10_isTaken_11 rfl mw_514 (by decide) rfl ?_
      refine j_icmp_ge (tgt := 94) (q := 17) hO dX10_isTaken_14 rfl (by decide) (fun c14 => ?_) (fun c14 => ?_)
      · exact absurd c14 (by rw [hnr]; exact nI_ge (by omega) (by omega))
      · refine j_aload_n (q := 18) hO dX10_isTaken_17 rfl rfl ?_
        refine m_getA (j := 27) (x := 40) (q := 21) hO hm dX10_isTaken_18 rfl mw_525 (by decide) rfl rfl ?_
        refine j_iload_n (q := 22) hO dX10_isTaken_21 rfl rfl ?_
        refine m_iald (x := 40) (a := 21) (q := 23) hO hm MK_40 dX10_isTaken_22 rfl rfl rfl (by omega) ?_
        refine j_if_le (tgt := 94) (q := 26) hO dX10_isTaken_23 rfl (by decide) (fun c23 => ?_) (fun c23 => ?_)
        · refine j_iconst (v := 0) (q := 95) hO dX10_isTaken_94 rfl (by decide) ?_
          refine j_istore_n (q := 96) hO dX10_isTaken_95 rfl (by rw [hM.nL]; decide) rfl ?_
          refine Jg.lv (lv' := [(0, .ref (sA S 10 0)), (1, .int (nI p)), (2, .int (aI α 26 p)), (3, .int (nI 0))]) ⟨rfl, rfl, rfl, rfl, trivial⟩ ?_
          exact loop2 nk 0 (by omega) (by unfold scn pickF; rw [show nn (aI α 0 20) = nk from by rw [hnk]; exact nn_nI (by omega)]) (hs.c c23)
        · refine j_aload_n (q := 27) hO dX10_isTaken_26 rfl rfl ?_
          refine m_getA (j := 17) (x := 32) (q := 30) hO hm dX10_isTaken_27 rfl mw_515 (by decide) rfl rfl ?_
          refine j_iload_n (q := 31) hO dX10_isTaken_30 rfl rfl ?_
          refine m_iald (x := 32) (a := 13) (q := 32) hO hm MK_32 dX10_isTaken_31 rfl rfl rfl (by omega) ?_
          refine j_iload_n (q := 33) hO dX10_isTaken_32 rfl rfl ?_
          refine j_icmp_ne (tgt := 88) (q := 36) hO dX10_isTaken_33 rfl (by decide) (fun c33 => ?_) (fun c33 => ?_)
          · refine j_iinc (v := nI (r + 1)) (q := 91) hO dX10_isTaken_88 rfl rfl (nI_S r) (by rw [hM.nL]; decide) rfl ?_
            refine j_goto (tgt := 9) hO dX10_isTaken_91 (by decide) ?_
            refine Jg.lv (lv' := [(0, .ref (sA S 10 0)), (1, .int (nI p)), (2, .int (aI α 26 p)), (3, .int (nI (r + 1)))]) ⟨rfl, rfl, rfl, rfl, trivial⟩ ?_
            exact ih (r + 1) (by omega) (hs.n c23 (decide_eq_false (fun z => c33 z.1)))
          · refine j_aload_n (q := 37) hO dX10_isTaken_36 rfl rfl ?_
            refine m_getA (j := 28) (x := 41) (q := 40) hO hm dX10_isTaken_37 rfl mw_526 (by decide) rfl rfl ?_
            refine j_iload_n (q := 41) hO dX10_isTaken_40 rfl rfl ?_
            refine m_dald (x := 41) (a := 22) (q := 42) hO hm MK_41 dX10_isTaken_41 rfl rfl rfl (by omega) ?_
            refine j_aload_n (q := 43) hO dX10_isTaken_42 rfl rfl ?_
            refine m_getA (j := 18) (x := 33) (q := 46) hO hm dX10_isTaken_43 rfl mw_516 (by decide) rfl rfl ?_
            refine j_iload_n (q := 47) hO dX10_isTaken_46 rfl rfl ?_
            refine m_dald (x := 33) (a := 14) (q := 48) hO hm MK_33 dX10_isTaken_47 rfl rfl rfl (by omega) ?_
            refine j_dcmp (q := 49) hO dX10_isTaken_48 rfl ?_
            refine j_if_gt (tgt := 88) (q := 52) hO dX10_isTaken_49 rfl (by decide) (fun c49 => ?_) (fun c49 => ?_)
            · refine j_iinc (v := nI (r + 1)) (q := 91) hO dX10_isTaken_88 rfl rfl (nI_S r) (by rw [hM.nL]; decide) rfl ?_
              refine j_goto (tgt := 9) hO dX10_isTaken_91 (by decide) ?_
              refine Jg.lv (lv' := [(0, .ref (sA S 10 0)), (1, .int (nI p)), (2, .int (aI α 26 p)), (3, .int (nI (r + 1)))]) ⟨rfl, rfl, rfl, rfl, trivial⟩ ?_
              exact ih (r + 1) (by omega) (hs.n c23 (decide_eq_false (fun z => z.2.1 c49)))
            · refine j_aload_n (q := 53) hO dX10_isTaken_52 rfl rfl ?_
              refine j_iload_n (q := 54) hO dX10_isTaken_53 rfl rfl ?_
              refine j_bipush (v := 100) (q := 56) hO dX10_isTaken_54 rfl (by decide) ?_
              refine j_iload_n (q := 57) hO dX10_isTaken_56 rfl rfl ?_
              refine j_iadd (q := 58) hO dX10_isTaken_57 rfl ?_
              refine j_callV (x := 10) (q := 61) hO (c_10_chance (lx X) S _ _ _ hm) M_10_chance mw_717 CK_10 rfl hm.1 rfl rfl rfl (by unfold roomy; rw [hM.R]; exact ⟨⟨Nat.le_of_ble_eq_true rfl, Nat.le_of_ble_eq_true rfl⟩, ⟨Nat.le_of_ble_eq_true rfl, Nat.le_of_ble_eq_true rfl⟩, Nat.le_of_ble_eq_true rfl⟩) dX10_isTaken_58 rfl (fun v_58 S_58 hp_58 => ?_)
              obtain ⟨rfl, rfl⟩ := hp_58
              refine j_aload_n (q := 62) hO dX10_isTaken_61 rfl rfl ?_
              refine m_getA (j := 19) (x := 34) (q := 65) hO hm dX10_isTaken_62 rfl mw_517 (by decide) rfl rfl ?_
              refine j_iload_n (q := 66) hO dX10_isTaken_65 rfl rfl ?_
              refine m_dald (x := 34) (a := 15) (q := 67) hO hm MK_34 dX10_isTaken_66 rfl rfl rfl (by omega) ?_
              refine j_dcmp (q := 68) hO dX10_isTaken_67 rfl ?_
              refine j_if_lt (tgt := 88) (q := 71) hO dX10_isTaken_68 rfl (by decide) (fun c68 => ?_) (fun c68 => ?_)
              · refine j_iinc (v := nI (r + 1)) (q := 91) hO dX10_isTaken_88 rfl rfl (nI_S r) (by rw [hM.nL]; decide) rfl ?_
                refine j_goto (tgt := 9) hO dX10_isTaken_91 (by decide) ?_
                refine Jg.lv (lv' := [(0, .ref (sA S 10 0)), (1, .int (nI p)), (2, .int (aI α 26 p)), (3, .int (nI (r + 1)))]) ⟨rfl, rfl, rfl, rfl, trivial⟩ ?_
                exact ih (r + 1) (by omega) (hs.n c23 (decide_eq_false (fun z => z.2.2 c68)))
              · refine j_aload_n (q := 72) hO dX10_isTaken_71 rfl rfl ?_
                refine m_getA (j := 31) (x := 44) (q := 75) hO hm dX10_isTaken_72 rfl mw_529 (by decide) rfl rfl ?_
                refine j_iload_n (q := 76) hO dX10_isTaken_75 rfl rfl ?_
                refine j_iconst (v := 4) (q := 77) hO dX10_isTaken_76 rfl (by decide) ?_
                refine m_iast (x := 44) (a := 25) (q := 78) hO hm MK_44 dX10_isTaken_77 rfl rfl rfl (by omega) ?_
                refine j_aload_n (q := 79) hO dX10_isTaken_78 rfl rfl ?_
                refine j_iload_n (q := 80) hO dX10_isTaken_79 rfl rfl ?_
                refine j_bipush (v := 6) (q := 82) hO dX10_isTaken_80 rfl (by decide) ?_
                refine j_iload_n (q := 83) hO dX10_isTaken_82 rfl rfl ?_
                refine j_callV (x := 10) (q := 86) hO (c_10_note (lx X) S _ n _ _ _ hm (hT.same rfl) hn) M_10_note mw_701 CK_10 rfl hm.1 rfl rfl rfl (by unfold roomy; rw [hM.R]; exact ⟨⟨Nat.le_of_ble_eq_true rfl, Nat.le_of_ble_eq_true rfl⟩, ⟨Nat.le_of_ble_eq_true rfl, Nat.le_of_ble_eq_true rfl⟩, Nat.le_of_ble_eq_true rfl⟩) dX10_isTaken_83 rfl (fun v_83 S_83 hp_83 => ?_)
                obtain ⟨rfl, rfl⟩ := hp_83
                refine j_iconst (v := 1) (q := 87) hO dX10_isTaken_86 rfl (by decide) ?_
                exact j_zret hM dX10_isTaken_87 (Nat.le_of_ble_eq_true rfl) (Nat.le_of_ble_eq_true rfl) (by decide) (takPost.r (hs.y c23 (decide_eq_true ⟨c33, c49, c68⟩)))
  refine j_aload_n (q := 1) hO dX10_isTaken_0 rfl rfl ?_
  refine m_getA (j := 32) (x := 45) (q := 4) hO hm dX10_isTaken_1 rfl mw_530 (by decide) rfl rfl ?_
  refine j_iload_n (q := 5) hO dX10_isTaken_4 rfl rfl ?_
  refine m_iald (x := 45) (a := 26) (q := 6) hO hm MK_45 dX10_isTaken_5 rfl rfl rfl (by omega) ?_
  refine j_istore_n (q := 7) hO dX10_isTaken_6 rfl (by rw [hM.nL]; decide) rfl ?_
  refine j_iconst (v := 0) (q := 8) hO dX10_isTaken_7 rfl (by decide) ?_
  refine j_istore_n (q := 9) hO dX10_isTaken_8 rfl (by rw [hM.nL]; decide) rfl ?_
  refine Jg.lv (lv' := [(0, .ref (sA S 10 0)), (1, .int (nI p)), (2, .int (aI α 26 p)), (3, .int (nI 0))]) ⟨rfl, rfl, rfl, rfl, trivial⟩ ?_
  exact loop1 nr 0 (by omega) (by unfold scn robF; rw [show nn (aI α 0 16) = nr from by rw [hnr]; exact nn_nI (by omega)])
set_option maxHeartbeats 4000000 in
set_option maxRecDepth 100000 in
theorem c_10_goOn (l : Launch) (S : St) (α : Al) (n np nh jm p b kd : Nat) (hm : MSh S) (hnp : aI α 0 26 = nI np) (hn60 : np ≤ 60) (hnh : aI α 0 9 = nI nh) (hn8 : nh ≤ 8) (hjm : aI α 0 38 = nI jm) (hj60 : jm < 60) (hp : p < 60) (hbp : aI α 26 p = nI b) (hb : b < 6) (hkd : aI α 21 p = nI kd) (hk5 : kd < 5) (hj : (∃ t, aI α 3 b = nI t ∧ t < 6) ∨ aI α 3 b = -1 ∨ ∃ k, aI α 3 b = -2 - nI k ∧ k < 4) (hsz : ∀ j, j < np → dNn (aD α 22 j)) (hfl : ∀ k, k < 4 → dNn (aD α 12 k)) (hsp : dNn (aD α 22 p)) (hT : TT α n) (hn : n + 9 < 2 ^ 30) : Ct l yX10_goOn cX10_goOn 4 (none : Option Jvm.ClassFile.FieldType) (rm 3 0 0 70) [.ref (sA S 10 0), .int (nI p)] (wr S α) (fun r S' => r = none ∧ S' = wr S (goF α p (aI α 3 b))) := by
  refine Ct.of (by decide) (Nat.le_of_ble_eq_true rfl) (fun X hM => ?_)
  have hO := hM.1
  obtain rfl := hM.l
  show Jg X 0 0 (wr S α) 0 [(0, .ref (sA S 10 0)), (1, .int (nI p))] []
  have e1 : nn (aI α 26 p) = b := by rw [hbp]; exact nn_nI (by omega)
  have e2 : nn (aI α 21 p) = kd := by rw [hkd]; exact nn_nI (by omega)
  rcases hj with ⟨t, h3, ht6⟩ | h3 | ⟨k, h3, hk4⟩
  · refine j_aload_n (q := 1) hO dX10_goOn_0 rfl rfl ?_
    refine m_getA (j := 4) (x := 22) (q := 4) hO hm dX10_goOn_1 rfl mw_502 (by decide) rfl rfl ?_
    refine j_aload_n (q := 5) hO dX10_goOn_4 rfl rfl ?_
    refine m_getA (j := 32) (x := 45) (q := 8) hO hm dX10_goOn_5 rfl mw_530 (by decide) rfl rfl ?_
    refine j_iload_n (q := 9) hO dX10_goOn_8 rfl rfl ?_
    refine m_iald (x := 45) (a := 26) (q := 10) hO hm MK_45 dX10_goOn_9 rfl rfl rfl (by omega) ?_
    refine m_iald (x := 22) (a := 3) (q := 11) hO hm MK_22 dX10_goOn_10 rfl rfl (j := b) hbp (by omega) ?_
    refine j_istore_n (q := 12) hO dX10_goOn_11 rfl (by rw [hM.nL]; decide) rfl ?_
    refine j_iload_n (q := 13) hO dX10_goOn_12 rfl rfl ?_
    refine j_if_lt (tgt := 25) (q := 16) hO dX10_goOn_13 rfl (by decide) (fun c13 => ?_) (fun c13 => ?_)
    · exact absurd (by rw [← h3]; exact c13) (nI_pos (n := t) (by omega))
    · refine j_aload_n (q := 17) hO dX10_goOn_16 rfl rfl ?_
      refine j_iload_n (q := 18) hO dX10_goOn_17 rfl rfl ?_
      refine j_iload_n (q := 19) hO dX10_goOn_18 rfl rfl ?_
      refine j_callV (x := 10) (q := 22) hO (c_10_enter (lx X) S _ n np nh jm p t hm hnp hn60 hnh hn8 hjm hj60 hp ht6 hsz hT hn) M_10_enter mw_693 CK_10 rfl hm.1 rfl rfl (by rw [h3]; rfl) (by unfold roomy; rw [hM.R]; exact ⟨⟨Nat.le_of_ble_eq_true rfl, Nat.le_of_ble_eq_true rfl⟩, ⟨Nat.le_of_ble_eq_true rfl, Nat.le_of_ble_eq_true rfl⟩, Nat.le_of_ble_eq_true rfl⟩) dX10_goOn_19 rfl (fun v_19 S_19 hp_19 => ?_)
      obtain ⟨rfl, rfl⟩ := hp_19
      refine j_goto (tgt := 108) hO dX10_goOn_22 (by decide) ?_
      exact j_vret hM dX10_goOn_108 (Nat.le_of_ble_eq_true rfl) (Nat.le_of_ble_eq_true rfl) ⟨rfl, by unfold goF; rw [if_neg c13, h3, nn_nI (by omega)]⟩
  · refine j_aload_n (q := 1) hO dX10_goOn_0 rfl rfl ?_
    refine m_getA (j := 4) (x := 22) (q := 4) hO hm dX10_goOn_1 rfl mw_502 (by decide) rfl rfl ?_
    refine j_aload_n (q := 5) hO dX10_goOn_4 rfl rfl ?_
    refine m_getA (j := 32) (x := 45) (q := 8) hO hm dX10_goOn_5 rfl mw_530 (by decide) rfl rfl ?_
    refine j_iload_n (q := 9) hO dX10_goOn_8 rfl rfl ?_
    refine m_iald (x := 45) (a := 26) (q := 10) hO hm MK_45 dX10_goOn_9 rfl rfl rfl (by omega) ?_
    refine m_iald (x := 22) (a := 3) (q := 11) hO hm MK_22 dX10_goOn_10 rfl rfl (j := b) hbp (by omega) ?_
    refine j_istore_n (q := 12) hO dX10_goOn_11 rfl (by rw [hM.nL]; decide) rfl ?_
    refine j_iload_n (q := 13) hO dX10_goOn_12 rfl rfl ?_
    refine j_if_lt (tgt := 25) (q := 16) hO dX10_goOn_13 rfl (by decide) (fun c13 => ?_) (fun c13 => ?_)
    · refine j_iload_n (q := 26) hO dX10_goOn_25 rfl rfl ?_
      refine j_iconst (v := (-1)) (q := 27) hO dX10_goOn_26 rfl (by decide) ?_
      refine j_icmp_ne (tgt := 38) (q := 30) hO dX10_goOn_27 rfl (by decide) (fun c27 => ?_) (fun c27 => ?_)
      · exact absurd h3 c27
      · refine j_aload_n (q := 31) hO dX10_goOn_30 rfl rfl ?_
        refine j_iload_n (q := 32) hO dX10_goOn_31 rfl rfl ?_
        refine j_callV (x := 10) (q := 35) hO (c_10_goOut (lx X) S _ n p b kd hm hp hbp hb hkd hk5 hT (by omega)) M_10_goOut mw_734 CK_10 rfl hm.1 rfl rfl rfl (by unfold roomy; rw [hM.R]; exact ⟨⟨Nat.le_of_ble_eq_true rfl, Nat.le_of_ble_eq_true rfl⟩, ⟨Nat.le_of_ble_eq_true rfl, Nat.le_of_ble_eq_true rfl⟩, Nat.le_of_ble_eq_true rfl⟩) dX10_goOn_32 rfl (fun v_32 S_32 hp_32 => ?_)
        obtain ⟨rfl, rfl⟩ := hp_32
        refine j_goto (tgt := 108) hO dX10_goOn_35 (by decide) ?_
        exact j_vret hM dX10_goOn_108 (Nat.le_of_ble_eq_true rfl) (Nat.le_of_ble_eq_true rfl) ⟨rfl, by unfold goF atF; rw [if_pos c13, if_pos c27, e1, e2]⟩
    · exact absurd (by rw [h3]; decide) c13
  · refine j_aload_n (q := 1) hO dX10_goOn_0 rfl rfl ?_
    refine m_getA (j := 4) (x := 22) (q := 4) hO hm dX10_goOn_1 rfl mw_502 (by decide) rfl rfl ?_
    refine j_aload_n (q := 5) hO dX10_goOn_4 rfl rfl ?_
    refine m_getA (j := 32) (x := 45) (q := 8) hO hm dX10_goOn_5 rfl mw_530 (by decide) rfl rfl ?_
    refine j_iload_n (q := 9) hO dX10_goOn_8 rfl rfl ?_
    refine m_iald (x := 45) (a := 26) (q := 10) hO hm MK_45 dX10_goOn_9 rfl rfl rfl (by omega) ?_
    refine m_iald (x := 22) (a := 3) (q := 11) hO hm MK_22 dX10_goOn_10 rfl rfl (j := b) hbp (by omega) ?_
    refine j_istore_n (q := 12) hO dX10_goOn_11 rfl (by rw [hM.nL]; decide) rfl ?_
    refine j_iload_n (q := 13) hO dX10_goOn_12 rfl rfl ?_
    refine j_if_lt (tgt := 25) (q := 16) hO dX10_goOn_13 rfl (by decide) (fun c13 => ?_) (fun c13 => ?_)
    · refine j_iload_n (q := 26) hO dX10_goOn_25 rfl rfl ?_
      refine j_iconst (v := (-1)) (q := 27) hO dX10_goOn_26 rfl (by decide) ?_
      refine j_icmp_ne (tgt := 38) (q := 30) hO dX10_goOn_27 rfl (by decide) (fun c27 => ?_) (fun c27 => ?_)
      · refine j_bipush (v := (-2)) (q := 40) hO dX10_goOn_38 rfl (by decide) ?_
        refine j_iload_n (q := 41) hO dX10_goOn_40 rfl rfl ?_
        refine j_isub (q := 42) hO dX10_goOn_41 rfl ?_
        refine j_istore_n (q := 43) hO dX10_goOn_42 rfl (by rw [hM.nL]; decide) rfl ?_
        refine j_aload_n (q := 44) hO dX10_goOn_43 rfl rfl ?_
        refine m_getA (j := 15) (x := 31) (q := 47) hO hm dX10_goOn_44 rfl mw_513 (by decide) rfl rfl ?_
        refine j_iload_n (q := 48) hO dX10_goOn_47 rfl rfl ?_
        refine m_dald (x := 31) (a := 12) (q := 49) hO hm MK_31 dX10_goOn_48 rfl rfl (j := k) (by show -2 - aI α 3 b = nI k; rw [h3]; exact m2_2 hk4) (by omega) ?_
        refine j_aload_n (q := 50) hO dX10_goOn_49 rfl rfl ?_
        refine m_getA (j := 28) (x := 41) (q := 53) hO hm dX10_goOn_50 rfl mw_526 (by decide) rfl rfl ?_
        refine j_iload_n (q := 54) hO dX10_goOn_53 rfl rfl ?_
        refine m_dald (x := 41) (a := 22) (q := 55) hO hm MK_41 dX10_goOn_54 rfl rfl rfl (by omega) ?_
        refine j_dadd (q := 56) hO dX10_goOn_55 rfl (n64_of (dadd_nn (hfl k hk4) hsp).ok) ?_
        refine j_aload_n (q := 57) hO dX10_goOn_56 rfl rfl ?_
        refine m_getA (j := 14) (x := 30) (q := 60) hO hm dX10_goOn_57 rfl mw_512 (by decide) rfl rfl ?_
        refine j_iload_n (q := 61) hO dX10_goOn_60 rfl rfl ?_
        refine m_dald (x := 30) (a := 11) (q := 62) hO hm MK_30 dX10_goOn_61 rfl rfl (j := k) (by show -2 - aI α 3 b = nI k; rw [h3]; exact m2_2 hk4) (by omega) ?_
        refine j_dcmp (q := 63) hO dX10_goOn_62 rfl ?_
        refine j_if_gt (tgt := 99) (q := 66) hO dX10_goOn_63 rfl (by decide) (fun c63 => ?_) (fun c63 => ?_)
        · refine j_aload_n (q := 100) hO dX10_goOn_99 rfl rfl ?_
          refine j_iload_n (q := 101) hO dX10_goOn_100 rfl rfl ?_
          refine j_iconst (v := 2) (q := 102) hO dX10_goOn_101 rfl (by decide) ?_
          refine j_bipush (v := 8) (q := 104) hO dX10_goOn_102 rfl (by decide) ?_
          refine j_iload_n (q := 105) hO dX10_goOn_104 rfl rfl ?_
          refine j_callV (x := 10) (q := 108) hO (c_10_lose (lx X) S _ n p 2 _ (nI k) hm (hT.same rfl) (by omega) hp (by omega)) M_10_lose mw_697 CK_10 rfl hm.1 rfl rfl (by rw [h3, m2_2 hk4]; rfl) (by unfold roomy; rw [hM.R]; exact ⟨⟨Nat.le_of_ble_eq_true rfl, Nat.le_of_ble_eq_true rfl⟩, ⟨Nat.le_of_ble_eq_true rfl, Nat.le_of_ble_eq_true rfl⟩, Nat.le_of_ble_eq_true rfl⟩) dX10_goOn_105 rfl (fun v_105 S_105 hp_105 => ?_)
          obtain ⟨rfl, rfl⟩ := hp_105
          exact j_vret hM dX10_goOn_108 (Nat.le_of_ble_eq_true rfl) (Nat.le_of_ble_eq_true rfl) ⟨rfl, by unfold goF fillF; rw [if_pos c13, if_neg c27, h3, m2_2 hk4, nn_nI (by omega : k < 2 ^ 31)]; rw [if_pos c63]⟩
        · refine j_aload_n (q := 67) hO dX10_goOn_66 rfl rfl ?_
          refine m_getA (j := 15) (x := 31) (q := 70) hO hm dX10_goOn_67 rfl mw_513 (by decide) rfl rfl ?_
          refine j_iload_n (q := 71) hO dX10_goOn_70 rfl rfl ?_
          refine j_dup2_11 (q := 72) hO dX10_goOn_71 rfl rfl rfl ?_
          refine m_dald (x := 31) (a := 12) (q := 73) hO hm MK_31 dX10_goOn_72 rfl rfl (j := k) (by show -2 - aI α 3 b = nI k; rw [h3]; exact m2_2 hk4) (by omega) ?_
          refine j_aload_n (q := 74) hO dX10_goOn_73 rfl rfl ?_
          refine m_getA (j := 28) (x := 41) (q := 77) hO hm dX10_goOn_74 rfl mw_526 (by decide) rfl rfl ?_
          refine j_iload_n (q := 78) hO dX10_goOn_77 rfl rfl ?_
          refine m_dald (x := 41) (a := 22) (q := 79) hO hm MK_41 dX10_goOn_78 rfl rfl rfl (by omega) ?_
          refine j_dadd (q := 80) hO dX10_goOn_79 rfl (n64_of (dadd_nn (hfl k hk4) hsp).ok) ?_
          refine m_dast (x := 31) (a := 12) (q := 81) hO hm MK_31 dX10_goOn_80 rfl rfl (j := k) (by show -2 - aI α 3 b = nI k; rw [h3]; exact m2_2 hk4) (by omega) ?_
          refine j_aload_n (q := 82) hO dX10_goOn_81 rfl rfl ?_
          refine m_getA (j := 31) (x := 44) (q := 85) hO hm dX10_goOn_82 rfl mw_529 (by decide) rfl rfl ?_
          refine j_iload_n (q := 86) hO dX10_goOn_85 rfl rfl ?_
          refine j_iconst (v := 2) (q := 87) hO dX10_goOn_86 rfl (by decide) ?_
          refine m_iast (x := 44) (a := 25) (q := 88) hO hm MK_44 dX10_goOn_87 rfl rfl rfl (by omega) ?_
          refine j_aload_n (q := 89) hO dX10_goOn_88 rfl rfl ?_
          refine j_iload_n (q := 90) hO dX10_goOn_89 rfl rfl ?_
          refine j_bipush (v := 9) (q := 92) hO dX10_goOn_90 rfl (by decide) ?_
          refine j_iload_n (q := 93) hO dX10_goOn_92 rfl rfl ?_
          refine j_callV (x := 10) (q := 96) hO (c_10_note (lx X) S _ n _ _ (nI k) hm (hT.same rfl) (by omega)) M_10_note mw_701 CK_10 rfl hm.1 rfl rfl (by rw [h3, m2_2 hk4]; rfl) (by unfold roomy; rw [hM.R]; exact ⟨⟨Nat.le_of_ble_eq_true rfl, Nat.le_of_ble_eq_true rfl⟩, ⟨Nat.le_of_ble_eq_true rfl, Nat.le_of_ble_eq_true rfl⟩, Nat.le_of_ble_eq_true rfl⟩) dX10_goOn_93 rfl (fun v_93 S_93 hp_93 => ?_)
          obtain ⟨rfl, rfl⟩ := hp_93
          refine j_goto (tgt := 108) hO dX10_goOn_96 (by decide) ?_
          exact j_vret hM dX10_goOn_108 (Nat.le_of_ble_eq_true rfl) (Nat.le_of_ble_eq_true rfl) ⟨rfl, by unfold goF fillF; rw [if_pos c13, if_neg c27, h3, m2_2 hk4, nn_nI (by omega : k < 2 ^ 31)]; rw [if_neg c63]⟩
      · exact absurd (h3.symm.trans c27) (m2_m hk4)
    · exact absurd (by rw [h3]; exact m2_n hk4) c13

set_option maxHeartbeats 4000000 in
set_option maxRecDepth 100000 in
theorem law_belt {X : Cx} {b L : Nat} {xs : Nat → Int32} (hM : LX X b L xs) {i k n : Nat} {S : St} (hL : L < 2 ^ 31) (hi : i + 5 ≤ L) (hk : k + 7 ≤ room_1.cells) (hn : n + 35 ≤ room_1.slots) (hv : Lv S) (kk : ∀ S', Lv S' → Jg X (k + 7) (n + 35) S' 840 (LV S' i b) []) : Jg X k n S 128 (LV S i b) [] := by
  obtain ⟨α, ha⟩ : ∃ α, rd S = α := ⟨_, rfl⟩
  obtain ⟨hm, cq⟩ := hv
  rw [ha] at cq
  obtain ⟨nb, nh, nu, nr, nk, np, t, z⟩ := id cq
  obtain ⟨f1, f2, f3, f4, f5, f6, f7, -⟩ := id z.1.2.2.1
  have hO := hM.1
  have hsc := hM.s
  clear cq
  show Jg X k n S 128 [(0, .ref b), (1, .ref (sA S 9 0)), (2, .ref (sA S 10 0)), (3, .int (nI i))] []
  refine j_aload_n (q := 129) hO dL_law_128 rfl rfl ?_
  refine j_aload_n (q := 130) hO dL_law_129 rfl rfl ?_
  refine j_iload_n (q := 131) hO dL_law_130 rfl rfl ?_
  refine j_iconst (v := 1) (q := 132) hO dL_law_131 rfl (by decide) ?_
  refine j_iadd (q := 133) hO dL_law_132 rfl ?_
  refine j_sld (j := i + 1) (q := 134) hO hsc dL_law_133 rfl (nI_add i 1) (by omega) hL ?_
  refine j_aload_n (q := 135) hO dL_law_134 rfl rfl ?_
  refine j_iload_n (q := 136) hO dL_law_135 rfl rfl ?_
  refine j_iconst (v := 2) (q := 137) hO dL_law_136 rfl (by decide) ?_
  refine j_iadd (q := 138) hO dL_law_137 rfl ?_
  refine j_sld (j := i + 2) (q := 139) hO hsc dL_law_138 rfl (nI_add i 2) (by omega) hL ?_
  refine j_i2d (q := 140) hO dL_law_139 rfl ?_
  refine j_ldc2d (q := 143) hO dL_law_140 rfl mw_781 ?_
  refine j_dmul (q := 144) hO dL_law_143 rfl e125 ?_
  refine j_callV (x := 9) (q := 147) hO (c_9_belt (lx X) S α nb nh nu nr nk np t _ _ z) M_9_belt mw_124 CK_9 rfl z.1.1.c9 rfl rfl rfl (by unfold roomy; rw [hM.R]; exact ⟨⟨Nat.le_of_ble_eq_true rfl, Nat.le_of_ble_eq_true rfl⟩, ⟨Nat.le_trans (show k + 7 ≤ k + 7 by omega) hk, Nat.le_trans (show n + 35 ≤ n + 35 by omega) hn⟩, Nat.le_of_ble_eq_true rfl⟩) dL_law_144 rfl (fun v_144 S_144 hp_144 => ?_)
  obtain ⟨rfl, xw, cq⟩ := hp_144
  have hm1 := xw.2.1 hm
  have e1 : rd S_144 = α := xw.1.trans ha
  rw [← xw.2.2.1, ← xw.2.2.2]
  refine Jg.wr e1 ?_
  refine j_aload_n (q := 148) hO dL_law_147 rfl rfl ?_
  refine j_aload_n (q := 149) hO dL_law_148 rfl rfl ?_
  refine j_iload_n (q := 150) hO dL_law_149 rfl rfl ?_
  refine j_iconst (v := 1) (q := 151) hO dL_law_150 rfl (by decide) ?_
  refine j_iadd (q := 152) hO dL_law_151 rfl ?_
  refine j_sld (j := i + 1) (q := 153) hO hsc dL_law_152 rfl (nI_add i 1) (by omega) hL ?_
  refine j_aload_n (q := 154) hO dL_law_153 rfl rfl ?_
  refine j_iload_n (q := 155) hO dL_law_154 rfl rfl ?_
  refine j_iconst (v := 2) (q := 156) hO dL_law_155 rfl (by decide) ?_
  refine j_iadd (q := 157) hO dL_law_156 rfl ?_
  refine j_sld (j := i + 2) (q := 158) hO hsc dL_law_157 rfl (nI_add i 2) (by omega) hL ?_
  refine j_i2d (q := 159) hO dL_law_158 rfl ?_
  refine j_ldc2d (q := 162) hO dL_law_159 rfl mw_781 ?_
  refine j_dmul (q := 163) hO dL_law_162 rfl e125 ?_
  refine j_callV (x := 10) (q := 166) hO (c_10_belt (lx X) S_144 α nb _ _ hm1 f1.1 f1.2) M_10_belt mw_636 CK_10 rfl hm1.1 rfl rfl rfl (by unfold roomy; rw [hM.R]; exact ⟨⟨Nat.le_of_ble_eq_true rfl, Nat.le_of_ble_eq_true rfl⟩, ⟨Nat.le_trans (show k + 7 + 0 ≤ k + 7 by omega) hk, Nat.le_trans (show n + 35 + 0 ≤ n + 35 by omega) hn⟩, Nat.le_of_ble_eq_true rfl⟩) dL_law_163 rfl (fun v_163 S_163 hp_163 => ?_)
  obtain ⟨rfl, rfl⟩ := hp_163
  refine j_icmp_eq (tgt := 840) (q := 169) hO dL_law_166 rfl (by decide) (fun c_166_0 => ?_) (fun c_166_0 => ?_)
  · refine Jg.widen (k' := k + 7) (n' := n + 35) (show k + 7 + 0 ≤ k + 7 by omega) (show n + 35 + 0 ≤ n + 35 by omega) ?_
    refine Jg.lv (lv' := LV S_144 i b) ⟨rfl, rfl, rfl, rfl, trivial⟩ ?_
    exact kk _ (Lv.go hm1 cq)
  · exact absurd rfl c_166_0
set_option maxHeartbeats 4000000 in
set_option maxRecDepth 100000 in
theorem law_head {X : Cx} {b L : Nat} {xs : Nat → Int32} (hM : LX X b L xs) {i k n : Nat} {S : St} (hL : L < 2 ^ 31) (hi : i + 5 ≤ L) (hk : k + 7 ≤ room_1.cells) (hn : n + 35 ≤ room_1.slots) (hv : Lv S) (kk : ∀ S', Lv S' → Jg X (k + 7) (n + 35) S' 840 (LV S' i b) []) : Jg X k n S 171 (LV S i b) [] := by
  obtain ⟨α, ha⟩ : ∃ α, rd S = α := ⟨_, rfl⟩
  obtain ⟨hm, cq⟩ := hv
  rw [ha] at cq
  obtain ⟨nb, nh, nu, nr, nk, np, t, z⟩ := id cq
  obtain ⟨f1, f2, f3, f4, f5, f6, f7, -⟩ := id z.1.2.2.1
  have hO := hM.1
  have hsc := hM.s
  clear cq
  show Jg X k n S 171 [(0, .ref b), (1, .ref (sA S 9 0)), (2, .ref (sA S 10 0)), (3, .int (nI i))] []
  refine j_aload_n (q := 172) hO dL_law_171 rfl rfl ?_
  refine j_aload_n (q := 173) hO dL_law_172 rfl rfl ?_
  refine j_iload_n (q := 174) hO dL_law_173 rfl rfl ?_
  refine j_iconst (v := 1) (q := 175) hO dL_law_174 rfl (by decide) ?_
  refine j_iadd (q := 176) hO dL_law_175 rfl ?_
  refine j_sld (j := i + 1) (q := 177) hO hsc dL_law_176 rfl (nI_add i 1) (by omega) hL ?_
  refine j_aload_n (q := 178) hO dL_law_177 rfl rfl ?_
  refine j_iload_n (q := 179) hO dL_law_178 rfl rfl ?_
  refine j_iconst (v := 2) (q := 180) hO dL_law_179 rfl (by decide) ?_
  refine j_iadd (q := 181) hO dL_law_180 rfl ?_
  refine j_sld (j := i + 2) (q := 182) hO hsc dL_law_181 rfl (nI_add i 2) (by omega) hL ?_
  refine j_i2d (q := 183) hO dL_law_182 rfl ?_
  refine j_ldc2d (q := 186) hO dL_law_183 rfl mw_781 ?_
  refine j_dmul (q := 187) hO dL_law_186 rfl e125 ?_
  refine j_aload_n (q := 188) hO dL_law_187 rfl rfl ?_
  refine j_iload_n (q := 189) hO dL_law_188 rfl rfl ?_
  refine j_iconst (v := 3) (q := 190) hO dL_law_189 rfl (by decide) ?_
  refine j_iadd (q := 191) hO dL_law_190 rfl ?_
  refine j_sld (j := i + 3) (q := 192) hO hsc dL_law_191 rfl (nI_add i 3) (by omega) hL ?_
  refine j_i2d (q := 193) hO dL_law_192 rfl ?_
  refine j_ldc2d (q := 196) hO dL_law_193 rfl mw_781 ?_
  refine j_dmul (q := 197) hO dL_law_196 rfl e125 ?_
  refine j_callV (x := 9) (q := 200) hO (c_9_head (lx X) S α nb nh nu nr nk np t _ _ _ z) M_9_head mw_201 CK_9 rfl z.1.1.c9 rfl rfl rfl (by unfold roomy; rw [hM.R]; exact ⟨⟨Nat.le_of_ble_eq_true rfl, Nat.le_of_ble_eq_true rfl⟩, ⟨Nat.le_trans (show k + 1 ≤ k + 7 by omega) hk, Nat.le_trans (show n + 3 ≤ n + 35 by omega) hn⟩, Nat.le_of_ble_eq_true rfl⟩) dL_law_197 rfl (fun v_197 S_197 hp_197 => ?_)
  obtain ⟨rfl, xw, cq⟩ := hp_197
  have hm1 := xw.2.1 hm
  have e1 : rd S_197 = α := xw.1.trans ha
  rw [← xw.2.2.1, ← xw.2.2.2]
  refine Jg.wr e1 ?_
  refine j_aload_n (q := 201) hO dL_law_200 rfl rfl ?_
  refine j_aload_n (q := 202) hO dL_law_201 rfl rfl ?_
  refine j_iload_n (q := 203) hO dL_law_202 rfl rfl ?_
  refine j_iconst (v := 1) (q := 204) hO dL_law_203 rfl (by decide) ?_
  refine j_iadd (q := 205) hO dL_law_204 rfl ?_
  refine j_sld (j := i + 1) (q := 206) hO hsc dL_law_205 rfl (nI_add i 1) (by omega) hL ?_
  refine j_aload_n (q := 207) hO dL_law_206 rfl rfl ?_
  refine j_iload_n (q := 208) hO dL_law_207 rfl rfl ?_
  refine j_iconst (v := 2) (q := 209) hO dL_law_208 rfl (by decide) ?_
  refine j_iadd (q := 210) hO dL_law_209 rfl ?_
  refine j_sld (j := i + 2) (q := 211) hO hsc dL_law_210 rfl (nI_add i 2) (by omega) hL ?_
  refine j_i2d (q := 212) hO dL_law_211 rfl ?_
  refine j_ldc2d (q := 215) hO dL_law_212 rfl mw_781 ?_
  refine j_dmul (q := 216) hO dL_law_215 rfl e125 ?_
  refine j_aload_n (q := 217) hO dL_law_216 rfl rfl ?_
  refine j_iload_n (q := 218) hO dL_law_217 rfl rfl ?_
  refine j_iconst (v := 3) (q := 219) hO dL_law_218 rfl (by decide) ?_
  refine j_iadd (q := 220) hO dL_law_219 rfl ?_
  refine j_sld (j := i + 3) (q := 221) hO hsc dL_law_220 rfl (nI_add i 3) (by omega) hL ?_
  refine j_i2d (q := 222) hO dL_law_221 rfl ?_
  refine j_ldc2d (q := 225) hO dL_law_222 rfl mw_781 ?_
  refine j_dmul (q := 226) hO dL_law_225 rfl e125 ?_
  refine j_callV (x := 10) (q := 229) hO (c_10_head (lx X) S_197 α nb nh _ _ _ hm1 f1.1 f1.2 f2.1 f2.2 (fun b hb => (f7 b hb).2.1) (fun b hb => (f7 b hb).1)) M_10_head mw_649 CK_10 rfl hm1.1 rfl rfl rfl (by unfold roomy; rw [hM.R]; exact ⟨⟨Nat.le_of_ble_eq_true rfl, Nat.le_of_ble_eq_true rfl⟩, ⟨Nat.le_trans (show k + 1 + 0 ≤ k + 7 by omega) hk, Nat.le_trans (show n + 3 + 0 ≤ n + 35 by omega) hn⟩, Nat.le_of_ble_eq_true rfl⟩) dL_law_226 rfl (fun v_226 S_226 hp_226 => ?_)
  obtain ⟨rfl, rfl⟩ := hp_226
  refine j_icmp_eq (tgt := 840) (q := 232) hO dL_law_229 rfl (by decide) (fun c_229_0 => ?_) (fun c_229_0 => ?_)
  · refine Jg.widen (k' := k + 7) (n' := n + 35) (show k + 1 + 0 ≤ k + 7 by omega) (show n + 3 + 0 ≤ n + 35 by omega) ?_
    refine Jg.lv (lv' := LV S_197 i b) ⟨rfl, rfl, rfl, rfl, trivial⟩ ?_
    exact kk _ (Lv.go hm1 cq)
  · exact absurd rfl c_229_0
set_option maxHeartbeats 4000000 in
set_option maxRecDepth 100000 in
theorem law_bunker {X : Cx} {b L : Nat} {xs : Nat → Int32} (hM : LX X b L xs) {i k n : Nat} {S : St} (hL : L < 2 ^ 31) (hi : i + 5 ≤ L) (hk : k + 7 ≤ room_1.cells) (hn : n + 35 ≤ room_1.slots) (hv : Lv S) (kk : ∀ S', Lv S' → Jg X (k + 7) (n + 35) S' 840 (LV S' i b) []) : Jg X k n S 234 (LV S i b) [] := by
  obtain ⟨α, ha⟩ : ∃ α, rd S = α := ⟨_, rfl⟩
  obtain ⟨hm, cq⟩ := hv
  rw [ha] at cq
  obtain ⟨nb, nh, nu, nr, nk, np, t, z⟩ := id cq
  obtain ⟨f1, f2, f3, f4, f5, f6, f7, -⟩ := id z.1.2.2.1
  have hO := hM.1
  have hsc := hM.s
  clear cq
  show Jg X k n S 234 [(0, .ref b), (1, .ref (sA S 9 0)), (2, .ref (sA S 10 0)), (3, .int (nI i))] []
  refine j_aload_n (q := 235) hO dL_law_234 rfl rfl ?_
  refine j_aload_n (q := 236) hO dL_law_235 rfl rfl ?_
  refine j_iload_n (q := 237) hO dL_law_236 rfl rfl ?_
  refine j_iconst (v := 1) (q := 238) hO dL_law_237 rfl (by decide) ?_
  refine j_iadd (q := 239) hO dL_law_238 rfl ?_
  refine j_sld (j := i + 1) (q := 240) hO hsc dL_law_239 rfl (nI_add i 1) (by omega) hL ?_
  refine j_i2d (q := 241) hO dL_law_240 rfl ?_
  refine j_ldc2d (q := 244) hO dL_law_241 rfl mw_781 ?_
  refine j_dmul (q := 245) hO dL_law_244 rfl e125 ?_
  refine j_callV (x := 9) (q := 248) hO (c_9_bunker (lx X) S α nb nh nu nr nk np t _ z) M_9_bunker mw_231 CK_9 rfl z.1.1.c9 rfl rfl rfl (by unfold roomy; rw [hM.R]; exact ⟨⟨Nat.le_of_ble_eq_true rfl, Nat.le_of_ble_eq_true rfl⟩, ⟨Nat.le_trans (show k + 1 ≤ k + 7 by omega) hk, Nat.le_trans (show n + 3 ≤ n + 35 by omega) hn⟩, Nat.le_of_ble_eq_true rfl⟩) dL_law_245 rfl (fun v_245 S_245 hp_245 => ?_)
  obtain ⟨rfl, xw, cq⟩ := hp_245
  have hm1 := xw.2.1 hm
  have e1 : rd S_245 = α := xw.1.trans ha
  rw [← xw.2.2.1, ← xw.2.2.2]
  refine Jg.wr e1 ?_
  refine j_aload_n (q := 249) hO dL_law_248 rfl rfl ?_
  refine j_aload_n (q := 250) hO dL_law_249 rfl rfl ?_
  refine j_iload_n (q := 251) hO dL_law_250 rfl rfl ?_
  refine j_iconst (v := 1) (q := 252) hO dL_law_251 rfl (by decide) ?_
  refine j_iadd (q := 253) hO dL_law_252 rfl ?_
  refine j_sld (j := i + 1) (q := 254) hO hsc dL_law_253 rfl (nI_add i 1) (by omega) hL ?_
  refine j_i2d (q := 255) hO dL_law_254 rfl ?_
  refine j_ldc2d (q := 258) hO dL_law_255 rfl mw_781 ?_
  refine j_dmul (q := 259) hO dL_law_258 rfl e125 ?_
  refine j_callV (x := 10) (q := 262) hO (c_10_bunker (lx X) S_245 α nu _ hm1 f3.1 f3.2) M_10_bunker mw_657 CK_10 rfl hm1.1 rfl rfl rfl (by unfold roomy; rw [hM.R]; exact ⟨⟨Nat.le_of_ble_eq_true rfl, Nat.le_of_ble_eq_true rfl⟩, ⟨Nat.le_trans (show k + 1 + 0 ≤ k + 7 by omega) hk, Nat.le_trans (show n + 3 + 0 ≤ n + 35 by omega) hn⟩, Nat.le_of_ble_eq_true rfl⟩) dL_law_259 rfl (fun v_259 S_259 hp_259 => ?_)
  obtain ⟨rfl, rfl⟩ := hp_259
  refine j_icmp_eq (tgt := 840) (q := 265) hO dL_law_262 rfl (by decide) (fun c_262_0 => ?_) (fun c_262_0 => ?_)
  · refine Jg.widen (k' := k + 7) (n' := n + 35) (show k + 1 + 0 ≤ k + 7 by omega) (show n + 3 + 0 ≤ n + 35 by omega) ?_
    refine Jg.lv (lv' := LV S_245 i b) ⟨rfl, rfl, rfl, rfl, trivial⟩ ?_
    exact kk _ (Lv.go hm1 cq)
  · exact absurd rfl c_262_0
set_option maxHeartbeats 4000000 in
set_option maxRecDepth 100000 in
theorem law_joinTo {X : Cx} {b L : Nat} {xs : Nat → Int32} (hM : LX X b L xs) {i k n : Nat} {S : St} (hL : L < 2 ^ 31) (hi : i + 5 ≤ L) (hk : k + 7 ≤ room_1.cells) (hn : n + 35 ≤ room_1.slots) (hv : Lv S) (kk : ∀ S', Lv S' → Jg X (k + 7) (n + 35) S' 840 (LV S' i b) []) : Jg X k n S 267 (LV S i b) [] := by
  obtain ⟨α, ha⟩ : ∃ α, rd S = α := ⟨_, rfl⟩
  obtain ⟨hm, cq⟩ := hv
  rw [ha] at cq
  obtain ⟨nb, nh, nu, nr, nk, np, t, z⟩ := id cq
  obtain ⟨f1, f2, f3, f4, f5, f6, f7, -⟩ := id z.1.2.2.1
  have hO := hM.1
  have hsc := hM.s
  clear cq
  show Jg X k n S 267 [(0, .ref b), (1, .ref (sA S 9 0)), (2, .ref (sA S 10 0)), (3, .int (nI i))] []
  refine j_aload_n (q := 268) hO dL_law_267 rfl rfl ?_
  refine j_aload_n (q := 269) hO dL_law_268 rfl rfl ?_
  refine j_iload_n (q := 270) hO dL_law_269 rfl rfl ?_
  refine j_iconst (v := 1) (q := 271) hO dL_law_270 rfl (by decide) ?_
  refine j_iadd (q := 272) hO dL_law_271 rfl ?_
  refine j_sld (j := i + 1) (q := 273) hO hsc dL_law_272 rfl (nI_add i 1) (by omega) hL ?_
  refine j_aload_n (q := 274) hO dL_law_273 rfl rfl ?_
  refine j_iload_n (q := 275) hO dL_law_274 rfl rfl ?_
  refine j_iconst (v := 2) (q := 276) hO dL_law_275 rfl (by decide) ?_
  refine j_iadd (q := 277) hO dL_law_276 rfl ?_
  refine j_sld (j := i + 2) (q := 278) hO hsc dL_law_277 rfl (nI_add i 2) (by omega) hL ?_
  refine j_callV (x := 9) (q := 281) hO (c_9_joinTo (lx X) S α nb nh nu nr nk np t _ _ z) M_9_joinTo mw_253 CK_9 rfl z.1.1.c9 rfl rfl rfl (by unfold roomy; rw [hM.R]; exact ⟨⟨Nat.le_of_ble_eq_true rfl, Nat.le_of_ble_eq_true rfl⟩, ⟨Nat.le_trans (show k + 0 ≤ k + 7 by omega) hk, Nat.le_trans (show n + 0 ≤ n + 35 by omega) hn⟩, Nat.le_of_ble_eq_true rfl⟩) dL_law_278 rfl (fun v_278 S_278 hp_278 => ?_)
  obtain ⟨rfl, xw, cq⟩ := hp_278
  have hm1 := xw.2.1 hm
  have e1 : rd S_278 = α := xw.1.trans ha
  rw [← xw.2.2.1, ← xw.2.2.2]
  refine Jg.wr e1 ?_
  refine j_aload_n (q := 282) hO dL_law_281 rfl rfl ?_
  refine j_aload_n (q := 283) hO dL_law_282 rfl rfl ?_
  refine j_iload_n (q := 284) hO dL_law_283 rfl rfl ?_
  refine j_iconst (v := 1) (q := 285) hO dL_law_284 rfl (by decide) ?_
  refine j_iadd (q := 286) hO dL_law_285 rfl ?_
  refine j_sld (j := i + 1) (q := 287) hO hsc dL_law_286 rfl (nI_add i 1) (by omega) hL ?_
  refine j_aload_n (q := 288) hO dL_law_287 rfl rfl ?_
  refine j_iload_n (q := 289) hO dL_law_288 rfl rfl ?_
  refine j_iconst (v := 2) (q := 290) hO dL_law_289 rfl (by decide) ?_
  refine j_iadd (q := 291) hO dL_law_290 rfl ?_
  refine j_sld (j := i + 2) (q := 292) hO hsc dL_law_291 rfl (nI_add i 2) (by omega) hL ?_
  refine j_callV (x := 10) (q := 295) hO (c_10_joinTo (lx X) S_278 α nb _ _ hm1 f1.1 f1.2) M_10_joinTo mw_662 CK_10 rfl hm1.1 rfl rfl rfl (by unfold roomy; rw [hM.R]; exact ⟨⟨Nat.le_of_ble_eq_true rfl, Nat.le_of_ble_eq_true rfl⟩, ⟨Nat.le_trans (show k + 0 + 0 ≤ k + 7 by omega) hk, Nat.le_trans (show n + 0 + 0 ≤ n + 35 by omega) hn⟩, Nat.le_of_ble_eq_true rfl⟩) dL_law_292 rfl (fun v_292 S_292 hp_292 => ?_)
  obtain ⟨rfl, rfl⟩ := hp_292
  refine j_icmp_eq (tgt := 840) (q := 298) hO dL_law_295 rfl (by decide) (fun c_295_0 => ?_) (fun c_295_0 => ?_)
  · refine Jg.widen (k' := k + 7) (n' := n + 35) (show k + 0 + 0 ≤ k + 7 by omega) (show n + 0 + 0 ≤ n + 35 by omega) ?_
    refine Jg.lv (lv' := LV S_278 i b) ⟨rfl, rfl, rfl, rfl, trivial⟩ ?_
    exact kk _ (Lv.go hm1 cq)
  · exact absurd rfl c_295_0
set_option maxHeartbeats 4000000 in
set_option maxRecDepth 100000 in
theorem law_rule {X : Cx} {b L : Nat} {xs : Nat → Int32} (hM : LX X b L xs) {i k n : Nat} {S : St} (hL : L < 2 ^ 31) (hi : i + 5 ≤ L) (hk : k + 7 ≤ room_1.cells) (hn : n + 35 ≤ room_1.slots) (hv : Lv S) (kk : ∀ S', Lv S' → Jg X (k + 7) (n + 35) S' 840 (LV S' i b) []) : Jg X k n S 300 (LV S i b) [] := by
  obtain ⟨α, ha⟩ : ∃ α, rd S = α := ⟨_, rfl⟩
  obtain ⟨hm, cq⟩ := hv
  rw [ha] at cq
  obtain ⟨nb, nh, nu, nr, nk, np, t, z⟩ := id cq
  obtain ⟨f1, f2, f3, f4, f5, f6, f7, -⟩ := id z.1.2.2.1
  have hO := hM.1
  have hsc := hM.s
  clear cq
  show Jg X k n S 300 [(0, .ref b), (1, .ref (sA S 9 0)), (2, .ref (sA S 10 0)), (3, .int (nI i))] []
  refine j_aload_n (q := 301) hO dL_law_300 rfl rfl ?_
  refine j_aload_n (q := 302) hO dL_law_301 rfl rfl ?_
  refine j_iload_n (q := 303) hO dL_law_302 rfl rfl ?_
  refine j_iconst (v := 1) (q := 304) hO dL_law_303 rfl (by decide) ?_
  refine j_iadd (q := 305) hO dL_law_304 rfl ?_
  refine j_sld (j := i + 1) (q := 306) hO hsc dL_law_305 rfl (nI_add i 1) (by omega) hL ?_
  refine j_aload_n (q := 307) hO dL_law_306 rfl rfl ?_
  refine j_iload_n (q := 308) hO dL_law_307 rfl rfl ?_
  refine j_iconst (v := 2) (q := 309) hO dL_law_308 rfl (by decide) ?_
  refine j_iadd (q := 310) hO dL_law_309 rfl ?_
  refine j_sld (j := i + 2) (q := 311) hO hsc dL_law_310 rfl (nI_add i 2) (by omega) hL ?_
  refine j_i2d (q := 312) hO dL_law_311 rfl ?_
  refine j_ldc2d (q := 315) hO dL_law_312 rfl mw_781 ?_
  refine j_dmul (q := 316) hO dL_law_315 rfl e125 ?_
  refine j_aload_n (q := 317) hO dL_law_316 rfl rfl ?_
  refine j_iload_n (q := 318) hO dL_law_317 rfl rfl ?_
  refine j_iconst (v := 3) (q := 319) hO dL_law_318 rfl (by decide) ?_
  refine j_iadd (q := 320) hO dL_law_319 rfl ?_
  refine j_sld (j := i + 3) (q := 321) hO hsc dL_law_320 rfl (nI_add i 3) (by omega) hL ?_
  refine j_callV (x := 9) (q := 324) hO (c_9_rule (lx X) S α nb nh nu nr nk np t _ _ _ z) M_9_rule mw_261 CK_9 rfl z.1.1.c9 rfl rfl rfl (by unfold roomy; rw [hM.R]; exact ⟨⟨Nat.le_of_ble_eq_true rfl, Nat.le_of_ble_eq_true rfl⟩, ⟨Nat.le_trans (show k + 0 ≤ k + 7 by omega) hk, Nat.le_trans (show n + 0 ≤ n + 35 by omega) hn⟩, Nat.le_of_ble_eq_true rfl⟩) dL_law_321 rfl (fun v_321 S_321 hp_321 => ?_)
  obtain ⟨rfl, xw, cq⟩ := hp_321
  have hm1 := xw.2.1 hm
  have e1 : rd S_321 = α := xw.1.trans ha
  rw [← xw.2.2.1, ← xw.2.2.2]
  refine Jg.wr e1 ?_
  refine j_aload_n (q := 325) hO dL_law_324 rfl rfl ?_
  refine j_aload_n (q := 326) hO dL_law_325 rfl rfl ?_
  refine j_iload_n (q := 327) hO dL_law_326 rfl rfl ?_
  refine j_iconst (v := 1) (q := 328) hO dL_law_327 rfl (by decide) ?_
  refine j_iadd (q := 329) hO dL_law_328 rfl ?_
  refine j_sld (j := i + 1) (q := 330) hO hsc dL_law_329 rfl (nI_add i 1) (by omega) hL ?_
  refine j_aload_n (q := 331) hO dL_law_330 rfl rfl ?_
  refine j_iload_n (q := 332) hO dL_law_331 rfl rfl ?_
  refine j_iconst (v := 2) (q := 333) hO dL_law_332 rfl (by decide) ?_
  refine j_iadd (q := 334) hO dL_law_333 rfl ?_
  refine j_sld (j := i + 2) (q := 335) hO hsc dL_law_334 rfl (nI_add i 2) (by omega) hL ?_
  refine j_i2d (q := 336) hO dL_law_335 rfl ?_
  refine j_ldc2d (q := 339) hO dL_law_336 rfl mw_781 ?_
  refine j_dmul (q := 340) hO dL_law_339 rfl e125 ?_
  refine j_aload_n (q := 341) hO dL_law_340 rfl rfl ?_
  refine j_iload_n (q := 342) hO dL_law_341 rfl rfl ?_
  refine j_iconst (v := 3) (q := 343) hO dL_law_342 rfl (by decide) ?_
  refine j_iadd (q := 344) hO dL_law_343 rfl ?_
  refine j_sld (j := i + 3) (q := 345) hO hsc dL_law_344 rfl (nI_add i 3) (by omega) hL ?_
  refine j_callV (x := 10) (q := 348) hO (c_10_rule (lx X) S_321 α nb _ _ _ hm1 f1.1 f1.2) M_10_rule mw_666 CK_10 rfl hm1.1 rfl rfl rfl (by unfold roomy; rw [hM.R]; exact ⟨⟨Nat.le_of_ble_eq_true rfl, Nat.le_of_ble_eq_true rfl⟩, ⟨Nat.le_trans (show k + 0 + 0 ≤ k + 7 by omega) hk, Nat.le_trans (show n + 0 + 0 ≤ n + 35 by omega) hn⟩, Nat.le_of_ble_eq_true rfl⟩) dL_law_345 rfl (fun v_345 S_345 hp_345 => ?_)
  obtain ⟨rfl, rfl⟩ := hp_345
  refine j_icmp_eq (tgt := 840) (q := 351) hO dL_law_348 rfl (by decide) (fun c_348_0 => ?_) (fun c_348_0 => ?_)
  · refine Jg.widen (k' := k + 7) (n' := n + 35) (show k + 0 + 0 ≤ k + 7 by omega) (show n + 0 + 0 ≤ n + 35 by omega) ?_
    refine Jg.lv (lv' := LV S_321 i b) ⟨rfl, rfl, rfl, rfl, trivial⟩ ?_
    exact kk _ (Lv.go hm1 cq)
  · exact absurd rfl c_348_0
set_option maxHeartbeats 4000000 in
set_option maxRecDepth 100000 in
theorem law_picker {X : Cx} {b L : Nat} {xs : Nat → Int32} (hM : LX X b L xs) {i k n : Nat} {S : St} (hL : L < 2 ^ 31) (hi : i + 5 ≤ L) (hk : k + 7 ≤ room_1.cells) (hn : n + 35 ≤ room_1.slots) (hv : Lv S) (kk : ∀ S', Lv S' → Jg X (k + 7) (n + 35) S' 840 (LV S' i b) []) : Jg X k n S 353 (LV S i b) [] := by
  obtain ⟨α, ha⟩ : ∃ α, rd S = α := ⟨_, rfl⟩
  obtain ⟨hm, cq⟩ := hv
  rw [ha] at cq
  obtain ⟨nb, nh, nu, nr, nk, np, t, z⟩ := id cq
  obtain ⟨f1, f2, f3, f4, f5, f6, f7, -⟩ := id z.1.2.2.1
  have hO := hM.1
  have hsc := hM.s
  clear cq
  show Jg X k n S 353 [(0, .ref b), (1, .ref (sA S 9 0)), (2, .ref (sA S 10 0)), (3, .int (nI i))] []
  refine j_aload_n (q := 354) hO dL_law_353 rfl rfl ?_
  refine j_aload_n (q := 355) hO dL_law_354 rfl rfl ?_
  refine j_iload_n (q := 356) hO dL_law_355 rfl rfl ?_
  refine j_iconst (v := 1) (q := 357) hO dL_law_356 rfl (by decide) ?_
  refine j_iadd (q := 358) hO dL_law_357 rfl ?_
  refine j_sld (j := i + 1) (q := 359) hO hsc dL_law_358 rfl (nI_add i 1) (by omega) hL ?_
  refine j_aload_n (q := 360) hO dL_law_359 rfl rfl ?_
  refine j_iload_n (q := 361) hO dL_law_360 rfl rfl ?_
  refine j_iconst (v := 2) (q := 362) hO dL_law_361 rfl (by decide) ?_
  refine j_iadd (q := 363) hO dL_law_362 rfl ?_
  refine j_sld (j := i + 2) (q := 364) hO hsc dL_law_363 rfl (nI_add i 2) (by omega) hL ?_
  refine j_i2d (q := 365) hO dL_law_364 rfl ?_
  refine j_ldc2d (q := 368) hO dL_law_365 rfl mw_781 ?_
  refine j_dmul (q := 369) hO dL_law_368 rfl e125 ?_
  refine j_aload_n (q := 370) hO dL_law_369 rfl rfl ?_
  refine j_iload_n (q := 371) hO dL_law_370 rfl rfl ?_
  refine j_iconst (v := 3) (q := 372) hO dL_law_371 rfl (by decide) ?_
  refine j_iadd (q := 373) hO dL_law_372 rfl ?_
  refine j_sld (j := i + 3) (q := 374) hO hsc dL_law_373 rfl (nI_add i 3) (by omega) hL ?_
  refine j_i2d (q := 375) hO dL_law_374 rfl ?_
  refine j_ldc2d (q := 378) hO dL_law_375 rfl mw_781 ?_
  refine j_dmul (q := 379) hO dL_law_378 rfl e125 ?_
  refine j_callV (x := 9) (q := 382) hO (c_9_picker (lx X) S α nb nh nu nr nk np t _ _ _ z) M_9_picker mw_265 CK_9 rfl z.1.1.c9 rfl rfl rfl (by unfold roomy; rw [hM.R]; exact ⟨⟨Nat.le_of_ble_eq_true rfl, Nat.le_of_ble_eq_true rfl⟩, ⟨Nat.le_trans (show k + 1 ≤ k + 7 by omega) hk, Nat.le_trans (show n + 5 ≤ n + 35 by omega) hn⟩, Nat.le_of_ble_eq_true rfl⟩) dL_law_379 rfl (fun v_379 S_379 hp_379 => ?_)
  obtain ⟨rfl, xw, cq⟩ := hp_379
  have hm1 := xw.2.1 hm
  have e1 : rd S_379 = α := xw.1.trans ha
  rw [← xw.2.2.1, ← xw.2.2.2]
  refine Jg.wr e1 ?_
  refine j_aload_n (q := 383) hO dL_law_382 rfl rfl ?_
  refine j_aload_n (q := 384) hO dL_law_383 rfl rfl ?_
  refine j_iload_n (q := 385) hO dL_law_384 rfl rfl ?_
  refine j_iconst (v := 1) (q := 386) hO dL_law_385 rfl (by decide) ?_
  refine j_iadd (q := 387) hO dL_law_386 rfl ?_
  refine j_sld (j := i + 1) (q := 388) hO hsc dL_law_387 rfl (nI_add i 1) (by omega) hL ?_
  refine j_aload_n (q := 389) hO dL_law_388 rfl rfl ?_
  refine j_iload_n (q := 390) hO dL_law_389 rfl rfl ?_
  refine j_iconst (v := 2) (q := 391) hO dL_law_390 rfl (by decide) ?_
  refine j_iadd (q := 392) hO dL_law_391 rfl ?_
  refine j_sld (j := i + 2) (q := 393) hO hsc dL_law_392 rfl (nI_add i 2) (by omega) hL ?_
  refine j_i2d (q := 394) hO dL_law_393 rfl ?_
  refine j_ldc2d (q := 397) hO dL_law_394 rfl mw_781 ?_
  refine j_dmul (q := 398) hO dL_law_397 rfl e125 ?_
  refine j_aload_n (q := 399) hO dL_law_398 rfl rfl ?_
  refine j_iload_n (q := 400) hO dL_law_399 rfl rfl ?_
  refine j_iconst (v := 3) (q := 401) hO dL_law_400 rfl (by decide) ?_
  refine j_iadd (q := 402) hO dL_law_401 rfl ?_
  refine j_sld (j := i + 3) (q := 403) hO hsc dL_law_402 rfl (nI_add i 3) (by omega) hL ?_
  refine j_i2d (q := 404) hO dL_law_403 rfl ?_
  refine j_ldc2d (q := 407) hO dL_law_404 rfl mw_781 ?_
  refine j_dmul (q := 408) hO dL_law_407 rfl e125 ?_
  refine j_callV (x := 10) (q := 411) hO (c_10_picker (lx X) S_379 α nb nk _ _ _ hm1 f1.1 f1.2 f5.1 f5.2) M_10_picker mw_670 CK_10 rfl hm1.1 rfl rfl rfl (by unfold roomy; rw [hM.R]; exact ⟨⟨Nat.le_of_ble_eq_true rfl, Nat.le_of_ble_eq_true rfl⟩, ⟨Nat.le_trans (show k + 1 + 0 ≤ k + 7 by omega) hk, Nat.le_trans (show n + 5 + 0 ≤ n + 35 by omega) hn⟩, Nat.le_of_ble_eq_true rfl⟩) dL_law_408 rfl (fun v_408 S_408 hp_408 => ?_)
  obtain ⟨rfl, rfl⟩ := hp_408
  refine j_icmp_eq (tgt := 840) (q := 414) hO dL_law_411 rfl (by decide) (fun c_411_0 => ?_) (fun c_411_0 => ?_)
  · refine Jg.widen (k' := k + 7) (n' := n + 35) (show k + 1 + 0 ≤ k + 7 by omega) (show n + 5 + 0 ≤ n + 35 by omega) ?_
    refine Jg.lv (lv' := LV S_379 i b) ⟨rfl, rfl, rfl, rfl, trivial⟩ ?_
    exact kk _ (Lv.go hm1 cq)
  · exact absurd rfl c_411_0
set_option maxHeartbeats 4000000 in
set_option maxRecDepth 100000 in
theorem law_robot {X : Cx} {b L : Nat} {xs : Nat → Int32} (hM : LX X b L xs) {i k n : Nat} {S : St} (hL : L < 2 ^ 31) (hi : i + 5 ≤ L) (hk : k + 7 ≤ room_1.cells) (hn : n + 35 ≤ room_1.slots) (hv : Lv S) (kk : ∀ S', Lv S' → Jg X (k + 7) (n + 35) S' 840 (LV S' i b) []) : Jg X k n S 416 (LV S i b) [] := by
  obtain ⟨α, ha⟩ : ∃ α, rd S = α := ⟨_, rfl⟩
  obtain ⟨hm, cq⟩ := hv
  rw [ha] at cq
  obtain ⟨nb, nh, nu, nr, nk, np, t, z⟩ := id cq
  obtain ⟨f1, f2, f3, f4, f5, f6, f7, -⟩ := id z.1.2.2.1
  have hO := hM.1
  have hsc := hM.s
  clear cq
  show Jg X k n S 416 [(0, .ref b), (1, .ref (sA S 9 0)), (2, .ref (sA S 10 0)), (3, .int (nI i))] []
  refine j_aload_n (q := 417) hO dL_law_416 rfl rfl ?_
  refine j_aload_n (q := 418) hO dL_law_417 rfl rfl ?_
  refine j_iload_n (q := 419) hO dL_law_418 rfl rfl ?_
  refine j_iconst (v := 1) (q := 420) hO dL_law_419 rfl (by decide) ?_
  refine j_iadd (q := 421) hO dL_law_420 rfl ?_
  refine j_sld (j := i + 1) (q := 422) hO hsc dL_law_421 rfl (nI_add i 1) (by omega) hL ?_
  refine j_aload_n (q := 423) hO dL_law_422 rfl rfl ?_
  refine j_iload_n (q := 424) hO dL_law_423 rfl rfl ?_
  refine j_iconst (v := 2) (q := 425) hO dL_law_424 rfl (by decide) ?_
  refine j_iadd (q := 426) hO dL_law_425 rfl ?_
  refine j_sld (j := i + 2) (q := 427) hO hsc dL_law_426 rfl (nI_add i 2) (by omega) hL ?_
  refine j_i2d (q := 428) hO dL_law_427 rfl ?_
  refine j_ldc2d (q := 431) hO dL_law_428 rfl mw_781 ?_
  refine j_dmul (q := 432) hO dL_law_431 rfl e125 ?_
  refine j_aload_n (q := 433) hO dL_law_432 rfl rfl ?_
  refine j_iload_n (q := 434) hO dL_law_433 rfl rfl ?_
  refine j_iconst (v := 3) (q := 435) hO dL_law_434 rfl (by decide) ?_
  refine j_iadd (q := 436) hO dL_law_435 rfl ?_
  refine j_sld (j := i + 3) (q := 437) hO hsc dL_law_436 rfl (nI_add i 3) (by omega) hL ?_
  refine j_i2d (q := 438) hO dL_law_437 rfl ?_
  refine j_ldc2d (q := 441) hO dL_law_438 rfl mw_781 ?_
  refine j_dmul (q := 442) hO dL_law_441 rfl e125 ?_
  refine j_callV (x := 9) (q := 445) hO (c_9_robot (lx X) S α nb nh nu nr nk np t _ _ _ z) M_9_robot mw_295 CK_9 rfl z.1.1.c9 rfl rfl rfl (by unfold roomy; rw [hM.R]; exact ⟨⟨Nat.le_of_ble_eq_true rfl, Nat.le_of_ble_eq_true rfl⟩, ⟨Nat.le_trans (show k + 1 ≤ k + 7 by omega) hk, Nat.le_trans (show n + 3 ≤ n + 35 by omega) hn⟩, Nat.le_of_ble_eq_true rfl⟩) dL_law_442 rfl (fun v_442 S_442 hp_442 => ?_)
  obtain ⟨rfl, xw, cq⟩ := hp_442
  have hm1 := xw.2.1 hm
  have e1 : rd S_442 = α := xw.1.trans ha
  rw [← xw.2.2.1, ← xw.2.2.2]
  refine Jg.wr e1 ?_
  refine j_aload_n (q := 446) hO dL_law_445 rfl rfl ?_
  refine j_aload_n (q := 447) hO dL_law_446 rfl rfl ?_
  refine j_iload_n (q := 448) hO dL_law_447 rfl rfl ?_
  refine j_iconst (v := 1) (q := 449) hO dL_law_448 rfl (by decide) ?_
  refine j_iadd (q := 450) hO dL_law_449 rfl ?_
  refine j_sld (j := i + 1) (q := 451) hO hsc dL_law_450 rfl (nI_add i 1) (by omega) hL ?_
  refine j_aload_n (q := 452) hO dL_law_451 rfl rfl ?_
  refine j_iload_n (q := 453) hO dL_law_452 rfl rfl ?_
  refine j_iconst (v := 2) (q := 454) hO dL_law_453 rfl (by decide) ?_
  refine j_iadd (q := 455) hO dL_law_454 rfl ?_
  refine j_sld (j := i + 2) (q := 456) hO hsc dL_law_455 rfl (nI_add i 2) (by omega) hL ?_
  refine j_i2d (q := 457) hO dL_law_456 rfl ?_
  refine j_ldc2d (q := 460) hO dL_law_457 rfl mw_781 ?_
  refine j_dmul (q := 461) hO dL_law_460 rfl e125 ?_
  refine j_aload_n (q := 462) hO dL_law_461 rfl rfl ?_
  refine j_iload_n (q := 463) hO dL_law_462 rfl rfl ?_
  refine j_iconst (v := 3) (q := 464) hO dL_law_463 rfl (by decide) ?_
  refine j_iadd (q := 465) hO dL_law_464 rfl ?_
  refine j_sld (j := i + 3) (q := 466) hO hsc dL_law_465 rfl (nI_add i 3) (by omega) hL ?_
  refine j_i2d (q := 467) hO dL_law_466 rfl ?_
  refine j_ldc2d (q := 470) hO dL_law_467 rfl mw_781 ?_
  refine j_dmul (q := 471) hO dL_law_470 rfl e125 ?_
  refine j_callV (x := 10) (q := 474) hO (c_10_robot (lx X) S_442 α nb nr _ _ _ hm1 f1.1 f1.2 f4.1 f4.2) M_10_robot mw_677 CK_10 rfl hm1.1 rfl rfl rfl (by unfold roomy; rw [hM.R]; exact ⟨⟨Nat.le_of_ble_eq_true rfl, Nat.le_of_ble_eq_true rfl⟩, ⟨Nat.le_trans (show k + 1 + 0 ≤ k + 7 by omega) hk, Nat.le_trans (show n + 3 + 0 ≤ n + 35 by omega) hn⟩, Nat.le_of_ble_eq_true rfl⟩) dL_law_471 rfl (fun v_471 S_471 hp_471 => ?_)
  obtain ⟨rfl, rfl⟩ := hp_471
  refine j_icmp_eq (tgt := 840) (q := 477) hO dL_law_474 rfl (by decide) (fun c_474_0 => ?_) (fun c_474_0 => ?_)
  · refine Jg.widen (k' := k + 7) (n' := n + 35) (show k + 1 + 0 ≤ k + 7 by omega) (show n + 3 + 0 ≤ n + 35 by omega) ?_
    refine Jg.lv (lv' := LV S_442 i b) ⟨rfl, rfl, rfl, rfl, trivial⟩ ?_
    exact kk _ (Lv.go hm1 cq)
  · exact absurd rfl c_474_0
set_option maxHeartbeats 4000000 in
set_option maxRecDepth 100000 in
theorem law_feed {X : Cx} {b L : Nat} {xs : Nat → Int32} (hM : LX X b L xs) {i k n : Nat} {S : St} (hL : L < 2 ^ 31) (hi : i + 5 ≤ L) (hk : k + 7 ≤ room_1.cells) (hn : n + 35 ≤ room_1.slots) (hv : Lv S) (kk : ∀ S', Lv S' → Jg X (k + 7) (n + 35) S' 840 (LV S' i b) []) : Jg X k n S 479 (LV S i b) [] := by
  obtain ⟨α, ha⟩ : ∃ α, rd S = α := ⟨_, rfl⟩
  obtain ⟨hm, cq⟩ := hv
  rw [ha] at cq
  obtain ⟨nb, nh, nu, nr, nk, np, t, z⟩ := id cq
  obtain ⟨f1, f2, f3, f4, f5, f6, f7, -⟩ := id z.1.2.2.1
  have hO := hM.1
  have hsc := hM.s
  clear cq
  show Jg X k n S 479 [(0, .ref b), (1, .ref (sA S 9 0)), (2, .ref (sA S 10 0)), (3, .int (nI i))] []
  refine j_aload_n (q := 480) hO dL_law_479 rfl rfl ?_
  refine j_aload_n (q := 481) hO dL_law_480 rfl rfl ?_
  refine j_iload_n (q := 482) hO dL_law_481 rfl rfl ?_
  refine j_iconst (v := 1) (q := 483) hO dL_law_482 rfl (by decide) ?_
  refine j_iadd (q := 484) hO dL_law_483 rfl ?_
  refine j_sld (j := i + 1) (q := 485) hO hsc dL_law_484 rfl (nI_add i 1) (by omega) hL ?_
  refine j_aload_n (q := 486) hO dL_law_485 rfl rfl ?_
  refine j_iload_n (q := 487) hO dL_law_486 rfl rfl ?_
  refine j_iconst (v := 2) (q := 488) hO dL_law_487 rfl (by decide) ?_
  refine j_iadd (q := 489) hO dL_law_488 rfl ?_
  refine j_sld (j := i + 2) (q := 490) hO hsc dL_law_489 rfl (nI_add i 2) (by omega) hL ?_
  refine j_aload_n (q := 491) hO dL_law_490 rfl rfl ?_
  refine j_iload_n (q := 492) hO dL_law_491 rfl rfl ?_
  refine j_iconst (v := 3) (q := 493) hO dL_law_492 rfl (by decide) ?_
  refine j_iadd (q := 494) hO dL_law_493 rfl ?_
  refine j_sld (j := i + 3) (q := 495) hO hsc dL_law_494 rfl (nI_add i 3) (by omega) hL ?_
  refine j_aload_n (q := 496) hO dL_law_495 rfl rfl ?_
  refine j_iload_n (q := 497) hO dL_law_496 rfl rfl ?_
  refine j_iconst (v := 4) (q := 498) hO dL_law_497 rfl (by decide) ?_
  refine j_iadd (q := 499) hO dL_law_498 rfl ?_
  refine j_sld (j := i + 4) (q := 500) hO hsc dL_law_499 rfl (nI_add i 4) (by omega) hL ?_
  refine j_i2d (q := 501) hO dL_law_500 rfl ?_
  refine j_ldc2d (q := 504) hO dL_law_501 rfl mw_781 ?_
  refine j_dmul (q := 505) hO dL_law_504 rfl e125 ?_
  refine j_callV (x := 9) (q := 508) hO (c_9_feed (lx X) S α nb nh nu nr nk np t _ _ _ _ z) M_9_feed mw_317 CK_9 rfl z.1.1.c9 rfl rfl rfl (by unfold roomy; rw [hM.R]; exact ⟨⟨Nat.le_of_ble_eq_true rfl, Nat.le_of_ble_eq_true rfl⟩, ⟨Nat.le_trans (show k + 1 ≤ k + 7 by omega) hk, Nat.le_trans (show n + 8 ≤ n + 35 by omega) hn⟩, Nat.le_of_ble_eq_true rfl⟩) dL_law_505 rfl (fun v_505 S_505 hp_505 => ?_)
  obtain ⟨rfl, xw, cq⟩ := hp_505
  have hm1 := xw.2.1 hm
  have e1 : rd S_505 = α := xw.1.trans ha
  rw [← xw.2.2.1, ← xw.2.2.2]
  refine Jg.wr e1 ?_
  refine j_aload_n (q := 509) hO dL_law_508 rfl rfl ?_
  refine j_aload_n (q := 510) hO dL_law_509 rfl rfl ?_
  refine j_iload_n (q := 511) hO dL_law_510 rfl rfl ?_
  refine j_iconst (v := 1) (q := 512) hO dL_law_511 rfl (by decide) ?_
  refine j_iadd (q := 513) hO dL_law_512 rfl ?_
  refine j_sld (j := i + 1) (q := 514) hO hsc dL_law_513 rfl (nI_add i 1) (by omega) hL ?_
  refine j_aload_n (q := 515) hO dL_law_514 rfl rfl ?_
  refine j_iload_n (q := 516) hO dL_law_515 rfl rfl ?_
  refine j_iconst (v := 2) (q := 517) hO dL_law_516 rfl (by decide) ?_
  refine j_iadd (q := 518) hO dL_law_517 rfl ?_
  refine j_sld (j := i + 2) (q := 519) hO hsc dL_law_518 rfl (nI_add i 2) (by omega) hL ?_
  refine j_aload_n (q := 520) hO dL_law_519 rfl rfl ?_
  refine j_iload_n (q := 521) hO dL_law_520 rfl rfl ?_
  refine j_iconst (v := 3) (q := 522) hO dL_law_521 rfl (by decide) ?_
  refine j_iadd (q := 523) hO dL_law_522 rfl ?_
  refine j_sld (j := i + 3) (q := 524) hO hsc dL_law_523 rfl (nI_add i 3) (by omega) hL ?_
  refine j_aload_n (q := 525) hO dL_law_524 rfl rfl ?_
  refine j_iload_n (q := 526) hO dL_law_525 rfl rfl ?_
  refine j_iconst (v := 4) (q := 527) hO dL_law_526 rfl (by decide) ?_
  refine j_iadd (q := 528) hO dL_law_527 rfl ?_
  refine j_sld (j := i + 4) (q := 529) hO hsc dL_law_528 rfl (nI_add i 4) (by omega) hL ?_
  refine j_i2d (q := 530) hO dL_law_529 rfl ?_
  refine j_ldc2d (q := 533) hO dL_law_530 rfl mw_781 ?_
  refine j_dmul (q := 534) hO dL_law_533 rfl e125 ?_
  refine j_callV (x := 10) (q := 537) hO (c_10_feed (lx X) S_505 α np _ _ _ _ hm1 f6.1 f6.2) M_10_feed mw_681 CK_10 rfl hm1.1 rfl rfl rfl (by unfold roomy; rw [hM.R]; exact ⟨⟨Nat.le_of_ble_eq_true rfl, Nat.le_of_ble_eq_true rfl⟩, ⟨Nat.le_trans (show k + 1 + 0 ≤ k + 7 by omega) hk, Nat.le_trans (show n + 8 + 0 ≤ n + 35 by omega) hn⟩, Nat.le_of_ble_eq_true rfl⟩) dL_law_534 rfl (fun v_534 S_534 hp_534 => ?_)
  obtain ⟨rfl, rfl⟩ := hp_534
  refine j_icmp_eq (tgt := 840) (q := 540) hO dL_law_537 rfl (by decide) (fun c_537_0 => ?_) (fun c_537_0 => ?_)
  · refine Jg.widen (k' := k + 7) (n' := n + 35) (show k + 1 + 0 ≤ k + 7 by omega) (show n + 8 + 0 ≤ n + 35 by omega) ?_
    refine Jg.lv (lv' := LV S_505 i b) ⟨rfl, rfl, rfl, rfl, trivial⟩ ?_
    exact kk _ (Lv.go hm1 cq)
  · exact absurd rfl c_537_0
set_option maxHeartbeats 4000000 in
set_option maxRecDepth 100000 in
theorem law_run {X : Cx} {b L : Nat} {xs : Nat → Int32} (hM : LX X b L xs) {i k n : Nat} {S : St} (hL : L < 2 ^ 31) (hi : i + 5 ≤ L) (hk : k + 7 ≤ room_1.cells) (hn : n + 35 ≤ room_1.slots) (hv : Lv S) (kk : ∀ S', Lv S' → Jg X (k + 7) (n + 35) S' 840 (LV S' i b) []) : Jg X k n S 542 (LV S i b) [] := by
  obtain ⟨α, ha⟩ : ∃ α, rd S = α := ⟨_, rfl⟩
  obtain ⟨hm, cq⟩ := hv
  rw [ha] at cq
  obtain ⟨nb, nh, nu, nr, nk, np, t, z⟩ := id cq
  obtain ⟨f1, f2, f3, f4, f5, f6, f7, -⟩ := id z.1.2.2.1
  have hO := hM.1
  have hsc := hM.s
  clear cq
  show Jg X k n S 542 [(0, .ref b), (1, .ref (sA S 9 0)), (2, .ref (sA S 10 0)), (3, .int (nI i))] []
  refine j_aload_n (q := 543) hO dL_law_542 rfl rfl ?_
  refine j_aload_n (q := 544) hO dL_law_543 rfl rfl ?_
  refine j_iload_n (q := 545) hO dL_law_544 rfl rfl ?_
  refine j_iconst (v := 1) (q := 546) hO dL_law_545 rfl (by decide) ?_
  refine j_iadd (q := 547) hO dL_law_546 rfl ?_
  refine j_sld (j := i + 1) (q := 548) hO hsc dL_law_547 rfl (nI_add i 1) (by omega) hL ?_
  refine j_callV (x := 9) (q := 551) hO (c_9_run (lx X) S α nb nh nu nr nk np t _ z.1) M_9_run mw_359 CK_9 rfl z.1.1.c9 rfl rfl rfl (by unfold roomy; rw [hM.R]; exact ⟨⟨Nat.le_of_ble_eq_true rfl, Nat.le_of_ble_eq_true rfl⟩, ⟨Nat.le_trans (show k + 0 ≤ k + 7 by omega) hk, Nat.le_trans (show n + 0 ≤ n + 35 by omega) hn⟩, Nat.le_of_ble_eq_true rfl⟩) dL_law_548 rfl (fun v_548 S_548 hp_548 => ?_)
  obtain ⟨rfl, sw, cd⟩ := hp_548
  have xw := sw.x
  have cq := z.run sw cd
  have hm1 := xw.2.1 hm
  have e1 : rd S_548 = α := xw.1.trans ha
  rw [← xw.2.2.1, ← xw.2.2.2]
  refine Jg.wr e1 ?_
  refine j_aload_n (q := 552) hO dL_law_551 rfl rfl ?_
  refine j_aload_n (q := 553) hO dL_law_552 rfl rfl ?_
  refine j_iload_n (q := 554) hO dL_law_553 rfl rfl ?_
  refine j_iconst (v := 1) (q := 555) hO dL_law_554 rfl (by decide) ?_
  refine j_iadd (q := 556) hO dL_law_555 rfl ?_
  refine j_sld (j := i + 1) (q := 557) hO hsc dL_law_556 rfl (nI_add i 1) (by omega) hL ?_
  refine j_callV (x := 10) (q := 560) hO (c_10_run (lx X) S_548 α nb nh nu nr nk np t _ hm1 z.1.2.2.1 z.1.2.2.2.2.1 z.1.2.2.2.2.2.1.1 z.1.2.2.2.2.2.1.2) M_10_run mw_685 CK_10 rfl hm1.1 rfl rfl rfl (by unfold roomy; rw [hM.R]; exact ⟨⟨Nat.le_of_ble_eq_true rfl, Nat.le_of_ble_eq_true rfl⟩, ⟨Nat.le_trans (show k + 0 + 0 ≤ k + 7 by omega) hk, Nat.le_trans (show n + 0 + 0 ≤ n + 35 by omega) hn⟩, Nat.le_of_ble_eq_true rfl⟩) dL_law_557 rfl (fun v_557 S_557 hp_557 => ?_)
  obtain ⟨rfl, rfl⟩ := hp_557
  refine j_icmp_eq (tgt := 840) (q := 563) hO dL_law_560 rfl (by decide) (fun c_560_0 => ?_) (fun c_560_0 => ?_)
  · refine Jg.widen (k' := k + 7) (n' := n + 35) (show k + 0 + 0 ≤ k + 7 by omega) (show n + 0 + 0 ≤ n + 35 by omega) ?_
    refine Jg.lv (lv' := LV S_548 i b) ⟨rfl, rfl, rfl, rfl, trivial⟩ ?_
    exact kk _ (Lv.go hm1 cq)
  · exact absurd rfl c_560_0
set_option maxHeartbeats 4000000 in
set_option maxRecDepth 100000 in
theorem law_event {X : Cx} {b L : Nat} {xs : Nat → Int32} (hM : LX X b L xs) {i k n : Nat} {S : St} (hL : L < 2 ^ 31) (hi : i + 5 ≤ L) (hk : k + 7 ≤ room_1.cells) (hn : n + 35 ≤ room_1.slots) (hv : Lv S) (kk : ∀ S', Lv S' → Jg X (k + 7) (n + 35) S' 840 (LV S' i b) []) : Jg X k n S 565 (LV S i b) [] := by
  obtain ⟨α, ha⟩ : ∃ α, rd S = α := ⟨_, rfl⟩
  obtain ⟨hm, cq⟩ := hv
  rw [ha] at cq
  obtain ⟨nb, nh, nu, nr, nk, np, t, z⟩ := id cq
  obtain ⟨f1, f2, f3, f4, f5, f6, f7, -⟩ := id z.1.2.2.1
  have hO := hM.1
  have hsc := hM.s
  show Jg X k n S 565 [(0, .ref b), (1, .ref (sA S 9 0)), (2, .ref (sA S 10 0)), (3, .int (nI i))] []
  refine j_aload_n (q := 566) hO dL_law_565 rfl rfl ?_
  refine j_aload_n (q := 567) hO dL_law_566 rfl rfl ?_
  refine j_iload_n (q := 568) hO dL_law_567 rfl rfl ?_
  refine j_iconst (v := 1) (q := 569) hO dL_law_568 rfl (by decide) ?_
  refine j_iadd (q := 570) hO dL_law_569 rfl ?_
  refine j_sld (j := i + 1) (q := 571) hO hsc dL_law_570 rfl (nI_add i 1) (by omega) hL ?_
  refine j_aload_n (q := 572) hO dL_law_571 rfl rfl ?_
  refine j_iload_n (q := 573) hO dL_law_572 rfl rfl ?_
  refine j_iconst (v := 2) (q := 574) hO dL_law_573 rfl (by decide) ?_
  refine j_iadd (q := 575) hO dL_law_574 rfl ?_
  refine j_sld (j := i + 2) (q := 576) hO hsc dL_law_575 rfl (nI_add i 2) (by omega) hL ?_
  refine j_callV (x := 9) (q := 579) hO (c_9_event (lx X) S α nb nh nu nr nk np t _ _ z.1) M_9_event mw_447 CK_9 rfl z.1.1.c9 rfl rfl rfl (by unfold roomy; rw [hM.R]; exact ⟨⟨Nat.le_of_ble_eq_true rfl, Nat.le_of_ble_eq_true rfl⟩, ⟨Nat.le_trans (show k + 0 ≤ k + 7 by omega) hk, Nat.le_trans (show n + 0 ≤ n + 35 by omega) hn⟩, Nat.le_of_ble_eq_true rfl⟩) dL_law_576 rfl (fun v_576 S_576 hp_576 => ?_)
  obtain ⟨rfl, eS⟩ := hp_576
  refine Jg.same eS ?_
  have hm1 := hm
  refine Jg.wr ha ?_
  refine j_aload_n (q := 580) hO dL_law_579 rfl rfl ?_
  refine j_aload_n (q := 581) hO dL_law_580 rfl rfl ?_
  refine j_iload_n (q := 582) hO dL_law_581 rfl rfl ?_
  refine j_iconst (v := 1) (q := 583) hO dL_law_582 rfl (by decide) ?_
  refine j_iadd (q := 584) hO dL_law_583 rfl ?_
  refine j_sld (j := i + 1) (q := 585) hO hsc dL_law_584 rfl (nI_add i 1) (by omega) hL ?_
  refine j_aload_n (q := 586) hO dL_law_585 rfl rfl ?_
  refine j_iload_n (q := 587) hO dL_law_586 rfl rfl ?_
  refine j_iconst (v := 2) (q := 588) hO dL_law_587 rfl (by decide) ?_
  refine j_iadd (q := 589) hO dL_law_588 rfl ?_
  refine j_sld (j := i + 2) (q := 590) hO hsc dL_law_589 rfl (nI_add i 2) (by omega) hL ?_
  refine j_callV (x := 10) (q := 593) hO (c_10_event (lx X) S α _ _ hm1) M_10_event mw_738 CK_10 rfl hm1.1 rfl rfl rfl (by unfold roomy; rw [hM.R]; exact ⟨⟨Nat.le_of_ble_eq_true rfl, Nat.le_of_ble_eq_true rfl⟩, ⟨Nat.le_trans (show k + 0 + 0 ≤ k + 7 by omega) hk, Nat.le_trans (show n + 0 + 0 ≤ n + 35 by omega) hn⟩, Nat.le_of_ble_eq_true rfl⟩) dL_law_590 rfl (fun v_590 S_590 hp_590 => ?_)
  obtain ⟨rfl, rfl⟩ := hp_590
  refine j_icmp_eq (tgt := 840) (q := 596) hO dL_law_593 rfl (by decide) (fun c_593_0 => ?_) (fun c_593_0 => ?_)
  · refine Jg.widen (k' := k + 7) (n' := n + 35) (show k + 0 + 0 ≤ k + 7 by omega) (show n + 0 + 0 ≤ n + 35 by omega) ?_
    refine Jg.lv (lv' := LV S i b) ⟨rfl, rfl, rfl, rfl, trivial⟩ ?_
    exact kk _ (Lv.go hm1 cq)
  · exact absurd rfl c_593_0
set_option maxHeartbeats 4000000 in
set_option maxRecDepth 100000 in
theorem law_out {X : Cx} {b L : Nat} {xs : Nat → Int32} (hM : LX X b L xs) {i k n : Nat} {S : St} (hL : L < 2 ^ 31) (hi : i + 5 ≤ L) (hk : k + 7 ≤ room_1.cells) (hn : n + 35 ≤ room_1.slots) (hv : Lv S) (kk : ∀ S', Lv S' → Jg X (k + 7) (n + 35) S' 840 (LV S' i b) []) : Jg X k n S 598 (LV S i b) [] := by
  obtain ⟨α, ha⟩ : ∃ α, rd S = α := ⟨_, rfl⟩
  obtain ⟨hm, cq⟩ := hv
  rw [ha] at cq
  obtain ⟨nb, nh, nu, nr, nk, np, t, z⟩ := id cq
  obtain ⟨f1, f2, f3, f4, f5, f6, f7, -⟩ := id z.1.2.2.1
  have hO := hM.1
  have hsc := hM.s
  show Jg X k n S 598 [(0, .ref b), (1, .ref (sA S 9 0)), (2, .ref (sA S 10 0)), (3, .int (nI i))] []
  refine j_aload_n (q := 599) hO dL_law_598 rfl rfl ?_
  refine j_aload_n (q := 600) hO dL_law_599 rfl rfl ?_
  refine j_iload_n (q := 601) hO dL_law_600 rfl rfl ?_
  refine j_iconst (v := 1) (q := 602) hO dL_law_601 rfl (by decide) ?_
  refine j_iadd (q := 603) hO dL_law_602 rfl ?_
  refine j_sld (j := i + 1) (q := 604) hO hsc dL_law_603 rfl (nI_add i 1) (by omega) hL ?_
  refine j_aload_n (q := 605) hO dL_law_604 rfl rfl ?_
  refine j_iload_n (q := 606) hO dL_law_605 rfl rfl ?_
  refine j_iconst (v := 2) (q := 607) hO dL_law_606 rfl (by decide) ?_
  refine j_iadd (q := 608) hO dL_law_607 rfl ?_
  refine j_sld (j := i + 2) (q := 609) hO hsc dL_law_608 rfl (nI_add i 2) (by omega) hL ?_
  refine j_callV (x := 9) (q := 612) hO (c_9_out (lx X) S α nb nh nu nr nk np t _ _ z.1) M_9_out mw_455 CK_9 rfl z.1.1.c9 rfl rfl rfl (by unfold roomy; rw [hM.R]; exact ⟨⟨Nat.le_of_ble_eq_true rfl, Nat.le_of_ble_eq_true rfl⟩, ⟨Nat.le_trans (show k + 0 ≤ k + 7 by omega) hk, Nat.le_trans (show n + 0 ≤ n + 35 by omega) hn⟩, Nat.le_of_ble_eq_true rfl⟩) dL_law_609 rfl (fun v_609 S_609 hp_609 => ?_)
  obtain ⟨rfl, eS⟩ := hp_609
  refine Jg.same eS ?_
  have hm1 := hm
  refine Jg.wr ha ?_
  refine j_aload_n (q := 613) hO dL_law_612 rfl rfl ?_
  refine j_aload_n (q := 614) hO dL_law_613 rfl rfl ?_
  refine j_iload_n (q := 615) hO dL_law_614 rfl rfl ?_
  refine j_iconst (v := 1) (q := 616) hO dL_law_615 rfl (by decide) ?_
  refine j_iadd (q := 617) hO dL_law_616 rfl ?_
  refine j_sld (j := i + 1) (q := 618) hO hsc dL_law_617 rfl (nI_add i 1) (by omega) hL ?_
  refine j_aload_n (q := 619) hO dL_law_618 rfl rfl ?_
  refine j_iload_n (q := 620) hO dL_law_619 rfl rfl ?_
  refine j_iconst (v := 2) (q := 621) hO dL_law_620 rfl (by decide) ?_
  refine j_iadd (q := 622) hO dL_law_621 rfl ?_
  refine j_sld (j := i + 2) (q := 623) hO hsc dL_law_622 rfl (nI_add i 2) (by omega) hL ?_
  refine j_callV (x := 10) (q := 626) hO (c_10_out (lx X) S α nb _ _ hm1 f1.1 f1.2) M_10_out mw_742 CK_10 rfl hm1.1 rfl rfl rfl (by unfold roomy; rw [hM.R]; exact ⟨⟨Nat.le_of_ble_eq_true rfl, Nat.le_of_ble_eq_true rfl⟩, ⟨Nat.le_trans (show k + 0 + 0 ≤ k + 7 by omega) hk, Nat.le_trans (show n + 0 + 0 ≤ n + 35 by omega) hn⟩, Nat.le_of_ble_eq_true rfl⟩) dL_law_623 rfl (fun v_623 S_623 hp_623 => ?_)
  obtain ⟨rfl, rfl⟩ := hp_623
  refine j_lcmp (q := 627) hO dL_law_626 rfl ?_
  refine j_if_eq (tgt := 840) (q := 630) hO dL_law_627 rfl (by decide) (fun c_627_0 => ?_) (fun c_627_0 => ?_)
  · refine Jg.widen (k' := k + 7) (n' := n + 35) (show k + 0 + 0 ≤ k + 7 by omega) (show n + 0 + 0 ≤ n + 35 by omega) ?_
    refine Jg.lv (lv' := LV S i b) ⟨rfl, rfl, rfl, rfl, trivial⟩ ?_
    exact kk _ (Lv.go hm1 cq)
  · exact absurd (lc_self _) c_627_0
set_option maxHeartbeats 4000000 in
set_option maxRecDepth 100000 in
theorem law_inside {X : Cx} {b L : Nat} {xs : Nat → Int32} (hM : LX X b L xs) {i k n : Nat} {S : St} (hL : L < 2 ^ 31) (hi : i + 5 ≤ L) (hk : k + 7 ≤ room_1.cells) (hn : n + 35 ≤ room_1.slots) (hv : Lv S) (kk : ∀ S', Lv S' → Jg X (k + 7) (n + 35) S' 840 (LV S' i b) []) : Jg X k n S 632 (LV S i b) [] := by
  obtain ⟨α, ha⟩ : ∃ α, rd S = α := ⟨_, rfl⟩
  obtain ⟨hm, cq⟩ := hv
  rw [ha] at cq
  obtain ⟨nb, nh, nu, nr, nk, np, t, z⟩ := id cq
  obtain ⟨f1, f2, f3, f4, f5, f6, f7, -⟩ := id z.1.2.2.1
  have hO := hM.1
  have hsc := hM.s
  show Jg X k n S 632 [(0, .ref b), (1, .ref (sA S 9 0)), (2, .ref (sA S 10 0)), (3, .int (nI i))] []
  refine j_aload_n (q := 633) hO dL_law_632 rfl rfl ?_
  refine j_callV (x := 9) (q := 636) hO (c_9_inside (lx X) S α nb nh nu nr nk np t z.1) M_9_inside mw_460 CK_9 rfl z.1.1.c9 rfl rfl rfl (by unfold roomy; rw [hM.R]; exact ⟨⟨Nat.le_of_ble_eq_true rfl, Nat.le_of_ble_eq_true rfl⟩, ⟨Nat.le_trans (show k + 0 ≤ k + 7 by omega) hk, Nat.le_trans (show n + 0 ≤ n + 35 by omega) hn⟩, Nat.le_of_ble_eq_true rfl⟩) dL_law_633 rfl (fun v_633 S_633 hp_633 => ?_)
  obtain ⟨rfl, eS⟩ := hp_633
  refine Jg.same eS ?_
  have hm1 := hm
  refine Jg.wr ha ?_
  refine j_aload_n (q := 637) hO dL_law_636 rfl rfl ?_
  refine j_callV (x := 10) (q := 640) hO (c_10_inside (lx X) S α np hm1 f6.1 f6.2) M_10_inside mw_751 CK_10 rfl hm1.1 rfl rfl rfl (by unfold roomy; rw [hM.R]; exact ⟨⟨Nat.le_of_ble_eq_true rfl, Nat.le_of_ble_eq_true rfl⟩, ⟨Nat.le_trans (show k + 0 + 0 ≤ k + 7 by omega) hk, Nat.le_trans (show n + 0 + 0 ≤ n + 35 by omega) hn⟩, Nat.le_of_ble_eq_true rfl⟩) dL_law_637 rfl (fun v_637 S_637 hp_637 => ?_)
  obtain ⟨rfl, rfl⟩ := hp_637
  refine j_lcmp (q := 641) hO dL_law_640 rfl ?_
  refine j_if_eq (tgt := 840) (q := 644) hO dL_law_641 rfl (by decide) (fun c_641_0 => ?_) (fun c_641_0 => ?_)
  · refine Jg.widen (k' := k + 7) (n' := n + 35) (show k + 0 + 0 ≤ k + 7 by omega) (show n + 0 + 0 ≤ n + 35 by omega) ?_
    refine Jg.lv (lv' := LV S i b) ⟨rfl, rfl, rfl, rfl, trivial⟩ ?_
    exact kk _ (Lv.go hm1 cq)
  · exact absurd (lc_self _) c_641_0
set_option maxHeartbeats 4000000 in
set_option maxRecDepth 100000 in
theorem law_jam {X : Cx} {b L : Nat} {xs : Nat → Int32} (hM : LX X b L xs) {i k n : Nat} {S : St} (hL : L < 2 ^ 31) (hi : i + 5 ≤ L) (hk : k + 7 ≤ room_1.cells) (hn : n + 35 ≤ room_1.slots) (hv : Lv S) (kk : ∀ S', Lv S' → Jg X (k + 7) (n + 35) S' 840 (LV S' i b) []) : Jg X k n S 646 (LV S i b) [] := by
  obtain ⟨α, ha⟩ : ∃ α, rd S = α := ⟨_, rfl⟩
  obtain ⟨hm, cq⟩ := hv
  rw [ha] at cq
  obtain ⟨nb, nh, nu, nr, nk, np, t, z⟩ := id cq
  obtain ⟨f1, f2, f3, f4, f5, f6, f7, -⟩ := id z.1.2.2.1
  have hO := hM.1
  have hsc := hM.s
  obtain ⟨jm, hjm, hj5⟩ := z.1.2.2.2.2.1.2.2.2.1
  have hj60 : jm ≤ 60 := Nat.le_trans hj5 (Nat.le_trans (ctF_le np) f6.2)
  show Jg X k n S 646 [(0, .ref b), (1, .ref (sA S 9 0)), (2, .ref (sA S 10 0)), (3, .int (nI i))] []
  refine j_aload_n (q := 647) hO dL_law_646 rfl rfl ?_
  refine j_aload_n (q := 648) hO dL_law_647 rfl rfl ?_
  refine j_iload_n (q := 649) hO dL_law_648 rfl rfl ?_
  refine j_iconst (v := 1) (q := 650) hO dL_law_649 rfl (by decide) ?_
  refine j_iadd (q := 651) hO dL_law_650 rfl ?_
  refine j_sld (j := i + 1) (q := 652) hO hsc dL_law_651 rfl (nI_add i 1) (by omega) hL ?_
  refine j_aload_n (q := 653) hO dL_law_652 rfl rfl ?_
  refine j_iload_n (q := 654) hO dL_law_653 rfl rfl ?_
  refine j_iconst (v := 2) (q := 655) hO dL_law_654 rfl (by decide) ?_
  refine j_iadd (q := 656) hO dL_law_655 rfl ?_
  refine j_sld (j := i + 2) (q := 657) hO hsc dL_law_656 rfl (nI_add i 2) (by omega) hL ?_
  refine j_callV (x := 9) (q := 660) hO (c_9_jam (lx X) S α nb nh nu nr nk np t _ _ z.1) M_9_jam mw_468 CK_9 rfl z.1.1.c9 rfl rfl rfl (by unfold roomy; rw [hM.R]; exact ⟨⟨Nat.le_of_ble_eq_true rfl, Nat.le_of_ble_eq_true rfl⟩, ⟨Nat.le_trans (show k + 0 ≤ k + 7 by omega) hk, Nat.le_trans (show n + 0 ≤ n + 35 by omega) hn⟩, Nat.le_of_ble_eq_true rfl⟩) dL_law_657 rfl (fun v_657 S_657 hp_657 => ?_)
  obtain ⟨rfl, eS⟩ := hp_657
  refine Jg.same eS ?_
  have hm1 := hm
  refine Jg.wr ha ?_
  refine j_aload_n (q := 661) hO dL_law_660 rfl rfl ?_
  refine j_aload_n (q := 662) hO dL_law_661 rfl rfl ?_
  refine j_iload_n (q := 663) hO dL_law_662 rfl rfl ?_
  refine j_iconst (v := 1) (q := 664) hO dL_law_663 rfl (by decide) ?_
  refine j_iadd (q := 665) hO dL_law_664 rfl ?_
  refine j_sld (j := i + 1) (q := 666) hO hsc dL_law_665 rfl (nI_add i 1) (by omega) hL ?_
  refine j_aload_n (q := 667) hO dL_law_666 rfl rfl ?_
  refine j_iload_n (q := 668) hO dL_law_667 rfl rfl ?_
  refine j_iconst (v := 2) (q := 669) hO dL_law_668 rfl (by decide) ?_
  refine j_iadd (q := 670) hO dL_law_669 rfl ?_
  refine j_sld (j := i + 2) (q := 671) hO hsc dL_law_670 rfl (nI_add i 2) (by omega) hL ?_
  refine j_callV (x := 10) (q := 674) hO (c_10_jam (lx X) S α jm _ _ hm1 hjm hj60) M_10_jam mw_759 CK_10 rfl hm1.1 rfl rfl rfl (by unfold roomy; rw [hM.R]; exact ⟨⟨Nat.le_of_ble_eq_true rfl, Nat.le_of_ble_eq_true rfl⟩, ⟨Nat.le_trans (show k + 0 + 0 ≤ k + 7 by omega) hk, Nat.le_trans (show n + 0 + 0 ≤ n + 35 by omega) hn⟩, Nat.le_of_ble_eq_true rfl⟩) dL_law_671 rfl (fun v_671 S_671 hp_671 => ?_)
  obtain ⟨rfl, rfl⟩ := hp_671
  refine j_icmp_eq (tgt := 840) (q := 677) hO dL_law_674 rfl (by decide) (fun c_674_0 => ?_) (fun c_674_0 => ?_)
  · refine Jg.widen (k' := k + 7) (n' := n + 35) (show k + 0 + 0 ≤ k + 7 by omega) (show n + 0 + 0 ≤ n + 35 by omega) ?_
    refine Jg.lv (lv' := LV S i b) ⟨rfl, rfl, rfl, rfl, trivial⟩ ?_
    exact kk _ (Lv.go hm1 cq)
  · exact absurd rfl c_674_0
set_option maxHeartbeats 4000000 in
set_option maxRecDepth 100000 in
theorem law_lost {X : Cx} {b L : Nat} {xs : Nat → Int32} (hM : LX X b L xs) {i k n : Nat} {S : St} (hL : L < 2 ^ 31) (hi : i + 5 ≤ L) (hk : k + 7 ≤ room_1.cells) (hn : n + 35 ≤ room_1.slots) (hv : Lv S) (kk : ∀ S', Lv S' → Jg X (k + 7) (n + 35) S' 840 (LV S' i b) []) : Jg X k n S 679 (LV S i b) [] := by
  obtain ⟨α, ha⟩ : ∃ α, rd S = α := ⟨_, rfl⟩
  obtain ⟨hm, cq⟩ := hv
  rw [ha] at cq
  obtain ⟨nb, nh, nu, nr, nk, np, t, z⟩ := id cq
  obtain ⟨f1, f2, f3, f4, f5, f6, f7, -⟩ := id z.1.2.2.1
  have hO := hM.1
  have hsc := hM.s
  show Jg X k n S 679 [(0, .ref b), (1, .ref (sA S 9 0)), (2, .ref (sA S 10 0)), (3, .int (nI i))] []
  refine j_aload_n (q := 680) hO dL_law_679 rfl rfl ?_
  refine j_aload_n (q := 681) hO dL_law_680 rfl rfl ?_
  refine j_iload_n (q := 682) hO dL_law_681 rfl rfl ?_
  refine j_iconst (v := 1) (q := 683) hO dL_law_682 rfl (by decide) ?_
  refine j_iadd (q := 684) hO dL_law_683 rfl ?_
  refine j_sld (j := i + 1) (q := 685) hO hsc dL_law_684 rfl (nI_add i 1) (by omega) hL ?_
  refine j_callV (x := 9) (q := 688) hO (c_9_lost (lx X) S α nb nh nu nr nk np t _ z.1) M_9_lost mw_472 CK_9 rfl z.1.1.c9 rfl rfl rfl (by unfold roomy; rw [hM.R]; exact ⟨⟨Nat.le_of_ble_eq_true rfl, Nat.le_of_ble_eq_true rfl⟩, ⟨Nat.le_trans (show k + 0 ≤ k + 7 by omega) hk, Nat.le_trans (show n + 0 ≤ n + 35 by omega) hn⟩, Nat.le_of_ble_eq_true rfl⟩) dL_law_685 rfl (fun v_685 S_685 hp_685 => ?_)
  obtain ⟨rfl, eS⟩ := hp_685
  refine Jg.same eS ?_
  have hm1 := hm
  refine Jg.wr ha ?_
  refine j_aload_n (q := 689) hO dL_law_688 rfl rfl ?_
  refine j_aload_n (q := 690) hO dL_law_689 rfl rfl ?_
  refine j_iload_n (q := 691) hO dL_law_690 rfl rfl ?_
  refine j_iconst (v := 1) (q := 692) hO dL_law_691 rfl (by decide) ?_
  refine j_iadd (q := 693) hO dL_law_692 rfl ?_
  refine j_sld (j := i + 1) (q := 694) hO hsc dL_law_693 rfl (nI_add i 1) (by omega) hL ?_
  refine j_callV (x := 10) (q := 697) hO (c_10_lost (lx X) S α _ hm1) M_10_lost mw_763 CK_10 rfl hm1.1 rfl rfl rfl (by unfold roomy; rw [hM.R]; exact ⟨⟨Nat.le_of_ble_eq_true rfl, Nat.le_of_ble_eq_true rfl⟩, ⟨Nat.le_trans (show k + 0 + 0 ≤ k + 7 by omega) hk, Nat.le_trans (show n + 0 + 0 ≤ n + 35 by omega) hn⟩, Nat.le_of_ble_eq_true rfl⟩) dL_law_694 rfl (fun v_694 S_694 hp_694 => ?_)
  obtain ⟨rfl, rfl⟩ := hp_694
  refine j_lcmp (q := 698) hO dL_law_697 rfl ?_
  refine j_if_eq (tgt := 840) (q := 701) hO dL_law_698 rfl (by decide) (fun c_698_0 => ?_) (fun c_698_0 => ?_)
  · refine Jg.widen (k' := k + 7) (n' := n + 35) (show k + 0 + 0 ≤ k + 7 by omega) (show n + 0 + 0 ≤ n + 35 by omega) ?_
    refine Jg.lv (lv' := LV S i b) ⟨rfl, rfl, rfl, rfl, trivial⟩ ?_
    exact kk _ (Lv.go hm1 cq)
  · exact absurd (lc_self _) c_698_0
set_option maxHeartbeats 4000000 in
set_option maxRecDepth 100000 in
theorem law_interval {X : Cx} {b L : Nat} {xs : Nat → Int32} (hM : LX X b L xs) {i k n : Nat} {S : St} (hL : L < 2 ^ 31) (hi : i + 5 ≤ L) (hk : k + 7 ≤ room_1.cells) (hn : n + 35 ≤ room_1.slots) (hv : Lv S) (kk : ∀ S', Lv S' → Jg X (k + 7) (n + 35) S' 840 (LV S' i b) []) : Jg X k n S 703 (LV S i b) [] := by
  obtain ⟨α, ha⟩ : ∃ α, rd S = α := ⟨_, rfl⟩
  obtain ⟨hm, cq⟩ := hv
  rw [ha] at cq
  obtain ⟨nb, nh, nu, nr, nk, np, t, z⟩ := id cq
  obtain ⟨f1, f2, f3, f4, f5, f6, f7, -⟩ := id z.1.2.2.1
  have hO := hM.1
  have hsc := hM.s
  show Jg X k n S 703 [(0, .ref b), (1, .ref (sA S 9 0)), (2, .ref (sA S 10 0)), (3, .int (nI i))] []
  refine j_aload_n (q := 704) hO dL_law_703 rfl rfl ?_
  refine j_aload_n (q := 705) hO dL_law_704 rfl rfl ?_
  refine j_iload_n (q := 706) hO dL_law_705 rfl rfl ?_
  refine j_iconst (v := 1) (q := 707) hO dL_law_706 rfl (by decide) ?_
  refine j_iadd (q := 708) hO dL_law_707 rfl ?_
  refine j_sld (j := i + 1) (q := 709) hO hsc dL_law_708 rfl (nI_add i 1) (by omega) hL ?_
  refine j_aload_n (q := 710) hO dL_law_709 rfl rfl ?_
  refine j_iload_n (q := 711) hO dL_law_710 rfl rfl ?_
  refine j_iconst (v := 2) (q := 712) hO dL_law_711 rfl (by decide) ?_
  refine j_iadd (q := 713) hO dL_law_712 rfl ?_
  refine j_sld (j := i + 2) (q := 714) hO hsc dL_law_713 rfl (nI_add i 2) (by omega) hL ?_
  refine j_aload_n (q := 715) hO dL_law_714 rfl rfl ?_
  refine j_iload_n (q := 716) hO dL_law_715 rfl rfl ?_
  refine j_iconst (v := 3) (q := 717) hO dL_law_716 rfl (by decide) ?_
  refine j_iadd (q := 718) hO dL_law_717 rfl ?_
  refine j_sld (j := i + 3) (q := 719) hO hsc dL_law_718 rfl (nI_add i 3) (by omega) hL ?_
  refine j_callV (x := 9) (q := 722) hO (c_9_interval (lx X) S α nb nh nu nr nk np t _ _ _ z.1) M_9_interval mw_476 CK_9 rfl z.1.1.c9 rfl rfl rfl (by unfold roomy; rw [hM.R]; exact ⟨⟨Nat.le_of_ble_eq_true rfl, Nat.le_of_ble_eq_true rfl⟩, ⟨Nat.le_trans (show k + 0 ≤ k + 7 by omega) hk, Nat.le_trans (show n + 0 ≤ n + 35 by omega) hn⟩, Nat.le_of_ble_eq_true rfl⟩) dL_law_719 rfl (fun v_719 S_719 hp_719 => ?_)
  obtain ⟨rfl, eS⟩ := hp_719
  refine Jg.same eS ?_
  have hm1 := hm
  refine Jg.wr ha ?_
  refine j_dstore (q := 724) hO dL_law_722 rfl (by rw [hM.nL]; decide) rfl ?_
  refine j_aload_n (q := 725) hO dL_law_724 rfl rfl ?_
  refine j_aload_n (q := 726) hO dL_law_725 rfl rfl ?_
  refine j_iload_n (q := 727) hO dL_law_726 rfl rfl ?_
  refine j_iconst (v := 1) (q := 728) hO dL_law_727 rfl (by decide) ?_
  refine j_iadd (q := 729) hO dL_law_728 rfl ?_
  refine j_sld (j := i + 1) (q := 730) hO hsc dL_law_729 rfl (nI_add i 1) (by omega) hL ?_
  refine j_aload_n (q := 731) hO dL_law_730 rfl rfl ?_
  refine j_iload_n (q := 732) hO dL_law_731 rfl rfl ?_
  refine j_iconst (v := 2) (q := 733) hO dL_law_732 rfl (by decide) ?_
  refine j_iadd (q := 734) hO dL_law_733 rfl ?_
  refine j_sld (j := i + 2) (q := 735) hO hsc dL_law_734 rfl (nI_add i 2) (by omega) hL ?_
  refine j_aload_n (q := 736) hO dL_law_735 rfl rfl ?_
  refine j_iload_n (q := 737) hO dL_law_736 rfl rfl ?_
  refine j_iconst (v := 3) (q := 738) hO dL_law_737 rfl (by decide) ?_
  refine j_iadd (q := 739) hO dL_law_738 rfl ?_
  refine j_sld (j := i + 3) (q := 740) hO hsc dL_law_739 rfl (nI_add i 3) (by omega) hL ?_
  refine j_callV (x := 10) (q := 743) hO (c_10_interval (lx X) S α nb _ _ _ hm1 f1.1 f1.2) M_10_interval mw_767 CK_10 rfl hm1.1 rfl rfl rfl (by unfold roomy; rw [hM.R]; exact ⟨⟨Nat.le_of_ble_eq_true rfl, Nat.le_of_ble_eq_true rfl⟩, ⟨Nat.le_trans (show k + 0 + 0 ≤ k + 7 by omega) hk, Nat.le_trans (show n + 0 + 0 ≤ n + 35 by omega) hn⟩, Nat.le_of_ble_eq_true rfl⟩) dL_law_740 rfl (fun v_740 S_740 hp_740 => ?_)
  obtain ⟨rfl, rfl⟩ := hp_740
  refine j_dstore (q := 745) hO dL_law_743 rfl (by rw [hM.nL]; decide) rfl ?_
  refine j_dload (q := 747) hO dL_law_745 rfl rfl ?_
  refine j_dload (q := 749) hO dL_law_747 rfl rfl ?_
  refine j_dcmp (q := 750) hO dL_law_749 rfl ?_
  refine j_if_eq (tgt := 771) (q := 753) hO dL_law_750 rfl (by decide) (fun c750 => ?_) (fun c750 => ?_)
  · refine j_goto (tgt := 840) hO dL_law_771 (by decide) ?_
    refine Jg.widen (k' := k + 7) (n' := n + 35) (show k + 0 + 0 ≤ k + 7 by omega) (show n + 0 + 0 ≤ n + 35 by omega) ?_
    refine Jg.lv (lv' := LV S i b) ⟨rfl, rfl, rfl, rfl, trivial⟩ ?_
    exact kk _ (Lv.go hm1 cq)
  · refine j_dload (q := 755) hO dL_law_753 rfl rfl ?_
    refine j_dload (q := 757) hO dL_law_755 rfl rfl ?_
    refine j_dcmp (q := 758) hO dL_law_757 rfl ?_
    refine j_if_eq (tgt := 769) (q := 761) hO dL_law_758 rfl (by decide) (fun c758 => ?_) (fun c758 => ?_)
    · exact absurd c758 c750
    · refine j_dload (q := 763) hO dL_law_761 rfl rfl ?_
      refine j_dload (q := 765) hO dL_law_763 rfl rfl ?_
      refine j_dcmp (q := 766) hO dL_law_765 rfl ?_
      refine j_if_ne (tgt := 771) (q := 769) hO dL_law_766 rfl (by decide) (fun c766 => ?_) (fun c766 => ?_)
      · refine j_goto (tgt := 840) hO dL_law_771 (by decide) ?_
        refine Jg.widen (k' := k + 7) (n' := n + 35) (show k + 0 + 0 ≤ k + 7 by omega) (show n + 0 + 0 ≤ n + 35 by omega) ?_
        refine Jg.lv (lv' := LV S i b) ⟨rfl, rfl, rfl, rfl, trivial⟩ ?_
        exact kk _ (Lv.go hm1 cq)
      · exact absurd c766 c750
set_option maxHeartbeats 4000000 in
set_option maxRecDepth 100000 in
theorem law_same {X : Cx} {b L : Nat} {xs : Nat → Int32} (hM : LX X b L xs) {i k n : Nat} {S : St} (hL : L < 2 ^ 31) (hi : i + 5 ≤ L) (hk : k + 7 ≤ room_1.cells) (hn : n + 35 ≤ room_1.slots) (hv : Lv S) (kk : ∀ S', Lv S' → Jg X (k + 7) (n + 35) S' 840 (LV S' i b) []) : Jg X k n S 774 (LV S i b) [] := by
  obtain ⟨α, ha⟩ : ∃ α, rd S = α := ⟨_, rfl⟩
  obtain ⟨hm, cq⟩ := hv
  rw [ha] at cq
  obtain ⟨nb, nh, nu, nr, nk, np, t, z⟩ := id cq
  obtain ⟨f1, f2, f3, f4, f5, f6, f7, -⟩ := id z.1.2.2.1
  have hO := hM.1
  have hsc := hM.s
  show Jg X k n S 774 [(0, .ref b), (1, .ref (sA S 9 0)), (2, .ref (sA S 10 0)), (3, .int (nI i))] []
  refine j_aload_n (q := 775) hO dL_law_774 rfl rfl ?_
  refine j_callV (x := 9) (q := 778) hO (c_9_same (lx X) S α nb nh nu nr nk np t z.1) M_9_same mw_481 CK_9 rfl z.1.1.c9 rfl rfl rfl (by unfold roomy; rw [hM.R]; exact ⟨⟨Nat.le_of_ble_eq_true rfl, Nat.le_of_ble_eq_true rfl⟩, ⟨Nat.le_trans (show k + 0 ≤ k + 7 by omega) hk, Nat.le_trans (show n + 0 ≤ n + 35 by omega) hn⟩, Nat.le_of_ble_eq_true rfl⟩) dL_law_775 rfl (fun v_775 S_775 hp_775 => ?_)
  obtain ⟨rfl, eS⟩ := hp_775
  refine Jg.same eS ?_
  have hm1 := hm
  refine Jg.wr ha ?_
  refine j_aload_n (q := 779) hO dL_law_778 rfl rfl ?_
  refine j_callV (x := 10) (q := 782) hO (c_10_same (lx X) S α np hm1 f6.1 f6.2) M_10_same mw_772 CK_10 rfl hm1.1 rfl rfl rfl (by unfold roomy; rw [hM.R]; exact ⟨⟨Nat.le_of_ble_eq_true rfl, Nat.le_of_ble_eq_true rfl⟩, ⟨Nat.le_trans (show k + 0 + 0 ≤ k + 7 by omega) hk, Nat.le_trans (show n + 0 + 0 ≤ n + 35 by omega) hn⟩, Nat.le_of_ble_eq_true rfl⟩) dL_law_779 rfl (fun v_779 S_779 hp_779 => ?_)
  obtain ⟨rfl, rfl⟩ := hp_779
  refine j_icmp_eq (tgt := 840) (q := 785) hO dL_law_782 rfl (by decide) (fun c_782_0 => ?_) (fun c_782_0 => ?_)
  · refine Jg.widen (k' := k + 7) (n' := n + 35) (show k + 0 + 0 ≤ k + 7 by omega) (show n + 0 + 0 ≤ n + 35 by omega) ?_
    refine Jg.lv (lv' := LV S i b) ⟨rfl, rfl, rfl, rfl, trivial⟩ ?_
    exact kk _ (Lv.go hm1 cq)
  · exact absurd rfl c_782_0
set_option maxHeartbeats 4000000 in
set_option maxRecDepth 100000 in
theorem law_pieceKind {X : Cx} {b L : Nat} {xs : Nat → Int32} (hM : LX X b L xs) {i k n : Nat} {S : St} (hL : L < 2 ^ 31) (hi : i + 5 ≤ L) (hk : k + 7 ≤ room_1.cells) (hn : n + 35 ≤ room_1.slots) (hv : Lv S) (kk : ∀ S', Lv S' → Jg X (k + 7) (n + 35) S' 840 (LV S' i b) []) : Jg X k n S 787 (LV S i b) [] := by
  obtain ⟨α, ha⟩ : ∃ α, rd S = α := ⟨_, rfl⟩
  obtain ⟨hm, cq⟩ := hv
  rw [ha] at cq
  obtain ⟨nb, nh, nu, nr, nk, np, t, z⟩ := id cq
  obtain ⟨f1, f2, f3, f4, f5, f6, f7, -⟩ := id z.1.2.2.1
  have hO := hM.1
  have hsc := hM.s
  show Jg X k n S 787 [(0, .ref b), (1, .ref (sA S 9 0)), (2, .ref (sA S 10 0)), (3, .int (nI i))] []
  refine j_aload_n (q := 788) hO dL_law_787 rfl rfl ?_
  refine j_aload_n (q := 789) hO dL_law_788 rfl rfl ?_
  refine j_iload_n (q := 790) hO dL_law_789 rfl rfl ?_
  refine j_iconst (v := 1) (q := 791) hO dL_law_790 rfl (by decide) ?_
  refine j_iadd (q := 792) hO dL_law_791 rfl ?_
  refine j_sld (j := i + 1) (q := 793) hO hsc dL_law_792 rfl (nI_add i 1) (by omega) hL ?_
  refine j_i2l (q := 794) hO dL_law_793 rfl ?_
  refine j_bipush (v := 32) (q := 796) hO dL_law_794 rfl (by decide) ?_
  refine j_lshl (q := 797) hO dL_law_796 rfl ?_
  refine j_aload_n (q := 798) hO dL_law_797 rfl rfl ?_
  refine j_iload_n (q := 799) hO dL_law_798 rfl rfl ?_
  refine j_iconst (v := 2) (q := 800) hO dL_law_799 rfl (by decide) ?_
  refine j_iadd (q := 801) hO dL_law_800 rfl ?_
  refine j_sld (j := i + 2) (q := 802) hO hsc dL_law_801 rfl (nI_add i 2) (by omega) hL ?_
  refine j_i2l (q := 803) hO dL_law_802 rfl ?_
  refine j_ldc2 (q := 806) hO dL_law_803 rfl mw_782 ?_
  refine j_land (q := 807) hO dL_law_806 rfl ?_
  refine j_lor (q := 808) hO dL_law_807 rfl ?_
  refine j_callV (x := 9) (q := 811) hO (c_9_pieceKind (lx X) S α nb nh nu nr nk np t _ z.1) M_9_pieceKind mw_485 CK_9 rfl z.1.1.c9 rfl rfl rfl (by unfold roomy; rw [hM.R]; exact ⟨⟨Nat.le_of_ble_eq_true rfl, Nat.le_of_ble_eq_true rfl⟩, ⟨Nat.le_trans (show k + 0 ≤ k + 7 by omega) hk, Nat.le_trans (show n + 0 ≤ n + 35 by omega) hn⟩, Nat.le_of_ble_eq_true rfl⟩) dL_law_808 rfl (fun v_808 S_808 hp_808 => ?_)
  obtain ⟨rfl, eS⟩ := hp_808
  refine Jg.same eS ?_
  have hm1 := hm
  refine Jg.wr ha ?_
  refine j_aload_n (q := 812) hO dL_law_811 rfl rfl ?_
  refine j_aload_n (q := 813) hO dL_law_812 rfl rfl ?_
  refine j_iload_n (q := 814) hO dL_law_813 rfl rfl ?_
  refine j_iconst (v := 1) (q := 815) hO dL_law_814 rfl (by decide) ?_
  refine j_iadd (q := 816) hO dL_law_815 rfl ?_
  refine j_sld (j := i + 1) (q := 817) hO hsc dL_law_816 rfl (nI_add i 1) (by omega) hL ?_
  refine j_i2l (q := 818) hO dL_law_817 rfl ?_
  refine j_bipush (v := 32) (q := 820) hO dL_law_818 rfl (by decide) ?_
  refine j_lshl (q := 821) hO dL_law_820 rfl ?_
  refine j_aload_n (q := 822) hO dL_law_821 rfl rfl ?_
  refine j_iload_n (q := 823) hO dL_law_822 rfl rfl ?_
  refine j_iconst (v := 2) (q := 824) hO dL_law_823 rfl (by decide) ?_
  refine j_iadd (q := 825) hO dL_law_824 rfl ?_
  refine j_sld (j := i + 2) (q := 826) hO hsc dL_law_825 rfl (nI_add i 2) (by omega) hL ?_
  refine j_i2l (q := 827) hO dL_law_826 rfl ?_
  refine j_ldc2 (q := 830) hO dL_law_827 rfl mw_782 ?_
  refine j_land (q := 831) hO dL_law_830 rfl ?_
  refine j_lor (q := 832) hO dL_law_831 rfl ?_
  refine j_callV (x := 10) (q := 835) hO (c_10_pieceKind (lx X) S α np _ hm1 f6.1 f6.2) M_10_pieceKind mw_777 CK_10 rfl hm1.1 rfl rfl rfl (by unfold roomy; rw [hM.R]; exact ⟨⟨Nat.le_of_ble_eq_true rfl, Nat.le_of_ble_eq_true rfl⟩, ⟨Nat.le_trans (show k + 0 + 0 ≤ k + 7 by omega) hk, Nat.le_trans (show n + 0 + 0 ≤ n + 35 by omega) hn⟩, Nat.le_of_ble_eq_true rfl⟩) dL_law_832 rfl (fun v_832 S_832 hp_832 => ?_)
  obtain ⟨rfl, rfl⟩ := hp_832
  refine j_icmp_eq (tgt := 840) (q := 838) hO dL_law_835 rfl (by decide) (fun c_835_0 => ?_) (fun c_835_0 => ?_)
  · refine Jg.widen (k' := k + 7) (n' := n + 35) (show k + 0 + 0 ≤ k + 7 by omega) (show n + 0 + 0 ≤ n + 35 by omega) ?_
    refine Jg.lv (lv' := LV S i b) ⟨rfl, rfl, rfl, rfl, trivial⟩ ?_
    exact kk _ (Lv.go hm1 cq)
  · exact absurd rfl c_835_0

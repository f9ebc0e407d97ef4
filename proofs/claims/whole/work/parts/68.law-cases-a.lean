set_option maxHeartbeats 4000000 in
set_option maxRecDepth 100000 in
theorem la_place {p : Program} {l : Launch} {e : Env} {s : State} {m : MethodId} {below : List Frame} {meth : Method} {c : Code} {b L : Nat} {xs : Nat → Int32} {G : va_G} {cA : Nat → ClassId} {ad am : Nat → Nat} {qo : Nat} {cJ : ClassId} {σ μ : St} {z : Int64} {H : Heap} {locs : List Loc} {cells slots n : Nat} {Q : State → Prop} (D : LD l p s m meth c b L xs G cA ad am qo cJ) (hR : Rel n σ μ) (hn : n < 512) (hL5 : 5 * n + 5 ≤ L) (hL : L ≤ 2560) (hH : LH s G cA ad am qo cJ σ μ z H locs) (hf : cells + 5 ≤ 601024 ∧ slots + 30 ≤ 7293034)
    (IH : ∀ (σ1 μ1 : St) (z1 : Int64) (H1 : Heap) (locs1 : List Loc) (ls1 : Array Slot), Rel (n + 1) σ1 μ1 → LH s G cA ad am qo cJ σ1 μ1 z1 H1 locs1 → lv_has ls1 8 [(0, .ref b), (1, .ref (ad 66)), (2, .ref (am 0)), (3, .ref qo), (4, .int (nI (5 * n)))] → W p l e room_1 s m #[Value.ref b] below meth c H1 locs1 (cells + 5) (slots + 30) Q (F0 m 1214 ls1 []))
    (ls : Array Slot) (hl : lv_has ls 8 [(0, .ref b), (1, .ref (ad 66)), (2, .ref (am 0)), (3, .ref qo), (4, .int (nI (5 * n)))]) : W p l e room_1 s m #[Value.ref b] below meth c H locs cells slots Q (F0 m 128 ls []) := by
  have hx := D.1.1
  have hb := D.1.2.1
  have hg := (la_fix D).2.2.2.2
  refine lv_aload_n hx hb dL_law_128 rfl (lv_at hl 1 rfl) ?_
  refine lv_aload_n hx hb dL_law_129 rfl (lv_at hl 0 rfl) ?_
  refine lv_iload hx hb dL_law_130 (lv_at hl 4 rfl) ?_
  refine lv_iconst (v := 1) hx hb dL_law_132 (by decide) ?_
  refine lv_iadd hx hb dL_law_133 ?_
  refine la_sld D hH (ix_in (k := 1) (by decide) hL5 hL) dL_law_134 ?_
  refine lv_aload_n hx hb dL_law_135 rfl (lv_at hl 0 rfl) ?_
  refine lv_iload hx hb dL_law_136 (lv_at hl 4 rfl) ?_
  refine lv_iconst (v := 2) hx hb dL_law_138 (by decide) ?_
  refine lv_iadd hx hb dL_law_139 ?_
  refine la_sld D hH (ix_in (k := 2) (by decide) hL5 hL) dL_law_140 ?_
  refine lv_aload_n hx hb dL_law_141 rfl (lv_at hl 0 rfl) ?_
  refine lv_iload hx hb dL_law_142 (lv_at hl 4 rfl) ?_
  refine lv_iconst (v := 3) hx hb dL_law_144 (by decide) ?_
  refine lv_iadd hx hb dL_law_145 ?_
  refine la_sld D hH (ix_in (k := 3) (by decide) hL5 hL) dL_law_146 ?_
  have hq := q_place hR (xs (nx ((nI (5 * n)) + 1))) (xs (nx ((nI (5 * n)) + 2))) (xs (nx ((nI (5 * n)) + 3)))
  have hM := l_place l D.2.1 G cA ad σ D.2.2.2.2.2.2.1.1 (xs (nx ((nI (5 * n)) + 1))) (xs (nx ((nI (5 * n)) + 2))) (xs (nx ((nI (5 * n)) + 3)))
  have hN := m_ReplenishRulesModel_place l G cA am μ D.2.2.2.2.2.2.1.2 (xs (nx ((nI (5 * n)) + 1))) (xs (nx ((nI (5 * n)) + 2))) (xs (nx ((nI (5 * n)) + 3)))
  refine la_V (n := 4) D hH hM (by decide) kL_place qN_L qM_L_90 qT_L_place (by decide +kernel) rfl hl.1 rfl dL_law_147 hf (fun H locs hH => ?_)
  refine lv_istore (lv' := [(5, .int (nI (c_placeK σ (xs (nx ((nI (5 * n)) + 1))) (xs (nx ((nI (5 * n)) + 2))) (xs (nx ((nI (5 * n)) + 3)))))), (0, .ref b), (1, .ref (ad 66)), (2, .ref (am 0)), (3, .ref qo), (4, .int (nI (5 * n)))]) hx hb dL_law_150 hl (by decide) rfl (fun ls hl => ?_)
  refine lv_aload_n hx hb dL_law_152 rfl (lv_at hl 3 rfl) ?_
  refine lv_aload_n hx hb dL_law_153 rfl (lv_at hl 1 rfl) ?_
  refine lv_iload hx hb dL_law_154 (lv_at hl 5 rfl) ?_
  refine lv_iconst (v := 1) hx hb dL_law_156 (by decide) ?_
  refine lv_iadd hx hb dL_law_157 ?_
  refine la_sld D hH (ix_in (k := 1) (by decide) hL5 hL) dL_law_158 ?_
  refine lv_aload_n hx hb dL_law_159 rfl (lv_at hl 1 rfl) ?_
  refine lv_iload hx hb dL_law_160 (lv_at hl 5 rfl) ?_
  refine lv_iconst (v := 2) hx hb dL_law_162 (by decide) ?_
  refine lv_iadd hx hb dL_law_163 ?_
  refine la_sld D hH (ix_in (k := 2) (by decide) hL5 hL) dL_law_164 ?_
  refine lv_aload_n hx hb dL_law_165 rfl (lv_at hl 1 rfl) ?_
  refine lv_iload hx hb dL_law_166 (lv_at hl 5 rfl) ?_
  refine lv_iconst (v := 3) hx hb dL_law_168 (by decide) ?_
  refine lv_iadd hx hb dL_law_169 ?_
  refine la_sld D hH (ix_in (k := 3) (by decide) hL5 hL) dL_law_170 ?_
  refine la_Mv D hH hN (cwV 3 hg (gV qM_L_95 qI_X7_place qS_X7_place qN_X7 kX7_place) rfl rfl rfl (by decide +kernel) ⟨Nat.le_of_ble_eq_true rfl, Nat.le_of_ble_eq_true rfl⟩) rfl hl.1 rfl dL_law_171 hf (fun H locs hH => ?_)
  refine lv_aload_n hx hb dL_law_174 rfl (lv_at hl 3 rfl) ?_
  refine la_Th D hH (cwV 0 hg (gV qM_L_96 qI_X7_thrown qS_X7_thrown qN_X7 kX7_thrown) rfl rfl rfl (by decide +kernel) ⟨Nat.le_of_ble_eq_true rfl, Nat.le_of_ble_eq_true rfl⟩) hl.1 dL_law_175 hf ?_
  refine lv_iload hx hb dL_law_178 (lv_at hl 0 rfl) ?_
  refine lv_icmp_eq (tgt := 185) hx hb dL_law_180 (by decide) (fun c_180 => ?_) (fun c_180 => ?_)
  · -- if_icmpeq taken
    refine lv_goto (tgt := 1214) hx hb dL_law_185 (by decide) ?_
    exact IH _ _ _ H locs ls (rel_up hq.2) hH (lv_sub hl [1, 2, 3, 4, 5] rfl)
  · -- if_icmpeq not taken
    exact absurd hq.1 c_180

set_option maxHeartbeats 4000000 in
set_option maxRecDepth 100000 in
theorem la_face {p : Program} {l : Launch} {e : Env} {s : State} {m : MethodId} {below : List Frame} {meth : Method} {c : Code} {b L : Nat} {xs : Nat → Int32} {G : va_G} {cA : Nat → ClassId} {ad am : Nat → Nat} {qo : Nat} {cJ : ClassId} {σ μ : St} {z : Int64} {H : Heap} {locs : List Loc} {cells slots n : Nat} {Q : State → Prop} (D : LD l p s m meth c b L xs G cA ad am qo cJ) (hR : Rel n σ μ) (hn : n < 512) (hL5 : 5 * n + 5 ≤ L) (hL : L ≤ 2560) (hH : LH s G cA ad am qo cJ σ μ z H locs) (hf : cells + 5 ≤ 601024 ∧ slots + 30 ≤ 7293034)
    (IH : ∀ (σ1 μ1 : St) (z1 : Int64) (H1 : Heap) (locs1 : List Loc) (ls1 : Array Slot), Rel (n + 1) σ1 μ1 → LH s G cA ad am qo cJ σ1 μ1 z1 H1 locs1 → lv_has ls1 8 [(0, .ref b), (1, .ref (ad 66)), (2, .ref (am 0)), (3, .ref qo), (4, .int (nI (5 * n)))] → W p l e room_1 s m #[Value.ref b] below meth c H1 locs1 (cells + 5) (slots + 30) Q (F0 m 1214 ls1 []))
    (ls : Array Slot) (hl : lv_has ls 8 [(0, .ref b), (1, .ref (ad 66)), (2, .ref (am 0)), (3, .ref qo), (4, .int (nI (5 * n)))]) : W p l e room_1 s m #[Value.ref b] below meth c H locs cells slots Q (F0 m 188 ls []) := by
  have hx := D.1.1
  have hb := D.1.2.1
  have hg := (la_fix D).2.2.2.2
  refine lv_aload_n hx hb dL_law_188 rfl (lv_at hl 1 rfl) ?_
  refine lv_aload_n hx hb dL_law_189 rfl (lv_at hl 0 rfl) ?_
  refine lv_iload hx hb dL_law_190 (lv_at hl 4 rfl) ?_
  refine lv_iconst (v := 1) hx hb dL_law_192 (by decide) ?_
  refine lv_iadd hx hb dL_law_193 ?_
  refine la_sld D hH (ix_in (k := 1) (by decide) hL5 hL) dL_law_194 ?_
  refine lv_aload_n hx hb dL_law_195 rfl (lv_at hl 0 rfl) ?_
  refine lv_iload hx hb dL_law_196 (lv_at hl 4 rfl) ?_
  refine lv_iconst (v := 2) hx hb dL_law_198 (by decide) ?_
  refine lv_iadd hx hb dL_law_199 ?_
  refine la_sld D hH (ix_in (k := 2) (by decide) hL5 hL) dL_law_200 ?_
  refine lv_aload_n hx hb dL_law_201 rfl (lv_at hl 0 rfl) ?_
  refine lv_iload hx hb dL_law_202 (lv_at hl 4 rfl) ?_
  refine lv_iconst (v := 3) hx hb dL_law_204 (by decide) ?_
  refine lv_iadd hx hb dL_law_205 ?_
  refine la_sld D hH (ix_in (k := 3) (by decide) hL5 hL) dL_law_206 ?_
  refine lv_aload_n hx hb dL_law_207 rfl (lv_at hl 0 rfl) ?_
  refine lv_iload hx hb dL_law_208 (lv_at hl 4 rfl) ?_
  refine lv_iconst (v := 4) hx hb dL_law_210 (by decide) ?_
  refine lv_iadd hx hb dL_law_211 ?_
  refine la_sld D hH (ix_in (k := 4) (by decide) hL5 hL) dL_law_212 ?_
  have hq := q_face hR (xs (nx ((nI (5 * n)) + 1))) (xs (nx ((nI (5 * n)) + 2))) (xs (nx ((nI (5 * n)) + 3))) (xs (nx ((nI (5 * n)) + 4)))
  have hM := l_face l D.2.1 G cA ad σ D.2.2.2.2.2.2.1.1 (xs (nx ((nI (5 * n)) + 1))) (xs (nx ((nI (5 * n)) + 2))) (xs (nx ((nI (5 * n)) + 3))) (xs (nx ((nI (5 * n)) + 4)))
  have hN := m_ReplenishRulesModel_face l G cA am μ D.2.2.2.2.2.2.1.2 (xs (nx ((nI (5 * n)) + 1))) (xs (nx ((nI (5 * n)) + 2))) (xs (nx ((nI (5 * n)) + 3))) (xs (nx ((nI (5 * n)) + 4)))
  refine la_V (n := 5) D hH hM (by decide) kL_face qN_L qM_L_99 qT_L_face (by decide +kernel) rfl hl.1 rfl dL_law_213 hf (fun H locs hH => ?_)
  refine lv_istore (lv' := [(5, .int (nI (c_faceK σ (xs (nx ((nI (5 * n)) + 1))) (xs (nx ((nI (5 * n)) + 2))) (xs (nx ((nI (5 * n)) + 3))) (xs (nx ((nI (5 * n)) + 4)))))), (0, .ref b), (1, .ref (ad 66)), (2, .ref (am 0)), (3, .ref qo), (4, .int (nI (5 * n)))]) hx hb dL_law_216 hl (by decide) rfl (fun ls hl => ?_)
  refine lv_aload_n hx hb dL_law_218 rfl (lv_at hl 3 rfl) ?_
  refine lv_aload_n hx hb dL_law_219 rfl (lv_at hl 1 rfl) ?_
  refine lv_iload hx hb dL_law_220 (lv_at hl 5 rfl) ?_
  refine lv_iconst (v := 1) hx hb dL_law_222 (by decide) ?_
  refine lv_iadd hx hb dL_law_223 ?_
  refine la_sld D hH (ix_in (k := 1) (by decide) hL5 hL) dL_law_224 ?_
  refine lv_aload_n hx hb dL_law_225 rfl (lv_at hl 1 rfl) ?_
  refine lv_iload hx hb dL_law_226 (lv_at hl 5 rfl) ?_
  refine lv_iconst (v := 2) hx hb dL_law_228 (by decide) ?_
  refine lv_iadd hx hb dL_law_229 ?_
  refine la_sld D hH (ix_in (k := 2) (by decide) hL5 hL) dL_law_230 ?_
  refine lv_aload_n hx hb dL_law_231 rfl (lv_at hl 1 rfl) ?_
  refine lv_iload hx hb dL_law_232 (lv_at hl 5 rfl) ?_
  refine lv_iconst (v := 3) hx hb dL_law_234 (by decide) ?_
  refine lv_iadd hx hb dL_law_235 ?_
  refine la_sld D hH (ix_in (k := 3) (by decide) hL5 hL) dL_law_236 ?_
  refine lv_aload_n hx hb dL_law_237 rfl (lv_at hl 1 rfl) ?_
  refine lv_iload hx hb dL_law_238 (lv_at hl 5 rfl) ?_
  refine lv_iconst (v := 4) hx hb dL_law_240 (by decide) ?_
  refine lv_iadd hx hb dL_law_241 ?_
  refine la_sld D hH (ix_in (k := 4) (by decide) hL5 hL) dL_law_242 ?_
  refine la_Mv D hH hN (cwV 4 hg (gV qM_L_102 qI_X7_face qS_X7_face qN_X7 kX7_face) rfl rfl rfl (by decide +kernel) ⟨Nat.le_of_ble_eq_true rfl, Nat.le_of_ble_eq_true rfl⟩) rfl hl.1 rfl dL_law_243 hf (fun H locs hH => ?_)
  refine lv_aload_n hx hb dL_law_246 rfl (lv_at hl 3 rfl) ?_
  refine la_Th D hH (cwV 0 hg (gV qM_L_96 qI_X7_thrown qS_X7_thrown qN_X7 kX7_thrown) rfl rfl rfl (by decide +kernel) ⟨Nat.le_of_ble_eq_true rfl, Nat.le_of_ble_eq_true rfl⟩) hl.1 dL_law_247 hf ?_
  refine lv_iload hx hb dL_law_250 (lv_at hl 0 rfl) ?_
  refine lv_icmp_eq (tgt := 257) hx hb dL_law_252 (by decide) (fun c_252 => ?_) (fun c_252 => ?_)
  · -- if_icmpeq taken
    refine lv_goto (tgt := 1214) hx hb dL_law_257 (by decide) ?_
    exact IH _ _ _ H locs ls (rel_up hq.2) hH (lv_sub hl [1, 2, 3, 4, 5] rfl)
  · -- if_icmpeq not taken
    exact absurd hq.1 c_252

set_option maxHeartbeats 4000000 in
set_option maxRecDepth 100000 in
theorem la_put {p : Program} {l : Launch} {e : Env} {s : State} {m : MethodId} {below : List Frame} {meth : Method} {c : Code} {b L : Nat} {xs : Nat → Int32} {G : va_G} {cA : Nat → ClassId} {ad am : Nat → Nat} {qo : Nat} {cJ : ClassId} {σ μ : St} {z : Int64} {H : Heap} {locs : List Loc} {cells slots n : Nat} {Q : State → Prop} (D : LD l p s m meth c b L xs G cA ad am qo cJ) (hR : Rel n σ μ) (hn : n < 512) (hL5 : 5 * n + 5 ≤ L) (hL : L ≤ 2560) (hH : LH s G cA ad am qo cJ σ μ z H locs) (hf : cells + 5 ≤ 601024 ∧ slots + 30 ≤ 7293034)
    (IH : ∀ (σ1 μ1 : St) (z1 : Int64) (H1 : Heap) (locs1 : List Loc) (ls1 : Array Slot), Rel (n + 1) σ1 μ1 → LH s G cA ad am qo cJ σ1 μ1 z1 H1 locs1 → lv_has ls1 8 [(0, .ref b), (1, .ref (ad 66)), (2, .ref (am 0)), (3, .ref qo), (4, .int (nI (5 * n)))] → W p l e room_1 s m #[Value.ref b] below meth c H1 locs1 (cells + 5) (slots + 30) Q (F0 m 1214 ls1 []))
    (ls : Array Slot) (hl : lv_has ls 8 [(0, .ref b), (1, .ref (ad 66)), (2, .ref (am 0)), (3, .ref qo), (4, .int (nI (5 * n)))]) : W p l e room_1 s m #[Value.ref b] below meth c H locs cells slots Q (F0 m 260 ls []) := by
  have hx := D.1.1
  have hb := D.1.2.1
  have hg := (la_fix D).2.2.2.2
  refine lv_aload_n hx hb dL_law_260 rfl (lv_at hl 1 rfl) ?_
  refine lv_aload_n hx hb dL_law_261 rfl (lv_at hl 0 rfl) ?_
  refine lv_iload hx hb dL_law_262 (lv_at hl 4 rfl) ?_
  refine lv_iconst (v := 1) hx hb dL_law_264 (by decide) ?_
  refine lv_iadd hx hb dL_law_265 ?_
  refine la_sld D hH (ix_in (k := 1) (by decide) hL5 hL) dL_law_266 ?_
  refine lv_aload_n hx hb dL_law_267 rfl (lv_at hl 0 rfl) ?_
  refine lv_iload hx hb dL_law_268 (lv_at hl 4 rfl) ?_
  refine lv_iconst (v := 2) hx hb dL_law_270 (by decide) ?_
  refine lv_iadd hx hb dL_law_271 ?_
  refine la_sld D hH (ix_in (k := 2) (by decide) hL5 hL) dL_law_272 ?_
  refine lv_aload_n hx hb dL_law_273 rfl (lv_at hl 0 rfl) ?_
  refine lv_iload hx hb dL_law_274 (lv_at hl 4 rfl) ?_
  refine lv_iconst (v := 3) hx hb dL_law_276 (by decide) ?_
  refine lv_iadd hx hb dL_law_277 ?_
  refine la_sld D hH (ix_in (k := 3) (by decide) hL5 hL) dL_law_278 ?_
  have hq := q_put hR (xs (nx ((nI (5 * n)) + 1))) (xs (nx ((nI (5 * n)) + 2))) (xs (nx ((nI (5 * n)) + 3)))
  have hM := l_put l D.2.1 G cA ad σ D.2.2.2.2.2.2.1.1 (xs (nx ((nI (5 * n)) + 1))) (xs (nx ((nI (5 * n)) + 2))) (xs (nx ((nI (5 * n)) + 3)))
  have hN := m_ReplenishRulesModel_put l G cA am μ D.2.2.2.2.2.2.1.2 (xs (nx ((nI (5 * n)) + 1))) (xs (nx ((nI (5 * n)) + 2))) (xs (nx ((nI (5 * n)) + 3)))
  refine la_V (n := 4) D hH hM (by decide) kL_put qN_L qM_L_103 qT_L_put (by decide +kernel) rfl hl.1 rfl dL_law_279 hf (fun H locs hH => ?_)
  refine lv_istore (lv' := [(5, .int (nI (c_putK σ (xs (nx ((nI (5 * n)) + 1))) (xs (nx ((nI (5 * n)) + 2))) (xs (nx ((nI (5 * n)) + 3)))))), (0, .ref b), (1, .ref (ad 66)), (2, .ref (am 0)), (3, .ref qo), (4, .int (nI (5 * n)))]) hx hb dL_law_282 hl (by decide) rfl (fun ls hl => ?_)
  refine lv_aload_n hx hb dL_law_284 rfl (lv_at hl 3 rfl) ?_
  refine lv_aload_n hx hb dL_law_285 rfl (lv_at hl 1 rfl) ?_
  refine lv_iload hx hb dL_law_286 (lv_at hl 5 rfl) ?_
  refine lv_iconst (v := 1) hx hb dL_law_288 (by decide) ?_
  refine lv_iadd hx hb dL_law_289 ?_
  refine la_sld D hH (ix_in (k := 1) (by decide) hL5 hL) dL_law_290 ?_
  refine lv_aload_n hx hb dL_law_291 rfl (lv_at hl 1 rfl) ?_
  refine lv_iload hx hb dL_law_292 (lv_at hl 5 rfl) ?_
  refine lv_iconst (v := 2) hx hb dL_law_294 (by decide) ?_
  refine lv_iadd hx hb dL_law_295 ?_
  refine la_sld D hH (ix_in (k := 2) (by decide) hL5 hL) dL_law_296 ?_
  refine lv_aload_n hx hb dL_law_297 rfl (lv_at hl 1 rfl) ?_
  refine lv_iload hx hb dL_law_298 (lv_at hl 5 rfl) ?_
  refine lv_iconst (v := 3) hx hb dL_law_300 (by decide) ?_
  refine lv_iadd hx hb dL_law_301 ?_
  refine la_sld D hH (ix_in (k := 3) (by decide) hL5 hL) dL_law_302 ?_
  refine la_Mv D hH hN (cwV 3 hg (gV qM_L_105 qI_X7_put qS_X7_put qN_X7 kX7_put) rfl rfl rfl (by decide +kernel) ⟨Nat.le_of_ble_eq_true rfl, Nat.le_of_ble_eq_true rfl⟩) rfl hl.1 rfl dL_law_303 hf (fun H locs hH => ?_)
  refine lv_aload_n hx hb dL_law_306 rfl (lv_at hl 3 rfl) ?_
  refine la_Th D hH (cwV 0 hg (gV qM_L_96 qI_X7_thrown qS_X7_thrown qN_X7 kX7_thrown) rfl rfl rfl (by decide +kernel) ⟨Nat.le_of_ble_eq_true rfl, Nat.le_of_ble_eq_true rfl⟩) hl.1 dL_law_307 hf ?_
  refine lv_iload hx hb dL_law_310 (lv_at hl 0 rfl) ?_
  refine lv_icmp_eq (tgt := 317) hx hb dL_law_312 (by decide) (fun c_312 => ?_) (fun c_312 => ?_)
  · -- if_icmpeq taken
    refine lv_goto (tgt := 1214) hx hb dL_law_317 (by decide) ?_
    exact IH _ _ _ H locs ls (rel_up hq.2) hH (lv_sub hl [1, 2, 3, 4, 5] rfl)
  · -- if_icmpeq not taken
    exact absurd hq.1 c_312

set_option maxHeartbeats 4000000 in
set_option maxRecDepth 100000 in
theorem la_use {p : Program} {l : Launch} {e : Env} {s : State} {m : MethodId} {below : List Frame} {meth : Method} {c : Code} {b L : Nat} {xs : Nat → Int32} {G : va_G} {cA : Nat → ClassId} {ad am : Nat → Nat} {qo : Nat} {cJ : ClassId} {σ μ : St} {z : Int64} {H : Heap} {locs : List Loc} {cells slots n : Nat} {Q : State → Prop} (D : LD l p s m meth c b L xs G cA ad am qo cJ) (hR : Rel n σ μ) (hn : n < 512) (hL5 : 5 * n + 5 ≤ L) (hL : L ≤ 2560) (hH : LH s G cA ad am qo cJ σ μ z H locs) (hf : cells + 5 ≤ 601024 ∧ slots + 30 ≤ 7293034)
    (IH : ∀ (σ1 μ1 : St) (z1 : Int64) (H1 : Heap) (locs1 : List Loc) (ls1 : Array Slot), Rel (n + 1) σ1 μ1 → LH s G cA ad am qo cJ σ1 μ1 z1 H1 locs1 → lv_has ls1 8 [(0, .ref b), (1, .ref (ad 66)), (2, .ref (am 0)), (3, .ref qo), (4, .int (nI (5 * n)))] → W p l e room_1 s m #[Value.ref b] below meth c H1 locs1 (cells + 5) (slots + 30) Q (F0 m 1214 ls1 []))
    (ls : Array Slot) (hl : lv_has ls 8 [(0, .ref b), (1, .ref (ad 66)), (2, .ref (am 0)), (3, .ref qo), (4, .int (nI (5 * n)))]) : W p l e room_1 s m #[Value.ref b] below meth c H locs cells slots Q (F0 m 320 ls []) := by
  have hx := D.1.1
  have hb := D.1.2.1
  have hg := (la_fix D).2.2.2.2
  refine lv_aload_n hx hb dL_law_320 rfl (lv_at hl 1 rfl) ?_
  refine lv_aload_n hx hb dL_law_321 rfl (lv_at hl 0 rfl) ?_
  refine lv_iload hx hb dL_law_322 (lv_at hl 4 rfl) ?_
  refine lv_iconst (v := 1) hx hb dL_law_324 (by decide) ?_
  refine lv_iadd hx hb dL_law_325 ?_
  refine la_sld D hH (ix_in (k := 1) (by decide) hL5 hL) dL_law_326 ?_
  refine lv_aload_n hx hb dL_law_327 rfl (lv_at hl 0 rfl) ?_
  refine lv_iload hx hb dL_law_328 (lv_at hl 4 rfl) ?_
  refine lv_iconst (v := 2) hx hb dL_law_330 (by decide) ?_
  refine lv_iadd hx hb dL_law_331 ?_
  refine la_sld D hH (ix_in (k := 2) (by decide) hL5 hL) dL_law_332 ?_
  have hq := q_use hR (Nat.le_of_lt hn) (xs (nx ((nI (5 * n)) + 1))) (xs (nx ((nI (5 * n)) + 2)))
  have hM := l_use l D.2.1 G cA ad σ D.2.2.2.2.2.2.1.1 (rel_inv hR) (xs (nx ((nI (5 * n)) + 1))) (xs (nx ((nI (5 * n)) + 2)))
  have hN := m_ReplenishRulesModel_use l G cA am μ D.2.2.2.2.2.2.1.2 (rel_minv hR) (xs (nx ((nI (5 * n)) + 1))) (xs (nx ((nI (5 * n)) + 2)))
  refine la_V (n := 3) D hH hM (by decide) kL_use qN_L qM_L_106 qT_L_use (by decide +kernel) rfl hl.1 rfl dL_law_333 hf (fun H locs hH => ?_)
  refine lv_istore (lv' := [(5, .int (nI (c_useK σ (xs (nx ((nI (5 * n)) + 1))) (xs (nx ((nI (5 * n)) + 2)))))), (0, .ref b), (1, .ref (ad 66)), (2, .ref (am 0)), (3, .ref qo), (4, .int (nI (5 * n)))]) hx hb dL_law_336 hl (by decide) rfl (fun ls hl => ?_)
  refine lv_aload_n hx hb dL_law_338 rfl (lv_at hl 3 rfl) ?_
  refine lv_aload_n hx hb dL_law_339 rfl (lv_at hl 1 rfl) ?_
  refine lv_iload hx hb dL_law_340 (lv_at hl 5 rfl) ?_
  refine lv_iconst (v := 1) hx hb dL_law_342 (by decide) ?_
  refine lv_iadd hx hb dL_law_343 ?_
  refine la_sld D hH (ix_in (k := 1) (by decide) hL5 hL) dL_law_344 ?_
  refine lv_aload_n hx hb dL_law_345 rfl (lv_at hl 1 rfl) ?_
  refine lv_iload hx hb dL_law_346 (lv_at hl 5 rfl) ?_
  refine lv_iconst (v := 2) hx hb dL_law_348 (by decide) ?_
  refine lv_iadd hx hb dL_law_349 ?_
  refine la_sld D hH (ix_in (k := 2) (by decide) hL5 hL) dL_law_350 ?_
  refine la_Mv D hH hN (cwV 2 hg (gV qM_L_109 qI_X7_use qS_X7_use qN_X7 kX7_use) rfl rfl rfl (by decide +kernel) ⟨Nat.le_of_ble_eq_true rfl, Nat.le_of_ble_eq_true rfl⟩) rfl hl.1 rfl dL_law_351 hf (fun H locs hH => ?_)
  refine lv_aload_n hx hb dL_law_354 rfl (lv_at hl 3 rfl) ?_
  refine la_Th D hH (cwV 0 hg (gV qM_L_96 qI_X7_thrown qS_X7_thrown qN_X7 kX7_thrown) rfl rfl rfl (by decide +kernel) ⟨Nat.le_of_ble_eq_true rfl, Nat.le_of_ble_eq_true rfl⟩) hl.1 dL_law_355 hf ?_
  refine lv_iload hx hb dL_law_358 (lv_at hl 0 rfl) ?_
  refine lv_icmp_eq (tgt := 365) hx hb dL_law_360 (by decide) (fun c_360 => ?_) (fun c_360 => ?_)
  · -- if_icmpeq taken
    refine lv_goto (tgt := 1214) hx hb dL_law_365 (by decide) ?_
    exact IH _ _ _ H locs ls hq.2 hH (lv_sub hl [1, 2, 3, 4, 5] rfl)
  · -- if_icmpeq not taken
    exact absurd hq.1 c_360

set_option maxHeartbeats 4000000 in
set_option maxRecDepth 100000 in
theorem la_hold {p : Program} {l : Launch} {e : Env} {s : State} {m : MethodId} {below : List Frame} {meth : Method} {c : Code} {b L : Nat} {xs : Nat → Int32} {G : va_G} {cA : Nat → ClassId} {ad am : Nat → Nat} {qo : Nat} {cJ : ClassId} {σ μ : St} {z : Int64} {H : Heap} {locs : List Loc} {cells slots n : Nat} {Q : State → Prop} (D : LD l p s m meth c b L xs G cA ad am qo cJ) (hR : Rel n σ μ) (hn : n < 512) (hL5 : 5 * n + 5 ≤ L) (hL : L ≤ 2560) (hH : LH s G cA ad am qo cJ σ μ z H locs) (hf : cells + 5 ≤ 601024 ∧ slots + 30 ≤ 7293034)
    (IH : ∀ (σ1 μ1 : St) (z1 : Int64) (H1 : Heap) (locs1 : List Loc) (ls1 : Array Slot), Rel (n + 1) σ1 μ1 → LH s G cA ad am qo cJ σ1 μ1 z1 H1 locs1 → lv_has ls1 8 [(0, .ref b), (1, .ref (ad 66)), (2, .ref (am 0)), (3, .ref qo), (4, .int (nI (5 * n)))] → W p l e room_1 s m #[Value.ref b] below meth c H1 locs1 (cells + 5) (slots + 30) Q (F0 m 1214 ls1 []))
    (ls : Array Slot) (hl : lv_has ls 8 [(0, .ref b), (1, .ref (ad 66)), (2, .ref (am 0)), (3, .ref qo), (4, .int (nI (5 * n)))]) : W p l e room_1 s m #[Value.ref b] below meth c H locs cells slots Q (F0 m 368 ls []) := by
  have hx := D.1.1
  have hb := D.1.2.1
  have hg := (la_fix D).2.2.2.2
  refine lv_aload_n hx hb dL_law_368 rfl (lv_at hl 1 rfl) ?_
  refine lv_aload_n hx hb dL_law_369 rfl (lv_at hl 0 rfl) ?_
  refine lv_iload hx hb dL_law_370 (lv_at hl 4 rfl) ?_
  refine lv_iconst (v := 1) hx hb dL_law_372 (by decide) ?_
  refine lv_iadd hx hb dL_law_373 ?_
  refine la_sld D hH (ix_in (k := 1) (by decide) hL5 hL) dL_law_374 ?_
  refine lv_aload_n hx hb dL_law_375 rfl (lv_at hl 0 rfl) ?_
  refine lv_iload hx hb dL_law_376 (lv_at hl 4 rfl) ?_
  refine lv_iconst (v := 2) hx hb dL_law_378 (by decide) ?_
  refine lv_iadd hx hb dL_law_379 ?_
  refine la_sld D hH (ix_in (k := 2) (by decide) hL5 hL) dL_law_380 ?_
  have hq := q_hold hR (xs (nx ((nI (5 * n)) + 1))) (xs (nx ((nI (5 * n)) + 2)))
  have hM := l_hold l D.2.1 G cA ad σ D.2.2.2.2.2.2.1.1 (xs (nx ((nI (5 * n)) + 1))) (xs (nx ((nI (5 * n)) + 2)))
  have hN := m_ReplenishRulesModel_hold l G cA am μ D.2.2.2.2.2.2.1.2 (xs (nx ((nI (5 * n)) + 1))) (xs (nx ((nI (5 * n)) + 2)))
  refine la_V (n := 3) D hH hM (by decide) kL_hold qN_L qM_L_110 qT_L_hold (by decide +kernel) rfl hl.1 rfl dL_law_381 hf (fun H locs hH => ?_)
  refine lv_istore (lv' := [(5, .int (nI (c_holdK σ (xs (nx ((nI (5 * n)) + 1))) (xs (nx ((nI (5 * n)) + 2)))))), (0, .ref b), (1, .ref (ad 66)), (2, .ref (am 0)), (3, .ref qo), (4, .int (nI (5 * n)))]) hx hb dL_law_384 hl (by decide) rfl (fun ls hl => ?_)
  refine lv_aload_n hx hb dL_law_386 rfl (lv_at hl 3 rfl) ?_
  refine lv_aload_n hx hb dL_law_387 rfl (lv_at hl 1 rfl) ?_
  refine lv_iload hx hb dL_law_388 (lv_at hl 5 rfl) ?_
  refine lv_iconst (v := 1) hx hb dL_law_390 (by decide) ?_
  refine lv_iadd hx hb dL_law_391 ?_
  refine la_sld D hH (ix_in (k := 1) (by decide) hL5 hL) dL_law_392 ?_
  refine lv_aload_n hx hb dL_law_393 rfl (lv_at hl 1 rfl) ?_
  refine lv_iload hx hb dL_law_394 (lv_at hl 5 rfl) ?_
  refine lv_iconst (v := 2) hx hb dL_law_396 (by decide) ?_
  refine lv_iadd hx hb dL_law_397 ?_
  refine la_sld D hH (ix_in (k := 2) (by decide) hL5 hL) dL_law_398 ?_
  refine la_Mv D hH hN (cwV 2 hg (gV qM_L_112 qI_X7_hold qS_X7_hold qN_X7 kX7_hold) rfl rfl rfl (by decide +kernel) ⟨Nat.le_of_ble_eq_true rfl, Nat.le_of_ble_eq_true rfl⟩) rfl hl.1 rfl dL_law_399 hf (fun H locs hH => ?_)
  refine lv_aload_n hx hb dL_law_402 rfl (lv_at hl 3 rfl) ?_
  refine la_Th D hH (cwV 0 hg (gV qM_L_96 qI_X7_thrown qS_X7_thrown qN_X7 kX7_thrown) rfl rfl rfl (by decide +kernel) ⟨Nat.le_of_ble_eq_true rfl, Nat.le_of_ble_eq_true rfl⟩) hl.1 dL_law_403 hf ?_
  refine lv_iload hx hb dL_law_406 (lv_at hl 0 rfl) ?_
  refine lv_icmp_eq (tgt := 413) hx hb dL_law_408 (by decide) (fun c_408 => ?_) (fun c_408 => ?_)
  · -- if_icmpeq taken
    refine lv_goto (tgt := 1214) hx hb dL_law_413 (by decide) ?_
    exact IH _ _ _ H locs ls (rel_up hq.2) hH (lv_sub hl [1, 2, 3, 4, 5] rfl)
  · -- if_icmpeq not taken
    exact absurd hq.1 c_408

set_option maxHeartbeats 4000000 in
set_option maxRecDepth 100000 in
theorem la_cases {p : Program} {l : Launch} {e : Env} {s : State} {m : MethodId} {below : List Frame} {meth : Method} {c : Code} {b L : Nat} {xs : Nat → Int32} {G : va_G} {cA : Nat → ClassId} {ad am : Nat → Nat} {qo : Nat} {cJ : ClassId} {σ μ : St} {z : Int64} {H : Heap} {locs : List Loc} {cells slots n : Nat} {Q : State → Prop} (D : LD l p s m meth c b L xs G cA ad am qo cJ) (hR : Rel n σ μ) (hn : n < 512) (hL5 : 5 * n + 5 ≤ L) (hL : L ≤ 2560) (hH : LH s G cA ad am qo cJ σ μ z H locs) (hf : cells + 5 ≤ 601024 ∧ slots + 30 ≤ 7293034)
    (IH : ∀ (σ1 μ1 : St) (z1 : Int64) (H1 : Heap) (locs1 : List Loc) (ls1 : Array Slot), Rel (n + 1) σ1 μ1 → LH s G cA ad am qo cJ σ1 μ1 z1 H1 locs1 → lv_has ls1 8 [(0, .ref b), (1, .ref (ad 66)), (2, .ref (am 0)), (3, .ref qo), (4, .int (nI (5 * n)))] → W p l e room_1 s m #[Value.ref b] below meth c H1 locs1 (cells + 5) (slots + 30) Q (F0 m 1214 ls1 []))
    (ls : Array Slot) (hl : lv_has ls 8 [(0, .ref b), (1, .ref (ad 66)), (2, .ref (am 0)), (3, .ref qo), (4, .int (nI (5 * n)))]) : W p l e room_1 s m #[Value.ref b] below meth c H locs cells slots Q (F0 m 416 ls []) := by
  have hx := D.1.1
  have hb := D.1.2.1
  have hg := (la_fix D).2.2.2.2
  refine lv_aload_n hx hb dL_law_416 rfl (lv_at hl 1 rfl) ?_
  refine lv_aload_n hx hb dL_law_417 rfl (lv_at hl 0 rfl) ?_
  refine lv_iload hx hb dL_law_418 (lv_at hl 4 rfl) ?_
  refine lv_iconst (v := 1) hx hb dL_law_420 (by decide) ?_
  refine lv_iadd hx hb dL_law_421 ?_
  refine la_sld D hH (ix_in (k := 1) (by decide) hL5 hL) dL_law_422 ?_
  refine lv_aload_n hx hb dL_law_423 rfl (lv_at hl 0 rfl) ?_
  refine lv_iload hx hb dL_law_424 (lv_at hl 4 rfl) ?_
  refine lv_iconst (v := 2) hx hb dL_law_426 (by decide) ?_
  refine lv_iadd hx hb dL_law_427 ?_
  refine la_sld D hH (ix_in (k := 2) (by decide) hL5 hL) dL_law_428 ?_
  have hq := q_cases hR (xs (nx ((nI (5 * n)) + 1))) (xs (nx ((nI (5 * n)) + 2)))
  have hM := l_cases l D.2.1 G cA ad σ D.2.2.2.2.2.2.1.1 (xs (nx ((nI (5 * n)) + 1))) (xs (nx ((nI (5 * n)) + 2)))
  have hN := m_ReplenishRulesModel_cases l G cA am μ D.2.2.2.2.2.2.1.2 (xs (nx ((nI (5 * n)) + 1))) (xs (nx ((nI (5 * n)) + 2)))
  refine la_V (n := 3) D hH hM (by decide) kL_cases qN_L qM_L_113 qT_L_cases (by decide +kernel) rfl hl.1 rfl dL_law_429 hf (fun H locs hH => ?_)
  refine lv_istore (lv' := [(5, .int (nI (c_casesK (xs (nx ((nI (5 * n)) + 1))) (xs (nx ((nI (5 * n)) + 2)))))), (0, .ref b), (1, .ref (ad 66)), (2, .ref (am 0)), (3, .ref qo), (4, .int (nI (5 * n)))]) hx hb dL_law_432 hl (by decide) rfl (fun ls hl => ?_)
  refine lv_aload_n hx hb dL_law_434 rfl (lv_at hl 3 rfl) ?_
  refine lv_aload_n hx hb dL_law_435 rfl (lv_at hl 1 rfl) ?_
  refine lv_iload hx hb dL_law_436 (lv_at hl 5 rfl) ?_
  refine lv_iconst (v := 1) hx hb dL_law_438 (by decide) ?_
  refine lv_iadd hx hb dL_law_439 ?_
  refine la_sld D hH (ix_in (k := 1) (by decide) hL5 hL) dL_law_440 ?_
  refine lv_aload_n hx hb dL_law_441 rfl (lv_at hl 1 rfl) ?_
  refine lv_iload hx hb dL_law_442 (lv_at hl 5 rfl) ?_
  refine lv_iconst (v := 2) hx hb dL_law_444 (by decide) ?_
  refine lv_iadd hx hb dL_law_445 ?_
  refine la_sld D hH (ix_in (k := 2) (by decide) hL5 hL) dL_law_446 ?_
  refine la_Mv D hH hN (cwV 2 hg (gV qM_L_115 qI_X7_cases qS_X7_cases qN_X7 kX7_cases) rfl rfl rfl (by decide +kernel) ⟨Nat.le_of_ble_eq_true rfl, Nat.le_of_ble_eq_true rfl⟩) rfl hl.1 rfl dL_law_447 hf (fun H locs hH => ?_)
  refine lv_aload_n hx hb dL_law_450 rfl (lv_at hl 3 rfl) ?_
  refine la_Th D hH (cwV 0 hg (gV qM_L_96 qI_X7_thrown qS_X7_thrown qN_X7 kX7_thrown) rfl rfl rfl (by decide +kernel) ⟨Nat.le_of_ble_eq_true rfl, Nat.le_of_ble_eq_true rfl⟩) hl.1 dL_law_451 hf ?_
  refine lv_iload hx hb dL_law_454 (lv_at hl 0 rfl) ?_
  refine lv_icmp_eq (tgt := 461) hx hb dL_law_456 (by decide) (fun c_456 => ?_) (fun c_456 => ?_)
  · -- if_icmpeq taken
    refine lv_goto (tgt := 1214) hx hb dL_law_461 (by decide) ?_
    exact IH _ _ _ H locs ls (rel_up hq.2) hH (lv_sub hl [1, 2, 3, 4, 5] rfl)
  · -- if_icmpeq not taken
    exact absurd hq.1 c_456

set_option maxHeartbeats 4000000 in
set_option maxRecDepth 100000 in
theorem la_rule {p : Program} {l : Launch} {e : Env} {s : State} {m : MethodId} {below : List Frame} {meth : Method} {c : Code} {b L : Nat} {xs : Nat → Int32} {G : va_G} {cA : Nat → ClassId} {ad am : Nat → Nat} {qo : Nat} {cJ : ClassId} {σ μ : St} {z : Int64} {H : Heap} {locs : List Loc} {cells slots n : Nat} {Q : State → Prop} (D : LD l p s m meth c b L xs G cA ad am qo cJ) (hR : Rel n σ μ) (hn : n < 512) (hL5 : 5 * n + 5 ≤ L) (hL : L ≤ 2560) (hH : LH s G cA ad am qo cJ σ μ z H locs) (hf : cells + 5 ≤ 601024 ∧ slots + 30 ≤ 7293034)
    (IH : ∀ (σ1 μ1 : St) (z1 : Int64) (H1 : Heap) (locs1 : List Loc) (ls1 : Array Slot), Rel (n + 1) σ1 μ1 → LH s G cA ad am qo cJ σ1 μ1 z1 H1 locs1 → lv_has ls1 8 [(0, .ref b), (1, .ref (ad 66)), (2, .ref (am 0)), (3, .ref qo), (4, .int (nI (5 * n)))] → W p l e room_1 s m #[Value.ref b] below meth c H1 locs1 (cells + 5) (slots + 30) Q (F0 m 1214 ls1 []))
    (ls : Array Slot) (hl : lv_has ls 8 [(0, .ref b), (1, .ref (ad 66)), (2, .ref (am 0)), (3, .ref qo), (4, .int (nI (5 * n)))]) : W p l e room_1 s m #[Value.ref b] below meth c H locs cells slots Q (F0 m 464 ls []) := by
  have hx := D.1.1
  have hb := D.1.2.1
  have hg := (la_fix D).2.2.2.2
  refine lv_aload_n hx hb dL_law_464 rfl (lv_at hl 1 rfl) ?_
  refine lv_aload_n hx hb dL_law_465 rfl (lv_at hl 0 rfl) ?_
  refine lv_iload hx hb dL_law_466 (lv_at hl 4 rfl) ?_
  refine lv_iconst (v := 1) hx hb dL_law_468 (by decide) ?_
  refine lv_iadd hx hb dL_law_469 ?_
  refine la_sld D hH (ix_in (k := 1) (by decide) hL5 hL) dL_law_470 ?_
  refine lv_aload_n hx hb dL_law_471 rfl (lv_at hl 0 rfl) ?_
  refine lv_iload hx hb dL_law_472 (lv_at hl 4 rfl) ?_
  refine lv_iconst (v := 2) hx hb dL_law_474 (by decide) ?_
  refine lv_iadd hx hb dL_law_475 ?_
  refine la_sld D hH (ix_in (k := 2) (by decide) hL5 hL) dL_law_476 ?_
  refine lv_aload_n hx hb dL_law_477 rfl (lv_at hl 0 rfl) ?_
  refine lv_iload hx hb dL_law_478 (lv_at hl 4 rfl) ?_
  refine lv_iconst (v := 3) hx hb dL_law_480 (by decide) ?_
  refine lv_iadd hx hb dL_law_481 ?_
  refine la_sld D hH (ix_in (k := 3) (by decide) hL5 hL) dL_law_482 ?_
  refine lv_aload_n hx hb dL_law_483 rfl (lv_at hl 0 rfl) ?_
  refine lv_iload hx hb dL_law_484 (lv_at hl 4 rfl) ?_
  refine lv_iconst (v := 4) hx hb dL_law_486 (by decide) ?_
  refine lv_iadd hx hb dL_law_487 ?_
  refine la_sld D hH (ix_in (k := 4) (by decide) hL5 hL) dL_law_488 ?_
  have hq := q_rule hR (xs (nx ((nI (5 * n)) + 1))) (xs (nx ((nI (5 * n)) + 2))) (xs (nx ((nI (5 * n)) + 3))) (xs (nx ((nI (5 * n)) + 4)))
  have hM := l_rule l D.2.1 G cA ad σ D.2.2.2.2.2.2.1.1 (xs (nx ((nI (5 * n)) + 1))) (xs (nx ((nI (5 * n)) + 2))) (xs (nx ((nI (5 * n)) + 3))) (xs (nx ((nI (5 * n)) + 4)))
  have hN := m_ReplenishRulesModel_rule l G cA am μ D.2.2.2.2.2.2.1.2 (xs (nx ((nI (5 * n)) + 1))) (xs (nx ((nI (5 * n)) + 2))) (xs (nx ((nI (5 * n)) + 3))) (xs (nx ((nI (5 * n)) + 4)))
  refine la_V (n := 5) D hH hM (by decide) kL_rule qN_L qM_L_116 qT_L_rule (by decide +kernel) rfl hl.1 rfl dL_law_489 hf (fun H locs hH => ?_)
  refine lv_istore (lv' := [(5, .int (nI (c_ruleK (xs (nx ((nI (5 * n)) + 1))) (xs (nx ((nI (5 * n)) + 2))) (xs (nx ((nI (5 * n)) + 3))) (xs (nx ((nI (5 * n)) + 4)))))), (0, .ref b), (1, .ref (ad 66)), (2, .ref (am 0)), (3, .ref qo), (4, .int (nI (5 * n)))]) hx hb dL_law_492 hl (by decide) rfl (fun ls hl => ?_)
  refine lv_aload_n hx hb dL_law_494 rfl (lv_at hl 3 rfl) ?_
  refine lv_aload_n hx hb dL_law_495 rfl (lv_at hl 1 rfl) ?_
  refine lv_iload hx hb dL_law_496 (lv_at hl 5 rfl) ?_
  refine lv_iconst (v := 1) hx hb dL_law_498 (by decide) ?_
  refine lv_iadd hx hb dL_law_499 ?_
  refine la_sld D hH (ix_in (k := 1) (by decide) hL5 hL) dL_law_500 ?_
  refine lv_aload_n hx hb dL_law_501 rfl (lv_at hl 1 rfl) ?_
  refine lv_iload hx hb dL_law_502 (lv_at hl 5 rfl) ?_
  refine lv_iconst (v := 2) hx hb dL_law_504 (by decide) ?_
  refine lv_iadd hx hb dL_law_505 ?_
  refine la_sld D hH (ix_in (k := 2) (by decide) hL5 hL) dL_law_506 ?_
  refine lv_aload_n hx hb dL_law_507 rfl (lv_at hl 1 rfl) ?_
  refine lv_iload hx hb dL_law_508 (lv_at hl 5 rfl) ?_
  refine lv_iconst (v := 3) hx hb dL_law_510 (by decide) ?_
  refine lv_iadd hx hb dL_law_511 ?_
  refine la_sld D hH (ix_in (k := 3) (by decide) hL5 hL) dL_law_512 ?_
  refine lv_aload_n hx hb dL_law_513 rfl (lv_at hl 1 rfl) ?_
  refine lv_iload hx hb dL_law_514 (lv_at hl 5 rfl) ?_
  refine lv_iconst (v := 4) hx hb dL_law_516 (by decide) ?_
  refine lv_iadd hx hb dL_law_517 ?_
  refine la_sld D hH (ix_in (k := 4) (by decide) hL5 hL) dL_law_518 ?_
  refine la_Mv D hH hN (cwV 4 hg (gV qM_L_118 qI_X7_rule qS_X7_rule qN_X7 kX7_rule) rfl rfl rfl (by decide +kernel) ⟨Nat.le_of_ble_eq_true rfl, Nat.le_of_ble_eq_true rfl⟩) rfl hl.1 rfl dL_law_519 hf (fun H locs hH => ?_)
  refine lv_aload_n hx hb dL_law_522 rfl (lv_at hl 3 rfl) ?_
  refine la_Th D hH (cwV 0 hg (gV qM_L_96 qI_X7_thrown qS_X7_thrown qN_X7 kX7_thrown) rfl rfl rfl (by decide +kernel) ⟨Nat.le_of_ble_eq_true rfl, Nat.le_of_ble_eq_true rfl⟩) hl.1 dL_law_523 hf ?_
  refine lv_iload hx hb dL_law_526 (lv_at hl 0 rfl) ?_
  refine lv_icmp_eq (tgt := 533) hx hb dL_law_528 (by decide) (fun c_528 => ?_) (fun c_528 => ?_)
  · -- if_icmpeq taken
    refine lv_goto (tgt := 1214) hx hb dL_law_533 (by decide) ?_
    exact IH _ _ _ H locs ls (rel_up hq.2) hH (lv_sub hl [1, 2, 3, 4, 5] rfl)
  · -- if_icmpeq not taken
    exact absurd hq.1 c_528

set_option maxHeartbeats 4000000 in
set_option maxRecDepth 100000 in
theorem la_factor {p : Program} {l : Launch} {e : Env} {s : State} {m : MethodId} {below : List Frame} {meth : Method} {c : Code} {b L : Nat} {xs : Nat → Int32} {G : va_G} {cA : Nat → ClassId} {ad am : Nat → Nat} {qo : Nat} {cJ : ClassId} {σ μ : St} {z : Int64} {H : Heap} {locs : List Loc} {cells slots n : Nat} {Q : State → Prop} (D : LD l p s m meth c b L xs G cA ad am qo cJ) (hR : Rel n σ μ) (hn : n < 512) (hL5 : 5 * n + 5 ≤ L) (hL : L ≤ 2560) (hH : LH s G cA ad am qo cJ σ μ z H locs) (hf : cells + 5 ≤ 601024 ∧ slots + 30 ≤ 7293034)
    (IH : ∀ (σ1 μ1 : St) (z1 : Int64) (H1 : Heap) (locs1 : List Loc) (ls1 : Array Slot), Rel (n + 1) σ1 μ1 → LH s G cA ad am qo cJ σ1 μ1 z1 H1 locs1 → lv_has ls1 8 [(0, .ref b), (1, .ref (ad 66)), (2, .ref (am 0)), (3, .ref qo), (4, .int (nI (5 * n)))] → W p l e room_1 s m #[Value.ref b] below meth c H1 locs1 (cells + 5) (slots + 30) Q (F0 m 1214 ls1 []))
    (ls : Array Slot) (hl : lv_has ls 8 [(0, .ref b), (1, .ref (ad 66)), (2, .ref (am 0)), (3, .ref qo), (4, .int (nI (5 * n)))]) : W p l e room_1 s m #[Value.ref b] below meth c H locs cells slots Q (F0 m 536 ls []) := by
  have hx := D.1.1
  have hb := D.1.2.1
  have hg := (la_fix D).2.2.2.2
  refine lv_aload_n hx hb dL_law_536 rfl (lv_at hl 1 rfl) ?_
  refine lv_aload_n hx hb dL_law_537 rfl (lv_at hl 0 rfl) ?_
  refine lv_iload hx hb dL_law_538 (lv_at hl 4 rfl) ?_
  refine lv_iconst (v := 1) hx hb dL_law_540 (by decide) ?_
  refine lv_iadd hx hb dL_law_541 ?_
  refine la_sld D hH (ix_in (k := 1) (by decide) hL5 hL) dL_law_542 ?_
  refine lv_aload_n hx hb dL_law_543 rfl (lv_at hl 0 rfl) ?_
  refine lv_iload hx hb dL_law_544 (lv_at hl 4 rfl) ?_
  refine lv_iconst (v := 2) hx hb dL_law_546 (by decide) ?_
  refine lv_iadd hx hb dL_law_547 ?_
  refine la_sld D hH (ix_in (k := 2) (by decide) hL5 hL) dL_law_548 ?_
  refine lv_aload_n hx hb dL_law_549 rfl (lv_at hl 0 rfl) ?_
  refine lv_iload hx hb dL_law_550 (lv_at hl 4 rfl) ?_
  refine lv_iconst (v := 3) hx hb dL_law_552 (by decide) ?_
  refine lv_iadd hx hb dL_law_553 ?_
  refine la_sld D hH (ix_in (k := 3) (by decide) hL5 hL) dL_law_554 ?_
  have hq := q_factor hR (xs (nx ((nI (5 * n)) + 1))) (xs (nx ((nI (5 * n)) + 2))) (xs (nx ((nI (5 * n)) + 3)))
  have hM := l_factor l D.2.1 G cA ad σ D.2.2.2.2.2.2.1.1 (xs (nx ((nI (5 * n)) + 1))) (xs (nx ((nI (5 * n)) + 2))) (xs (nx ((nI (5 * n)) + 3)))
  have hN := m_ReplenishRulesModel_factor l G cA am μ D.2.2.2.2.2.2.1.2 (xs (nx ((nI (5 * n)) + 1))) (xs (nx ((nI (5 * n)) + 2))) (xs (nx ((nI (5 * n)) + 3)))
  refine la_V (n := 4) D hH hM (by decide) kL_factor qN_L qM_L_119 qT_L_factor (by decide +kernel) rfl hl.1 rfl dL_law_555 hf (fun H locs hH => ?_)
  refine lv_istore (lv' := [(5, .int (nI (c_factorK (xs (nx ((nI (5 * n)) + 1))) (xs (nx ((nI (5 * n)) + 2))) (xs (nx ((nI (5 * n)) + 3)))))), (0, .ref b), (1, .ref (ad 66)), (2, .ref (am 0)), (3, .ref qo), (4, .int (nI (5 * n)))]) hx hb dL_law_558 hl (by decide) rfl (fun ls hl => ?_)
  refine lv_aload_n hx hb dL_law_560 rfl (lv_at hl 3 rfl) ?_
  refine lv_aload_n hx hb dL_law_561 rfl (lv_at hl 1 rfl) ?_
  refine lv_iload hx hb dL_law_562 (lv_at hl 5 rfl) ?_
  refine lv_iconst (v := 1) hx hb dL_law_564 (by decide) ?_
  refine lv_iadd hx hb dL_law_565 ?_
  refine la_sld D hH (ix_in (k := 1) (by decide) hL5 hL) dL_law_566 ?_
  refine lv_aload_n hx hb dL_law_567 rfl (lv_at hl 1 rfl) ?_
  refine lv_iload hx hb dL_law_568 (lv_at hl 5 rfl) ?_
  refine lv_iconst (v := 2) hx hb dL_law_570 (by decide) ?_
  refine lv_iadd hx hb dL_law_571 ?_
  refine la_sld D hH (ix_in (k := 2) (by decide) hL5 hL) dL_law_572 ?_
  refine lv_aload_n hx hb dL_law_573 rfl (lv_at hl 1 rfl) ?_
  refine lv_iload hx hb dL_law_574 (lv_at hl 5 rfl) ?_
  refine lv_iconst (v := 3) hx hb dL_law_576 (by decide) ?_
  refine lv_iadd hx hb dL_law_577 ?_
  refine la_sld D hH (ix_in (k := 3) (by decide) hL5 hL) dL_law_578 ?_
  refine la_Mv D hH hN (cwV 3 hg (gV qM_L_121 qI_X7_factor qS_X7_factor qN_X7 kX7_factor) rfl rfl rfl (by decide +kernel) ⟨Nat.le_of_ble_eq_true rfl, Nat.le_of_ble_eq_true rfl⟩) rfl hl.1 rfl dL_law_579 hf (fun H locs hH => ?_)
  refine lv_aload_n hx hb dL_law_582 rfl (lv_at hl 3 rfl) ?_
  refine la_Th D hH (cwV 0 hg (gV qM_L_96 qI_X7_thrown qS_X7_thrown qN_X7 kX7_thrown) rfl rfl rfl (by decide +kernel) ⟨Nat.le_of_ble_eq_true rfl, Nat.le_of_ble_eq_true rfl⟩) hl.1 dL_law_583 hf ?_
  refine lv_iload hx hb dL_law_586 (lv_at hl 0 rfl) ?_
  refine lv_icmp_eq (tgt := 593) hx hb dL_law_588 (by decide) (fun c_588 => ?_) (fun c_588 => ?_)
  · -- if_icmpeq taken
    refine lv_goto (tgt := 1214) hx hb dL_law_593 (by decide) ?_
    exact IH _ _ _ H locs ls (rel_up hq.2) hH (lv_sub hl [1, 2, 3, 4, 5] rfl)
  · -- if_icmpeq not taken
    exact absurd hq.1 c_588

set_option maxHeartbeats 4000000 in
set_option maxRecDepth 100000 in
theorem la_wave {p : Program} {l : Launch} {e : Env} {s : State} {m : MethodId} {below : List Frame} {meth : Method} {c : Code} {b L : Nat} {xs : Nat → Int32} {G : va_G} {cA : Nat → ClassId} {ad am : Nat → Nat} {qo : Nat} {cJ : ClassId} {σ μ : St} {z : Int64} {H : Heap} {locs : List Loc} {cells slots n : Nat} {Q : State → Prop} (D : LD l p s m meth c b L xs G cA ad am qo cJ) (hR : Rel n σ μ) (hn : n < 512) (hL5 : 5 * n + 5 ≤ L) (hL : L ≤ 2560) (hH : LH s G cA ad am qo cJ σ μ z H locs) (hf : cells + 5 ≤ 601024 ∧ slots + 30 ≤ 7293034)
    (IH : ∀ (σ1 μ1 : St) (z1 : Int64) (H1 : Heap) (locs1 : List Loc) (ls1 : Array Slot), Rel (n + 1) σ1 μ1 → LH s G cA ad am qo cJ σ1 μ1 z1 H1 locs1 → lv_has ls1 8 [(0, .ref b), (1, .ref (ad 66)), (2, .ref (am 0)), (3, .ref qo), (4, .int (nI (5 * n)))] → W p l e room_1 s m #[Value.ref b] below meth c H1 locs1 (cells + 5) (slots + 30) Q (F0 m 1214 ls1 []))
    (ls : Array Slot) (hl : lv_has ls 8 [(0, .ref b), (1, .ref (ad 66)), (2, .ref (am 0)), (3, .ref qo), (4, .int (nI (5 * n)))]) : W p l e room_1 s m #[Value.ref b] below meth c H locs cells slots Q (F0 m 596 ls []) := by
  have hx := D.1.1
  have hb := D.1.2.1
  have hg := (la_fix D).2.2.2.2
  refine lv_aload_n hx hb dL_law_596 rfl (lv_at hl 1 rfl) ?_
  refine lv_aload_n hx hb dL_law_597 rfl (lv_at hl 0 rfl) ?_
  refine lv_iload hx hb dL_law_598 (lv_at hl 4 rfl) ?_
  refine lv_iconst (v := 1) hx hb dL_law_600 (by decide) ?_
  refine lv_iadd hx hb dL_law_601 ?_
  refine la_sld D hH (ix_in (k := 1) (by decide) hL5 hL) dL_law_602 ?_
  refine lv_aload_n hx hb dL_law_603 rfl (lv_at hl 0 rfl) ?_
  refine lv_iload hx hb dL_law_604 (lv_at hl 4 rfl) ?_
  refine lv_iconst (v := 2) hx hb dL_law_606 (by decide) ?_
  refine lv_iadd hx hb dL_law_607 ?_
  refine la_sld D hH (ix_in (k := 2) (by decide) hL5 hL) dL_law_608 ?_
  refine lv_aload_n hx hb dL_law_609 rfl (lv_at hl 0 rfl) ?_
  refine lv_iload hx hb dL_law_610 (lv_at hl 4 rfl) ?_
  refine lv_iconst (v := 3) hx hb dL_law_612 (by decide) ?_
  refine lv_iadd hx hb dL_law_613 ?_
  refine la_sld D hH (ix_in (k := 3) (by decide) hL5 hL) dL_law_614 ?_
  have hq := q_wave hR (xs (nx ((nI (5 * n)) + 1))) (xs (nx ((nI (5 * n)) + 2))) (xs (nx ((nI (5 * n)) + 3)))
  have hM := l_wave l D.2.1 G cA ad σ D.2.2.2.2.2.2.1.1 (rel_inv hR) (xs (nx ((nI (5 * n)) + 1))) (xs (nx ((nI (5 * n)) + 2))) (xs (nx ((nI (5 * n)) + 3)))
  have hN := m_ReplenishRulesModel_wave l G cA am μ D.2.2.2.2.2.2.1.2 (rel_minv hR) (xs (nx ((nI (5 * n)) + 1))) (xs (nx ((nI (5 * n)) + 2))) (xs (nx ((nI (5 * n)) + 3)))
  refine la_V (n := 4) D hH hM (by decide) kL_wave qN_L qM_L_122 qT_L_wave (by decide +kernel) rfl hl.1 rfl dL_law_615 hf (fun H locs hH => ?_)
  refine lv_istore (lv' := [(5, .int (nI (c_waveK σ (xs (nx ((nI (5 * n)) + 1))) (xs (nx ((nI (5 * n)) + 2))) (xs (nx ((nI (5 * n)) + 3)))))), (0, .ref b), (1, .ref (ad 66)), (2, .ref (am 0)), (3, .ref qo), (4, .int (nI (5 * n)))]) hx hb dL_law_618 hl (by decide) rfl (fun ls hl => ?_)
  refine lv_aload_n hx hb dL_law_620 rfl (lv_at hl 3 rfl) ?_
  refine lv_aload_n hx hb dL_law_621 rfl (lv_at hl 1 rfl) ?_
  refine lv_iload hx hb dL_law_622 (lv_at hl 5 rfl) ?_
  refine lv_iconst (v := 1) hx hb dL_law_624 (by decide) ?_
  refine lv_iadd hx hb dL_law_625 ?_
  refine la_sld D hH (ix_in (k := 1) (by decide) hL5 hL) dL_law_626 ?_
  refine lv_aload_n hx hb dL_law_627 rfl (lv_at hl 1 rfl) ?_
  refine lv_iload hx hb dL_law_628 (lv_at hl 5 rfl) ?_
  refine lv_iconst (v := 2) hx hb dL_law_630 (by decide) ?_
  refine lv_iadd hx hb dL_law_631 ?_
  refine la_sld D hH (ix_in (k := 2) (by decide) hL5 hL) dL_law_632 ?_
  refine lv_aload_n hx hb dL_law_633 rfl (lv_at hl 1 rfl) ?_
  refine lv_iload hx hb dL_law_634 (lv_at hl 5 rfl) ?_
  refine lv_iconst (v := 3) hx hb dL_law_636 (by decide) ?_
  refine lv_iadd hx hb dL_law_637 ?_
  refine la_sld D hH (ix_in (k := 3) (by decide) hL5 hL) dL_law_638 ?_
  refine la_Mv D hH hN (cwV 3 hg (gV qM_L_124 qI_X7_wave qS_X7_wave qN_X7 kX7_wave) rfl rfl rfl (by decide +kernel) ⟨Nat.le_of_ble_eq_true rfl, Nat.le_of_ble_eq_true rfl⟩) rfl hl.1 rfl dL_law_639 hf (fun H locs hH => ?_)
  refine lv_aload_n hx hb dL_law_642 rfl (lv_at hl 3 rfl) ?_
  refine la_Th D hH (cwV 0 hg (gV qM_L_96 qI_X7_thrown qS_X7_thrown qN_X7 kX7_thrown) rfl rfl rfl (by decide +kernel) ⟨Nat.le_of_ble_eq_true rfl, Nat.le_of_ble_eq_true rfl⟩) hl.1 dL_law_643 hf ?_
  refine lv_iload hx hb dL_law_646 (lv_at hl 0 rfl) ?_
  refine lv_icmp_eq (tgt := 653) hx hb dL_law_648 (by decide) (fun c_648 => ?_) (fun c_648 => ?_)
  · -- if_icmpeq taken
    refine lv_goto (tgt := 1214) hx hb dL_law_653 (by decide) ?_
    exact IH _ _ _ H locs ls (rel_up hq.2) hH (lv_sub hl [1, 2, 3, 4, 5] rfl)
  · -- if_icmpeq not taken
    exact absurd hq.1 c_648

set_option maxHeartbeats 4000000 in
set_option maxRecDepth 100000 in
theorem la_open {p : Program} {l : Launch} {e : Env} {s : State} {m : MethodId} {below : List Frame} {meth : Method} {c : Code} {b L : Nat} {xs : Nat → Int32} {G : va_G} {cA : Nat → ClassId} {ad am : Nat → Nat} {qo : Nat} {cJ : ClassId} {σ μ : St} {z : Int64} {H : Heap} {locs : List Loc} {cells slots n : Nat} {Q : State → Prop} (D : LD l p s m meth c b L xs G cA ad am qo cJ) (hR : Rel n σ μ) (hn : n < 512) (hL5 : 5 * n + 5 ≤ L) (hL : L ≤ 2560) (hH : LH s G cA ad am qo cJ σ μ z H locs) (hf : cells + 5 ≤ 601024 ∧ slots + 30 ≤ 7293034)
    (IH : ∀ (σ1 μ1 : St) (z1 : Int64) (H1 : Heap) (locs1 : List Loc) (ls1 : Array Slot), Rel (n + 1) σ1 μ1 → LH s G cA ad am qo cJ σ1 μ1 z1 H1 locs1 → lv_has ls1 8 [(0, .ref b), (1, .ref (ad 66)), (2, .ref (am 0)), (3, .ref qo), (4, .int (nI (5 * n)))] → W p l e room_1 s m #[Value.ref b] below meth c H1 locs1 (cells + 5) (slots + 30) Q (F0 m 1214 ls1 []))
    (ls : Array Slot) (hl : lv_has ls 8 [(0, .ref b), (1, .ref (ad 66)), (2, .ref (am 0)), (3, .ref qo), (4, .int (nI (5 * n)))]) : W p l e room_1 s m #[Value.ref b] below meth c H locs cells slots Q (F0 m 656 ls []) := by
  have hx := D.1.1
  have hb := D.1.2.1
  have hg := (la_fix D).2.2.2.2
  refine lv_aload_n hx hb dL_law_656 rfl (lv_at hl 1 rfl) ?_
  refine lv_aload_n hx hb dL_law_657 rfl (lv_at hl 0 rfl) ?_
  refine lv_iload hx hb dL_law_658 (lv_at hl 4 rfl) ?_
  refine lv_iconst (v := 1) hx hb dL_law_660 (by decide) ?_
  refine lv_iadd hx hb dL_law_661 ?_
  refine la_sld D hH (ix_in (k := 1) (by decide) hL5 hL) dL_law_662 ?_
  refine lv_aload_n hx hb dL_law_663 rfl (lv_at hl 0 rfl) ?_
  refine lv_iload hx hb dL_law_664 (lv_at hl 4 rfl) ?_
  refine lv_iconst (v := 2) hx hb dL_law_666 (by decide) ?_
  refine lv_iadd hx hb dL_law_667 ?_
  refine la_sld D hH (ix_in (k := 2) (by decide) hL5 hL) dL_law_668 ?_
  refine lv_if_eq (tgt := 676) hx hb dL_law_669 (by decide) (fun c_669 => ?_) (fun c_669 => ?_)
  · -- ifeq taken
    refine lv_iconst (v := 0) hx hb dL_law_676 (by decide) ?_
    have hq := q_open hR (xs (nx ((nI (5 * n)) + 1))) 0
    have hM := l_open l D.2.1 G cA ad σ D.2.2.2.2.2.2.1.1 (xs (nx ((nI (5 * n)) + 1))) 0
    have hN := m_ReplenishRulesModel_open l G cA am μ D.2.2.2.2.2.2.1.2 (xs (nx ((nI (5 * n)) + 1))) 0
    refine la_V (n := 3) D hH hM (by decide) kL_open qN_L qM_L_125 qT_L_open (by decide +kernel) rfl hl.1 rfl dL_law_677 hf (fun H locs hH => ?_)
    refine lv_istore (lv' := [(5, .int (nI (c_openK σ (xs (nx ((nI (5 * n)) + 1)))))), (0, .ref b), (1, .ref (ad 66)), (2, .ref (am 0)), (3, .ref qo), (4, .int (nI (5 * n)))]) hx hb dL_law_680 hl (by decide) rfl (fun ls hl => ?_)
    refine lv_aload_n hx hb dL_law_682 rfl (lv_at hl 3 rfl) ?_
    refine lv_aload_n hx hb dL_law_683 rfl (lv_at hl 1 rfl) ?_
    refine lv_iload hx hb dL_law_684 (lv_at hl 5 rfl) ?_
    refine lv_iconst (v := 1) hx hb dL_law_686 (by decide) ?_
    refine lv_iadd hx hb dL_law_687 ?_
    refine la_sld D hH (ix_in (k := 1) (by decide) hL5 hL) dL_law_688 ?_
    refine lv_aload_n hx hb dL_law_689 rfl (lv_at hl 1 rfl) ?_
    refine lv_iload hx hb dL_law_690 (lv_at hl 5 rfl) ?_
    refine lv_iconst (v := 2) hx hb dL_law_692 (by decide) ?_
    refine lv_iadd hx hb dL_law_693 ?_
    refine la_sld D hH (ix_in (k := 2) (by decide) hL5 hL) dL_law_694 ?_
    refine lv_if_eq (tgt := 702) hx hb dL_law_695 (by decide) (fun c_695 => ?_) (fun c_695 => ?_)
    · -- ifeq taken
      refine lv_iconst (v := 0) hx hb dL_law_702 (by decide) ?_
      refine la_Mv D hH hN (cwV 2 hg (gV qM_L_128 qI_X7_open qS_X7_open qN_X7 kX7_open) rfl rfl rfl (by decide +kernel) ⟨Nat.le_of_ble_eq_true rfl, Nat.le_of_ble_eq_true rfl⟩) rfl hl.1 rfl dL_law_703 hf (fun H locs hH => ?_)
      refine lv_aload_n hx hb dL_law_706 rfl (lv_at hl 3 rfl) ?_
      refine la_Th D hH (cwV 0 hg (gV qM_L_96 qI_X7_thrown qS_X7_thrown qN_X7 kX7_thrown) rfl rfl rfl (by decide +kernel) ⟨Nat.le_of_ble_eq_true rfl, Nat.le_of_ble_eq_true rfl⟩) hl.1 dL_law_707 hf ?_
      refine lv_iload hx hb dL_law_710 (lv_at hl 0 rfl) ?_
      refine lv_icmp_eq (tgt := 717) hx hb dL_law_712 (by decide) (fun c_712 => ?_) (fun c_712 => ?_)
      · -- if_icmpeq taken
        refine lv_goto (tgt := 1214) hx hb dL_law_717 (by decide) ?_
        exact IH _ _ _ H locs ls (rel_up hq.2) hH (lv_sub hl [1, 2, 3, 4, 5] rfl)
      · -- if_icmpeq not taken
        exact absurd hq.1 c_712
    · -- ifeq not taken
      exact absurd c_669 c_695
  · -- ifeq not taken
    refine lv_iconst (v := 1) hx hb dL_law_672 (by decide) ?_
    refine lv_goto (tgt := 677) hx hb dL_law_673 (by decide) ?_
    have hq := q_open hR (xs (nx ((nI (5 * n)) + 1))) 1
    have hM := l_open l D.2.1 G cA ad σ D.2.2.2.2.2.2.1.1 (xs (nx ((nI (5 * n)) + 1))) 1
    have hN := m_ReplenishRulesModel_open l G cA am μ D.2.2.2.2.2.2.1.2 (xs (nx ((nI (5 * n)) + 1))) 1
    refine la_V (n := 3) D hH hM (by decide) kL_open qN_L qM_L_125 qT_L_open (by decide +kernel) rfl hl.1 rfl dL_law_677 hf (fun H locs hH => ?_)
    refine lv_istore (lv' := [(5, .int (nI (c_openK σ (xs (nx ((nI (5 * n)) + 1)))))), (0, .ref b), (1, .ref (ad 66)), (2, .ref (am 0)), (3, .ref qo), (4, .int (nI (5 * n)))]) hx hb dL_law_680 hl (by decide) rfl (fun ls hl => ?_)
    refine lv_aload_n hx hb dL_law_682 rfl (lv_at hl 3 rfl) ?_
    refine lv_aload_n hx hb dL_law_683 rfl (lv_at hl 1 rfl) ?_
    refine lv_iload hx hb dL_law_684 (lv_at hl 5 rfl) ?_
    refine lv_iconst (v := 1) hx hb dL_law_686 (by decide) ?_
    refine lv_iadd hx hb dL_law_687 ?_
    refine la_sld D hH (ix_in (k := 1) (by decide) hL5 hL) dL_law_688 ?_
    refine lv_aload_n hx hb dL_law_689 rfl (lv_at hl 1 rfl) ?_
    refine lv_iload hx hb dL_law_690 (lv_at hl 5 rfl) ?_
    refine lv_iconst (v := 2) hx hb dL_law_692 (by decide) ?_
    refine lv_iadd hx hb dL_law_693 ?_
    refine la_sld D hH (ix_in (k := 2) (by decide) hL5 hL) dL_law_694 ?_
    refine lv_if_eq (tgt := 702) hx hb dL_law_695 (by decide) (fun c_695 => ?_) (fun c_695 => ?_)
    · -- ifeq taken
      exact absurd c_695 c_669
    · -- ifeq not taken
      refine lv_iconst (v := 1) hx hb dL_law_698 (by decide) ?_
      refine lv_goto (tgt := 703) hx hb dL_law_699 (by decide) ?_
      refine la_Mv D hH hN (cwV 2 hg (gV qM_L_128 qI_X7_open qS_X7_open qN_X7 kX7_open) rfl rfl rfl (by decide +kernel) ⟨Nat.le_of_ble_eq_true rfl, Nat.le_of_ble_eq_true rfl⟩) rfl hl.1 rfl dL_law_703 hf (fun H locs hH => ?_)
      refine lv_aload_n hx hb dL_law_706 rfl (lv_at hl 3 rfl) ?_
      refine la_Th D hH (cwV 0 hg (gV qM_L_96 qI_X7_thrown qS_X7_thrown qN_X7 kX7_thrown) rfl rfl rfl (by decide +kernel) ⟨Nat.le_of_ble_eq_true rfl, Nat.le_of_ble_eq_true rfl⟩) hl.1 dL_law_707 hf ?_
      refine lv_iload hx hb dL_law_710 (lv_at hl 0 rfl) ?_
      refine lv_icmp_eq (tgt := 717) hx hb dL_law_712 (by decide) (fun c_712 => ?_) (fun c_712 => ?_)
      · -- if_icmpeq taken
        refine lv_goto (tgt := 1214) hx hb dL_law_717 (by decide) ?_
        exact IH _ _ _ H locs ls (rel_up hq.2) hH (lv_sub hl [1, 2, 3, 4, 5] rfl)
      · -- if_icmpeq not taken
        exact absurd hq.1 c_712

set_option maxHeartbeats 4000000 in
set_option maxRecDepth 100000 in
theorem lw_set {p : Program} {l : Launch} {e : Env} {s : State} {m : MethodId} {args : Array Value} {below : List Frame} {meth : Method} {c : Code} {H : Heap} {locs : List Loc} {cells slots : Nat} {Q : State → Prop} {ls : Array Slot} {D : va_G} {Λ : gs_L} {F A : gm_M} {L : lm_M} {cI cB cJ cW : ClassId} {K : Nat → Nat} {b Ln i : Nat} {xs : Nat → Int32} (C : lw_C p l s m c args b Ln xs Λ D cI cB cJ cW K) {Inv : gm_M → gm_M → lm_M → Prop} (hc : lc_set K Inv) (hI : Inv F A L) (hP : va_P D gcls (gs_ws Λ F A L) H) (hS : va_S (gw_A Λ) s.heap H locs) (hi : i + 6 ≤ Ln) (hl : lv_has ls 8 [(0, .ref b), (1, .ref (K 0)), (2, .ref (K 49)), (3, .ref (K 63)), (4, .int (nI i))]) (hf : cells + 1 ≤ 601024 ∧ slots + 6 ≤ 7293034) (kk : ∀ (F A : gm_M) (L : lm_M) (H : Heap) (locs : List Loc) (ls : Array Slot), Inv F A L → va_P D gcls (gs_ws Λ F A L) H → va_S (gw_A Λ) s.heap H locs → lv_has ls 8 [(0, .ref b), (1, .ref (K 0)), (2, .ref (K 49)), (3, .ref (K 63)), (4, .int (nI i))] → W p l e room_1 s m args below meth c H locs (cells + 1) (slots + 6) Q (F0 m 1345 ls [])) : W p l e room_1 s m args below meth c H locs cells slots Q (F0 m 120 ls []) := by
  obtain ⟨hx, hb, hml, hown, htw, hK, hlo, hΛ, hΜ, hO, hN, hn2, hn3, hX, hbl, hbA, hfl, hLn⟩ := C
  refine lv_aload_n hx hb d_L_law_120 rfl (lv_at hl 1 rfl) ?_
  refine lw_arg hx hb hX hbl hbA hS (lv_at hl 0 rfl) (lv_at hl 4 rfl) 1 (by omega) hLn d_L_law_121 d_L_law_122 d_L_law_124 (by decide) d_L_law_125 d_L_law_126 ?_
  refine lw_arg hx hb hX hbl hbA hS (lv_at hl 0 rfl) (lv_at hl 4 rfl) 2 (by omega) hLn d_L_law_127 d_L_law_128 d_L_law_130 (by decide) d_L_law_131 d_L_law_132 ?_
  refine lv_i2l (v := (xs (i + 2)).toInt64) hx hb d_L_law_133 rfl ?_
  refine lv_bipush (v := (32 : Int32)) hx hb d_L_law_134 (by decide) ?_
  refine lv_lshl (v := j_lshl ((xs (i + 2)).toInt64) 32) hx hb d_L_law_136 rfl ?_
  refine lw_arg hx hb hX hbl hbA hS (lv_at hl 0 rfl) (lv_at hl 4 rfl) 3 (by omega) hLn d_L_law_137 d_L_law_138 d_L_law_140 (by decide) d_L_law_141 d_L_law_142 ?_
  refine lv_i2l (v := (xs (i + 3)).toInt64) hx hb d_L_law_143 rfl ?_
  refine lv_ldc2 (v := 4294967295) hx hb hown (htw _ lq_75) d_L_law_144 ?_
  refine lv_land hx hb d_L_law_147 ?_
  refine lv_lor hx hb d_L_law_148 ?_
  refine lv_aload_n hx hb d_L_law_149 rfl (lv_at hl 3 rfl) ?_
  refine gl_goi (gl_runS (n := 4) (As := [.ref (K 0), .int (xs (i + 1)), .long ((j_lshl ((xs (i + 2)).toInt64) 32) ||| (((xs (i + 3)).toInt64) &&& 4294967295)), .ref (K 63)]) (rest := []) hx hb hml hown htw gl_blind (gl_pre hP hK hS hN hn2 hn3) hl.1 (w_L_set hfl hlo K (xs (i + 1)) ((j_lshl ((xs (i + 2)).toInt64) 32) ||| (((xs (i + 3)).toInt64) &&& 4294967295)) hΛ hO L F A _ (hc (xs (i + 1)) ((j_lshl ((xs (i + 2)).toInt64) 32) ||| (((xs (i + 3)).toInt64) &&& 4294967295)) F A L hI)) lq_w_set lq_s_set lq_ini (by decide +kernel) lq_l_set ⟨Nat.le_of_ble_eq_true rfl, Nat.le_of_ble_eq_true rfl⟩ rfl rfl hf rfl rfl (Nat.le_of_ble_eq_true rfl) d_L_law_150) hS (fun k_5 F_1 A_1 L_1 H locs hw hP hS => ?_)
  refine lv_istore (lv' := [(5, .int k_5), (0, .ref b), (1, .ref (K 0)), (2, .ref (K 49)), (3, .ref (K 63)), (4, .int (nI i))]) hx hb d_L_law_153 hl (by decide) rfl (fun ls hl => ?_)
  refine lv_aload_n hx hb d_L_law_155 rfl (lv_at hl 3 rfl) ?_
  refine lw_arg hx hb hX hbl hbA hS (lv_at hl 1 rfl) (lv_at hl 5 rfl) 1 (by omega) hLn d_L_law_156 d_L_law_157 d_L_law_159 (by decide) d_L_law_160 d_L_law_161 ?_
  refine lw_arg hx hb hX hbl hbA hS (lv_at hl 1 rfl) (lv_at hl 5 rfl) 2 (by omega) hLn d_L_law_162 d_L_law_163 d_L_law_165 (by decide) d_L_law_166 d_L_law_167 ?_
  refine lv_i2l (v := (xs (i + 2)).toInt64) hx hb d_L_law_168 rfl ?_
  refine lv_bipush (v := (32 : Int32)) hx hb d_L_law_169 (by decide) ?_
  refine lv_lshl (v := j_lshl ((xs (i + 2)).toInt64) 32) hx hb d_L_law_171 rfl ?_
  refine lw_arg hx hb hX hbl hbA hS (lv_at hl 1 rfl) (lv_at hl 5 rfl) 3 (by omega) hLn d_L_law_172 d_L_law_173 d_L_law_175 (by decide) d_L_law_176 d_L_law_177 ?_
  refine lv_i2l (v := (xs (i + 3)).toInt64) hx hb d_L_law_178 rfl ?_
  refine lv_ldc2 (v := 4294967295) hx hb hown (htw _ lq_75) d_L_law_179 ?_
  refine lv_land hx hb d_L_law_182 ?_
  refine lv_lor hx hb d_L_law_183 ?_
  refine gq_goi (gq_runV (As := [.int (xs (i + 1)), .long ((j_lshl ((xs (i + 2)).toInt64) 32) ||| (((xs (i + 3)).toInt64) &&& 4294967295))]) (rest := []) hx hb hml hown htw hK hP hl.1 (w_M_set hlo K (xs (i + 1)) ((j_lshl ((xs (i + 2)).toInt64) 32) ||| (((xs (i + 3)).toInt64) &&& 4294967295)) hΜ F_1 A_1 _ hw) k_M_set lq_m_set ⟨Nat.le_of_ble_eq_true rfl, Nat.le_of_ble_eq_true rfl⟩ rfl rfl hf (gMd_0 hΜ) rfl rfl rfl (Nat.le_of_ble_eq_true rfl) d_L_law_184) hS (fun r_6 F_2 A_2 H locs hw hP hS => ?_)
  refine lv_istore (lv' := [(6, .int r_6), (5, .int k_5), (0, .ref b), (1, .ref (K 0)), (2, .ref (K 49)), (3, .ref (K 63)), (4, .int (nI i))]) hx hb d_L_law_187 hl (by decide) rfl (fun ls hl => ?_)
  refine lv_aload_n hx hb d_L_law_189 rfl (lv_at hl 4 rfl) ?_
  refine gq_goi (gq_runV (As := []) (rest := []) hx hb hml hown htw hK hP hl.1 (w_M_thrown hlo K hΜ F_2 A_2 (fun r => r = F_2 (K 49) 0) rfl) k_M_thrown lq_m83 ⟨Nat.le_of_ble_eq_true rfl, Nat.le_of_ble_eq_true rfl⟩ rfl rfl hf (gMd_0 hΜ) rfl rfl rfl (Nat.le_of_ble_eq_true rfl) d_L_law_190) hS (fun r_7 F_3 A_3 H locs hw3 hP hS => ?_)
  obtain ⟨rfl, rfl, rfl⟩ := hw3
  have fin : W p l e room_1 s m args below meth c H locs (cells + 1) (slots + 6) Q (F0 m 217 ls []) := by
    refine lv_goto (tgt := 1345) hx hb d_L_law_217 (by decide) ?_
    exact kk _ _ _ _ _ _ hw.2.2 hP hS (lv_sub hl [2, 3, 4, 5, 6] rfl)
  refine lv_iload hx hb d_L_law_193 (lv_at hl 1 rfl) ?_
  refine lv_icmp_eq (tgt := 200) hx hb d_L_law_195 (by decide) (fun _ => ?_) (fun h => absurd hw.1 h)
  refine lv_iload hx hb d_L_law_200 (lv_at hl 1 rfl) ?_
  refine lv_if_ne (tgt := 217) hx hb d_L_law_202 (by decide) (fun _ => fin) (fun hk => ?_)
  refine lv_aload_n hx hb d_L_law_205 rfl (lv_at hl 5 rfl) ?_
  refine lv_iconst (v := nI 0) hx hb d_L_law_206 (by decide) ?_
  refine gs_lld hx hb hK hP hO (vp_in_nI (by decide) (by decide)) d_L_law_207 ?_
  refine lv_iload hx hb d_L_law_208 (lv_at hl 0 rfl) ?_
  refine lv_i2l (v := r_6.toInt64) hx hb d_L_law_210 rfl ?_
  exact gl_eq (tgt := 217) hx hb d_L_law_211 d_L_law_212 (by decide) (fun _ => fin) (fun h => absurd (hw.2.1 hk) h)
set_option maxHeartbeats 4000000 in
set_option maxRecDepth 100000 in
theorem lw_line {p : Program} {l : Launch} {e : Env} {s : State} {m : MethodId} {args : Array Value} {below : List Frame} {meth : Method} {c : Code} {H : Heap} {locs : List Loc} {cells slots : Nat} {Q : State → Prop} {ls : Array Slot} {D : va_G} {Λ : gs_L} {F A : gm_M} {L : lm_M} {cI cB cJ cW : ClassId} {K : Nat → Nat} {b Ln i : Nat} {xs : Nat → Int32} (C : lw_C p l s m c args b Ln xs Λ D cI cB cJ cW K) {Inv : gm_M → gm_M → lm_M → Prop} (hc : lc_line K Inv) (hI : Inv F A L) (hP : va_P D gcls (gs_ws Λ F A L) H) (hS : va_S (gw_A Λ) s.heap H locs) (hi : i + 6 ≤ Ln) (hl : lv_has ls 8 [(0, .ref b), (1, .ref (K 0)), (2, .ref (K 49)), (3, .ref (K 63)), (4, .int (nI i))]) (hf : cells + 1 ≤ 601024 ∧ slots + 6 ≤ 7293034) (kk : ∀ (F A : gm_M) (L : lm_M) (H : Heap) (locs : List Loc) (ls : Array Slot), Inv F A L → va_P D gcls (gs_ws Λ F A L) H → va_S (gw_A Λ) s.heap H locs → lv_has ls 8 [(0, .ref b), (1, .ref (K 0)), (2, .ref (K 49)), (3, .ref (K 63)), (4, .int (nI i))] → W p l e room_1 s m args below meth c H locs (cells + 1) (slots + 6) Q (F0 m 1345 ls [])) : W p l e room_1 s m args below meth c H locs cells slots Q (F0 m 220 ls []) := by
  obtain ⟨hx, hb, hml, hown, htw, hK, hlo, hΛ, hΜ, hO, hN, hn2, hn3, hX, hbl, hbA, hfl, hLn⟩ := C
  refine lv_aload_n hx hb d_L_law_220 rfl (lv_at hl 1 rfl) ?_
  refine lw_arg hx hb hX hbl hbA hS (lv_at hl 0 rfl) (lv_at hl 4 rfl) 1 (by omega) hLn d_L_law_221 d_L_law_222 d_L_law_224 (by decide) d_L_law_225 d_L_law_226 ?_
  refine lv_i2l (v := (xs (i + 1)).toInt64) hx hb d_L_law_227 rfl ?_
  refine lv_bipush (v := (32 : Int32)) hx hb d_L_law_228 (by decide) ?_
  refine lv_lshl (v := j_lshl ((xs (i + 1)).toInt64) 32) hx hb d_L_law_230 rfl ?_
  refine lw_arg hx hb hX hbl hbA hS (lv_at hl 0 rfl) (lv_at hl 4 rfl) 2 (by omega) hLn d_L_law_231 d_L_law_232 d_L_law_234 (by decide) d_L_law_235 d_L_law_236 ?_
  refine lv_i2l (v := (xs (i + 2)).toInt64) hx hb d_L_law_237 rfl ?_
  refine lv_ldc2 (v := 4294967295) hx hb hown (htw _ lq_75) d_L_law_238 ?_
  refine lv_land hx hb d_L_law_241 ?_
  refine lv_lor hx hb d_L_law_242 ?_
  refine lv_aload_n hx hb d_L_law_243 rfl (lv_at hl 3 rfl) ?_
  refine gl_goi (gl_runS (n := 3) (As := [.ref (K 0), .long ((j_lshl ((xs (i + 1)).toInt64) 32) ||| (((xs (i + 2)).toInt64) &&& 4294967295)), .ref (K 63)]) (rest := []) hx hb hml hown htw gl_blind (gl_pre hP hK hS hN hn2 hn3) hl.1 (w_L_line hfl hlo K ((j_lshl ((xs (i + 1)).toInt64) 32) ||| (((xs (i + 2)).toInt64) &&& 4294967295)) hΛ hO L F A _ (hc ((j_lshl ((xs (i + 1)).toInt64) 32) ||| (((xs (i + 2)).toInt64) &&& 4294967295)) F A L hI)) lq_w_line lq_s_line lq_ini (by decide +kernel) lq_l_line ⟨Nat.le_of_ble_eq_true rfl, Nat.le_of_ble_eq_true rfl⟩ rfl rfl hf rfl rfl (Nat.le_of_ble_eq_true rfl) d_L_law_244) hS (fun k_5 F_1 A_1 L_1 H locs hw hP hS => ?_)
  refine lv_istore (lv' := [(5, .int k_5), (0, .ref b), (1, .ref (K 0)), (2, .ref (K 49)), (3, .ref (K 63)), (4, .int (nI i))]) hx hb d_L_law_247 hl (by decide) rfl (fun ls hl => ?_)
  refine lv_aload_n hx hb d_L_law_249 rfl (lv_at hl 3 rfl) ?_
  refine lw_arg hx hb hX hbl hbA hS (lv_at hl 1 rfl) (lv_at hl 5 rfl) 1 (by omega) hLn d_L_law_250 d_L_law_251 d_L_law_253 (by decide) d_L_law_254 d_L_law_255 ?_
  refine lv_i2l (v := (xs (i + 1)).toInt64) hx hb d_L_law_256 rfl ?_
  refine lv_bipush (v := (32 : Int32)) hx hb d_L_law_257 (by decide) ?_
  refine lv_lshl (v := j_lshl ((xs (i + 1)).toInt64) 32) hx hb d_L_law_259 rfl ?_
  refine lw_arg hx hb hX hbl hbA hS (lv_at hl 1 rfl) (lv_at hl 5 rfl) 2 (by omega) hLn d_L_law_260 d_L_law_261 d_L_law_263 (by decide) d_L_law_264 d_L_law_265 ?_
  refine lv_i2l (v := (xs (i + 2)).toInt64) hx hb d_L_law_266 rfl ?_
  refine lv_ldc2 (v := 4294967295) hx hb hown (htw _ lq_75) d_L_law_267 ?_
  refine lv_land hx hb d_L_law_270 ?_
  refine lv_lor hx hb d_L_law_271 ?_
  refine gq_goi (gq_runV (As := [.long ((j_lshl ((xs (i + 1)).toInt64) 32) ||| (((xs (i + 2)).toInt64) &&& 4294967295))]) (rest := []) hx hb hml hown htw hK hP hl.1 (w_M_line hlo K ((j_lshl ((xs (i + 1)).toInt64) 32) ||| (((xs (i + 2)).toInt64) &&& 4294967295)) hΜ F_1 A_1 _ hw) k_M_line lq_m_line ⟨Nat.le_of_ble_eq_true rfl, Nat.le_of_ble_eq_true rfl⟩ rfl rfl hf (gMd_0 hΜ) rfl rfl rfl (Nat.le_of_ble_eq_true rfl) d_L_law_272) hS (fun r_6 F_2 A_2 H locs hw hP hS => ?_)
  refine lv_istore (lv' := [(6, .int r_6), (5, .int k_5), (0, .ref b), (1, .ref (K 0)), (2, .ref (K 49)), (3, .ref (K 63)), (4, .int (nI i))]) hx hb d_L_law_275 hl (by decide) rfl (fun ls hl => ?_)
  refine lv_aload_n hx hb d_L_law_277 rfl (lv_at hl 4 rfl) ?_
  refine gq_goi (gq_runV (As := []) (rest := []) hx hb hml hown htw hK hP hl.1 (w_M_thrown hlo K hΜ F_2 A_2 (fun r => r = F_2 (K 49) 0) rfl) k_M_thrown lq_m83 ⟨Nat.le_of_ble_eq_true rfl, Nat.le_of_ble_eq_true rfl⟩ rfl rfl hf (gMd_0 hΜ) rfl rfl rfl (Nat.le_of_ble_eq_true rfl) d_L_law_278) hS (fun r_7 F_3 A_3 H locs hw3 hP hS => ?_)
  obtain ⟨rfl, rfl, rfl⟩ := hw3
  have fin : W p l e room_1 s m args below meth c H locs (cells + 1) (slots + 6) Q (F0 m 305 ls []) := by
    refine lv_goto (tgt := 1345) hx hb d_L_law_305 (by decide) ?_
    exact kk _ _ _ _ _ _ hw.2.2 hP hS (lv_sub hl [2, 3, 4, 5, 6] rfl)
  refine lv_iload hx hb d_L_law_281 (lv_at hl 1 rfl) ?_
  refine lv_icmp_eq (tgt := 288) hx hb d_L_law_283 (by decide) (fun _ => ?_) (fun h => absurd hw.1 h)
  refine lv_iload hx hb d_L_law_288 (lv_at hl 1 rfl) ?_
  refine lv_if_ne (tgt := 305) hx hb d_L_law_290 (by decide) (fun _ => fin) (fun hk => ?_)
  refine lv_aload_n hx hb d_L_law_293 rfl (lv_at hl 5 rfl) ?_
  refine lv_iconst (v := nI 0) hx hb d_L_law_294 (by decide) ?_
  refine gs_lld hx hb hK hP hO (vp_in_nI (by decide) (by decide)) d_L_law_295 ?_
  refine lv_iload hx hb d_L_law_296 (lv_at hl 0 rfl) ?_
  refine lv_i2l (v := r_6.toInt64) hx hb d_L_law_298 rfl ?_
  exact gl_eq (tgt := 305) hx hb d_L_law_299 d_L_law_300 (by decide) (fun _ => fin) (fun h => absurd (hw.2.1 hk) h)
set_option maxHeartbeats 4000000 in
set_option maxRecDepth 100000 in
theorem lw_read {p : Program} {l : Launch} {e : Env} {s : State} {m : MethodId} {args : Array Value} {below : List Frame} {meth : Method} {c : Code} {H : Heap} {locs : List Loc} {cells slots : Nat} {Q : State → Prop} {ls : Array Slot} {D : va_G} {Λ : gs_L} {F A : gm_M} {L : lm_M} {cI cB cJ cW : ClassId} {K : Nat → Nat} {b Ln i : Nat} {xs : Nat → Int32} (C : lw_C p l s m c args b Ln xs Λ D cI cB cJ cW K) {Inv : gm_M → gm_M → lm_M → Prop} (hc : lc_read K Inv) (hI : Inv F A L) (hP : va_P D gcls (gs_ws Λ F A L) H) (hS : va_S (gw_A Λ) s.heap H locs) (hi : i + 6 ≤ Ln) (hl : lv_has ls 8 [(0, .ref b), (1, .ref (K 0)), (2, .ref (K 49)), (3, .ref (K 63)), (4, .int (nI i))]) (hf : cells + 1 ≤ 601024 ∧ slots + 6 ≤ 7293034) (kk : ∀ (F A : gm_M) (L : lm_M) (H : Heap) (locs : List Loc) (ls : Array Slot), Inv F A L → va_P D gcls (gs_ws Λ F A L) H → va_S (gw_A Λ) s.heap H locs → lv_has ls 8 [(0, .ref b), (1, .ref (K 0)), (2, .ref (K 49)), (3, .ref (K 63)), (4, .int (nI i))] → W p l e room_1 s m args below meth c H locs (cells + 1) (slots + 6) Q (F0 m 1345 ls [])) : W p l e room_1 s m args below meth c H locs cells slots Q (F0 m 308 ls []) := by
  obtain ⟨hx, hb, hml, hown, htw, hK, hlo, hΛ, hΜ, hO, hN, hn2, hn3, hX, hbl, hbA, hfl, hLn⟩ := C
  refine lv_aload_n hx hb d_L_law_308 rfl (lv_at hl 1 rfl) ?_
  refine lw_arg hx hb hX hbl hbA hS (lv_at hl 0 rfl) (lv_at hl 4 rfl) 1 (by omega) hLn d_L_law_309 d_L_law_310 d_L_law_312 (by decide) d_L_law_313 d_L_law_314 ?_
  refine lw_arg hx hb hX hbl hbA hS (lv_at hl 0 rfl) (lv_at hl 4 rfl) 2 (by omega) hLn d_L_law_315 d_L_law_316 d_L_law_318 (by decide) d_L_law_319 d_L_law_320 ?_
  refine lv_aload_n hx hb d_L_law_321 rfl (lv_at hl 3 rfl) ?_
  refine gl_goi (gl_runS (n := 4) (As := [.ref (K 0), .int (xs (i + 1)), .int (xs (i + 2)), .ref (K 63)]) (rest := []) hx hb hml hown htw gl_blind (gl_pre hP hK hS hN hn2 hn3) hl.1 (w_L_read hfl hlo K (xs (i + 1)) (xs (i + 2)) hΛ hO L F A _ (hc (xs (i + 1)) (xs (i + 2)) F A L hI)) lq_w_read lq_s_read lq_ini (by decide +kernel) lq_l_read ⟨Nat.le_of_ble_eq_true rfl, Nat.le_of_ble_eq_true rfl⟩ rfl rfl hf rfl rfl (Nat.le_of_ble_eq_true rfl) d_L_law_322) hS (fun k_5 F_1 A_1 L_1 H locs hw hP hS => ?_)
  refine lv_istore (lv' := [(5, .int k_5), (0, .ref b), (1, .ref (K 0)), (2, .ref (K 49)), (3, .ref (K 63)), (4, .int (nI i))]) hx hb d_L_law_325 hl (by decide) rfl (fun ls hl => ?_)
  refine lv_aload_n hx hb d_L_law_327 rfl (lv_at hl 3 rfl) ?_
  refine lw_arg hx hb hX hbl hbA hS (lv_at hl 1 rfl) (lv_at hl 5 rfl) 1 (by omega) hLn d_L_law_328 d_L_law_329 d_L_law_331 (by decide) d_L_law_332 d_L_law_333 ?_
  refine lw_arg hx hb hX hbl hbA hS (lv_at hl 1 rfl) (lv_at hl 5 rfl) 2 (by omega) hLn d_L_law_334 d_L_law_335 d_L_law_337 (by decide) d_L_law_338 d_L_law_339 ?_
  refine gq_goi (gq_runV (As := [.int (xs (i + 1)), .int (xs (i + 2))]) (rest := []) hx hb hml hown htw hK hP hl.1 (w_M_read hlo K (xs (i + 1)) (xs (i + 2)) hΜ F_1 A_1 _ hw) k_M_read lq_m_read ⟨Nat.le_of_ble_eq_true rfl, Nat.le_of_ble_eq_true rfl⟩ rfl rfl hf (gMd_0 hΜ) rfl rfl rfl (Nat.le_of_ble_eq_true rfl) d_L_law_340) hS (fun r_6 F_2 A_2 H locs hw hP hS => ?_)
  refine lv_istore (lv' := [(6, .int r_6), (5, .int k_5), (0, .ref b), (1, .ref (K 0)), (2, .ref (K 49)), (3, .ref (K 63)), (4, .int (nI i))]) hx hb d_L_law_343 hl (by decide) rfl (fun ls hl => ?_)
  refine lv_aload_n hx hb d_L_law_345 rfl (lv_at hl 4 rfl) ?_
  refine gq_goi (gq_runV (As := []) (rest := []) hx hb hml hown htw hK hP hl.1 (w_M_thrown hlo K hΜ F_2 A_2 (fun r => r = F_2 (K 49) 0) rfl) k_M_thrown lq_m83 ⟨Nat.le_of_ble_eq_true rfl, Nat.le_of_ble_eq_true rfl⟩ rfl rfl hf (gMd_0 hΜ) rfl rfl rfl (Nat.le_of_ble_eq_true rfl) d_L_law_346) hS (fun r_7 F_3 A_3 H locs hw3 hP hS => ?_)
  obtain ⟨rfl, rfl, rfl⟩ := hw3
  have fin : W p l e room_1 s m args below meth c H locs (cells + 1) (slots + 6) Q (F0 m 373 ls []) := by
    refine lv_goto (tgt := 1345) hx hb d_L_law_373 (by decide) ?_
    exact kk _ _ _ _ _ _ hw.2.2 hP hS (lv_sub hl [2, 3, 4, 5, 6] rfl)
  refine lv_iload hx hb d_L_law_349 (lv_at hl 1 rfl) ?_
  refine lv_icmp_eq (tgt := 356) hx hb d_L_law_351 (by decide) (fun _ => ?_) (fun h => absurd hw.1 h)
  refine lv_iload hx hb d_L_law_356 (lv_at hl 1 rfl) ?_
  refine lv_if_ne (tgt := 373) hx hb d_L_law_358 (by decide) (fun _ => fin) (fun hk => ?_)
  refine lv_aload_n hx hb d_L_law_361 rfl (lv_at hl 5 rfl) ?_
  refine lv_iconst (v := nI 0) hx hb d_L_law_362 (by decide) ?_
  refine gs_lld hx hb hK hP hO (vp_in_nI (by decide) (by decide)) d_L_law_363 ?_
  refine lv_iload hx hb d_L_law_364 (lv_at hl 0 rfl) ?_
  refine lv_i2l (v := r_6.toInt64) hx hb d_L_law_366 rfl ?_
  exact gl_eq (tgt := 373) hx hb d_L_law_367 d_L_law_368 (by decide) (fun _ => fin) (fun h => absurd (hw.2.1 hk) h)
set_option maxHeartbeats 4000000 in
set_option maxRecDepth 100000 in
theorem lw_show {p : Program} {l : Launch} {e : Env} {s : State} {m : MethodId} {args : Array Value} {below : List Frame} {meth : Method} {c : Code} {H : Heap} {locs : List Loc} {cells slots : Nat} {Q : State → Prop} {ls : Array Slot} {D : va_G} {Λ : gs_L} {F A : gm_M} {L : lm_M} {cI cB cJ cW : ClassId} {K : Nat → Nat} {b Ln i : Nat} {xs : Nat → Int32} (C : lw_C p l s m c args b Ln xs Λ D cI cB cJ cW K) {Inv : gm_M → gm_M → lm_M → Prop} (hc : lc_show K Inv) (hI : Inv F A L) (hP : va_P D gcls (gs_ws Λ F A L) H) (hS : va_S (gw_A Λ) s.heap H locs) (hi : i + 6 ≤ Ln) (hl : lv_has ls 8 [(0, .ref b), (1, .ref (K 0)), (2, .ref (K 49)), (3, .ref (K 63)), (4, .int (nI i))]) (hf : cells + 1 ≤ 601024 ∧ slots + 6 ≤ 7293034) (kk : ∀ (F A : gm_M) (L : lm_M) (H : Heap) (locs : List Loc) (ls : Array Slot), Inv F A L → va_P D gcls (gs_ws Λ F A L) H → va_S (gw_A Λ) s.heap H locs → lv_has ls 8 [(0, .ref b), (1, .ref (K 0)), (2, .ref (K 49)), (3, .ref (K 63)), (4, .int (nI i))] → W p l e room_1 s m args below meth c H locs (cells + 1) (slots + 6) Q (F0 m 1345 ls [])) : W p l e room_1 s m args below meth c H locs cells slots Q (F0 m 376 ls []) := by
  obtain ⟨hx, hb, hml, hown, htw, hK, hlo, hΛ, hΜ, hO, hN, hn2, hn3, hX, hbl, hbA, hfl, hLn⟩ := C
  refine lv_aload_n hx hb d_L_law_376 rfl (lv_at hl 1 rfl) ?_
  refine lw_arg hx hb hX hbl hbA hS (lv_at hl 0 rfl) (lv_at hl 4 rfl) 1 (by omega) hLn d_L_law_377 d_L_law_378 d_L_law_380 (by decide) d_L_law_381 d_L_law_382 ?_
  refine lw_arg hx hb hX hbl hbA hS (lv_at hl 0 rfl) (lv_at hl 4 rfl) 2 (by omega) hLn d_L_law_383 d_L_law_384 d_L_law_386 (by decide) d_L_law_387 d_L_law_388 ?_
  refine lv_aload_n hx hb d_L_law_389 rfl (lv_at hl 3 rfl) ?_
  refine gl_goi (gl_runS (n := 4) (As := [.ref (K 0), .int (xs (i + 1)), .int (xs (i + 2)), .ref (K 63)]) (rest := []) hx hb hml hown htw gl_blind (gl_pre hP hK hS hN hn2 hn3) hl.1 (w_L_show hfl hlo K (xs (i + 1)) (xs (i + 2)) hΛ hO L F A _ (hc (xs (i + 1)) (xs (i + 2)) F A L hI)) lq_w_show lq_s_show lq_ini (by decide +kernel) lq_l_show ⟨Nat.le_of_ble_eq_true rfl, Nat.le_of_ble_eq_true rfl⟩ rfl rfl hf rfl rfl (Nat.le_of_ble_eq_true rfl) d_L_law_390) hS (fun k_5 F_1 A_1 L_1 H locs hw hP hS => ?_)
  refine lv_istore (lv' := [(5, .int k_5), (0, .ref b), (1, .ref (K 0)), (2, .ref (K 49)), (3, .ref (K 63)), (4, .int (nI i))]) hx hb d_L_law_393 hl (by decide) rfl (fun ls hl => ?_)
  refine lv_aload_n hx hb d_L_law_395 rfl (lv_at hl 3 rfl) ?_
  refine lw_arg hx hb hX hbl hbA hS (lv_at hl 1 rfl) (lv_at hl 5 rfl) 1 (by omega) hLn d_L_law_396 d_L_law_397 d_L_law_399 (by decide) d_L_law_400 d_L_law_401 ?_
  refine lw_arg hx hb hX hbl hbA hS (lv_at hl 1 rfl) (lv_at hl 5 rfl) 2 (by omega) hLn d_L_law_402 d_L_law_403 d_L_law_405 (by decide) d_L_law_406 d_L_law_407 ?_
  refine gq_goi (gq_runV (As := [.int (xs (i + 1)), .int (xs (i + 2))]) (rest := []) hx hb hml hown htw hK hP hl.1 (w_M_show hlo K (xs (i + 1)) (xs (i + 2)) hΜ F_1 A_1 _ hw) k_M_show lq_m_show ⟨Nat.le_of_ble_eq_true rfl, Nat.le_of_ble_eq_true rfl⟩ rfl rfl hf (gMd_0 hΜ) rfl rfl rfl (Nat.le_of_ble_eq_true rfl) d_L_law_408) hS (fun r_6 F_2 A_2 H locs hw hP hS => ?_)
  refine lv_istore (lv' := [(6, .int r_6), (5, .int k_5), (0, .ref b), (1, .ref (K 0)), (2, .ref (K 49)), (3, .ref (K 63)), (4, .int (nI i))]) hx hb d_L_law_411 hl (by decide) rfl (fun ls hl => ?_)
  refine lv_aload_n hx hb d_L_law_413 rfl (lv_at hl 4 rfl) ?_
  refine gq_goi (gq_runV (As := []) (rest := []) hx hb hml hown htw hK hP hl.1 (w_M_thrown hlo K hΜ F_2 A_2 (fun r => r = F_2 (K 49) 0) rfl) k_M_thrown lq_m83 ⟨Nat.le_of_ble_eq_true rfl, Nat.le_of_ble_eq_true rfl⟩ rfl rfl hf (gMd_0 hΜ) rfl rfl rfl (Nat.le_of_ble_eq_true rfl) d_L_law_414) hS (fun r_7 F_3 A_3 H locs hw3 hP hS => ?_)
  obtain ⟨rfl, rfl, rfl⟩ := hw3
  have fin : W p l e room_1 s m args below meth c H locs (cells + 1) (slots + 6) Q (F0 m 441 ls []) := by
    refine lv_goto (tgt := 1345) hx hb d_L_law_441 (by decide) ?_
    exact kk _ _ _ _ _ _ hw.2.2 hP hS (lv_sub hl [2, 3, 4, 5, 6] rfl)
  refine lv_iload hx hb d_L_law_417 (lv_at hl 1 rfl) ?_
  refine lv_icmp_eq (tgt := 424) hx hb d_L_law_419 (by decide) (fun _ => ?_) (fun h => absurd hw.1 h)
  refine lv_iload hx hb d_L_law_424 (lv_at hl 1 rfl) ?_
  refine lv_if_ne (tgt := 441) hx hb d_L_law_426 (by decide) (fun _ => fin) (fun hk => ?_)
  refine lv_aload_n hx hb d_L_law_429 rfl (lv_at hl 5 rfl) ?_
  refine lv_iconst (v := nI 0) hx hb d_L_law_430 (by decide) ?_
  refine gs_lld hx hb hK hP hO (vp_in_nI (by decide) (by decide)) d_L_law_431 ?_
  refine lv_iload hx hb d_L_law_432 (lv_at hl 0 rfl) ?_
  refine lv_i2l (v := r_6.toInt64) hx hb d_L_law_434 rfl ?_
  exact gl_eq (tgt := 441) hx hb d_L_law_435 d_L_law_436 (by decide) (fun _ => fin) (fun h => absurd (hw.2.1 hk) h)
set_option maxHeartbeats 4000000 in
set_option maxRecDepth 100000 in
theorem lw_letter {p : Program} {l : Launch} {e : Env} {s : State} {m : MethodId} {args : Array Value} {below : List Frame} {meth : Method} {c : Code} {H : Heap} {locs : List Loc} {cells slots : Nat} {Q : State → Prop} {ls : Array Slot} {D : va_G} {Λ : gs_L} {F A : gm_M} {L : lm_M} {cI cB cJ cW : ClassId} {K : Nat → Nat} {b Ln i : Nat} {xs : Nat → Int32} (C : lw_C p l s m c args b Ln xs Λ D cI cB cJ cW K) {Inv : gm_M → gm_M → lm_M → Prop} (hc : lc_letter K Inv) (hI : Inv F A L) (hP : va_P D gcls (gs_ws Λ F A L) H) (hS : va_S (gw_A Λ) s.heap H locs) (hi : i + 6 ≤ Ln) (hl : lv_has ls 8 [(0, .ref b), (1, .ref (K 0)), (2, .ref (K 49)), (3, .ref (K 63)), (4, .int (nI i))]) (hf : cells + 1 ≤ 601024 ∧ slots + 6 ≤ 7293034) (kk : ∀ (F A : gm_M) (L : lm_M) (H : Heap) (locs : List Loc) (ls : Array Slot), Inv F A L → va_P D gcls (gs_ws Λ F A L) H → va_S (gw_A Λ) s.heap H locs → lv_has ls 8 [(0, .ref b), (1, .ref (K 0)), (2, .ref (K 49)), (3, .ref (K 63)), (4, .int (nI i))] → W p l e room_1 s m args below meth c H locs (cells + 1) (slots + 6) Q (F0 m 1345 ls [])) : W p l e room_1 s m args below meth c H locs cells slots Q (F0 m 444 ls []) := by
  obtain ⟨hx, hb, hml, hown, htw, hK, hlo, hΛ, hΜ, hO, hN, hn2, hn3, hX, hbl, hbA, hfl, hLn⟩ := C
  refine lv_aload_n hx hb d_L_law_444 rfl (lv_at hl 1 rfl) ?_
  refine lw_arg hx hb hX hbl hbA hS (lv_at hl 0 rfl) (lv_at hl 4 rfl) 1 (by omega) hLn d_L_law_445 d_L_law_446 d_L_law_448 (by decide) d_L_law_449 d_L_law_450 ?_
  refine lv_aload_n hx hb d_L_law_451 rfl (lv_at hl 3 rfl) ?_
  refine gl_goi (gl_runS (n := 3) (As := [.ref (K 0), .int (xs (i + 1)), .ref (K 63)]) (rest := []) hx hb hml hown htw gl_blind (gl_pre hP hK hS hN hn2 hn3) hl.1 (w_L_letter hfl hlo K (xs (i + 1)) hΛ hO L F A _ (hc (xs (i + 1)) F A L hI)) lq_w_letter lq_s_letter lq_ini (by decide +kernel) lq_l_letter ⟨Nat.le_of_ble_eq_true rfl, Nat.le_of_ble_eq_true rfl⟩ rfl rfl hf rfl rfl (Nat.le_of_ble_eq_true rfl) d_L_law_452) hS (fun k_5 F_1 A_1 L_1 H locs hw hP hS => ?_)
  refine lv_istore (lv' := [(5, .int k_5), (0, .ref b), (1, .ref (K 0)), (2, .ref (K 49)), (3, .ref (K 63)), (4, .int (nI i))]) hx hb d_L_law_455 hl (by decide) rfl (fun ls hl => ?_)
  refine lv_aload_n hx hb d_L_law_457 rfl (lv_at hl 3 rfl) ?_
  refine lw_arg hx hb hX hbl hbA hS (lv_at hl 1 rfl) (lv_at hl 5 rfl) 1 (by omega) hLn d_L_law_458 d_L_law_459 d_L_law_461 (by decide) d_L_law_462 d_L_law_463 ?_
  refine gq_goi (gq_runV (As := [.int (xs (i + 1))]) (rest := []) hx hb hml hown htw hK hP hl.1 (w_M_letter hlo K (xs (i + 1)) hΜ F_1 A_1 _ hw) k_M_letter lq_m_letter ⟨Nat.le_of_ble_eq_true rfl, Nat.le_of_ble_eq_true rfl⟩ rfl rfl hf (gMd_0 hΜ) rfl rfl rfl (Nat.le_of_ble_eq_true rfl) d_L_law_464) hS (fun r_6 F_2 A_2 H locs hw hP hS => ?_)
  obtain ⟨rfl, hw⟩ := hw
  refine lv_istore (lv' := [(6, .int r_6), (5, .int k_5), (0, .ref b), (1, .ref (K 0)), (2, .ref (K 49)), (3, .ref (K 63)), (4, .int (nI i))]) hx hb d_L_law_467 hl (by decide) rfl (fun ls hl => ?_)
  refine lv_aload_n hx hb d_L_law_469 rfl (lv_at hl 4 rfl) ?_
  refine gq_goi (gq_runV (As := []) (rest := []) hx hb hml hown htw hK hP hl.1 (w_M_thrown hlo K hΜ F_2 A_1 (fun r => r = F_2 (K 49) 0) rfl) k_M_thrown lq_m83 ⟨Nat.le_of_ble_eq_true rfl, Nat.le_of_ble_eq_true rfl⟩ rfl rfl hf (gMd_0 hΜ) rfl rfl rfl (Nat.le_of_ble_eq_true rfl) d_L_law_470) hS (fun r_7 F_3 A_3 H locs hw3 hP hS => ?_)
  obtain ⟨rfl, rfl, rfl⟩ := hw3
  have fin : W p l e room_1 s m args below meth c H locs (cells + 1) (slots + 6) Q (F0 m 497 ls []) := by
    refine lv_goto (tgt := 1345) hx hb d_L_law_497 (by decide) ?_
    exact kk _ _ _ _ _ _ hw.2.2 hP hS (lv_sub hl [2, 3, 4, 5, 6] rfl)
  refine lv_iload hx hb d_L_law_473 (lv_at hl 1 rfl) ?_
  refine lv_icmp_eq (tgt := 480) hx hb d_L_law_475 (by decide) (fun _ => ?_) (fun h => absurd hw.1 h)
  refine lv_iload hx hb d_L_law_480 (lv_at hl 1 rfl) ?_
  refine lv_if_ne (tgt := 497) hx hb d_L_law_482 (by decide) (fun _ => fin) (fun hk => ?_)
  refine lv_aload_n hx hb d_L_law_485 rfl (lv_at hl 5 rfl) ?_
  refine lv_iconst (v := nI 0) hx hb d_L_law_486 (by decide) ?_
  refine gs_lld hx hb hK hP hO (vp_in_nI (by decide) (by decide)) d_L_law_487 ?_
  refine lv_iload hx hb d_L_law_488 (lv_at hl 0 rfl) ?_
  refine lv_i2l (v := r_6.toInt64) hx hb d_L_law_490 rfl ?_
  exact gl_eq (tgt := 497) hx hb d_L_law_491 d_L_law_492 (by decide) (fun _ => fin) (fun h => absurd (hw.2.1 hk) h)
set_option maxHeartbeats 4000000 in
set_option maxRecDepth 100000 in
theorem lw_work {p : Program} {l : Launch} {e : Env} {s : State} {m : MethodId} {args : Array Value} {below : List Frame} {meth : Method} {c : Code} {H : Heap} {locs : List Loc} {cells slots : Nat} {Q : State → Prop} {ls : Array Slot} {D : va_G} {Λ : gs_L} {F A : gm_M} {L : lm_M} {cI cB cJ cW : ClassId} {K : Nat → Nat} {b Ln i : Nat} {xs : Nat → Int32} (C : lw_C p l s m c args b Ln xs Λ D cI cB cJ cW K) {Inv : gm_M → gm_M → lm_M → Prop} (hc : lc_work K Inv) (hI : Inv F A L) (hP : va_P D gcls (gs_ws Λ F A L) H) (hS : va_S (gw_A Λ) s.heap H locs) (hi : i + 6 ≤ Ln) (hl : lv_has ls 8 [(0, .ref b), (1, .ref (K 0)), (2, .ref (K 49)), (3, .ref (K 63)), (4, .int (nI i))]) (hf : cells + 1 ≤ 601024 ∧ slots + 6 ≤ 7293034) (kk : ∀ (F A : gm_M) (L : lm_M) (H : Heap) (locs : List Loc) (ls : Array Slot), Inv F A L → va_P D gcls (gs_ws Λ F A L) H → va_S (gw_A Λ) s.heap H locs → lv_has ls 8 [(0, .ref b), (1, .ref (K 0)), (2, .ref (K 49)), (3, .ref (K 63)), (4, .int (nI i))] → W p l e room_1 s m args below meth c H locs (cells + 1) (slots + 6) Q (F0 m 1345 ls [])) : W p l e room_1 s m args below meth c H locs cells slots Q (F0 m 500 ls []) := by
  obtain ⟨hx, hb, hml, hown, htw, hK, hlo, hΛ, hΜ, hO, hN, hn2, hn3, hX, hbl, hbA, hfl, hLn⟩ := C
  refine lv_aload_n hx hb d_L_law_500 rfl (lv_at hl 1 rfl) ?_
  refine lw_arg hx hb hX hbl hbA hS (lv_at hl 0 rfl) (lv_at hl 4 rfl) 1 (by omega) hLn d_L_law_501 d_L_law_502 d_L_law_504 (by decide) d_L_law_505 d_L_law_506 ?_
  refine lw_arg hx hb hX hbl hbA hS (lv_at hl 0 rfl) (lv_at hl 4 rfl) 2 (by omega) hLn d_L_law_507 d_L_law_508 d_L_law_510 (by decide) d_L_law_511 d_L_law_512 ?_
  refine lw_arg hx hb hX hbl hbA hS (lv_at hl 0 rfl) (lv_at hl 4 rfl) 3 (by omega) hLn d_L_law_513 d_L_law_514 d_L_law_516 (by decide) d_L_law_517 d_L_law_518 ?_
  refine lw_arg hx hb hX hbl hbA hS (lv_at hl 0 rfl) (lv_at hl 4 rfl) 4 (by omega) hLn d_L_law_519 d_L_law_520 d_L_law_522 (by decide) d_L_law_523 d_L_law_524 ?_
  refine lv_aload_n hx hb d_L_law_525 rfl (lv_at hl 3 rfl) ?_
  refine gl_goi (gl_runS (n := 6) (As := [.ref (K 0), .int (xs (i + 1)), .int (xs (i + 2)), .int (xs (i + 3)), .int (xs (i + 4)), .ref (K 63)]) (rest := []) hx hb hml hown htw gl_blind (gl_pre hP hK hS hN hn2 hn3) hl.1 (w_L_work hfl hlo K (xs (i + 1)) (xs (i + 2)) (xs (i + 3)) (xs (i + 4)) hΛ hO L F A _ (hc (xs (i + 1)) (xs (i + 2)) (xs (i + 3)) (xs (i + 4)) F A L hI)) lq_w_work lq_s_work lq_ini (by decide +kernel) lq_l_work ⟨Nat.le_of_ble_eq_true rfl, Nat.le_of_ble_eq_true rfl⟩ rfl rfl hf rfl rfl (Nat.le_of_ble_eq_true rfl) d_L_law_526) hS (fun k_5 F_1 A_1 L_1 H locs hw hP hS => ?_)
  refine lv_istore (lv' := [(5, .int k_5), (0, .ref b), (1, .ref (K 0)), (2, .ref (K 49)), (3, .ref (K 63)), (4, .int (nI i))]) hx hb d_L_law_529 hl (by decide) rfl (fun ls hl => ?_)
  refine lv_aload_n hx hb d_L_law_531 rfl (lv_at hl 3 rfl) ?_
  refine lw_arg hx hb hX hbl hbA hS (lv_at hl 1 rfl) (lv_at hl 5 rfl) 1 (by omega) hLn d_L_law_532 d_L_law_533 d_L_law_535 (by decide) d_L_law_536 d_L_law_537 ?_
  refine lw_arg hx hb hX hbl hbA hS (lv_at hl 1 rfl) (lv_at hl 5 rfl) 2 (by omega) hLn d_L_law_538 d_L_law_539 d_L_law_541 (by decide) d_L_law_542 d_L_law_543 ?_
  refine lw_arg hx hb hX hbl hbA hS (lv_at hl 1 rfl) (lv_at hl 5 rfl) 3 (by omega) hLn d_L_law_544 d_L_law_545 d_L_law_547 (by decide) d_L_law_548 d_L_law_549 ?_
  refine lw_arg hx hb hX hbl hbA hS (lv_at hl 1 rfl) (lv_at hl 5 rfl) 4 (by omega) hLn d_L_law_550 d_L_law_551 d_L_law_553 (by decide) d_L_law_554 d_L_law_555 ?_
  refine gq_goi (gq_runV (As := [.int (xs (i + 1)), .int (xs (i + 2)), .int (xs (i + 3)), .int (xs (i + 4))]) (rest := []) hx hb hml hown htw hK hP hl.1 (w_M_work hlo K (xs (i + 1)) (xs (i + 2)) (xs (i + 3)) (xs (i + 4)) hΜ F_1 A_1 _ hw) k_M_work lq_m_work ⟨Nat.le_of_ble_eq_true rfl, Nat.le_of_ble_eq_true rfl⟩ rfl rfl hf (gMd_0 hΜ) rfl rfl rfl (Nat.le_of_ble_eq_true rfl) d_L_law_556) hS (fun r_6 F_2 A_2 H locs hw hP hS => ?_)
  refine lv_istore (lv' := [(6, .int r_6), (5, .int k_5), (0, .ref b), (1, .ref (K 0)), (2, .ref (K 49)), (3, .ref (K 63)), (4, .int (nI i))]) hx hb d_L_law_559 hl (by decide) rfl (fun ls hl => ?_)
  refine lv_aload_n hx hb d_L_law_561 rfl (lv_at hl 4 rfl) ?_
  refine gq_goi (gq_runV (As := []) (rest := []) hx hb hml hown htw hK hP hl.1 (w_M_thrown hlo K hΜ F_2 A_2 (fun r => r = F_2 (K 49) 0) rfl) k_M_thrown lq_m83 ⟨Nat.le_of_ble_eq_true rfl, Nat.le_of_ble_eq_true rfl⟩ rfl rfl hf (gMd_0 hΜ) rfl rfl rfl (Nat.le_of_ble_eq_true rfl) d_L_law_562) hS (fun r_7 F_3 A_3 H locs hw3 hP hS => ?_)
  obtain ⟨rfl, rfl, rfl⟩ := hw3
  have fin : W p l e room_1 s m args below meth c H locs (cells + 1) (slots + 6) Q (F0 m 589 ls []) := by
    refine lv_goto (tgt := 1345) hx hb d_L_law_589 (by decide) ?_
    exact kk _ _ _ _ _ _ hw.2.2 hP hS (lv_sub hl [2, 3, 4, 5, 6] rfl)
  refine lv_iload hx hb d_L_law_565 (lv_at hl 1 rfl) ?_
  refine lv_icmp_eq (tgt := 572) hx hb d_L_law_567 (by decide) (fun _ => ?_) (fun h => absurd hw.1 h)
  refine lv_iload hx hb d_L_law_572 (lv_at hl 1 rfl) ?_
  refine lv_if_ne (tgt := 589) hx hb d_L_law_574 (by decide) (fun _ => fin) (fun hk => ?_)
  refine lv_aload_n hx hb d_L_law_577 rfl (lv_at hl 5 rfl) ?_
  refine lv_iconst (v := nI 0) hx hb d_L_law_578 (by decide) ?_
  refine gs_lld hx hb hK hP hO (vp_in_nI (by decide) (by decide)) d_L_law_579 ?_
  refine lv_iload hx hb d_L_law_580 (lv_at hl 0 rfl) ?_
  refine lv_i2l (v := r_6.toInt64) hx hb d_L_law_582 rfl ?_
  exact gl_eq (tgt := 589) hx hb d_L_law_583 d_L_law_584 (by decide) (fun _ => fin) (fun h => absurd (hw.2.1 hk) h)
set_option maxHeartbeats 4000000 in
set_option maxRecDepth 100000 in
theorem lw_divide {p : Program} {l : Launch} {e : Env} {s : State} {m : MethodId} {args : Array Value} {below : List Frame} {meth : Method} {c : Code} {H : Heap} {locs : List Loc} {cells slots : Nat} {Q : State → Prop} {ls : Array Slot} {D : va_G} {Λ : gs_L} {F A : gm_M} {L : lm_M} {cI cB cJ cW : ClassId} {K : Nat → Nat} {b Ln i : Nat} {xs : Nat → Int32} (C : lw_C p l s m c args b Ln xs Λ D cI cB cJ cW K) {Inv : gm_M → gm_M → lm_M → Prop} (hc : lc_divide K Inv) (hI : Inv F A L) (hP : va_P D gcls (gs_ws Λ F A L) H) (hS : va_S (gw_A Λ) s.heap H locs) (hi : i + 6 ≤ Ln) (hl : lv_has ls 8 [(0, .ref b), (1, .ref (K 0)), (2, .ref (K 49)), (3, .ref (K 63)), (4, .int (nI i))]) (hf : cells + 1 ≤ 601024 ∧ slots + 6 ≤ 7293034) (kk : ∀ (F A : gm_M) (L : lm_M) (H : Heap) (locs : List Loc) (ls : Array Slot), Inv F A L → va_P D gcls (gs_ws Λ F A L) H → va_S (gw_A Λ) s.heap H locs → lv_has ls 8 [(0, .ref b), (1, .ref (K 0)), (2, .ref (K 49)), (3, .ref (K 63)), (4, .int (nI i))] → W p l e room_1 s m args below meth c H locs (cells + 1) (slots + 6) Q (F0 m 1345 ls [])) : W p l e room_1 s m args below meth c H locs cells slots Q (F0 m 592 ls []) := by
  obtain ⟨hx, hb, hml, hown, htw, hK, hlo, hΛ, hΜ, hO, hN, hn2, hn3, hX, hbl, hbA, hfl, hLn⟩ := C
  refine lv_aload_n hx hb d_L_law_592 rfl (lv_at hl 1 rfl) ?_
  refine lw_arg hx hb hX hbl hbA hS (lv_at hl 0 rfl) (lv_at hl 4 rfl) 1 (by omega) hLn d_L_law_593 d_L_law_594 d_L_law_596 (by decide) d_L_law_597 d_L_law_598 ?_
  refine lw_bool hx hb d_L_law_599 d_L_law_602 d_L_law_603 d_L_law_606 ?_
  refine lw_arg hx hb hX hbl hbA hS (lv_at hl 0 rfl) (lv_at hl 4 rfl) 2 (by omega) hLn d_L_law_607 d_L_law_608 d_L_law_610 (by decide) d_L_law_611 d_L_law_612 ?_
  refine lw_arg hx hb hX hbl hbA hS (lv_at hl 0 rfl) (lv_at hl 4 rfl) 3 (by omega) hLn d_L_law_613 d_L_law_614 d_L_law_616 (by decide) d_L_law_617 d_L_law_618 ?_
  refine lw_arg hx hb hX hbl hbA hS (lv_at hl 0 rfl) (lv_at hl 4 rfl) 4 (by omega) hLn d_L_law_619 d_L_law_620 d_L_law_622 (by decide) d_L_law_623 d_L_law_624 ?_
  refine lw_arg hx hb hX hbl hbA hS (lv_at hl 0 rfl) (lv_at hl 4 rfl) 5 (by omega) hLn d_L_law_625 d_L_law_626 d_L_law_628 (by decide) d_L_law_629 d_L_law_630 ?_
  refine lv_aload_n hx hb d_L_law_631 rfl (lv_at hl 3 rfl) ?_
  refine gl_goi (gl_runS (n := 7) (As := [.ref (K 0), .int (lw_b (xs (i + 1))), .int (xs (i + 2)), .int (xs (i + 3)), .int (xs (i + 4)), .int (xs (i + 5)), .ref (K 63)]) (rest := []) hx hb hml hown htw gl_blind (gl_pre hP hK hS hN hn2 hn3) hl.1 (w_L_divide hfl hlo K (lw_b (xs (i + 1))) (xs (i + 2)) (xs (i + 3)) (xs (i + 4)) (xs (i + 5)) hΛ hO L F A _ (hc (lw_b (xs (i + 1))) (xs (i + 2)) (xs (i + 3)) (xs (i + 4)) (xs (i + 5)) F A L (lw_b01 _) hI)) lq_w_divide lq_s_divide lq_ini (by decide +kernel) lq_l_divide ⟨Nat.le_of_ble_eq_true rfl, Nat.le_of_ble_eq_true rfl⟩ rfl rfl hf rfl rfl (Nat.le_of_ble_eq_true rfl) d_L_law_632) hS (fun k_5 F_1 A_1 L_1 H locs hw hP hS => ?_)
  refine lv_istore (lv' := [(5, .int k_5), (0, .ref b), (1, .ref (K 0)), (2, .ref (K 49)), (3, .ref (K 63)), (4, .int (nI i))]) hx hb d_L_law_635 hl (by decide) rfl (fun ls hl => ?_)
  refine lv_aload_n hx hb d_L_law_637 rfl (lv_at hl 3 rfl) ?_
  refine lw_arg hx hb hX hbl hbA hS (lv_at hl 1 rfl) (lv_at hl 5 rfl) 1 (by omega) hLn d_L_law_638 d_L_law_639 d_L_law_641 (by decide) d_L_law_642 d_L_law_643 ?_
  refine lw_bool hx hb d_L_law_644 d_L_law_647 d_L_law_648 d_L_law_651 ?_
  refine lw_arg hx hb hX hbl hbA hS (lv_at hl 1 rfl) (lv_at hl 5 rfl) 2 (by omega) hLn d_L_law_652 d_L_law_653 d_L_law_655 (by decide) d_L_law_656 d_L_law_657 ?_
  refine lw_arg hx hb hX hbl hbA hS (lv_at hl 1 rfl) (lv_at hl 5 rfl) 3 (by omega) hLn d_L_law_658 d_L_law_659 d_L_law_661 (by decide) d_L_law_662 d_L_law_663 ?_
  refine lw_arg hx hb hX hbl hbA hS (lv_at hl 1 rfl) (lv_at hl 5 rfl) 4 (by omega) hLn d_L_law_664 d_L_law_665 d_L_law_667 (by decide) d_L_law_668 d_L_law_669 ?_
  refine lw_arg hx hb hX hbl hbA hS (lv_at hl 1 rfl) (lv_at hl 5 rfl) 5 (by omega) hLn d_L_law_670 d_L_law_671 d_L_law_673 (by decide) d_L_law_674 d_L_law_675 ?_
  refine gq_goi (gq_runV (As := [.int (lw_b (xs (i + 1))), .int (xs (i + 2)), .int (xs (i + 3)), .int (xs (i + 4)), .int (xs (i + 5))]) (rest := []) hx hb hml hown htw hK hP hl.1 (w_M_divide hlo K (lw_b (xs (i + 1))) (xs (i + 2)) (xs (i + 3)) (xs (i + 4)) (xs (i + 5)) hΜ F_1 A_1 _ hw) k_M_divide lq_m_divide ⟨Nat.le_of_ble_eq_true rfl, Nat.le_of_ble_eq_true rfl⟩ rfl rfl hf (gMd_0 hΜ) rfl rfl rfl (Nat.le_of_ble_eq_true rfl) d_L_law_676) hS (fun r_6 F_2 A_2 H locs hw hP hS => ?_)
  refine lv_istore (lv' := [(6, .int r_6), (5, .int k_5), (0, .ref b), (1, .ref (K 0)), (2, .ref (K 49)), (3, .ref (K 63)), (4, .int (nI i))]) hx hb d_L_law_679 hl (by decide) rfl (fun ls hl => ?_)
  refine lv_aload_n hx hb d_L_law_681 rfl (lv_at hl 4 rfl) ?_
  refine gq_goi (gq_runV (As := []) (rest := []) hx hb hml hown htw hK hP hl.1 (w_M_thrown hlo K hΜ F_2 A_2 (fun r => r = F_2 (K 49) 0) rfl) k_M_thrown lq_m83 ⟨Nat.le_of_ble_eq_true rfl, Nat.le_of_ble_eq_true rfl⟩ rfl rfl hf (gMd_0 hΜ) rfl rfl rfl (Nat.le_of_ble_eq_true rfl) d_L_law_682) hS (fun r_7 F_3 A_3 H locs hw3 hP hS => ?_)
  obtain ⟨rfl, rfl, rfl⟩ := hw3
  have fin : W p l e room_1 s m args below meth c H locs (cells + 1) (slots + 6) Q (F0 m 709 ls []) := by
    refine lv_goto (tgt := 1345) hx hb d_L_law_709 (by decide) ?_
    exact kk _ _ _ _ _ _ hw.2.2 hP hS (lv_sub hl [2, 3, 4, 5, 6] rfl)
  refine lv_iload hx hb d_L_law_685 (lv_at hl 1 rfl) ?_
  refine lv_icmp_eq (tgt := 692) hx hb d_L_law_687 (by decide) (fun _ => ?_) (fun h => absurd hw.1 h)
  refine lv_iload hx hb d_L_law_692 (lv_at hl 1 rfl) ?_
  refine lv_if_ne (tgt := 709) hx hb d_L_law_694 (by decide) (fun _ => fin) (fun hk => ?_)
  refine lv_aload_n hx hb d_L_law_697 rfl (lv_at hl 5 rfl) ?_
  refine lv_iconst (v := nI 0) hx hb d_L_law_698 (by decide) ?_
  refine gs_lld hx hb hK hP hO (vp_in_nI (by decide) (by decide)) d_L_law_699 ?_
  refine lv_iload hx hb d_L_law_700 (lv_at hl 0 rfl) ?_
  refine lv_i2l (v := r_6.toInt64) hx hb d_L_law_702 rfl ?_
  exact gl_eq (tgt := 709) hx hb d_L_law_703 d_L_law_704 (by decide) (fun _ => fin) (fun h => absurd (hw.2.1 hk) h)
set_option maxHeartbeats 4000000 in
set_option maxRecDepth 100000 in
theorem lw_shift {p : Program} {l : Launch} {e : Env} {s : State} {m : MethodId} {args : Array Value} {below : List Frame} {meth : Method} {c : Code} {H : Heap} {locs : List Loc} {cells slots : Nat} {Q : State → Prop} {ls : Array Slot} {D : va_G} {Λ : gs_L} {F A : gm_M} {L : lm_M} {cI cB cJ cW : ClassId} {K : Nat → Nat} {b Ln i : Nat} {xs : Nat → Int32} (C : lw_C p l s m c args b Ln xs Λ D cI cB cJ cW K) {Inv : gm_M → gm_M → lm_M → Prop} (hc : lc_shift K Inv) (hI : Inv F A L) (hP : va_P D gcls (gs_ws Λ F A L) H) (hS : va_S (gw_A Λ) s.heap H locs) (hi : i + 6 ≤ Ln) (hl : lv_has ls 8 [(0, .ref b), (1, .ref (K 0)), (2, .ref (K 49)), (3, .ref (K 63)), (4, .int (nI i))]) (hf : cells + 1 ≤ 601024 ∧ slots + 6 ≤ 7293034) (kk : ∀ (F A : gm_M) (L : lm_M) (H : Heap) (locs : List Loc) (ls : Array Slot), Inv F A L → va_P D gcls (gs_ws Λ F A L) H → va_S (gw_A Λ) s.heap H locs → lv_has ls 8 [(0, .ref b), (1, .ref (K 0)), (2, .ref (K 49)), (3, .ref (K 63)), (4, .int (nI i))] → W p l e room_1 s m args below meth c H locs (cells + 1) (slots + 6) Q (F0 m 1345 ls [])) : W p l e room_1 s m args below meth c H locs cells slots Q (F0 m 712 ls []) := by
  obtain ⟨hx, hb, hml, hown, htw, hK, hlo, hΛ, hΜ, hO, hN, hn2, hn3, hX, hbl, hbA, hfl, hLn⟩ := C
  refine lv_aload_n hx hb d_L_law_712 rfl (lv_at hl 1 rfl) ?_
  refine lw_arg hx hb hX hbl hbA hS (lv_at hl 0 rfl) (lv_at hl 4 rfl) 1 (by omega) hLn d_L_law_713 d_L_law_714 d_L_law_716 (by decide) d_L_law_717 d_L_law_718 ?_
  refine lw_arg hx hb hX hbl hbA hS (lv_at hl 0 rfl) (lv_at hl 4 rfl) 2 (by omega) hLn d_L_law_719 d_L_law_720 d_L_law_722 (by decide) d_L_law_723 d_L_law_724 ?_
  refine lw_arg hx hb hX hbl hbA hS (lv_at hl 0 rfl) (lv_at hl 4 rfl) 3 (by omega) hLn d_L_law_725 d_L_law_726 d_L_law_728 (by decide) d_L_law_729 d_L_law_730 ?_
  refine lv_aload_n hx hb d_L_law_731 rfl (lv_at hl 3 rfl) ?_
  refine gl_goi (gl_runS (n := 5) (As := [.ref (K 0), .int (xs (i + 1)), .int (xs (i + 2)), .int (xs (i + 3)), .ref (K 63)]) (rest := []) hx hb hml hown htw gl_blind (gl_pre hP hK hS hN hn2 hn3) hl.1 (w_L_shift hfl hlo K (xs (i + 1)) (xs (i + 2)) (xs (i + 3)) hΛ hO L F A _ (hc (xs (i + 1)) (xs (i + 2)) (xs (i + 3)) F A L hI)) lq_w_shift lq_s_shift lq_ini (by decide +kernel) lq_l_shift ⟨Nat.le_of_ble_eq_true rfl, Nat.le_of_ble_eq_true rfl⟩ rfl rfl hf rfl rfl (Nat.le_of_ble_eq_true rfl) d_L_law_732) hS (fun k_5 F_1 A_1 L_1 H locs hw hP hS => ?_)
  refine lv_istore (lv' := [(5, .int k_5), (0, .ref b), (1, .ref (K 0)), (2, .ref (K 49)), (3, .ref (K 63)), (4, .int (nI i))]) hx hb d_L_law_735 hl (by decide) rfl (fun ls hl => ?_)
  refine lv_aload_n hx hb d_L_law_737 rfl (lv_at hl 3 rfl) ?_
  refine lw_arg hx hb hX hbl hbA hS (lv_at hl 1 rfl) (lv_at hl 5 rfl) 1 (by omega) hLn d_L_law_738 d_L_law_739 d_L_law_741 (by decide) d_L_law_742 d_L_law_743 ?_
  refine lw_arg hx hb hX hbl hbA hS (lv_at hl 1 rfl) (lv_at hl 5 rfl) 2 (by omega) hLn d_L_law_744 d_L_law_745 d_L_law_747 (by decide) d_L_law_748 d_L_law_749 ?_
  refine lw_arg hx hb hX hbl hbA hS (lv_at hl 1 rfl) (lv_at hl 5 rfl) 3 (by omega) hLn d_L_law_750 d_L_law_751 d_L_law_753 (by decide) d_L_law_754 d_L_law_755 ?_
  refine gq_goi (gq_runV (As := [.int (xs (i + 1)), .int (xs (i + 2)), .int (xs (i + 3))]) (rest := []) hx hb hml hown htw hK hP hl.1 (w_M_shift hlo K (xs (i + 1)) (xs (i + 2)) (xs (i + 3)) hΜ F_1 A_1 _ hw) k_M_shift lq_m_shift ⟨Nat.le_of_ble_eq_true rfl, Nat.le_of_ble_eq_true rfl⟩ rfl rfl hf (gMd_0 hΜ) rfl rfl rfl (Nat.le_of_ble_eq_true rfl) d_L_law_756) hS (fun r_6 F_2 A_2 H locs hw hP hS => ?_)
  refine lv_istore (lv' := [(6, .int r_6), (5, .int k_5), (0, .ref b), (1, .ref (K 0)), (2, .ref (K 49)), (3, .ref (K 63)), (4, .int (nI i))]) hx hb d_L_law_759 hl (by decide) rfl (fun ls hl => ?_)
  refine lv_aload_n hx hb d_L_law_761 rfl (lv_at hl 4 rfl) ?_
  refine gq_goi (gq_runV (As := []) (rest := []) hx hb hml hown htw hK hP hl.1 (w_M_thrown hlo K hΜ F_2 A_2 (fun r => r = F_2 (K 49) 0) rfl) k_M_thrown lq_m83 ⟨Nat.le_of_ble_eq_true rfl, Nat.le_of_ble_eq_true rfl⟩ rfl rfl hf (gMd_0 hΜ) rfl rfl rfl (Nat.le_of_ble_eq_true rfl) d_L_law_762) hS (fun r_7 F_3 A_3 H locs hw3 hP hS => ?_)
  obtain ⟨rfl, rfl, rfl⟩ := hw3
  have fin : W p l e room_1 s m args below meth c H locs (cells + 1) (slots + 6) Q (F0 m 789 ls []) := by
    refine lv_goto (tgt := 1345) hx hb d_L_law_789 (by decide) ?_
    exact kk _ _ _ _ _ _ hw.2.2 hP hS (lv_sub hl [2, 3, 4, 5, 6] rfl)
  refine lv_iload hx hb d_L_law_765 (lv_at hl 1 rfl) ?_
  refine lv_icmp_eq (tgt := 772) hx hb d_L_law_767 (by decide) (fun _ => ?_) (fun h => absurd hw.1 h)
  refine lv_iload hx hb d_L_law_772 (lv_at hl 1 rfl) ?_
  refine lv_if_ne (tgt := 789) hx hb d_L_law_774 (by decide) (fun _ => fin) (fun hk => ?_)
  refine lv_aload_n hx hb d_L_law_777 rfl (lv_at hl 5 rfl) ?_
  refine lv_iconst (v := nI 0) hx hb d_L_law_778 (by decide) ?_
  refine gs_lld hx hb hK hP hO (vp_in_nI (by decide) (by decide)) d_L_law_779 ?_
  refine lv_iload hx hb d_L_law_780 (lv_at hl 0 rfl) ?_
  refine lv_i2l (v := r_6.toInt64) hx hb d_L_law_782 rfl ?_
  exact gl_eq (tgt := 789) hx hb d_L_law_783 d_L_law_784 (by decide) (fun _ => fin) (fun h => absurd (hw.2.1 hk) h)
set_option maxHeartbeats 4000000 in
set_option maxRecDepth 100000 in
theorem lw_bits {p : Program} {l : Launch} {e : Env} {s : State} {m : MethodId} {args : Array Value} {below : List Frame} {meth : Method} {c : Code} {H : Heap} {locs : List Loc} {cells slots : Nat} {Q : State → Prop} {ls : Array Slot} {D : va_G} {Λ : gs_L} {F A : gm_M} {L : lm_M} {cI cB cJ cW : ClassId} {K : Nat → Nat} {b Ln i : Nat} {xs : Nat → Int32} (C : lw_C p l s m c args b Ln xs Λ D cI cB cJ cW K) {Inv : gm_M → gm_M → lm_M → Prop} (hc : lc_bits K Inv) (hI : Inv F A L) (hP : va_P D gcls (gs_ws Λ F A L) H) (hS : va_S (gw_A Λ) s.heap H locs) (hi : i + 6 ≤ Ln) (hl : lv_has ls 8 [(0, .ref b), (1, .ref (K 0)), (2, .ref (K 49)), (3, .ref (K 63)), (4, .int (nI i))]) (hf : cells + 1 ≤ 601024 ∧ slots + 6 ≤ 7293034) (kk : ∀ (F A : gm_M) (L : lm_M) (H : Heap) (locs : List Loc) (ls : Array Slot), Inv F A L → va_P D gcls (gs_ws Λ F A L) H → va_S (gw_A Λ) s.heap H locs → lv_has ls 8 [(0, .ref b), (1, .ref (K 0)), (2, .ref (K 49)), (3, .ref (K 63)), (4, .int (nI i))] → W p l e room_1 s m args below meth c H locs (cells + 1) (slots + 6) Q (F0 m 1345 ls [])) : W p l e room_1 s m args below meth c H locs cells slots Q (F0 m 792 ls []) := by
  obtain ⟨hx, hb, hml, hown, htw, hK, hlo, hΛ, hΜ, hO, hN, hn2, hn3, hX, hbl, hbA, hfl, hLn⟩ := C
  refine lv_aload_n hx hb d_L_law_792 rfl (lv_at hl 1 rfl) ?_
  refine lw_arg hx hb hX hbl hbA hS (lv_at hl 0 rfl) (lv_at hl 4 rfl) 1 (by omega) hLn d_L_law_793 d_L_law_794 d_L_law_796 (by decide) d_L_law_797 d_L_law_798 ?_
  refine lw_arg hx hb hX hbl hbA hS (lv_at hl 0 rfl) (lv_at hl 4 rfl) 2 (by omega) hLn d_L_law_799 d_L_law_800 d_L_law_802 (by decide) d_L_law_803 d_L_law_804 ?_
  refine lw_arg hx hb hX hbl hbA hS (lv_at hl 0 rfl) (lv_at hl 4 rfl) 3 (by omega) hLn d_L_law_805 d_L_law_806 d_L_law_808 (by decide) d_L_law_809 d_L_law_810 ?_
  refine lw_arg hx hb hX hbl hbA hS (lv_at hl 0 rfl) (lv_at hl 4 rfl) 4 (by omega) hLn d_L_law_811 d_L_law_812 d_L_law_814 (by decide) d_L_law_815 d_L_law_816 ?_
  refine lv_aload_n hx hb d_L_law_817 rfl (lv_at hl 3 rfl) ?_
  refine gl_goi (gl_runS (n := 6) (As := [.ref (K 0), .int (xs (i + 1)), .int (xs (i + 2)), .int (xs (i + 3)), .int (xs (i + 4)), .ref (K 63)]) (rest := []) hx hb hml hown htw gl_blind (gl_pre hP hK hS hN hn2 hn3) hl.1 (w_L_bits hfl hlo K (xs (i + 1)) (xs (i + 2)) (xs (i + 3)) (xs (i + 4)) hΛ hO L F A _ (hc (xs (i + 1)) (xs (i + 2)) (xs (i + 3)) (xs (i + 4)) F A L hI)) lq_w_bits lq_s_bits lq_ini (by decide +kernel) lq_l_bits ⟨Nat.le_of_ble_eq_true rfl, Nat.le_of_ble_eq_true rfl⟩ rfl rfl hf rfl rfl (Nat.le_of_ble_eq_true rfl) d_L_law_818) hS (fun k_5 F_1 A_1 L_1 H locs hw hP hS => ?_)
  refine lv_istore (lv' := [(5, .int k_5), (0, .ref b), (1, .ref (K 0)), (2, .ref (K 49)), (3, .ref (K 63)), (4, .int (nI i))]) hx hb d_L_law_821 hl (by decide) rfl (fun ls hl => ?_)
  refine lv_aload_n hx hb d_L_law_823 rfl (lv_at hl 3 rfl) ?_
  refine lw_arg hx hb hX hbl hbA hS (lv_at hl 1 rfl) (lv_at hl 5 rfl) 1 (by omega) hLn d_L_law_824 d_L_law_825 d_L_law_827 (by decide) d_L_law_828 d_L_law_829 ?_
  refine lw_arg hx hb hX hbl hbA hS (lv_at hl 1 rfl) (lv_at hl 5 rfl) 2 (by omega) hLn d_L_law_830 d_L_law_831 d_L_law_833 (by decide) d_L_law_834 d_L_law_835 ?_
  refine lw_arg hx hb hX hbl hbA hS (lv_at hl 1 rfl) (lv_at hl 5 rfl) 3 (by omega) hLn d_L_law_836 d_L_law_837 d_L_law_839 (by decide) d_L_law_840 d_L_law_841 ?_
  refine lw_arg hx hb hX hbl hbA hS (lv_at hl 1 rfl) (lv_at hl 5 rfl) 4 (by omega) hLn d_L_law_842 d_L_law_843 d_L_law_845 (by decide) d_L_law_846 d_L_law_847 ?_
  refine gq_goi (gq_runV (As := [.int (xs (i + 1)), .int (xs (i + 2)), .int (xs (i + 3)), .int (xs (i + 4))]) (rest := []) hx hb hml hown htw hK hP hl.1 (w_M_bits2 hlo K (xs (i + 1)) (xs (i + 2)) (xs (i + 3)) (xs (i + 4)) hΜ F_1 A_1 _ hw) k_M_bits2 lq_m_bits ⟨Nat.le_of_ble_eq_true rfl, Nat.le_of_ble_eq_true rfl⟩ rfl rfl hf (gMd_0 hΜ) rfl rfl rfl (Nat.le_of_ble_eq_true rfl) d_L_law_848) hS (fun r_6 F_2 A_2 H locs hw hP hS => ?_)
  refine lv_istore (lv' := [(6, .int r_6), (5, .int k_5), (0, .ref b), (1, .ref (K 0)), (2, .ref (K 49)), (3, .ref (K 63)), (4, .int (nI i))]) hx hb d_L_law_851 hl (by decide) rfl (fun ls hl => ?_)
  refine lv_aload_n hx hb d_L_law_853 rfl (lv_at hl 4 rfl) ?_
  refine gq_goi (gq_runV (As := []) (rest := []) hx hb hml hown htw hK hP hl.1 (w_M_thrown hlo K hΜ F_2 A_2 (fun r => r = F_2 (K 49) 0) rfl) k_M_thrown lq_m83 ⟨Nat.le_of_ble_eq_true rfl, Nat.le_of_ble_eq_true rfl⟩ rfl rfl hf (gMd_0 hΜ) rfl rfl rfl (Nat.le_of_ble_eq_true rfl) d_L_law_854) hS (fun r_7 F_3 A_3 H locs hw3 hP hS => ?_)
  obtain ⟨rfl, rfl, rfl⟩ := hw3
  have fin : W p l e room_1 s m args below meth c H locs (cells + 1) (slots + 6) Q (F0 m 881 ls []) := by
    refine lv_goto (tgt := 1345) hx hb d_L_law_881 (by decide) ?_
    exact kk _ _ _ _ _ _ hw.2.2 hP hS (lv_sub hl [2, 3, 4, 5, 6] rfl)
  refine lv_iload hx hb d_L_law_857 (lv_at hl 1 rfl) ?_
  refine lv_icmp_eq (tgt := 864) hx hb d_L_law_859 (by decide) (fun _ => ?_) (fun h => absurd hw.1 h)
  refine lv_iload hx hb d_L_law_864 (lv_at hl 1 rfl) ?_
  refine lv_if_ne (tgt := 881) hx hb d_L_law_866 (by decide) (fun _ => fin) (fun hk => ?_)
  refine lv_aload_n hx hb d_L_law_869 rfl (lv_at hl 5 rfl) ?_
  refine lv_iconst (v := nI 0) hx hb d_L_law_870 (by decide) ?_
  refine gs_lld hx hb hK hP hO (vp_in_nI (by decide) (by decide)) d_L_law_871 ?_
  refine lv_iload hx hb d_L_law_872 (lv_at hl 0 rfl) ?_
  refine lv_i2l (v := r_6.toInt64) hx hb d_L_law_874 rfl ?_
  exact gl_eq (tgt := 881) hx hb d_L_law_875 d_L_law_876 (by decide) (fun _ => fin) (fun h => absurd (hw.2.1 hk) h)
set_option maxHeartbeats 4000000 in
set_option maxRecDepth 100000 in
theorem lw_power {p : Program} {l : Launch} {e : Env} {s : State} {m : MethodId} {args : Array Value} {below : List Frame} {meth : Method} {c : Code} {H : Heap} {locs : List Loc} {cells slots : Nat} {Q : State → Prop} {ls : Array Slot} {D : va_G} {Λ : gs_L} {F A : gm_M} {L : lm_M} {cI cB cJ cW : ClassId} {K : Nat → Nat} {b Ln i : Nat} {xs : Nat → Int32} (C : lw_C p l s m c args b Ln xs Λ D cI cB cJ cW K) {Inv : gm_M → gm_M → lm_M → Prop} (hc : lc_power K Inv) (hI : Inv F A L) (hP : va_P D gcls (gs_ws Λ F A L) H) (hS : va_S (gw_A Λ) s.heap H locs) (hi : i + 6 ≤ Ln) (hl : lv_has ls 8 [(0, .ref b), (1, .ref (K 0)), (2, .ref (K 49)), (3, .ref (K 63)), (4, .int (nI i))]) (hf : cells + 1 ≤ 601024 ∧ slots + 6 ≤ 7293034) (kk : ∀ (F A : gm_M) (L : lm_M) (H : Heap) (locs : List Loc) (ls : Array Slot), Inv F A L → va_P D gcls (gs_ws Λ F A L) H → va_S (gw_A Λ) s.heap H locs → lv_has ls 8 [(0, .ref b), (1, .ref (K 0)), (2, .ref (K 49)), (3, .ref (K 63)), (4, .int (nI i))] → W p l e room_1 s m args below meth c H locs (cells + 1) (slots + 6) Q (F0 m 1345 ls [])) : W p l e room_1 s m args below meth c H locs cells slots Q (F0 m 884 ls []) := by
  obtain ⟨hx, hb, hml, hown, htw, hK, hlo, hΛ, hΜ, hO, hN, hn2, hn3, hX, hbl, hbA, hfl, hLn⟩ := C
  refine lv_aload_n hx hb d_L_law_884 rfl (lv_at hl 1 rfl) ?_
  refine lw_arg hx hb hX hbl hbA hS (lv_at hl 0 rfl) (lv_at hl 4 rfl) 1 (by omega) hLn d_L_law_885 d_L_law_886 d_L_law_888 (by decide) d_L_law_889 d_L_law_890 ?_
  refine lw_arg hx hb hX hbl hbA hS (lv_at hl 0 rfl) (lv_at hl 4 rfl) 2 (by omega) hLn d_L_law_891 d_L_law_892 d_L_law_894 (by decide) d_L_law_895 d_L_law_896 ?_
  refine lw_arg hx hb hX hbl hbA hS (lv_at hl 0 rfl) (lv_at hl 4 rfl) 3 (by omega) hLn d_L_law_897 d_L_law_898 d_L_law_900 (by decide) d_L_law_901 d_L_law_902 ?_
  refine lv_aload_n hx hb d_L_law_903 rfl (lv_at hl 3 rfl) ?_
  refine gl_goi (gl_runS (n := 5) (As := [.ref (K 0), .int (xs (i + 1)), .int (xs (i + 2)), .int (xs (i + 3)), .ref (K 63)]) (rest := []) hx hb hml hown htw gl_blind (gl_pre hP hK hS hN hn2 hn3) hl.1 (w_L_power hfl hlo K (xs (i + 1)) (xs (i + 2)) (xs (i + 3)) hΛ hO L F A _ (hc (xs (i + 1)) (xs (i + 2)) (xs (i + 3)) F A L hI)) lq_w_power lq_s_power lq_ini (by decide +kernel) lq_l_power ⟨Nat.le_of_ble_eq_true rfl, Nat.le_of_ble_eq_true rfl⟩ rfl rfl hf rfl rfl (Nat.le_of_ble_eq_true rfl) d_L_law_904) hS (fun k_5 F_1 A_1 L_1 H locs hw hP hS => ?_)
  refine lv_istore (lv' := [(5, .int k_5), (0, .ref b), (1, .ref (K 0)), (2, .ref (K 49)), (3, .ref (K 63)), (4, .int (nI i))]) hx hb d_L_law_907 hl (by decide) rfl (fun ls hl => ?_)
  refine lv_aload_n hx hb d_L_law_909 rfl (lv_at hl 3 rfl) ?_
  refine lw_arg hx hb hX hbl hbA hS (lv_at hl 1 rfl) (lv_at hl 5 rfl) 1 (by omega) hLn d_L_law_910 d_L_law_911 d_L_law_913 (by decide) d_L_law_914 d_L_law_915 ?_
  refine lw_arg hx hb hX hbl hbA hS (lv_at hl 1 rfl) (lv_at hl 5 rfl) 2 (by omega) hLn d_L_law_916 d_L_law_917 d_L_law_919 (by decide) d_L_law_920 d_L_law_921 ?_
  refine lw_arg hx hb hX hbl hbA hS (lv_at hl 1 rfl) (lv_at hl 5 rfl) 3 (by omega) hLn d_L_law_922 d_L_law_923 d_L_law_925 (by decide) d_L_law_926 d_L_law_927 ?_
  refine gq_goi (gq_runV (As := [.int (xs (i + 1)), .int (xs (i + 2)), .int (xs (i + 3))]) (rest := []) hx hb hml hown htw hK hP hl.1 (w_M_power hlo K (xs (i + 1)) (xs (i + 2)) (xs (i + 3)) hΜ F_1 A_1 _ hw) k_M_power lq_m_power ⟨Nat.le_of_ble_eq_true rfl, Nat.le_of_ble_eq_true rfl⟩ rfl rfl hf (gMd_0 hΜ) rfl rfl rfl (Nat.le_of_ble_eq_true rfl) d_L_law_928) hS (fun r_6 F_2 A_2 H locs hw hP hS => ?_)
  refine lv_istore (lv' := [(6, .int r_6), (5, .int k_5), (0, .ref b), (1, .ref (K 0)), (2, .ref (K 49)), (3, .ref (K 63)), (4, .int (nI i))]) hx hb d_L_law_931 hl (by decide) rfl (fun ls hl => ?_)
  refine lv_aload_n hx hb d_L_law_933 rfl (lv_at hl 4 rfl) ?_
  refine gq_goi (gq_runV (As := []) (rest := []) hx hb hml hown htw hK hP hl.1 (w_M_thrown hlo K hΜ F_2 A_2 (fun r => r = F_2 (K 49) 0) rfl) k_M_thrown lq_m83 ⟨Nat.le_of_ble_eq_true rfl, Nat.le_of_ble_eq_true rfl⟩ rfl rfl hf (gMd_0 hΜ) rfl rfl rfl (Nat.le_of_ble_eq_true rfl) d_L_law_934) hS (fun r_7 F_3 A_3 H locs hw3 hP hS => ?_)
  obtain ⟨rfl, rfl, rfl⟩ := hw3
  have fin : W p l e room_1 s m args below meth c H locs (cells + 1) (slots + 6) Q (F0 m 961 ls []) := by
    refine lv_goto (tgt := 1345) hx hb d_L_law_961 (by decide) ?_
    exact kk _ _ _ _ _ _ hw.2.2 hP hS (lv_sub hl [2, 3, 4, 5, 6] rfl)
  refine lv_iload hx hb d_L_law_937 (lv_at hl 1 rfl) ?_
  refine lv_icmp_eq (tgt := 944) hx hb d_L_law_939 (by decide) (fun _ => ?_) (fun h => absurd hw.1 h)
  refine lv_iload hx hb d_L_law_944 (lv_at hl 1 rfl) ?_
  refine lv_if_ne (tgt := 961) hx hb d_L_law_946 (by decide) (fun _ => fin) (fun hk => ?_)
  refine lv_aload_n hx hb d_L_law_949 rfl (lv_at hl 5 rfl) ?_
  refine lv_iconst (v := nI 0) hx hb d_L_law_950 (by decide) ?_
  refine gs_lld hx hb hK hP hO (vp_in_nI (by decide) (by decide)) d_L_law_951 ?_
  refine lv_iload hx hb d_L_law_952 (lv_at hl 0 rfl) ?_
  refine lv_i2l (v := r_6.toInt64) hx hb d_L_law_954 rfl ?_
  exact gl_eq (tgt := 961) hx hb d_L_law_955 d_L_law_956 (by decide) (fun _ => fin) (fun h => absurd (hw.2.1 hk) h)
set_option maxHeartbeats 4000000 in
set_option maxRecDepth 100000 in
theorem lw_residue {p : Program} {l : Launch} {e : Env} {s : State} {m : MethodId} {args : Array Value} {below : List Frame} {meth : Method} {c : Code} {H : Heap} {locs : List Loc} {cells slots : Nat} {Q : State → Prop} {ls : Array Slot} {D : va_G} {Λ : gs_L} {F A : gm_M} {L : lm_M} {cI cB cJ cW : ClassId} {K : Nat → Nat} {b Ln i : Nat} {xs : Nat → Int32} (C : lw_C p l s m c args b Ln xs Λ D cI cB cJ cW K) {Inv : gm_M → gm_M → lm_M → Prop} (hc : lc_residue K Inv) (hI : Inv F A L) (hP : va_P D gcls (gs_ws Λ F A L) H) (hS : va_S (gw_A Λ) s.heap H locs) (hi : i + 6 ≤ Ln) (hl : lv_has ls 8 [(0, .ref b), (1, .ref (K 0)), (2, .ref (K 49)), (3, .ref (K 63)), (4, .int (nI i))]) (hf : cells + 1 ≤ 601024 ∧ slots + 6 ≤ 7293034) (kk : ∀ (F A : gm_M) (L : lm_M) (H : Heap) (locs : List Loc) (ls : Array Slot), Inv F A L → va_P D gcls (gs_ws Λ F A L) H → va_S (gw_A Λ) s.heap H locs → lv_has ls 8 [(0, .ref b), (1, .ref (K 0)), (2, .ref (K 49)), (3, .ref (K 63)), (4, .int (nI i))] → W p l e room_1 s m args below meth c H locs (cells + 1) (slots + 6) Q (F0 m 1345 ls [])) : W p l e room_1 s m args below meth c H locs cells slots Q (F0 m 964 ls []) := by
  obtain ⟨hx, hb, hml, hown, htw, hK, hlo, hΛ, hΜ, hO, hN, hn2, hn3, hX, hbl, hbA, hfl, hLn⟩ := C
  refine lv_aload_n hx hb d_L_law_964 rfl (lv_at hl 1 rfl) ?_
  refine lw_arg hx hb hX hbl hbA hS (lv_at hl 0 rfl) (lv_at hl 4 rfl) 1 (by omega) hLn d_L_law_965 d_L_law_966 d_L_law_968 (by decide) d_L_law_969 d_L_law_970 ?_
  refine lw_arg hx hb hX hbl hbA hS (lv_at hl 0 rfl) (lv_at hl 4 rfl) 2 (by omega) hLn d_L_law_971 d_L_law_972 d_L_law_974 (by decide) d_L_law_975 d_L_law_976 ?_
  refine lw_arg hx hb hX hbl hbA hS (lv_at hl 0 rfl) (lv_at hl 4 rfl) 3 (by omega) hLn d_L_law_977 d_L_law_978 d_L_law_980 (by decide) d_L_law_981 d_L_law_982 ?_
  refine lw_arg hx hb hX hbl hbA hS (lv_at hl 0 rfl) (lv_at hl 4 rfl) 4 (by omega) hLn d_L_law_983 d_L_law_984 d_L_law_986 (by decide) d_L_law_987 d_L_law_988 ?_
  refine lv_aload_n hx hb d_L_law_989 rfl (lv_at hl 3 rfl) ?_
  refine gl_goi (gl_runS (n := 6) (As := [.ref (K 0), .int (xs (i + 1)), .int (xs (i + 2)), .int (xs (i + 3)), .int (xs (i + 4)), .ref (K 63)]) (rest := []) hx hb hml hown htw gl_blind (gl_pre hP hK hS hN hn2 hn3) hl.1 (w_L_residue hfl hlo K (xs (i + 1)) (xs (i + 2)) (xs (i + 3)) (xs (i + 4)) hΛ hO L F A _ (hc (xs (i + 1)) (xs (i + 2)) (xs (i + 3)) (xs (i + 4)) F A L hI)) lq_w_residue lq_s_residue lq_ini (by decide +kernel) lq_l_residue ⟨Nat.le_of_ble_eq_true rfl, Nat.le_of_ble_eq_true rfl⟩ rfl rfl hf rfl rfl (Nat.le_of_ble_eq_true rfl) d_L_law_990) hS (fun k_5 F_1 A_1 L_1 H locs hw hP hS => ?_)
  refine lv_istore (lv' := [(5, .int k_5), (0, .ref b), (1, .ref (K 0)), (2, .ref (K 49)), (3, .ref (K 63)), (4, .int (nI i))]) hx hb d_L_law_993 hl (by decide) rfl (fun ls hl => ?_)
  refine lv_aload_n hx hb d_L_law_995 rfl (lv_at hl 3 rfl) ?_
  refine lw_arg hx hb hX hbl hbA hS (lv_at hl 1 rfl) (lv_at hl 5 rfl) 1 (by omega) hLn d_L_law_996 d_L_law_997 d_L_law_999 (by decide) d_L_law_1000 d_L_law_1001 ?_
  refine lw_arg hx hb hX hbl hbA hS (lv_at hl 1 rfl) (lv_at hl 5 rfl) 2 (by omega) hLn d_L_law_1002 d_L_law_1003 d_L_law_1005 (by decide) d_L_law_1006 d_L_law_1007 ?_
  refine lw_arg hx hb hX hbl hbA hS (lv_at hl 1 rfl) (lv_at hl 5 rfl) 3 (by omega) hLn d_L_law_1008 d_L_law_1009 d_L_law_1011 (by decide) d_L_law_1012 d_L_law_1013 ?_
  refine lw_arg hx hb hX hbl hbA hS (lv_at hl 1 rfl) (lv_at hl 5 rfl) 4 (by omega) hLn d_L_law_1014 d_L_law_1015 d_L_law_1017 (by decide) d_L_law_1018 d_L_law_1019 ?_
  refine gq_goi (gq_runV (As := [.int (xs (i + 1)), .int (xs (i + 2)), .int (xs (i + 3)), .int (xs (i + 4))]) (rest := []) hx hb hml hown htw hK hP hl.1 (w_M_residue hlo K (xs (i + 1)) (xs (i + 2)) (xs (i + 3)) (xs (i + 4)) hΜ F_1 A_1 _ hw) k_M_residue lq_m_residue ⟨Nat.le_of_ble_eq_true rfl, Nat.le_of_ble_eq_true rfl⟩ rfl rfl hf (gMd_0 hΜ) rfl rfl rfl (Nat.le_of_ble_eq_true rfl) d_L_law_1020) hS (fun r_6 F_2 A_2 H locs hw hP hS => ?_)
  refine lv_istore (lv' := [(6, .int r_6), (5, .int k_5), (0, .ref b), (1, .ref (K 0)), (2, .ref (K 49)), (3, .ref (K 63)), (4, .int (nI i))]) hx hb d_L_law_1023 hl (by decide) rfl (fun ls hl => ?_)
  refine lv_aload_n hx hb d_L_law_1025 rfl (lv_at hl 4 rfl) ?_
  refine gq_goi (gq_runV (As := []) (rest := []) hx hb hml hown htw hK hP hl.1 (w_M_thrown hlo K hΜ F_2 A_2 (fun r => r = F_2 (K 49) 0) rfl) k_M_thrown lq_m83 ⟨Nat.le_of_ble_eq_true rfl, Nat.le_of_ble_eq_true rfl⟩ rfl rfl hf (gMd_0 hΜ) rfl rfl rfl (Nat.le_of_ble_eq_true rfl) d_L_law_1026) hS (fun r_7 F_3 A_3 H locs hw3 hP hS => ?_)
  obtain ⟨rfl, rfl, rfl⟩ := hw3
  have fin : W p l e room_1 s m args below meth c H locs (cells + 1) (slots + 6) Q (F0 m 1053 ls []) := by
    refine lv_goto (tgt := 1345) hx hb d_L_law_1053 (by decide) ?_
    exact kk _ _ _ _ _ _ hw.2.2 hP hS (lv_sub hl [2, 3, 4, 5, 6] rfl)
  refine lv_iload hx hb d_L_law_1029 (lv_at hl 1 rfl) ?_
  refine lv_icmp_eq (tgt := 1036) hx hb d_L_law_1031 (by decide) (fun _ => ?_) (fun h => absurd hw.1 h)
  refine lv_iload hx hb d_L_law_1036 (lv_at hl 1 rfl) ?_
  refine lv_if_ne (tgt := 1053) hx hb d_L_law_1038 (by decide) (fun _ => fin) (fun hk => ?_)
  refine lv_aload_n hx hb d_L_law_1041 rfl (lv_at hl 5 rfl) ?_
  refine lv_iconst (v := nI 0) hx hb d_L_law_1042 (by decide) ?_
  refine gs_lld hx hb hK hP hO (vp_in_nI (by decide) (by decide)) d_L_law_1043 ?_
  refine lv_iload hx hb d_L_law_1044 (lv_at hl 0 rfl) ?_
  refine lv_i2l (v := r_6.toInt64) hx hb d_L_law_1046 rfl ?_
  exact gl_eq (tgt := 1053) hx hb d_L_law_1047 d_L_law_1048 (by decide) (fun _ => fin) (fun h => absurd (hw.2.1 hk) h)
set_option maxHeartbeats 4000000 in
set_option maxRecDepth 100000 in
theorem lw_compare {p : Program} {l : Launch} {e : Env} {s : State} {m : MethodId} {args : Array Value} {below : List Frame} {meth : Method} {c : Code} {H : Heap} {locs : List Loc} {cells slots : Nat} {Q : State → Prop} {ls : Array Slot} {D : va_G} {Λ : gs_L} {F A : gm_M} {L : lm_M} {cI cB cJ cW : ClassId} {K : Nat → Nat} {b Ln i : Nat} {xs : Nat → Int32} (C : lw_C p l s m c args b Ln xs Λ D cI cB cJ cW K) {Inv : gm_M → gm_M → lm_M → Prop} (hc : lc_compare K Inv) (hI : Inv F A L) (hP : va_P D gcls (gs_ws Λ F A L) H) (hS : va_S (gw_A Λ) s.heap H locs) (hi : i + 6 ≤ Ln) (hl : lv_has ls 8 [(0, .ref b), (1, .ref (K 0)), (2, .ref (K 49)), (3, .ref (K 63)), (4, .int (nI i))]) (hf : cells + 1 ≤ 601024 ∧ slots + 6 ≤ 7293034) (kk : ∀ (F A : gm_M) (L : lm_M) (H : Heap) (locs : List Loc) (ls : Array Slot), Inv F A L → va_P D gcls (gs_ws Λ F A L) H → va_S (gw_A Λ) s.heap H locs → lv_has ls 8 [(0, .ref b), (1, .ref (K 0)), (2, .ref (K 49)), (3, .ref (K 63)), (4, .int (nI i))] → W p l e room_1 s m args below meth c H locs (cells + 1) (slots + 6) Q (F0 m 1345 ls [])) : W p l e room_1 s m args below meth c H locs cells slots Q (F0 m 1056 ls []) := by
  obtain ⟨hx, hb, hml, hown, htw, hK, hlo, hΛ, hΜ, hO, hN, hn2, hn3, hX, hbl, hbA, hfl, hLn⟩ := C
  refine lv_aload_n hx hb d_L_law_1056 rfl (lv_at hl 1 rfl) ?_
  refine lw_arg hx hb hX hbl hbA hS (lv_at hl 0 rfl) (lv_at hl 4 rfl) 1 (by omega) hLn d_L_law_1057 d_L_law_1058 d_L_law_1060 (by decide) d_L_law_1061 d_L_law_1062 ?_
  refine lw_arg hx hb hX hbl hbA hS (lv_at hl 0 rfl) (lv_at hl 4 rfl) 2 (by omega) hLn d_L_law_1063 d_L_law_1064 d_L_law_1066 (by decide) d_L_law_1067 d_L_law_1068 ?_
  refine lv_aload_n hx hb d_L_law_1069 rfl (lv_at hl 3 rfl) ?_
  refine gl_goi (gl_runS (n := 4) (As := [.ref (K 0), .int (xs (i + 1)), .int (xs (i + 2)), .ref (K 63)]) (rest := []) hx hb hml hown htw gl_blind (gl_pre hP hK hS hN hn2 hn3) hl.1 (w_L_compare hfl hlo K (xs (i + 1)) (xs (i + 2)) hΛ hO L F A _ (hc (xs (i + 1)) (xs (i + 2)) F A L hI)) lq_w_compare lq_s_compare lq_ini (by decide +kernel) lq_l_compare ⟨Nat.le_of_ble_eq_true rfl, Nat.le_of_ble_eq_true rfl⟩ rfl rfl hf rfl rfl (Nat.le_of_ble_eq_true rfl) d_L_law_1070) hS (fun k_5 F_1 A_1 L_1 H locs hw hP hS => ?_)
  refine lv_istore (lv' := [(5, .int k_5), (0, .ref b), (1, .ref (K 0)), (2, .ref (K 49)), (3, .ref (K 63)), (4, .int (nI i))]) hx hb d_L_law_1073 hl (by decide) rfl (fun ls hl => ?_)
  refine lv_aload_n hx hb d_L_law_1075 rfl (lv_at hl 3 rfl) ?_
  refine lw_arg hx hb hX hbl hbA hS (lv_at hl 1 rfl) (lv_at hl 5 rfl) 1 (by omega) hLn d_L_law_1076 d_L_law_1077 d_L_law_1079 (by decide) d_L_law_1080 d_L_law_1081 ?_
  refine lw_arg hx hb hX hbl hbA hS (lv_at hl 1 rfl) (lv_at hl 5 rfl) 2 (by omega) hLn d_L_law_1082 d_L_law_1083 d_L_law_1085 (by decide) d_L_law_1086 d_L_law_1087 ?_
  refine gq_goi (gq_runV (As := [.int (xs (i + 1)), .int (xs (i + 2))]) (rest := []) hx hb hml hown htw hK hP hl.1 (w_M_compare hlo K (xs (i + 1)) (xs (i + 2)) hΜ F_1 A_1 _ hw) k_M_compare lq_m_compare ⟨Nat.le_of_ble_eq_true rfl, Nat.le_of_ble_eq_true rfl⟩ rfl rfl hf (gMd_0 hΜ) rfl rfl rfl (Nat.le_of_ble_eq_true rfl) d_L_law_1088) hS (fun r_6 F_2 A_2 H locs hw hP hS => ?_)
  refine lv_istore (lv' := [(6, .int r_6), (5, .int k_5), (0, .ref b), (1, .ref (K 0)), (2, .ref (K 49)), (3, .ref (K 63)), (4, .int (nI i))]) hx hb d_L_law_1091 hl (by decide) rfl (fun ls hl => ?_)
  refine lv_aload_n hx hb d_L_law_1093 rfl (lv_at hl 4 rfl) ?_
  refine gq_goi (gq_runV (As := []) (rest := []) hx hb hml hown htw hK hP hl.1 (w_M_thrown hlo K hΜ F_2 A_2 (fun r => r = F_2 (K 49) 0) rfl) k_M_thrown lq_m83 ⟨Nat.le_of_ble_eq_true rfl, Nat.le_of_ble_eq_true rfl⟩ rfl rfl hf (gMd_0 hΜ) rfl rfl rfl (Nat.le_of_ble_eq_true rfl) d_L_law_1094) hS (fun r_7 F_3 A_3 H locs hw3 hP hS => ?_)
  obtain ⟨rfl, rfl, rfl⟩ := hw3
  have fin : W p l e room_1 s m args below meth c H locs (cells + 1) (slots + 6) Q (F0 m 1121 ls []) := by
    refine lv_goto (tgt := 1345) hx hb d_L_law_1121 (by decide) ?_
    exact kk _ _ _ _ _ _ hw.2.2 hP hS (lv_sub hl [2, 3, 4, 5, 6] rfl)
  refine lv_iload hx hb d_L_law_1097 (lv_at hl 1 rfl) ?_
  refine lv_icmp_eq (tgt := 1104) hx hb d_L_law_1099 (by decide) (fun _ => ?_) (fun h => absurd hw.1 h)
  refine lv_iload hx hb d_L_law_1104 (lv_at hl 1 rfl) ?_
  refine lv_if_ne (tgt := 1121) hx hb d_L_law_1106 (by decide) (fun _ => fin) (fun hk => ?_)
  refine lv_aload_n hx hb d_L_law_1109 rfl (lv_at hl 5 rfl) ?_
  refine lv_iconst (v := nI 0) hx hb d_L_law_1110 (by decide) ?_
  refine gs_lld hx hb hK hP hO (vp_in_nI (by decide) (by decide)) d_L_law_1111 ?_
  refine lv_iload hx hb d_L_law_1112 (lv_at hl 0 rfl) ?_
  refine lv_i2l (v := r_6.toInt64) hx hb d_L_law_1114 rfl ?_
  exact gl_eq (tgt := 1121) hx hb d_L_law_1115 d_L_law_1116 (by decide) (fun _ => fin) (fun h => absurd (hw.2.1 hk) h)
set_option maxHeartbeats 4000000 in
set_option maxRecDepth 100000 in
theorem lw_small {p : Program} {l : Launch} {e : Env} {s : State} {m : MethodId} {args : Array Value} {below : List Frame} {meth : Method} {c : Code} {H : Heap} {locs : List Loc} {cells slots : Nat} {Q : State → Prop} {ls : Array Slot} {D : va_G} {Λ : gs_L} {F A : gm_M} {L : lm_M} {cI cB cJ cW : ClassId} {K : Nat → Nat} {b Ln i : Nat} {xs : Nat → Int32} (C : lw_C p l s m c args b Ln xs Λ D cI cB cJ cW K) {Inv : gm_M → gm_M → lm_M → Prop} (hc : lc_small K Inv) (hI : Inv F A L) (hP : va_P D gcls (gs_ws Λ F A L) H) (hS : va_S (gw_A Λ) s.heap H locs) (hi : i + 6 ≤ Ln) (hl : lv_has ls 8 [(0, .ref b), (1, .ref (K 0)), (2, .ref (K 49)), (3, .ref (K 63)), (4, .int (nI i))]) (hf : cells + 1 ≤ 601024 ∧ slots + 6 ≤ 7293034) (kk : ∀ (F A : gm_M) (L : lm_M) (H : Heap) (locs : List Loc) (ls : Array Slot), Inv F A L → va_P D gcls (gs_ws Λ F A L) H → va_S (gw_A Λ) s.heap H locs → lv_has ls 8 [(0, .ref b), (1, .ref (K 0)), (2, .ref (K 49)), (3, .ref (K 63)), (4, .int (nI i))] → W p l e room_1 s m args below meth c H locs (cells + 1) (slots + 6) Q (F0 m 1345 ls [])) : W p l e room_1 s m args below meth c H locs cells slots Q (F0 m 1124 ls []) := by
  obtain ⟨hx, hb, hml, hown, htw, hK, hlo, hΛ, hΜ, hO, hN, hn2, hn3, hX, hbl, hbA, hfl, hLn⟩ := C
  refine lv_aload_n hx hb d_L_law_1124 rfl (lv_at hl 1 rfl) ?_
  refine lw_arg hx hb hX hbl hbA hS (lv_at hl 0 rfl) (lv_at hl 4 rfl) 1 (by omega) hLn d_L_law_1125 d_L_law_1126 d_L_law_1128 (by decide) d_L_law_1129 d_L_law_1130 ?_
  refine lv_aload_n hx hb d_L_law_1131 rfl (lv_at hl 3 rfl) ?_
  refine gl_goi (gl_runS (n := 3) (As := [.ref (K 0), .int (xs (i + 1)), .ref (K 63)]) (rest := []) hx hb hml hown htw gl_blind (gl_pre hP hK hS hN hn2 hn3) hl.1 (w_L_small hfl hlo K (xs (i + 1)) hΛ hO L F A _ (hc (xs (i + 1)) F A L hI)) lq_w_small lq_s_small lq_ini (by decide +kernel) lq_l_small ⟨Nat.le_of_ble_eq_true rfl, Nat.le_of_ble_eq_true rfl⟩ rfl rfl hf rfl rfl (Nat.le_of_ble_eq_true rfl) d_L_law_1132) hS (fun k_5 F_1 A_1 L_1 H locs hw hP hS => ?_)
  refine lv_istore (lv' := [(5, .int k_5), (0, .ref b), (1, .ref (K 0)), (2, .ref (K 49)), (3, .ref (K 63)), (4, .int (nI i))]) hx hb d_L_law_1135 hl (by decide) rfl (fun ls hl => ?_)
  refine lv_aload_n hx hb d_L_law_1137 rfl (lv_at hl 3 rfl) ?_
  refine lw_arg hx hb hX hbl hbA hS (lv_at hl 1 rfl) (lv_at hl 5 rfl) 1 (by omega) hLn d_L_law_1138 d_L_law_1139 d_L_law_1141 (by decide) d_L_law_1142 d_L_law_1143 ?_
  refine gq_gol (gq_runV (As := [.int (xs (i + 1))]) (rest := []) hx hb hml hown htw hK hP hl.1 (w_M_small hlo K (xs (i + 1)) hΜ F_1 A_1 _ hw) k_M_small lq_m_small ⟨Nat.le_of_ble_eq_true rfl, Nat.le_of_ble_eq_true rfl⟩ rfl rfl hf (gMd_0 hΜ) rfl rfl rfl (Nat.le_of_ble_eq_true rfl) d_L_law_1144) hS (fun r_6 F_2 A_2 H locs hw hP hS => ?_)
  refine lv_lstore (lv' := [(6, .long r_6), (5, .int k_5), (0, .ref b), (1, .ref (K 0)), (2, .ref (K 49)), (3, .ref (K 63)), (4, .int (nI i))]) hx hb d_L_law_1147 hl (by decide) rfl (fun ls hl => ?_)
  refine lv_aload_n hx hb d_L_law_1149 rfl (lv_at hl 4 rfl) ?_
  refine gq_goi (gq_runV (As := []) (rest := []) hx hb hml hown htw hK hP hl.1 (w_M_thrown hlo K hΜ F_2 A_2 (fun r => r = F_2 (K 49) 0) rfl) k_M_thrown lq_m83 ⟨Nat.le_of_ble_eq_true rfl, Nat.le_of_ble_eq_true rfl⟩ rfl rfl hf (gMd_0 hΜ) rfl rfl rfl (Nat.le_of_ble_eq_true rfl) d_L_law_1150) hS (fun r_7 F_3 A_3 H locs hw3 hP hS => ?_)
  obtain ⟨rfl, rfl, rfl⟩ := hw3
  have fin : W p l e room_1 s m args below meth c H locs (cells + 1) (slots + 6) Q (F0 m 1176 ls []) := by
    refine lv_goto (tgt := 1345) hx hb d_L_law_1176 (by decide) ?_
    exact kk _ _ _ _ _ _ hw.2.2 hP hS (lv_sub hl [2, 3, 4, 5, 6] rfl)
  refine lv_iload hx hb d_L_law_1153 (lv_at hl 1 rfl) ?_
  refine lv_icmp_eq (tgt := 1160) hx hb d_L_law_1155 (by decide) (fun _ => ?_) (fun h => absurd hw.1 h)
  refine lv_iload hx hb d_L_law_1160 (lv_at hl 1 rfl) ?_
  refine lv_if_ne (tgt := 1176) hx hb d_L_law_1162 (by decide) (fun _ => fin) (fun hk => ?_)
  refine lv_aload_n hx hb d_L_law_1165 rfl (lv_at hl 5 rfl) ?_
  refine lv_iconst (v := nI 0) hx hb d_L_law_1166 (by decide) ?_
  refine gs_lld hx hb hK hP hO (vp_in_nI (by decide) (by decide)) d_L_law_1167 ?_
  refine lv_lload hx hb d_L_law_1168 (lv_at hl 0 rfl) ?_
  exact gl_eq (tgt := 1176) hx hb d_L_law_1170 d_L_law_1171 (by decide) (fun _ => fin) (fun h => absurd (hw.2.1 hk) h)
set_option maxHeartbeats 4000000 in
set_option maxRecDepth 100000 in
theorem lw_low {p : Program} {l : Launch} {e : Env} {s : State} {m : MethodId} {args : Array Value} {below : List Frame} {meth : Method} {c : Code} {H : Heap} {locs : List Loc} {cells slots : Nat} {Q : State → Prop} {ls : Array Slot} {D : va_G} {Λ : gs_L} {F A : gm_M} {L : lm_M} {cI cB cJ cW : ClassId} {K : Nat → Nat} {b Ln i : Nat} {xs : Nat → Int32} (C : lw_C p l s m c args b Ln xs Λ D cI cB cJ cW K) {Inv : gm_M → gm_M → lm_M → Prop} (hc : lc_low K Inv) (hI : Inv F A L) (hP : va_P D gcls (gs_ws Λ F A L) H) (hS : va_S (gw_A Λ) s.heap H locs) (hi : i + 6 ≤ Ln) (hl : lv_has ls 8 [(0, .ref b), (1, .ref (K 0)), (2, .ref (K 49)), (3, .ref (K 63)), (4, .int (nI i))]) (hf : cells + 1 ≤ 601024 ∧ slots + 6 ≤ 7293034) (kk : ∀ (F A : gm_M) (L : lm_M) (H : Heap) (locs : List Loc) (ls : Array Slot), Inv F A L → va_P D gcls (gs_ws Λ F A L) H → va_S (gw_A Λ) s.heap H locs → lv_has ls 8 [(0, .ref b), (1, .ref (K 0)), (2, .ref (K 49)), (3, .ref (K 63)), (4, .int (nI i))] → W p l e room_1 s m args below meth c H locs (cells + 1) (slots + 6) Q (F0 m 1345 ls [])) : W p l e room_1 s m args below meth c H locs cells slots Q (F0 m 1179 ls []) := by
  obtain ⟨hx, hb, hml, hown, htw, hK, hlo, hΛ, hΜ, hO, hN, hn2, hn3, hX, hbl, hbA, hfl, hLn⟩ := C
  refine lv_aload_n hx hb d_L_law_1179 rfl (lv_at hl 1 rfl) ?_
  refine lw_arg hx hb hX hbl hbA hS (lv_at hl 0 rfl) (lv_at hl 4 rfl) 1 (by omega) hLn d_L_law_1180 d_L_law_1181 d_L_law_1183 (by decide) d_L_law_1184 d_L_law_1185 ?_
  refine lv_aload_n hx hb d_L_law_1186 rfl (lv_at hl 3 rfl) ?_
  refine gl_goi (gl_runS (n := 3) (As := [.ref (K 0), .int (xs (i + 1)), .ref (K 63)]) (rest := []) hx hb hml hown htw gl_blind (gl_pre hP hK hS hN hn2 hn3) hl.1 (w_L_low hfl hlo K (xs (i + 1)) hΛ hO L F A _ (hc (xs (i + 1)) F A L hI)) lq_w_low lq_s_low lq_ini (by decide +kernel) lq_l_low ⟨Nat.le_of_ble_eq_true rfl, Nat.le_of_ble_eq_true rfl⟩ rfl rfl hf rfl rfl (Nat.le_of_ble_eq_true rfl) d_L_law_1187) hS (fun k_5 F_1 A_1 L_1 H locs hw hP hS => ?_)
  refine lv_istore (lv' := [(5, .int k_5), (0, .ref b), (1, .ref (K 0)), (2, .ref (K 49)), (3, .ref (K 63)), (4, .int (nI i))]) hx hb d_L_law_1190 hl (by decide) rfl (fun ls hl => ?_)
  refine lv_aload_n hx hb d_L_law_1192 rfl (lv_at hl 3 rfl) ?_
  refine lw_arg hx hb hX hbl hbA hS (lv_at hl 1 rfl) (lv_at hl 5 rfl) 1 (by omega) hLn d_L_law_1193 d_L_law_1194 d_L_law_1196 (by decide) d_L_law_1197 d_L_law_1198 ?_
  refine gq_gol (gq_runV (As := [.int (xs (i + 1))]) (rest := []) hx hb hml hown htw hK hP hl.1 (w_M_low hlo K (xs (i + 1)) hΜ F_1 A_1 _ hw) k_M_low lq_m_low ⟨Nat.le_of_ble_eq_true rfl, Nat.le_of_ble_eq_true rfl⟩ rfl rfl hf (gMd_0 hΜ) rfl rfl rfl (Nat.le_of_ble_eq_true rfl) d_L_law_1199) hS (fun r_6 F_2 A_2 H locs hw hP hS => ?_)
  refine lv_lstore (lv' := [(6, .long r_6), (5, .int k_5), (0, .ref b), (1, .ref (K 0)), (2, .ref (K 49)), (3, .ref (K 63)), (4, .int (nI i))]) hx hb d_L_law_1202 hl (by decide) rfl (fun ls hl => ?_)
  refine lv_aload_n hx hb d_L_law_1204 rfl (lv_at hl 4 rfl) ?_
  refine gq_goi (gq_runV (As := []) (rest := []) hx hb hml hown htw hK hP hl.1 (w_M_thrown hlo K hΜ F_2 A_2 (fun r => r = F_2 (K 49) 0) rfl) k_M_thrown lq_m83 ⟨Nat.le_of_ble_eq_true rfl, Nat.le_of_ble_eq_true rfl⟩ rfl rfl hf (gMd_0 hΜ) rfl rfl rfl (Nat.le_of_ble_eq_true rfl) d_L_law_1205) hS (fun r_7 F_3 A_3 H locs hw3 hP hS => ?_)
  obtain ⟨rfl, rfl, rfl⟩ := hw3
  have fin : W p l e room_1 s m args below meth c H locs (cells + 1) (slots + 6) Q (F0 m 1231 ls []) := by
    refine lv_goto (tgt := 1345) hx hb d_L_law_1231 (by decide) ?_
    exact kk _ _ _ _ _ _ hw.2.2 hP hS (lv_sub hl [2, 3, 4, 5, 6] rfl)
  refine lv_iload hx hb d_L_law_1208 (lv_at hl 1 rfl) ?_
  refine lv_icmp_eq (tgt := 1215) hx hb d_L_law_1210 (by decide) (fun _ => ?_) (fun h => absurd hw.1 h)
  refine lv_iload hx hb d_L_law_1215 (lv_at hl 1 rfl) ?_
  refine lv_if_ne (tgt := 1231) hx hb d_L_law_1217 (by decide) (fun _ => fin) (fun hk => ?_)
  refine lv_aload_n hx hb d_L_law_1220 rfl (lv_at hl 5 rfl) ?_
  refine lv_iconst (v := nI 0) hx hb d_L_law_1221 (by decide) ?_
  refine gs_lld hx hb hK hP hO (vp_in_nI (by decide) (by decide)) d_L_law_1222 ?_
  refine lv_lload hx hb d_L_law_1223 (lv_at hl 0 rfl) ?_
  exact gl_eq (tgt := 1231) hx hb d_L_law_1225 d_L_law_1226 (by decide) (fun _ => fin) (fun h => absurd (hw.2.1 hk) h)
set_option maxHeartbeats 4000000 in
set_option maxRecDepth 100000 in
theorem lw_folded {p : Program} {l : Launch} {e : Env} {s : State} {m : MethodId} {args : Array Value} {below : List Frame} {meth : Method} {c : Code} {H : Heap} {locs : List Loc} {cells slots : Nat} {Q : State → Prop} {ls : Array Slot} {D : va_G} {Λ : gs_L} {F A : gm_M} {L : lm_M} {cI cB cJ cW : ClassId} {K : Nat → Nat} {b Ln i : Nat} {xs : Nat → Int32} (C : lw_C p l s m c args b Ln xs Λ D cI cB cJ cW K) {Inv : gm_M → gm_M → lm_M → Prop} (hc : lc_folded K Inv) (hI : Inv F A L) (hP : va_P D gcls (gs_ws Λ F A L) H) (hS : va_S (gw_A Λ) s.heap H locs) (hi : i + 6 ≤ Ln) (hl : lv_has ls 8 [(0, .ref b), (1, .ref (K 0)), (2, .ref (K 49)), (3, .ref (K 63)), (4, .int (nI i))]) (hf : cells + 1 ≤ 601024 ∧ slots + 6 ≤ 7293034) (kk : ∀ (F A : gm_M) (L : lm_M) (H : Heap) (locs : List Loc) (ls : Array Slot), Inv F A L → va_P D gcls (gs_ws Λ F A L) H → va_S (gw_A Λ) s.heap H locs → lv_has ls 8 [(0, .ref b), (1, .ref (K 0)), (2, .ref (K 49)), (3, .ref (K 63)), (4, .int (nI i))] → W p l e room_1 s m args below meth c H locs (cells + 1) (slots + 6) Q (F0 m 1345 ls [])) : W p l e room_1 s m args below meth c H locs cells slots Q (F0 m 1234 ls []) := by
  obtain ⟨hx, hb, hml, hown, htw, hK, hlo, hΛ, hΜ, hO, hN, hn2, hn3, hX, hbl, hbA, hfl, hLn⟩ := C
  refine lv_aload_n hx hb d_L_law_1234 rfl (lv_at hl 1 rfl) ?_
  refine lw_arg hx hb hX hbl hbA hS (lv_at hl 0 rfl) (lv_at hl 4 rfl) 1 (by omega) hLn d_L_law_1235 d_L_law_1236 d_L_law_1238 (by decide) d_L_law_1239 d_L_law_1240 ?_
  refine lv_aload_n hx hb d_L_law_1241 rfl (lv_at hl 3 rfl) ?_
  refine gl_goi (gl_runS (n := 3) (As := [.ref (K 0), .int (xs (i + 1)), .ref (K 63)]) (rest := []) hx hb hml hown htw gl_blind (gl_pre hP hK hS hN hn2 hn3) hl.1 (w_L_folded hfl hlo K (xs (i + 1)) hΛ hO L F A _ (hc (xs (i + 1)) F A L hI)) lq_w_folded lq_s_folded lq_ini (by decide +kernel) lq_l_folded ⟨Nat.le_of_ble_eq_true rfl, Nat.le_of_ble_eq_true rfl⟩ rfl rfl hf rfl rfl (Nat.le_of_ble_eq_true rfl) d_L_law_1242) hS (fun k_5 F_1 A_1 L_1 H locs hw hP hS => ?_)
  refine lv_istore (lv' := [(5, .int k_5), (0, .ref b), (1, .ref (K 0)), (2, .ref (K 49)), (3, .ref (K 63)), (4, .int (nI i))]) hx hb d_L_law_1245 hl (by decide) rfl (fun ls hl => ?_)
  refine lv_aload_n hx hb d_L_law_1247 rfl (lv_at hl 3 rfl) ?_
  refine lw_arg hx hb hX hbl hbA hS (lv_at hl 1 rfl) (lv_at hl 5 rfl) 1 (by omega) hLn d_L_law_1248 d_L_law_1249 d_L_law_1251 (by decide) d_L_law_1252 d_L_law_1253 ?_
  refine gq_gol (gq_runV (As := [.int (xs (i + 1))]) (rest := []) hx hb hml hown htw hK hP hl.1 (w_M_folded hlo K (xs (i + 1)) hΜ F_1 A_1 _ hw) k_M_folded lq_m_folded ⟨Nat.le_of_ble_eq_true rfl, Nat.le_of_ble_eq_true rfl⟩ rfl rfl hf (gMd_0 hΜ) rfl rfl rfl (Nat.le_of_ble_eq_true rfl) d_L_law_1254) hS (fun r_6 F_2 A_2 H locs hw hP hS => ?_)
  refine lv_lstore (lv' := [(6, .long r_6), (5, .int k_5), (0, .ref b), (1, .ref (K 0)), (2, .ref (K 49)), (3, .ref (K 63)), (4, .int (nI i))]) hx hb d_L_law_1257 hl (by decide) rfl (fun ls hl => ?_)
  refine lv_aload_n hx hb d_L_law_1259 rfl (lv_at hl 4 rfl) ?_
  refine gq_goi (gq_runV (As := []) (rest := []) hx hb hml hown htw hK hP hl.1 (w_M_thrown hlo K hΜ F_2 A_2 (fun r => r = F_2 (K 49) 0) rfl) k_M_thrown lq_m83 ⟨Nat.le_of_ble_eq_true rfl, Nat.le_of_ble_eq_true rfl⟩ rfl rfl hf (gMd_0 hΜ) rfl rfl rfl (Nat.le_of_ble_eq_true rfl) d_L_law_1260) hS (fun r_7 F_3 A_3 H locs hw3 hP hS => ?_)
  obtain ⟨rfl, rfl, rfl⟩ := hw3
  have fin : W p l e room_1 s m args below meth c H locs (cells + 1) (slots + 6) Q (F0 m 1286 ls []) := by
    refine lv_goto (tgt := 1345) hx hb d_L_law_1286 (by decide) ?_
    exact kk _ _ _ _ _ _ hw.2.2 hP hS (lv_sub hl [2, 3, 4, 5, 6] rfl)
  refine lv_iload hx hb d_L_law_1263 (lv_at hl 1 rfl) ?_
  refine lv_icmp_eq (tgt := 1270) hx hb d_L_law_1265 (by decide) (fun _ => ?_) (fun h => absurd hw.1 h)
  refine lv_iload hx hb d_L_law_1270 (lv_at hl 1 rfl) ?_
  refine lv_if_ne (tgt := 1286) hx hb d_L_law_1272 (by decide) (fun _ => fin) (fun hk => ?_)
  refine lv_aload_n hx hb d_L_law_1275 rfl (lv_at hl 5 rfl) ?_
  refine lv_iconst (v := nI 0) hx hb d_L_law_1276 (by decide) ?_
  refine gs_lld hx hb hK hP hO (vp_in_nI (by decide) (by decide)) d_L_law_1277 ?_
  refine lv_lload hx hb d_L_law_1278 (lv_at hl 0 rfl) ?_
  exact gl_eq (tgt := 1286) hx hb d_L_law_1280 d_L_law_1281 (by decide) (fun _ => fin) (fun h => absurd (hw.2.1 hk) h)
set_option maxHeartbeats 4000000 in
set_option maxRecDepth 100000 in
theorem lw_size {p : Program} {l : Launch} {e : Env} {s : State} {m : MethodId} {args : Array Value} {below : List Frame} {meth : Method} {c : Code} {H : Heap} {locs : List Loc} {cells slots : Nat} {Q : State → Prop} {ls : Array Slot} {D : va_G} {Λ : gs_L} {F A : gm_M} {L : lm_M} {cI cB cJ cW : ClassId} {K : Nat → Nat} {b Ln i : Nat} {xs : Nat → Int32} (C : lw_C p l s m c args b Ln xs Λ D cI cB cJ cW K) {Inv : gm_M → gm_M → lm_M → Prop} (hc : lc_size K Inv) (hI : Inv F A L) (hP : va_P D gcls (gs_ws Λ F A L) H) (hS : va_S (gw_A Λ) s.heap H locs) (hi : i + 6 ≤ Ln) (hl : lv_has ls 8 [(0, .ref b), (1, .ref (K 0)), (2, .ref (K 49)), (3, .ref (K 63)), (4, .int (nI i))]) (hf : cells + 1 ≤ 601024 ∧ slots + 6 ≤ 7293034) (kk : ∀ (F A : gm_M) (L : lm_M) (H : Heap) (locs : List Loc) (ls : Array Slot), Inv F A L → va_P D gcls (gs_ws Λ F A L) H → va_S (gw_A Λ) s.heap H locs → lv_has ls 8 [(0, .ref b), (1, .ref (K 0)), (2, .ref (K 49)), (3, .ref (K 63)), (4, .int (nI i))] → W p l e room_1 s m args below meth c H locs (cells + 1) (slots + 6) Q (F0 m 1345 ls [])) : W p l e room_1 s m args below meth c H locs cells slots Q (F0 m 1289 ls []) := by
  obtain ⟨hx, hb, hml, hown, htw, hK, hlo, hΛ, hΜ, hO, hN, hn2, hn3, hX, hbl, hbA, hfl, hLn⟩ := C
  refine lv_aload_n hx hb d_L_law_1289 rfl (lv_at hl 1 rfl) ?_
  refine lw_arg hx hb hX hbl hbA hS (lv_at hl 0 rfl) (lv_at hl 4 rfl) 1 (by omega) hLn d_L_law_1290 d_L_law_1291 d_L_law_1293 (by decide) d_L_law_1294 d_L_law_1295 ?_
  refine lv_aload_n hx hb d_L_law_1296 rfl (lv_at hl 3 rfl) ?_
  refine gl_goi (gl_runS (n := 3) (As := [.ref (K 0), .int (xs (i + 1)), .ref (K 63)]) (rest := []) hx hb hml hown htw gl_blind (gl_pre hP hK hS hN hn2 hn3) hl.1 (w_L_size hfl hlo K (xs (i + 1)) hΛ hO L F A _ (hc (xs (i + 1)) F A L hI)) lq_w_size lq_s_size lq_ini (by decide +kernel) lq_l_size ⟨Nat.le_of_ble_eq_true rfl, Nat.le_of_ble_eq_true rfl⟩ rfl rfl hf rfl rfl (Nat.le_of_ble_eq_true rfl) d_L_law_1297) hS (fun k_5 F_1 A_1 L_1 H locs hw hP hS => ?_)
  refine lv_istore (lv' := [(5, .int k_5), (0, .ref b), (1, .ref (K 0)), (2, .ref (K 49)), (3, .ref (K 63)), (4, .int (nI i))]) hx hb d_L_law_1300 hl (by decide) rfl (fun ls hl => ?_)
  refine lv_aload_n hx hb d_L_law_1302 rfl (lv_at hl 3 rfl) ?_
  refine lw_arg hx hb hX hbl hbA hS (lv_at hl 1 rfl) (lv_at hl 5 rfl) 1 (by omega) hLn d_L_law_1303 d_L_law_1304 d_L_law_1306 (by decide) d_L_law_1307 d_L_law_1308 ?_
  refine gq_goi (gq_runV (As := [.int (xs (i + 1))]) (rest := []) hx hb hml hown htw hK hP hl.1 (w_M_size hlo K (xs (i + 1)) hΜ F_1 A_1 _ hw) k_M_size lq_m_size ⟨Nat.le_of_ble_eq_true rfl, Nat.le_of_ble_eq_true rfl⟩ rfl rfl hf (gMd_0 hΜ) rfl rfl rfl (Nat.le_of_ble_eq_true rfl) d_L_law_1309) hS (fun r_6 F_2 A_2 H locs hw hP hS => ?_)
  refine lv_istore (lv' := [(6, .int r_6), (5, .int k_5), (0, .ref b), (1, .ref (K 0)), (2, .ref (K 49)), (3, .ref (K 63)), (4, .int (nI i))]) hx hb d_L_law_1312 hl (by decide) rfl (fun ls hl => ?_)
  refine lv_aload_n hx hb d_L_law_1314 rfl (lv_at hl 4 rfl) ?_
  refine gq_goi (gq_runV (As := []) (rest := []) hx hb hml hown htw hK hP hl.1 (w_M_thrown hlo K hΜ F_2 A_2 (fun r => r = F_2 (K 49) 0) rfl) k_M_thrown lq_m83 ⟨Nat.le_of_ble_eq_true rfl, Nat.le_of_ble_eq_true rfl⟩ rfl rfl hf (gMd_0 hΜ) rfl rfl rfl (Nat.le_of_ble_eq_true rfl) d_L_law_1315) hS (fun r_7 F_3 A_3 H locs hw3 hP hS => ?_)
  obtain ⟨rfl, rfl, rfl⟩ := hw3
  have fin : W p l e room_1 s m args below meth c H locs (cells + 1) (slots + 6) Q (F0 m 1342 ls []) := by
    refine lv_goto (tgt := 1345) hx hb d_L_law_1342 (by decide) ?_
    exact kk _ _ _ _ _ _ hw.2.2 hP hS (lv_sub hl [2, 3, 4, 5, 6] rfl)
  refine lv_iload hx hb d_L_law_1318 (lv_at hl 1 rfl) ?_
  refine lv_icmp_eq (tgt := 1325) hx hb d_L_law_1320 (by decide) (fun _ => ?_) (fun h => absurd hw.1 h)
  refine lv_iload hx hb d_L_law_1325 (lv_at hl 1 rfl) ?_
  refine lv_if_ne (tgt := 1342) hx hb d_L_law_1327 (by decide) (fun _ => fin) (fun hk => ?_)
  refine lv_aload_n hx hb d_L_law_1330 rfl (lv_at hl 5 rfl) ?_
  refine lv_iconst (v := nI 0) hx hb d_L_law_1331 (by decide) ?_
  refine gs_lld hx hb hK hP hO (vp_in_nI (by decide) (by decide)) d_L_law_1332 ?_
  refine lv_iload hx hb d_L_law_1333 (lv_at hl 0 rfl) ?_
  refine lv_i2l (v := r_6.toInt64) hx hb d_L_law_1335 rfl ?_
  exact gl_eq (tgt := 1342) hx hb d_L_law_1336 d_L_law_1337 (by decide) (fun _ => fin) (fun h => absurd (hw.2.1 hk) h)

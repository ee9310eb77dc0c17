/-! the law: each of its calls -/
theorem wfs_st {w : SH} (h : WfS w) (st : Int32) : WfS (st, w.2) := h
theorem ixw {i k : Nat} {x : Int32} (hx : x = nI k) (h : i + k < 2147483648) : (nI i + x).toInt = ((i + k : Nat) : Int) := by rw [hx, ni_add]; exact nT h
section Calls
variable {L i : Nat} {xs : Nat → Int32} {h : HH} {w : SH} {P : TP} {E : ST2} {A : LA} {T : TS} {R : RS} {G : GL2} {W : WA} {pt : PT} {fl : Int32}
theorem lw_c_sheet (hi : i + 6 ≤ L) (hL : L ≤ 3072) (hf : WF w P A T R G W pt) (hx : RX w P E A T R G W pt fl h) (hm : RM w P E A T R G W pt fl h) (K : ∀ (w : SH) (P : TP) (E : ST2) (A : LA) (T : TS) (R : RS) (G : GL2) (W : WA) (pt : PT) (fl : Int32) (h' : HH), WF w P A T R G W pt → RX w P E A T R G W pt fl h' → RM w P E A T R G W pt fl h' → GG (EL L xs) 75 216376 1306 [hX, .ref 0, .ref 44, .int (nI i)] [] h') : GG (EL L xs) 75 216376 188 [hX, .ref 0, .ref 44, .int (nI i)] [] h := by
  have e0 := hx.1.1.1
  obtain ⟨fS, fP, fA, fT, fR, fG, fW, fQ⟩ := id hf
  refine g_aload_n (i := 1) dL_law_188 rfl rfl ?_
  refine g_aload_x dL_law_189 rfl rfl ?_
  refine g_iload_n (i := 3) dL_law_190 rfl rfl ?_
  refine g_iconst (v := 1) dL_law_191 (by decide) ?_
  refine g_iadd dL_law_192 ?_
  refine g_sld dL_law_193 xl_3 (ixw (k := 1) rfl (by omega)) (by omega) ?_
  refine g_aload_x dL_law_194 rfl rfl ?_
  refine g_iload_n (i := 3) dL_law_195 rfl rfl ?_
  refine g_iconst (v := 2) dL_law_196 (by decide) ?_
  refine g_iadd dL_law_197 ?_
  refine g_sld dL_law_198 xl_3 (ixw (k := 2) rfl (by omega)) (by omega) ?_
  refine g_aload_x dL_law_199 rfl rfl ?_
  refine g_iload_n (i := 3) dL_law_200 rfl rfl ?_
  refine g_iconst (v := 3) dL_law_201 (by decide) ?_
  refine g_iadd dL_law_202 ?_
  refine g_sld dL_law_203 xl_3 (ixw (k := 3) rfl (by omega)) (by omega) ?_
  refine g_callV (M' := mX7_sheet) dL_law_204 lc_X7_sheet ml_L_13 (xo_sheet hf hx _ _ _) rfl rfl (by repeat' (first | assumption | exact rF_eq | refine rF_ne (by decide) ?_ | refine rF_a ?_ | exact rA_eq | refine rA_ne (by decide) ?_ | refine rA_f ?_)) rfl ⟨Nat.le_of_ble_eq_true rfl, Nat.le_of_ble_eq_true rfl, Nat.le_of_ble_eq_true rfl, Nat.le_of_ble_eq_true rfl⟩ (Nat.le_of_ble_eq_true rfl) ?_
  intro r_ h_ q_; obtain ⟨rfl, x1, x2⟩ := q_
  have hm2 := rm_lo hm x2
  have e44 := hm2.2.1.1
  refine g_aload_n (i := 2) dL_law_207 rfl rfl ?_
  refine g_aload_x dL_law_208 rfl rfl ?_
  refine g_iload_n (i := 3) dL_law_209 rfl rfl ?_
  refine g_iconst (v := 1) dL_law_210 (by decide) ?_
  refine g_iadd dL_law_211 ?_
  refine g_sld dL_law_212 xl_3 (ixw (k := 1) rfl (by omega)) (by omega) ?_
  refine g_aload_x dL_law_213 rfl rfl ?_
  refine g_iload_n (i := 3) dL_law_214 rfl rfl ?_
  refine g_iconst (v := 2) dL_law_215 (by decide) ?_
  refine g_iadd dL_law_216 ?_
  refine g_sld dL_law_217 xl_3 (ixw (k := 2) rfl (by omega)) (by omega) ?_
  refine g_aload_x dL_law_218 rfl rfl ?_
  refine g_iload_n (i := 3) dL_law_219 rfl rfl ?_
  refine g_iconst (v := 3) dL_law_220 (by decide) ?_
  refine g_iadd dL_law_221 ?_
  refine g_sld dL_law_222 xl_3 (ixw (k := 3) rfl (by omega)) (by omega) ?_
  refine g_callV (M' := mX8_sheet) dL_law_223 lc_X8_sheet ml_L_17 (mo_sheet hf hm2 _ _ _) rfl rfl (by repeat' (first | assumption | exact rF_eq | refine rF_ne (by decide) ?_ | refine rF_a ?_ | exact rA_eq | refine rA_ne (by decide) ?_ | refine rA_f ?_)) rfl ⟨Nat.le_of_ble_eq_true rfl, Nat.le_of_ble_eq_true rfl, Nat.le_of_ble_eq_true rfl, Nat.le_of_ble_eq_true rfl⟩ (Nat.le_of_ble_eq_true rfl) ?_
  intro r_ h_ q_; obtain ⟨rfl, y1, y2⟩ := q_
  have hx2 := rx_hi x1 y2
  refine g_icmp_eq (tgt := 1306) dL_law_226 (by decide) (fun hc226 => ?_) (fun hc226 => ?_)
  · have hd226 := i_eq.mp hc226; (try simp (disch := omega) only [nT, t_m1000100, t_m1000010, t_m1000003, t_m1000002, t_m1000001, t_m1000000, t_m65535, t_m1000, t_m3, t_m1, t_0, t_1, t_2, t_3, t_4, t_5, t_6, t_7, t_8, t_9, t_10, t_11, t_12, t_13, t_15, t_16, t_20, t_21, t_22, t_32, t_40, t_41, t_48, t_49, t_57, t_59, t_60, t_63, t_72, t_76, t_88, t_100, t_144, t_200, t_255, t_288, t_400, t_800, t_999, t_1000, t_1024, t_1200, t_1600, t_3200, t_100000, t_200000, t_252645135, t_858993459, t_1431655765, u_m1000002, u_m1000001, u_m1000, u_m3, u_m1, u_0, u_1, u_2, u_3, u_4, u_5, u_7, u_8, u_10, u_11, u_15, u_60, u_100, u_255, u_999, u_1000, u_100000, u_4294967295] at hd226)
    exact K _ _ _ _ _ _ _ _ _ _ _ ⟨wf_sheet fS _ _ _, fP, fA, fT, fR, fG, fW, fQ⟩ hx2 y1
  · have hd226 := mt i_eq.mpr hc226; (try simp (disch := omega) only [nT, t_m1000100, t_m1000010, t_m1000003, t_m1000002, t_m1000001, t_m1000000, t_m65535, t_m1000, t_m3, t_m1, t_0, t_1, t_2, t_3, t_4, t_5, t_6, t_7, t_8, t_9, t_10, t_11, t_12, t_13, t_15, t_16, t_20, t_21, t_22, t_32, t_40, t_41, t_48, t_49, t_57, t_59, t_60, t_63, t_72, t_76, t_88, t_100, t_144, t_200, t_255, t_288, t_400, t_800, t_999, t_1000, t_1024, t_1200, t_1600, t_3200, t_100000, t_200000, t_252645135, t_858993459, t_1431655765, u_m1000002, u_m1000001, u_m1000, u_m3, u_m1, u_0, u_1, u_2, u_3, u_4, u_5, u_7, u_8, u_10, u_11, u_15, u_60, u_100, u_255, u_999, u_1000, u_100000, u_4294967295] at hd226); exact absurd rfl hc226
theorem lw_c_set (hi : i + 6 ≤ L) (hL : L ≤ 3072) (hf : WF w P A T R G W pt) (hx : RX w P E A T R G W pt fl h) (hm : RM w P E A T R G W pt fl h) (K : ∀ (w : SH) (P : TP) (E : ST2) (A : LA) (T : TS) (R : RS) (G : GL2) (W : WA) (pt : PT) (fl : Int32) (h' : HH), WF w P A T R G W pt → RX w P E A T R G W pt fl h' → RM w P E A T R G W pt fl h' → GG (EL L xs) 75 216376 1306 [hX, .ref 0, .ref 44, .int (nI i)] [] h') : GG (EL L xs) 75 216376 231 [hX, .ref 0, .ref 44, .int (nI i)] [] h := by
  have e0 := hx.1.1.1
  obtain ⟨fS, fP, fA, fT, fR, fG, fW, fQ⟩ := id hf
  refine g_aload_n (i := 1) dL_law_231 rfl rfl ?_
  refine g_aload_x dL_law_232 rfl rfl ?_
  refine g_iload_n (i := 3) dL_law_233 rfl rfl ?_
  refine g_iconst (v := 1) dL_law_234 (by decide) ?_
  refine g_iadd dL_law_235 ?_
  refine g_sld dL_law_236 xl_3 (ixw (k := 1) rfl (by omega)) (by omega) ?_
  refine g_aload_x dL_law_237 rfl rfl ?_
  refine g_iload_n (i := 3) dL_law_238 rfl rfl ?_
  refine g_iconst (v := 2) dL_law_239 (by decide) ?_
  refine g_iadd dL_law_240 ?_
  refine g_sld dL_law_241 xl_3 (ixw (k := 2) rfl (by omega)) (by omega) ?_
  refine g_aload_x dL_law_242 rfl rfl ?_
  refine g_iload_n (i := 3) dL_law_243 rfl rfl ?_
  refine g_iconst (v := 3) dL_law_244 (by decide) ?_
  refine g_iadd dL_law_245 ?_
  refine g_sld dL_law_246 xl_3 (ixw (k := 3) rfl (by omega)) (by omega) ?_
  refine g_callV (M' := mX7_set) dL_law_247 lc_X7_set ml_L_18 (xo_set hf hx _ _ _) rfl rfl (by repeat' (first | assumption | exact rF_eq | refine rF_ne (by decide) ?_ | refine rF_a ?_ | exact rA_eq | refine rA_ne (by decide) ?_ | refine rA_f ?_)) rfl ⟨Nat.le_of_ble_eq_true rfl, Nat.le_of_ble_eq_true rfl, Nat.le_of_ble_eq_true rfl, Nat.le_of_ble_eq_true rfl⟩ (Nat.le_of_ble_eq_true rfl) ?_
  intro r_ h_ q_; obtain ⟨rfl, x1, x2⟩ := q_
  have hm2 := rm_lo hm x2
  have e44 := hm2.2.1.1
  refine g_aload_n (i := 2) dL_law_250 rfl rfl ?_
  refine g_aload_x dL_law_251 rfl rfl ?_
  refine g_iload_n (i := 3) dL_law_252 rfl rfl ?_
  refine g_iconst (v := 1) dL_law_253 (by decide) ?_
  refine g_iadd dL_law_254 ?_
  refine g_sld dL_law_255 xl_3 (ixw (k := 1) rfl (by omega)) (by omega) ?_
  refine g_aload_x dL_law_256 rfl rfl ?_
  refine g_iload_n (i := 3) dL_law_257 rfl rfl ?_
  refine g_iconst (v := 2) dL_law_258 (by decide) ?_
  refine g_iadd dL_law_259 ?_
  refine g_sld dL_law_260 xl_3 (ixw (k := 2) rfl (by omega)) (by omega) ?_
  refine g_aload_x dL_law_261 rfl rfl ?_
  refine g_iload_n (i := 3) dL_law_262 rfl rfl ?_
  refine g_iconst (v := 3) dL_law_263 (by decide) ?_
  refine g_iadd dL_law_264 ?_
  refine g_sld dL_law_265 xl_3 (ixw (k := 3) rfl (by omega)) (by omega) ?_
  refine g_callV (M' := mX8_set) dL_law_266 lc_X8_set ml_L_21 (mo_set hf hm2 _ _ _) rfl rfl (by repeat' (first | assumption | exact rF_eq | refine rF_ne (by decide) ?_ | refine rF_a ?_ | exact rA_eq | refine rA_ne (by decide) ?_ | refine rA_f ?_)) rfl ⟨Nat.le_of_ble_eq_true rfl, Nat.le_of_ble_eq_true rfl, Nat.le_of_ble_eq_true rfl, Nat.le_of_ble_eq_true rfl⟩ (Nat.le_of_ble_eq_true rfl) ?_
  intro r_ h_ q_; obtain ⟨rfl, y1, y2⟩ := q_
  have hx2 := rx_hi x1 y2
  refine g_icmp_eq (tgt := 1306) dL_law_269 (by decide) (fun hc269 => ?_) (fun hc269 => ?_)
  · have hd269 := i_eq.mp hc269; (try simp (disch := omega) only [nT, t_m1000100, t_m1000010, t_m1000003, t_m1000002, t_m1000001, t_m1000000, t_m65535, t_m1000, t_m3, t_m1, t_0, t_1, t_2, t_3, t_4, t_5, t_6, t_7, t_8, t_9, t_10, t_11, t_12, t_13, t_15, t_16, t_20, t_21, t_22, t_32, t_40, t_41, t_48, t_49, t_57, t_59, t_60, t_63, t_72, t_76, t_88, t_100, t_144, t_200, t_255, t_288, t_400, t_800, t_999, t_1000, t_1024, t_1200, t_1600, t_3200, t_100000, t_200000, t_252645135, t_858993459, t_1431655765, u_m1000002, u_m1000001, u_m1000, u_m3, u_m1, u_0, u_1, u_2, u_3, u_4, u_5, u_7, u_8, u_10, u_11, u_15, u_60, u_100, u_255, u_999, u_1000, u_100000, u_4294967295] at hd269)
    exact K _ _ _ _ _ _ _ _ _ _ _ ⟨wf_set fS _ _ _, fP, fA, fT, fR, fG, fW, fQ⟩ hx2 y1
  · have hd269 := mt i_eq.mpr hc269; (try simp (disch := omega) only [nT, t_m1000100, t_m1000010, t_m1000003, t_m1000002, t_m1000001, t_m1000000, t_m65535, t_m1000, t_m3, t_m1, t_0, t_1, t_2, t_3, t_4, t_5, t_6, t_7, t_8, t_9, t_10, t_11, t_12, t_13, t_15, t_16, t_20, t_21, t_22, t_32, t_40, t_41, t_48, t_49, t_57, t_59, t_60, t_63, t_72, t_76, t_88, t_100, t_144, t_200, t_255, t_288, t_400, t_800, t_999, t_1000, t_1024, t_1200, t_1600, t_3200, t_100000, t_200000, t_252645135, t_858993459, t_1431655765, u_m1000002, u_m1000001, u_m1000, u_m3, u_m1, u_0, u_1, u_2, u_3, u_4, u_5, u_7, u_8, u_10, u_11, u_15, u_60, u_100, u_255, u_999, u_1000, u_100000, u_4294967295] at hd269); exact absurd rfl hc269
theorem lw_c_copy (hi : i + 6 ≤ L) (hL : L ≤ 3072) (hf : WF w P A T R G W pt) (hx : RX w P E A T R G W pt fl h) (hm : RM w P E A T R G W pt fl h) (K : ∀ (w : SH) (P : TP) (E : ST2) (A : LA) (T : TS) (R : RS) (G : GL2) (W : WA) (pt : PT) (fl : Int32) (h' : HH), WF w P A T R G W pt → RX w P E A T R G W pt fl h' → RM w P E A T R G W pt fl h' → GG (EL L xs) 75 216376 1306 [hX, .ref 0, .ref 44, .int (nI i)] [] h') : GG (EL L xs) 75 216376 274 [hX, .ref 0, .ref 44, .int (nI i)] [] h := by
  have e0 := hx.1.1.1
  obtain ⟨fS, fP, fA, fT, fR, fG, fW, fQ⟩ := id hf
  refine g_aload_n (i := 1) dL_law_274 rfl rfl ?_
  refine g_aload_x dL_law_275 rfl rfl ?_
  refine g_iload_n (i := 3) dL_law_276 rfl rfl ?_
  refine g_iconst (v := 1) dL_law_277 (by decide) ?_
  refine g_iadd dL_law_278 ?_
  refine g_sld dL_law_279 xl_3 (ixw (k := 1) rfl (by omega)) (by omega) ?_
  refine g_aload_x dL_law_280 rfl rfl ?_
  refine g_iload_n (i := 3) dL_law_281 rfl rfl ?_
  refine g_iconst (v := 2) dL_law_282 (by decide) ?_
  refine g_iadd dL_law_283 ?_
  refine g_sld dL_law_284 xl_3 (ixw (k := 2) rfl (by omega)) (by omega) ?_
  refine g_aload_x dL_law_285 rfl rfl ?_
  refine g_iload_n (i := 3) dL_law_286 rfl rfl ?_
  refine g_iconst (v := 3) dL_law_287 (by decide) ?_
  refine g_iadd dL_law_288 ?_
  refine g_sld dL_law_289 xl_3 (ixw (k := 3) rfl (by omega)) (by omega) ?_
  refine g_aload_x dL_law_290 rfl rfl ?_
  refine g_iload_n (i := 3) dL_law_291 rfl rfl ?_
  refine g_iconst (v := 4) dL_law_292 (by decide) ?_
  refine g_iadd dL_law_293 ?_
  refine g_sld dL_law_294 xl_3 (ixw (k := 4) rfl (by omega)) (by omega) ?_
  refine g_aload_x dL_law_295 rfl rfl ?_
  refine g_iload_n (i := 3) dL_law_296 rfl rfl ?_
  refine g_iconst (v := 5) dL_law_297 (by decide) ?_
  refine g_iadd dL_law_298 ?_
  refine g_sld dL_law_299 xl_3 (ixw (k := 5) rfl (by omega)) (by omega) ?_
  refine g_callV (M' := mX7_copy) dL_law_300 lc_X7_copy ml_L_22 (xo_copy hf hx _ _ _ _ _) rfl rfl (by repeat' (first | assumption | exact rF_eq | refine rF_ne (by decide) ?_ | refine rF_a ?_ | exact rA_eq | refine rA_ne (by decide) ?_ | refine rA_f ?_)) rfl ⟨Nat.le_of_ble_eq_true rfl, Nat.le_of_ble_eq_true rfl, Nat.le_of_ble_eq_true rfl, Nat.le_of_ble_eq_true rfl⟩ (Nat.le_of_ble_eq_true rfl) ?_
  intro r_ h_ q_; obtain ⟨rfl, x1, x2⟩ := q_
  have hm2 := rm_lo hm x2
  have e44 := hm2.2.1.1
  refine g_aload_n (i := 2) dL_law_303 rfl rfl ?_
  refine g_aload_x dL_law_304 rfl rfl ?_
  refine g_iload_n (i := 3) dL_law_305 rfl rfl ?_
  refine g_iconst (v := 1) dL_law_306 (by decide) ?_
  refine g_iadd dL_law_307 ?_
  refine g_sld dL_law_308 xl_3 (ixw (k := 1) rfl (by omega)) (by omega) ?_
  refine g_aload_x dL_law_309 rfl rfl ?_
  refine g_iload_n (i := 3) dL_law_310 rfl rfl ?_
  refine g_iconst (v := 2) dL_law_311 (by decide) ?_
  refine g_iadd dL_law_312 ?_
  refine g_sld dL_law_313 xl_3 (ixw (k := 2) rfl (by omega)) (by omega) ?_
  refine g_aload_x dL_law_314 rfl rfl ?_
  refine g_iload_n (i := 3) dL_law_315 rfl rfl ?_
  refine g_iconst (v := 3) dL_law_316 (by decide) ?_
  refine g_iadd dL_law_317 ?_
  refine g_sld dL_law_318 xl_3 (ixw (k := 3) rfl (by omega)) (by omega) ?_
  refine g_aload_x dL_law_319 rfl rfl ?_
  refine g_iload_n (i := 3) dL_law_320 rfl rfl ?_
  refine g_iconst (v := 4) dL_law_321 (by decide) ?_
  refine g_iadd dL_law_322 ?_
  refine g_sld dL_law_323 xl_3 (ixw (k := 4) rfl (by omega)) (by omega) ?_
  refine g_aload_x dL_law_324 rfl rfl ?_
  refine g_iload_n (i := 3) dL_law_325 rfl rfl ?_
  refine g_iconst (v := 5) dL_law_326 (by decide) ?_
  refine g_iadd dL_law_327 ?_
  refine g_sld dL_law_328 xl_3 (ixw (k := 5) rfl (by omega)) (by omega) ?_
  refine g_callV (M' := mX8_copy) dL_law_329 lc_X8_copy ml_L_26 (mo_copy hf hm2 _ _ _ _ _) rfl rfl (by repeat' (first | assumption | exact rF_eq | refine rF_ne (by decide) ?_ | refine rF_a ?_ | exact rA_eq | refine rA_ne (by decide) ?_ | refine rA_f ?_)) rfl ⟨Nat.le_of_ble_eq_true rfl, Nat.le_of_ble_eq_true rfl, Nat.le_of_ble_eq_true rfl, Nat.le_of_ble_eq_true rfl⟩ (Nat.le_of_ble_eq_true rfl) ?_
  intro r_ h_ q_; obtain ⟨rfl, y1, y2⟩ := q_
  have hx2 := rx_hi x1 y2
  refine g_icmp_eq (tgt := 1306) dL_law_332 (by decide) (fun hc332 => ?_) (fun hc332 => ?_)
  · have hd332 := i_eq.mp hc332; (try simp (disch := omega) only [nT, t_m1000100, t_m1000010, t_m1000003, t_m1000002, t_m1000001, t_m1000000, t_m65535, t_m1000, t_m3, t_m1, t_0, t_1, t_2, t_3, t_4, t_5, t_6, t_7, t_8, t_9, t_10, t_11, t_12, t_13, t_15, t_16, t_20, t_21, t_22, t_32, t_40, t_41, t_48, t_49, t_57, t_59, t_60, t_63, t_72, t_76, t_88, t_100, t_144, t_200, t_255, t_288, t_400, t_800, t_999, t_1000, t_1024, t_1200, t_1600, t_3200, t_100000, t_200000, t_252645135, t_858993459, t_1431655765, u_m1000002, u_m1000001, u_m1000, u_m3, u_m1, u_0, u_1, u_2, u_3, u_4, u_5, u_7, u_8, u_10, u_11, u_15, u_60, u_100, u_255, u_999, u_1000, u_100000, u_4294967295] at hd332)
    exact K _ _ _ _ _ _ _ _ _ _ _ ⟨wf_copy fS _ _ _ _ _, fP, fA, fT, fR, fG, fW, fQ⟩ hx2 y1
  · have hd332 := mt i_eq.mpr hc332; (try simp (disch := omega) only [nT, t_m1000100, t_m1000010, t_m1000003, t_m1000002, t_m1000001, t_m1000000, t_m65535, t_m1000, t_m3, t_m1, t_0, t_1, t_2, t_3, t_4, t_5, t_6, t_7, t_8, t_9, t_10, t_11, t_12, t_13, t_15, t_16, t_20, t_21, t_22, t_32, t_40, t_41, t_48, t_49, t_57, t_59, t_60, t_63, t_72, t_76, t_88, t_100, t_144, t_200, t_255, t_288, t_400, t_800, t_999, t_1000, t_1024, t_1200, t_1600, t_3200, t_100000, t_200000, t_252645135, t_858993459, t_1431655765, u_m1000002, u_m1000001, u_m1000, u_m3, u_m1, u_0, u_1, u_2, u_3, u_4, u_5, u_7, u_8, u_10, u_11, u_15, u_60, u_100, u_255, u_999, u_1000, u_100000, u_4294967295] at hd332); exact absurd rfl hc332
theorem lw_c_drop (hi : i + 6 ≤ L) (hL : L ≤ 3072) (hf : WF w P A T R G W pt) (hx : RX w P E A T R G W pt fl h) (hm : RM w P E A T R G W pt fl h) (K : ∀ (w : SH) (P : TP) (E : ST2) (A : LA) (T : TS) (R : RS) (G : GL2) (W : WA) (pt : PT) (fl : Int32) (h' : HH), WF w P A T R G W pt → RX w P E A T R G W pt fl h' → RM w P E A T R G W pt fl h' → GG (EL L xs) 75 216376 1306 [hX, .ref 0, .ref 44, .int (nI i)] [] h') : GG (EL L xs) 75 216376 337 [hX, .ref 0, .ref 44, .int (nI i)] [] h := by
  have e0 := hx.1.1.1
  obtain ⟨fS, fP, fA, fT, fR, fG, fW, fQ⟩ := id hf
  refine g_aload_n (i := 1) dL_law_337 rfl rfl ?_
  refine g_aload_x dL_law_338 rfl rfl ?_
  refine g_iload_n (i := 3) dL_law_339 rfl rfl ?_
  refine g_iconst (v := 1) dL_law_340 (by decide) ?_
  refine g_iadd dL_law_341 ?_
  refine g_sld dL_law_342 xl_3 (ixw (k := 1) rfl (by omega)) (by omega) ?_
  refine g_callV (M' := mX7_drop) dL_law_343 lc_X7_drop ml_L_27 (xo_drop hf hx _) rfl rfl (by repeat' (first | assumption | exact rF_eq | refine rF_ne (by decide) ?_ | refine rF_a ?_ | exact rA_eq | refine rA_ne (by decide) ?_ | refine rA_f ?_)) rfl ⟨Nat.le_of_ble_eq_true rfl, Nat.le_of_ble_eq_true rfl, Nat.le_of_ble_eq_true rfl, Nat.le_of_ble_eq_true rfl⟩ (Nat.le_of_ble_eq_true rfl) ?_
  intro r_ h_ q_; obtain ⟨rfl, x1, x2⟩ := q_
  have hm2 := rm_lo hm x2
  have e44 := hm2.2.1.1
  refine g_aload_n (i := 2) dL_law_346 rfl rfl ?_
  refine g_aload_x dL_law_347 rfl rfl ?_
  refine g_iload_n (i := 3) dL_law_348 rfl rfl ?_
  refine g_iconst (v := 1) dL_law_349 (by decide) ?_
  refine g_iadd dL_law_350 ?_
  refine g_sld dL_law_351 xl_3 (ixw (k := 1) rfl (by omega)) (by omega) ?_
  refine g_callV (M' := mX8_drop) dL_law_352 lc_X8_drop ml_L_31 (mo_drop hf hm2 _) rfl rfl (by repeat' (first | assumption | exact rF_eq | refine rF_ne (by decide) ?_ | refine rF_a ?_ | exact rA_eq | refine rA_ne (by decide) ?_ | refine rA_f ?_)) rfl ⟨Nat.le_of_ble_eq_true rfl, Nat.le_of_ble_eq_true rfl, Nat.le_of_ble_eq_true rfl, Nat.le_of_ble_eq_true rfl⟩ (Nat.le_of_ble_eq_true rfl) ?_
  intro r_ h_ q_; obtain ⟨rfl, y1, y2⟩ := q_
  have hx2 := rx_hi x1 y2
  refine g_icmp_eq (tgt := 1306) dL_law_355 (by decide) (fun hc355 => ?_) (fun hc355 => ?_)
  · have hd355 := i_eq.mp hc355; (try simp (disch := omega) only [nT, t_m1000100, t_m1000010, t_m1000003, t_m1000002, t_m1000001, t_m1000000, t_m65535, t_m1000, t_m3, t_m1, t_0, t_1, t_2, t_3, t_4, t_5, t_6, t_7, t_8, t_9, t_10, t_11, t_12, t_13, t_15, t_16, t_20, t_21, t_22, t_32, t_40, t_41, t_48, t_49, t_57, t_59, t_60, t_63, t_72, t_76, t_88, t_100, t_144, t_200, t_255, t_288, t_400, t_800, t_999, t_1000, t_1024, t_1200, t_1600, t_3200, t_100000, t_200000, t_252645135, t_858993459, t_1431655765, u_m1000002, u_m1000001, u_m1000, u_m3, u_m1, u_0, u_1, u_2, u_3, u_4, u_5, u_7, u_8, u_10, u_11, u_15, u_60, u_100, u_255, u_999, u_1000, u_100000, u_4294967295] at hd355)
    exact K _ _ _ _ _ _ _ _ _ _ _ ⟨wf_drop fS _, fP, fA, fT, fR, fG, fW, fQ⟩ hx2 y1
  · have hd355 := mt i_eq.mpr hc355; (try simp (disch := omega) only [nT, t_m1000100, t_m1000010, t_m1000003, t_m1000002, t_m1000001, t_m1000000, t_m65535, t_m1000, t_m3, t_m1, t_0, t_1, t_2, t_3, t_4, t_5, t_6, t_7, t_8, t_9, t_10, t_11, t_12, t_13, t_15, t_16, t_20, t_21, t_22, t_32, t_40, t_41, t_48, t_49, t_57, t_59, t_60, t_63, t_72, t_76, t_88, t_100, t_144, t_200, t_255, t_288, t_400, t_800, t_999, t_1000, t_1024, t_1200, t_1600, t_3200, t_100000, t_200000, t_252645135, t_858993459, t_1431655765, u_m1000002, u_m1000001, u_m1000, u_m3, u_m1, u_0, u_1, u_2, u_3, u_4, u_5, u_7, u_8, u_10, u_11, u_15, u_60, u_100, u_255, u_999, u_1000, u_100000, u_4294967295] at hd355); exact absurd rfl hc355
theorem lw_c_feed (hi : i + 6 ≤ L) (hL : L ≤ 3072) (hf : WF w P A T R G W pt) (hx : RX w P E A T R G W pt fl h) (hm : RM w P E A T R G W pt fl h) (K : ∀ (w : SH) (P : TP) (E : ST2) (A : LA) (T : TS) (R : RS) (G : GL2) (W : WA) (pt : PT) (fl : Int32) (h' : HH), WF w P A T R G W pt → RX w P E A T R G W pt fl h' → RM w P E A T R G W pt fl h' → GG (EL L xs) 75 216376 1306 [hX, .ref 0, .ref 44, .int (nI i)] [] h') : GG (EL L xs) 75 216376 360 [hX, .ref 0, .ref 44, .int (nI i)] [] h := by
  have e0 := hx.1.1.1
  obtain ⟨fS, fP, fA, fT, fR, fG, fW, fQ⟩ := id hf
  refine g_aload_n (i := 1) dL_law_360 rfl rfl ?_
  refine g_aload_x dL_law_361 rfl rfl ?_
  refine g_iload_n (i := 3) dL_law_362 rfl rfl ?_
  refine g_iconst (v := 1) dL_law_363 (by decide) ?_
  refine g_iadd dL_law_364 ?_
  refine g_sld dL_law_365 xl_3 (ixw (k := 1) rfl (by omega)) (by omega) ?_
  refine g_i2l dL_law_366 ?_
  refine g_bipush (v := 32) dL_law_367 (by decide) ?_
  refine g_lshl dL_law_369 ?_
  refine g_aload_x dL_law_370 rfl rfl ?_
  refine g_iload_n (i := 3) dL_law_371 rfl rfl ?_
  refine g_iconst (v := 2) dL_law_372 (by decide) ?_
  refine g_iadd dL_law_373 ?_
  refine g_sld dL_law_374 xl_3 (ixw (k := 2) rfl (by omega)) (by omega) ?_
  refine g_i2l dL_law_375 ?_
  refine g_ldc2 dL_law_376 kc_L_32 ?_
  refine g_land dL_law_379 ?_
  refine g_lor dL_law_380 ?_
  refine g_aload_x dL_law_381 rfl rfl ?_
  refine g_iload_n (i := 3) dL_law_382 rfl rfl ?_
  refine g_iconst (v := 3) dL_law_383 (by decide) ?_
  refine g_iadd dL_law_384 ?_
  refine g_sld dL_law_385 xl_3 (ixw (k := 3) rfl (by omega)) (by omega) ?_
  refine g_callV (M' := mX7_feed) dL_law_386 lc_X7_feed ml_L_34 (xo_feed hf hx _ _) rfl rfl (by repeat' (first | assumption | exact rF_eq | refine rF_ne (by decide) ?_ | refine rF_a ?_ | exact rA_eq | refine rA_ne (by decide) ?_ | refine rA_f ?_)) rfl ⟨Nat.le_of_ble_eq_true rfl, Nat.le_of_ble_eq_true rfl, Nat.le_of_ble_eq_true rfl, Nat.le_of_ble_eq_true rfl⟩ (Nat.le_of_ble_eq_true rfl) ?_
  intro r_ h_ q_; obtain ⟨rfl, x1, x2⟩ := q_
  have hm2 := rm_lo hm x2
  have e44 := hm2.2.1.1
  refine g_aload_n (i := 2) dL_law_389 rfl rfl ?_
  refine g_aload_x dL_law_390 rfl rfl ?_
  refine g_iload_n (i := 3) dL_law_391 rfl rfl ?_
  refine g_iconst (v := 1) dL_law_392 (by decide) ?_
  refine g_iadd dL_law_393 ?_
  refine g_sld dL_law_394 xl_3 (ixw (k := 1) rfl (by omega)) (by omega) ?_
  refine g_i2l dL_law_395 ?_
  refine g_bipush (v := 32) dL_law_396 (by decide) ?_
  refine g_lshl dL_law_398 ?_
  refine g_aload_x dL_law_399 rfl rfl ?_
  refine g_iload_n (i := 3) dL_law_400 rfl rfl ?_
  refine g_iconst (v := 2) dL_law_401 (by decide) ?_
  refine g_iadd dL_law_402 ?_
  refine g_sld dL_law_403 xl_3 (ixw (k := 2) rfl (by omega)) (by omega) ?_
  refine g_i2l dL_law_404 ?_
  refine g_ldc2 dL_law_405 kc_L_32 ?_
  refine g_land dL_law_408 ?_
  refine g_lor dL_law_409 ?_
  refine g_aload_x dL_law_410 rfl rfl ?_
  refine g_iload_n (i := 3) dL_law_411 rfl rfl ?_
  refine g_iconst (v := 3) dL_law_412 (by decide) ?_
  refine g_iadd dL_law_413 ?_
  refine g_sld dL_law_414 xl_3 (ixw (k := 3) rfl (by omega)) (by omega) ?_
  refine g_callV (M' := mX8_feed) dL_law_415 lc_X8_feed ml_L_38 (mo_feed hf hm2 _ _) rfl rfl (by repeat' (first | assumption | exact rF_eq | refine rF_ne (by decide) ?_ | refine rF_a ?_ | exact rA_eq | refine rA_ne (by decide) ?_ | refine rA_f ?_)) rfl ⟨Nat.le_of_ble_eq_true rfl, Nat.le_of_ble_eq_true rfl, Nat.le_of_ble_eq_true rfl, Nat.le_of_ble_eq_true rfl⟩ (Nat.le_of_ble_eq_true rfl) ?_
  intro r_ h_ q_; obtain ⟨rfl, y1, y2⟩ := q_
  have hx2 := rx_hi x1 y2
  refine g_icmp_eq (tgt := 1306) dL_law_418 (by decide) (fun hc418 => ?_) (fun hc418 => ?_)
  · have hd418 := i_eq.mp hc418; (try simp (disch := omega) only [nT, t_m1000100, t_m1000010, t_m1000003, t_m1000002, t_m1000001, t_m1000000, t_m65535, t_m1000, t_m3, t_m1, t_0, t_1, t_2, t_3, t_4, t_5, t_6, t_7, t_8, t_9, t_10, t_11, t_12, t_13, t_15, t_16, t_20, t_21, t_22, t_32, t_40, t_41, t_48, t_49, t_57, t_59, t_60, t_63, t_72, t_76, t_88, t_100, t_144, t_200, t_255, t_288, t_400, t_800, t_999, t_1000, t_1024, t_1200, t_1600, t_3200, t_100000, t_200000, t_252645135, t_858993459, t_1431655765, u_m1000002, u_m1000001, u_m1000, u_m3, u_m1, u_0, u_1, u_2, u_3, u_4, u_5, u_7, u_8, u_10, u_11, u_15, u_60, u_100, u_255, u_999, u_1000, u_100000, u_4294967295] at hd418)
    exact K _ _ _ _ _ _ _ _ _ _ _ ⟨fS, wf_feed fP _ _, fA, fT, fR, fG, fW, fQ⟩ hx2 y1
  · have hd418 := mt i_eq.mpr hc418; (try simp (disch := omega) only [nT, t_m1000100, t_m1000010, t_m1000003, t_m1000002, t_m1000001, t_m1000000, t_m65535, t_m1000, t_m3, t_m1, t_0, t_1, t_2, t_3, t_4, t_5, t_6, t_7, t_8, t_9, t_10, t_11, t_12, t_13, t_15, t_16, t_20, t_21, t_22, t_32, t_40, t_41, t_48, t_49, t_57, t_59, t_60, t_63, t_72, t_76, t_88, t_100, t_144, t_200, t_255, t_288, t_400, t_800, t_999, t_1000, t_1024, t_1200, t_1600, t_3200, t_100000, t_200000, t_252645135, t_858993459, t_1431655765, u_m1000002, u_m1000001, u_m1000, u_m3, u_m1, u_0, u_1, u_2, u_3, u_4, u_5, u_7, u_8, u_10, u_11, u_15, u_60, u_100, u_255, u_999, u_1000, u_100000, u_4294967295] at hd418); exact absurd rfl hc418
theorem lw_c_pattern (hi : i + 6 ≤ L) (hL : L ≤ 3072) (hf : WF w P A T R G W pt) (hx : RX w P E A T R G W pt fl h) (hm : RM w P E A T R G W pt fl h) (K : ∀ (w : SH) (P : TP) (E : ST2) (A : LA) (T : TS) (R : RS) (G : GL2) (W : WA) (pt : PT) (fl : Int32) (h' : HH), WF w P A T R G W pt → RX w P E A T R G W pt fl h' → RM w P E A T R G W pt fl h' → GG (EL L xs) 75 216376 1306 [hX, .ref 0, .ref 44, .int (nI i)] [] h') : GG (EL L xs) 75 216376 423 [hX, .ref 0, .ref 44, .int (nI i)] [] h := by
  have e0 := hx.1.1.1
  obtain ⟨fS, fP, fA, fT, fR, fG, fW, fQ⟩ := id hf
  refine g_aload_n (i := 1) dL_law_423 rfl rfl ?_
  refine g_callV (M' := mX7_pattern) dL_law_424 lc_X7_pattern ml_L_39 (xo_pattern hf hx) rfl rfl (by repeat' (first | assumption | exact rF_eq | refine rF_ne (by decide) ?_ | refine rF_a ?_ | exact rA_eq | refine rA_ne (by decide) ?_ | refine rA_f ?_)) rfl ⟨Nat.le_of_ble_eq_true rfl, Nat.le_of_ble_eq_true rfl, Nat.le_of_ble_eq_true rfl, Nat.le_of_ble_eq_true rfl⟩ (Nat.le_of_ble_eq_true rfl) ?_
  intro r_ h_ q_; obtain ⟨rfl, x1, x2⟩ := q_
  have hm2 := rm_lo hm x2
  have e44 := hm2.2.1.1
  refine g_aload_n (i := 2) dL_law_427 rfl rfl ?_
  refine g_callV (M' := mX8_pattern) dL_law_428 lc_X8_pattern ml_L_43 (mo_pattern hf hm2) rfl rfl (by repeat' (first | assumption | exact rF_eq | refine rF_ne (by decide) ?_ | refine rF_a ?_ | exact rA_eq | refine rA_ne (by decide) ?_ | refine rA_f ?_)) rfl ⟨Nat.le_of_ble_eq_true rfl, Nat.le_of_ble_eq_true rfl, Nat.le_of_ble_eq_true rfl, Nat.le_of_ble_eq_true rfl⟩ (Nat.le_of_ble_eq_true rfl) ?_
  intro r_ h_ q_; obtain ⟨rfl, y1, y2⟩ := q_
  have hx2 := rx_hi x1 y2
  refine g_icmp_eq (tgt := 1306) dL_law_431 (by decide) (fun hc431 => ?_) (fun hc431 => ?_)
  · have hd431 := i_eq.mp hc431; (try simp (disch := omega) only [nT, t_m1000100, t_m1000010, t_m1000003, t_m1000002, t_m1000001, t_m1000000, t_m65535, t_m1000, t_m3, t_m1, t_0, t_1, t_2, t_3, t_4, t_5, t_6, t_7, t_8, t_9, t_10, t_11, t_12, t_13, t_15, t_16, t_20, t_21, t_22, t_32, t_40, t_41, t_48, t_49, t_57, t_59, t_60, t_63, t_72, t_76, t_88, t_100, t_144, t_200, t_255, t_288, t_400, t_800, t_999, t_1000, t_1024, t_1200, t_1600, t_3200, t_100000, t_200000, t_252645135, t_858993459, t_1431655765, u_m1000002, u_m1000001, u_m1000, u_m3, u_m1, u_0, u_1, u_2, u_3, u_4, u_5, u_7, u_8, u_10, u_11, u_15, u_60, u_100, u_255, u_999, u_1000, u_100000, u_4294967295] at hd431)
    exact K _ _ _ _ _ _ _ _ _ _ _ ⟨fS, Nat.zero_le 400, fA, fT, fR, fG, fW, wf_pat fP fQ fl⟩ hx2 y1
  · have hd431 := mt i_eq.mpr hc431; (try simp (disch := omega) only [nT, t_m1000100, t_m1000010, t_m1000003, t_m1000002, t_m1000001, t_m1000000, t_m65535, t_m1000, t_m3, t_m1, t_0, t_1, t_2, t_3, t_4, t_5, t_6, t_7, t_8, t_9, t_10, t_11, t_12, t_13, t_15, t_16, t_20, t_21, t_22, t_32, t_40, t_41, t_48, t_49, t_57, t_59, t_60, t_63, t_72, t_76, t_88, t_100, t_144, t_200, t_255, t_288, t_400, t_800, t_999, t_1000, t_1024, t_1200, t_1600, t_3200, t_100000, t_200000, t_252645135, t_858993459, t_1431655765, u_m1000002, u_m1000001, u_m1000, u_m3, u_m1, u_0, u_1, u_2, u_3, u_4, u_5, u_7, u_8, u_10, u_11, u_15, u_60, u_100, u_255, u_999, u_1000, u_100000, u_4294967295] at hd431); exact absurd rfl hc431
theorem lw_c_fault (hi : i + 6 ≤ L) (hL : L ≤ 3072) (hf : WF w P A T R G W pt) (hx : RX w P E A T R G W pt fl h) (hm : RM w P E A T R G W pt fl h) (K : ∀ (w : SH) (P : TP) (E : ST2) (A : LA) (T : TS) (R : RS) (G : GL2) (W : WA) (pt : PT) (fl : Int32) (h' : HH), WF w P A T R G W pt → RX w P E A T R G W pt fl h' → RM w P E A T R G W pt fl h' → GG (EL L xs) 75 216376 1306 [hX, .ref 0, .ref 44, .int (nI i)] [] h') : GG (EL L xs) 75 216376 436 [hX, .ref 0, .ref 44, .int (nI i)] [] h := by
  have e0 := hx.1.1.1
  obtain ⟨fS, fP, fA, fT, fR, fG, fW, fQ⟩ := id hf
  refine g_aload_n (i := 1) dL_law_436 rfl rfl ?_
  refine g_callV (M' := mX7_fault) dL_law_437 lc_X7_fault ml_L_44 (xo_fault hf hx) rfl rfl (by repeat' (first | assumption | exact rF_eq | refine rF_ne (by decide) ?_ | refine rF_a ?_ | exact rA_eq | refine rA_ne (by decide) ?_ | refine rA_f ?_)) rfl ⟨Nat.le_of_ble_eq_true rfl, Nat.le_of_ble_eq_true rfl, Nat.le_of_ble_eq_true rfl, Nat.le_of_ble_eq_true rfl⟩ (Nat.le_of_ble_eq_true rfl) ?_
  intro r_ h_ q_; obtain ⟨rfl, x1, x2⟩ := q_
  have hm2 := rm_lo hm x2
  have e44 := hm2.2.1.1
  refine g_aload_n (i := 2) dL_law_440 rfl rfl ?_
  refine g_callV (M' := mX8_fault) dL_law_441 lc_X8_fault ml_L_47 (mo_fault hf hm2) rfl rfl (by repeat' (first | assumption | exact rF_eq | refine rF_ne (by decide) ?_ | refine rF_a ?_ | exact rA_eq | refine rA_ne (by decide) ?_ | refine rA_f ?_)) rfl ⟨Nat.le_of_ble_eq_true rfl, Nat.le_of_ble_eq_true rfl, Nat.le_of_ble_eq_true rfl, Nat.le_of_ble_eq_true rfl⟩ (Nat.le_of_ble_eq_true rfl) ?_
  intro r_ h_ q_; obtain ⟨rfl, y1, y2⟩ := q_
  have hx2 := rx_hi x1 y2
  refine g_icmp_eq (tgt := 1306) dL_law_444 (by decide) (fun hc444 => ?_) (fun hc444 => ?_)
  · have hd444 := i_eq.mp hc444; (try simp (disch := omega) only [nT, t_m1000100, t_m1000010, t_m1000003, t_m1000002, t_m1000001, t_m1000000, t_m65535, t_m1000, t_m3, t_m1, t_0, t_1, t_2, t_3, t_4, t_5, t_6, t_7, t_8, t_9, t_10, t_11, t_12, t_13, t_15, t_16, t_20, t_21, t_22, t_32, t_40, t_41, t_48, t_49, t_57, t_59, t_60, t_63, t_72, t_76, t_88, t_100, t_144, t_200, t_255, t_288, t_400, t_800, t_999, t_1000, t_1024, t_1200, t_1600, t_3200, t_100000, t_200000, t_252645135, t_858993459, t_1431655765, u_m1000002, u_m1000001, u_m1000, u_m3, u_m1, u_0, u_1, u_2, u_3, u_4, u_5, u_7, u_8, u_10, u_11, u_15, u_60, u_100, u_255, u_999, u_1000, u_100000, u_4294967295] at hd444)
    exact K _ _ _ _ _ _ _ _ _ _ _ ⟨fS, fP, fA, fT, fR, fG, fW, fQ⟩ hx2 y1
  · have hd444 := mt i_eq.mpr hc444; (try simp (disch := omega) only [nT, t_m1000100, t_m1000010, t_m1000003, t_m1000002, t_m1000001, t_m1000000, t_m65535, t_m1000, t_m3, t_m1, t_0, t_1, t_2, t_3, t_4, t_5, t_6, t_7, t_8, t_9, t_10, t_11, t_12, t_13, t_15, t_16, t_20, t_21, t_22, t_32, t_40, t_41, t_48, t_49, t_57, t_59, t_60, t_63, t_72, t_76, t_88, t_100, t_144, t_200, t_255, t_288, t_400, t_800, t_999, t_1000, t_1024, t_1200, t_1600, t_3200, t_100000, t_200000, t_252645135, t_858993459, t_1431655765, u_m1000002, u_m1000001, u_m1000, u_m3, u_m1, u_0, u_1, u_2, u_3, u_4, u_5, u_7, u_8, u_10, u_11, u_15, u_60, u_100, u_255, u_999, u_1000, u_100000, u_4294967295] at hd444); exact absurd rfl hc444
theorem lw_c_sign (hi : i + 6 ≤ L) (hL : L ≤ 3072) (hf : WF w P A T R G W pt) (hx : RX w P E A T R G W pt fl h) (hm : RM w P E A T R G W pt fl h) (K : ∀ (w : SH) (P : TP) (E : ST2) (A : LA) (T : TS) (R : RS) (G : GL2) (W : WA) (pt : PT) (fl : Int32) (h' : HH), WF w P A T R G W pt → RX w P E A T R G W pt fl h' → RM w P E A T R G W pt fl h' → GG (EL L xs) 75 216376 1306 [hX, .ref 0, .ref 44, .int (nI i)] [] h') : GG (EL L xs) 75 216376 449 [hX, .ref 0, .ref 44, .int (nI i)] [] h := by
  have e0 := hx.1.1.1
  obtain ⟨fS, fP, fA, fT, fR, fG, fW, fQ⟩ := id hf
  refine g_aload_n (i := 1) dL_law_449 rfl rfl ?_
  refine g_aload_x dL_law_450 rfl rfl ?_
  refine g_iload_n (i := 3) dL_law_451 rfl rfl ?_
  refine g_iconst (v := 1) dL_law_452 (by decide) ?_
  refine g_iadd dL_law_453 ?_
  refine g_sld dL_law_454 xl_3 (ixw (k := 1) rfl (by omega)) (by omega) ?_
  refine g_aload_x dL_law_455 rfl rfl ?_
  refine g_iload_n (i := 3) dL_law_456 rfl rfl ?_
  refine g_iconst (v := 2) dL_law_457 (by decide) ?_
  refine g_iadd dL_law_458 ?_
  refine g_sld dL_law_459 xl_3 (ixw (k := 2) rfl (by omega)) (by omega) ?_
  refine g_callV (M' := mX7_sign) dL_law_460 lc_X7_sign ml_L_48 (xo_sign hf hx _ _) rfl rfl (by repeat' (first | assumption | exact rF_eq | refine rF_ne (by decide) ?_ | refine rF_a ?_ | exact rA_eq | refine rA_ne (by decide) ?_ | refine rA_f ?_)) rfl ⟨Nat.le_of_ble_eq_true rfl, Nat.le_of_ble_eq_true rfl, Nat.le_of_ble_eq_true rfl, Nat.le_of_ble_eq_true rfl⟩ (Nat.le_of_ble_eq_true rfl) ?_
  intro r_ h_ q_; obtain ⟨rfl, x1, x2⟩ := q_
  have hm2 := rm_lo hm x2
  have e44 := hm2.2.1.1
  refine g_aload_n (i := 2) dL_law_463 rfl rfl ?_
  refine g_aload_x dL_law_464 rfl rfl ?_
  refine g_iload_n (i := 3) dL_law_465 rfl rfl ?_
  refine g_iconst (v := 1) dL_law_466 (by decide) ?_
  refine g_iadd dL_law_467 ?_
  refine g_sld dL_law_468 xl_3 (ixw (k := 1) rfl (by omega)) (by omega) ?_
  refine g_aload_x dL_law_469 rfl rfl ?_
  refine g_iload_n (i := 3) dL_law_470 rfl rfl ?_
  refine g_iconst (v := 2) dL_law_471 (by decide) ?_
  refine g_iadd dL_law_472 ?_
  refine g_sld dL_law_473 xl_3 (ixw (k := 2) rfl (by omega)) (by omega) ?_
  refine g_callV (M' := mX8_sign) dL_law_474 lc_X8_sign ml_L_52 (mo_sign hf hm2 _ _) rfl rfl (by repeat' (first | assumption | exact rF_eq | refine rF_ne (by decide) ?_ | refine rF_a ?_ | exact rA_eq | refine rA_ne (by decide) ?_ | refine rA_f ?_)) rfl ⟨Nat.le_of_ble_eq_true rfl, Nat.le_of_ble_eq_true rfl, Nat.le_of_ble_eq_true rfl, Nat.le_of_ble_eq_true rfl⟩ (Nat.le_of_ble_eq_true rfl) ?_
  intro r_ h_ q_; obtain ⟨rfl, y1, y2⟩ := q_
  have hx2 := rx_hi x1 y2
  refine g_icmp_eq (tgt := 1306) dL_law_477 (by decide) (fun hc477 => ?_) (fun hc477 => ?_)
  · have hd477 := i_eq.mp hc477; (try simp (disch := omega) only [nT, t_m1000100, t_m1000010, t_m1000003, t_m1000002, t_m1000001, t_m1000000, t_m65535, t_m1000, t_m3, t_m1, t_0, t_1, t_2, t_3, t_4, t_5, t_6, t_7, t_8, t_9, t_10, t_11, t_12, t_13, t_15, t_16, t_20, t_21, t_22, t_32, t_40, t_41, t_48, t_49, t_57, t_59, t_60, t_63, t_72, t_76, t_88, t_100, t_144, t_200, t_255, t_288, t_400, t_800, t_999, t_1000, t_1024, t_1200, t_1600, t_3200, t_100000, t_200000, t_252645135, t_858993459, t_1431655765, u_m1000002, u_m1000001, u_m1000, u_m3, u_m1, u_0, u_1, u_2, u_3, u_4, u_5, u_7, u_8, u_10, u_11, u_15, u_60, u_100, u_255, u_999, u_1000, u_100000, u_4294967295] at hd477)
    exact K _ _ _ _ _ _ _ _ _ _ _ ⟨fS, fP, fA, fT, fR, fG, fW, fQ⟩ hx2 y1
  · have hd477 := mt i_eq.mpr hc477; (try simp (disch := omega) only [nT, t_m1000100, t_m1000010, t_m1000003, t_m1000002, t_m1000001, t_m1000000, t_m65535, t_m1000, t_m3, t_m1, t_0, t_1, t_2, t_3, t_4, t_5, t_6, t_7, t_8, t_9, t_10, t_11, t_12, t_13, t_15, t_16, t_20, t_21, t_22, t_32, t_40, t_41, t_48, t_49, t_57, t_59, t_60, t_63, t_72, t_76, t_88, t_100, t_144, t_200, t_255, t_288, t_400, t_800, t_999, t_1000, t_1024, t_1200, t_1600, t_3200, t_100000, t_200000, t_252645135, t_858993459, t_1431655765, u_m1000002, u_m1000001, u_m1000, u_m3, u_m1, u_0, u_1, u_2, u_3, u_4, u_5, u_7, u_8, u_10, u_11, u_15, u_60, u_100, u_255, u_999, u_1000, u_100000, u_4294967295] at hd477); exact absurd rfl hc477
theorem lw_c_compare (hi : i + 6 ≤ L) (hL : L ≤ 3072) (hf : WF w P A T R G W pt) (hx : RX w P E A T R G W pt fl h) (hm : RM w P E A T R G W pt fl h) (K : ∀ (w : SH) (P : TP) (E : ST2) (A : LA) (T : TS) (R : RS) (G : GL2) (W : WA) (pt : PT) (fl : Int32) (h' : HH), WF w P A T R G W pt → RX w P E A T R G W pt fl h' → RM w P E A T R G W pt fl h' → GG (EL L xs) 75 216376 1306 [hX, .ref 0, .ref 44, .int (nI i)] [] h') : GG (EL L xs) 75 216376 482 [hX, .ref 0, .ref 44, .int (nI i)] [] h := by
  have e0 := hx.1.1.1
  obtain ⟨fS, fP, fA, fT, fR, fG, fW, fQ⟩ := id hf
  refine g_aload_n (i := 1) dL_law_482 rfl rfl ?_
  refine g_aload_x dL_law_483 rfl rfl ?_
  refine g_iload_n (i := 3) dL_law_484 rfl rfl ?_
  refine g_iconst (v := 1) dL_law_485 (by decide) ?_
  refine g_iadd dL_law_486 ?_
  refine g_sld dL_law_487 xl_3 (ixw (k := 1) rfl (by omega)) (by omega) ?_
  refine g_aload_x dL_law_488 rfl rfl ?_
  refine g_iload_n (i := 3) dL_law_489 rfl rfl ?_
  refine g_iconst (v := 2) dL_law_490 (by decide) ?_
  refine g_iadd dL_law_491 ?_
  refine g_sld dL_law_492 xl_3 (ixw (k := 2) rfl (by omega)) (by omega) ?_
  refine g_callV (M' := mX7_compare) dL_law_493 lc_X7_compare ml_L_53 (xo_compare hf hx _ _) rfl rfl (by repeat' (first | assumption | exact rF_eq | refine rF_ne (by decide) ?_ | refine rF_a ?_ | exact rA_eq | refine rA_ne (by decide) ?_ | refine rA_f ?_)) rfl ⟨Nat.le_of_ble_eq_true rfl, Nat.le_of_ble_eq_true rfl, Nat.le_of_ble_eq_true rfl, Nat.le_of_ble_eq_true rfl⟩ (Nat.le_of_ble_eq_true rfl) ?_
  intro r_ h_ q_; obtain ⟨rfl, x1, x2⟩ := q_
  have hm2 := rm_lo hm x2
  have e44 := hm2.2.1.1
  refine g_aload_n (i := 2) dL_law_496 rfl rfl ?_
  refine g_aload_x dL_law_497 rfl rfl ?_
  refine g_iload_n (i := 3) dL_law_498 rfl rfl ?_
  refine g_iconst (v := 1) dL_law_499 (by decide) ?_
  refine g_iadd dL_law_500 ?_
  refine g_sld dL_law_501 xl_3 (ixw (k := 1) rfl (by omega)) (by omega) ?_
  refine g_aload_x dL_law_502 rfl rfl ?_
  refine g_iload_n (i := 3) dL_law_503 rfl rfl ?_
  refine g_iconst (v := 2) dL_law_504 (by decide) ?_
  refine g_iadd dL_law_505 ?_
  refine g_sld dL_law_506 xl_3 (ixw (k := 2) rfl (by omega)) (by omega) ?_
  refine g_callV (M' := mX8_compare) dL_law_507 lc_X8_compare ml_L_56 (mo_compare hf hm2 _ _) rfl rfl (by repeat' (first | assumption | exact rF_eq | refine rF_ne (by decide) ?_ | refine rF_a ?_ | exact rA_eq | refine rA_ne (by decide) ?_ | refine rA_f ?_)) rfl ⟨Nat.le_of_ble_eq_true rfl, Nat.le_of_ble_eq_true rfl, Nat.le_of_ble_eq_true rfl, Nat.le_of_ble_eq_true rfl⟩ (Nat.le_of_ble_eq_true rfl) ?_
  intro r_ h_ q_; obtain ⟨rfl, y1, y2⟩ := q_
  have hx2 := rx_hi x1 y2
  refine g_icmp_eq (tgt := 1306) dL_law_510 (by decide) (fun hc510 => ?_) (fun hc510 => ?_)
  · have hd510 := i_eq.mp hc510; (try simp (disch := omega) only [nT, t_m1000100, t_m1000010, t_m1000003, t_m1000002, t_m1000001, t_m1000000, t_m65535, t_m1000, t_m3, t_m1, t_0, t_1, t_2, t_3, t_4, t_5, t_6, t_7, t_8, t_9, t_10, t_11, t_12, t_13, t_15, t_16, t_20, t_21, t_22, t_32, t_40, t_41, t_48, t_49, t_57, t_59, t_60, t_63, t_72, t_76, t_88, t_100, t_144, t_200, t_255, t_288, t_400, t_800, t_999, t_1000, t_1024, t_1200, t_1600, t_3200, t_100000, t_200000, t_252645135, t_858993459, t_1431655765, u_m1000002, u_m1000001, u_m1000, u_m3, u_m1, u_0, u_1, u_2, u_3, u_4, u_5, u_7, u_8, u_10, u_11, u_15, u_60, u_100, u_255, u_999, u_1000, u_100000, u_4294967295] at hd510)
    exact K _ _ _ _ _ _ _ _ _ _ _ ⟨wfs_st fS _, fP, fA, fT, fR, fG, fW, fQ⟩ hx2 y1
  · have hd510 := mt i_eq.mpr hc510; (try simp (disch := omega) only [nT, t_m1000100, t_m1000010, t_m1000003, t_m1000002, t_m1000001, t_m1000000, t_m65535, t_m1000, t_m3, t_m1, t_0, t_1, t_2, t_3, t_4, t_5, t_6, t_7, t_8, t_9, t_10, t_11, t_12, t_13, t_15, t_16, t_20, t_21, t_22, t_32, t_40, t_41, t_48, t_49, t_57, t_59, t_60, t_63, t_72, t_76, t_88, t_100, t_144, t_200, t_255, t_288, t_400, t_800, t_999, t_1000, t_1024, t_1200, t_1600, t_3200, t_100000, t_200000, t_252645135, t_858993459, t_1431655765, u_m1000002, u_m1000001, u_m1000, u_m3, u_m1, u_0, u_1, u_2, u_3, u_4, u_5, u_7, u_8, u_10, u_11, u_15, u_60, u_100, u_255, u_999, u_1000, u_100000, u_4294967295] at hd510); exact absurd rfl hc510
theorem lw_c_test (hi : i + 6 ≤ L) (hL : L ≤ 3072) (hf : WF w P A T R G W pt) (hx : RX w P E A T R G W pt fl h) (hm : RM w P E A T R G W pt fl h) (K : ∀ (w : SH) (P : TP) (E : ST2) (A : LA) (T : TS) (R : RS) (G : GL2) (W : WA) (pt : PT) (fl : Int32) (h' : HH), WF w P A T R G W pt → RX w P E A T R G W pt fl h' → RM w P E A T R G W pt fl h' → GG (EL L xs) 75 216376 1306 [hX, .ref 0, .ref 44, .int (nI i)] [] h') : GG (EL L xs) 75 216376 515 [hX, .ref 0, .ref 44, .int (nI i)] [] h := by
  have e0 := hx.1.1.1
  obtain ⟨fS, fP, fA, fT, fR, fG, fW, fQ⟩ := id hf
  refine g_aload_n (i := 1) dL_law_515 rfl rfl ?_
  refine g_aload_x dL_law_516 rfl rfl ?_
  refine g_iload_n (i := 3) dL_law_517 rfl rfl ?_
  refine g_iconst (v := 1) dL_law_518 (by decide) ?_
  refine g_iadd dL_law_519 ?_
  refine g_sld dL_law_520 xl_3 (ixw (k := 1) rfl (by omega)) (by omega) ?_
  refine g_aload_x dL_law_521 rfl rfl ?_
  refine g_iload_n (i := 3) dL_law_522 rfl rfl ?_
  refine g_iconst (v := 2) dL_law_523 (by decide) ?_
  refine g_iadd dL_law_524 ?_
  refine g_sld dL_law_525 xl_3 (ixw (k := 2) rfl (by omega)) (by omega) ?_
  refine g_aload_x dL_law_526 rfl rfl ?_
  refine g_iload_n (i := 3) dL_law_527 rfl rfl ?_
  refine g_iconst (v := 3) dL_law_528 (by decide) ?_
  refine g_iadd dL_law_529 ?_
  refine g_sld dL_law_530 xl_3 (ixw (k := 3) rfl (by omega)) (by omega) ?_
  refine g_aload_x dL_law_531 rfl rfl ?_
  refine g_iload_n (i := 3) dL_law_532 rfl rfl ?_
  refine g_iconst (v := 4) dL_law_533 (by decide) ?_
  refine g_iadd dL_law_534 ?_
  refine g_sld dL_law_535 xl_3 (ixw (k := 4) rfl (by omega)) (by omega) ?_
  refine g_callV (M' := mX7_test) dL_law_536 lc_X7_test ml_L_57 (xo_test hf hx _ _ _ _) rfl rfl (by repeat' (first | assumption | exact rF_eq | refine rF_ne (by decide) ?_ | refine rF_a ?_ | exact rA_eq | refine rA_ne (by decide) ?_ | refine rA_f ?_)) rfl ⟨Nat.le_of_ble_eq_true rfl, Nat.le_of_ble_eq_true rfl, Nat.le_of_ble_eq_true rfl, Nat.le_of_ble_eq_true rfl⟩ (Nat.le_of_ble_eq_true rfl) ?_
  intro r_ h_ q_; obtain ⟨rfl, x1, x2⟩ := q_
  have hm2 := rm_lo hm x2
  have e44 := hm2.2.1.1
  refine g_aload_n (i := 2) dL_law_539 rfl rfl ?_
  refine g_aload_x dL_law_540 rfl rfl ?_
  refine g_iload_n (i := 3) dL_law_541 rfl rfl ?_
  refine g_iconst (v := 1) dL_law_542 (by decide) ?_
  refine g_iadd dL_law_543 ?_
  refine g_sld dL_law_544 xl_3 (ixw (k := 1) rfl (by omega)) (by omega) ?_
  refine g_aload_x dL_law_545 rfl rfl ?_
  refine g_iload_n (i := 3) dL_law_546 rfl rfl ?_
  refine g_iconst (v := 2) dL_law_547 (by decide) ?_
  refine g_iadd dL_law_548 ?_
  refine g_sld dL_law_549 xl_3 (ixw (k := 2) rfl (by omega)) (by omega) ?_
  refine g_aload_x dL_law_550 rfl rfl ?_
  refine g_iload_n (i := 3) dL_law_551 rfl rfl ?_
  refine g_iconst (v := 3) dL_law_552 (by decide) ?_
  refine g_iadd dL_law_553 ?_
  refine g_sld dL_law_554 xl_3 (ixw (k := 3) rfl (by omega)) (by omega) ?_
  refine g_aload_x dL_law_555 rfl rfl ?_
  refine g_iload_n (i := 3) dL_law_556 rfl rfl ?_
  refine g_iconst (v := 4) dL_law_557 (by decide) ?_
  refine g_iadd dL_law_558 ?_
  refine g_sld dL_law_559 xl_3 (ixw (k := 4) rfl (by omega)) (by omega) ?_
  refine g_callV (M' := mX8_test) dL_law_560 lc_X8_test ml_L_61 (mo_test hf hm2 _ _ _ _) rfl rfl (by repeat' (first | assumption | exact rF_eq | refine rF_ne (by decide) ?_ | refine rF_a ?_ | exact rA_eq | refine rA_ne (by decide) ?_ | refine rA_f ?_)) rfl ⟨Nat.le_of_ble_eq_true rfl, Nat.le_of_ble_eq_true rfl, Nat.le_of_ble_eq_true rfl, Nat.le_of_ble_eq_true rfl⟩ (Nat.le_of_ble_eq_true rfl) ?_
  intro r_ h_ q_; obtain ⟨rfl, y1, y2⟩ := q_
  have hx2 := rx_hi x1 y2
  refine g_icmp_eq (tgt := 1306) dL_law_563 (by decide) (fun hc563 => ?_) (fun hc563 => ?_)
  · have hd563 := i_eq.mp hc563; (try simp (disch := omega) only [nT, t_m1000100, t_m1000010, t_m1000003, t_m1000002, t_m1000001, t_m1000000, t_m65535, t_m1000, t_m3, t_m1, t_0, t_1, t_2, t_3, t_4, t_5, t_6, t_7, t_8, t_9, t_10, t_11, t_12, t_13, t_15, t_16, t_20, t_21, t_22, t_32, t_40, t_41, t_48, t_49, t_57, t_59, t_60, t_63, t_72, t_76, t_88, t_100, t_144, t_200, t_255, t_288, t_400, t_800, t_999, t_1000, t_1024, t_1200, t_1600, t_3200, t_100000, t_200000, t_252645135, t_858993459, t_1431655765, u_m1000002, u_m1000001, u_m1000, u_m3, u_m1, u_0, u_1, u_2, u_3, u_4, u_5, u_7, u_8, u_10, u_11, u_15, u_60, u_100, u_255, u_999, u_1000, u_100000, u_4294967295] at hd563)
    exact K _ _ _ _ _ _ _ _ _ _ _ ⟨fS, fP, fA, wf_test fT _ _ _ _, fR, fG, fW, fQ⟩ hx2 y1
  · have hd563 := mt i_eq.mpr hc563; (try simp (disch := omega) only [nT, t_m1000100, t_m1000010, t_m1000003, t_m1000002, t_m1000001, t_m1000000, t_m65535, t_m1000, t_m3, t_m1, t_0, t_1, t_2, t_3, t_4, t_5, t_6, t_7, t_8, t_9, t_10, t_11, t_12, t_13, t_15, t_16, t_20, t_21, t_22, t_32, t_40, t_41, t_48, t_49, t_57, t_59, t_60, t_63, t_72, t_76, t_88, t_100, t_144, t_200, t_255, t_288, t_400, t_800, t_999, t_1000, t_1024, t_1200, t_1600, t_3200, t_100000, t_200000, t_252645135, t_858993459, t_1431655765, u_m1000002, u_m1000001, u_m1000, u_m3, u_m1, u_0, u_1, u_2, u_3, u_4, u_5, u_7, u_8, u_10, u_11, u_15, u_60, u_100, u_255, u_999, u_1000, u_100000, u_4294967295] at hd563); exact absurd rfl hc563
theorem lw_c_move (hi : i + 6 ≤ L) (hL : L ≤ 3072) (hf : WF w P A T R G W pt) (hx : RX w P E A T R G W pt fl h) (hm : RM w P E A T R G W pt fl h) (K : ∀ (w : SH) (P : TP) (E : ST2) (A : LA) (T : TS) (R : RS) (G : GL2) (W : WA) (pt : PT) (fl : Int32) (h' : HH), WF w P A T R G W pt → RX w P E A T R G W pt fl h' → RM w P E A T R G W pt fl h' → GG (EL L xs) 75 216376 1306 [hX, .ref 0, .ref 44, .int (nI i)] [] h') : GG (EL L xs) 75 216376 568 [hX, .ref 0, .ref 44, .int (nI i)] [] h := by
  have e0 := hx.1.1.1
  obtain ⟨fS, fP, fA, fT, fR, fG, fW, fQ⟩ := id hf
  refine g_aload_n (i := 1) dL_law_568 rfl rfl ?_
  refine g_aload_x dL_law_569 rfl rfl ?_
  refine g_iload_n (i := 3) dL_law_570 rfl rfl ?_
  refine g_iconst (v := 1) dL_law_571 (by decide) ?_
  refine g_iadd dL_law_572 ?_
  refine g_sld dL_law_573 xl_3 (ixw (k := 1) rfl (by omega)) (by omega) ?_
  refine g_aload_x dL_law_574 rfl rfl ?_
  refine g_iload_n (i := 3) dL_law_575 rfl rfl ?_
  refine g_iconst (v := 2) dL_law_576 (by decide) ?_
  refine g_iadd dL_law_577 ?_
  refine g_sld dL_law_578 xl_3 (ixw (k := 2) rfl (by omega)) (by omega) ?_
  refine g_callV (M' := mX7_move) dL_law_579 lc_X7_move ml_L_62 (xo_move hf hx _ _) rfl rfl (by repeat' (first | assumption | exact rF_eq | refine rF_ne (by decide) ?_ | refine rF_a ?_ | exact rA_eq | refine rA_ne (by decide) ?_ | refine rA_f ?_)) rfl ⟨Nat.le_of_ble_eq_true rfl, Nat.le_of_ble_eq_true rfl, Nat.le_of_ble_eq_true rfl, Nat.le_of_ble_eq_true rfl⟩ (Nat.le_of_ble_eq_true rfl) ?_
  intro r_ h_ q_; obtain ⟨rfl, x1, x2⟩ := q_
  have hm2 := rm_lo hm x2
  have e44 := hm2.2.1.1
  refine g_aload_n (i := 2) dL_law_582 rfl rfl ?_
  refine g_aload_x dL_law_583 rfl rfl ?_
  refine g_iload_n (i := 3) dL_law_584 rfl rfl ?_
  refine g_iconst (v := 1) dL_law_585 (by decide) ?_
  refine g_iadd dL_law_586 ?_
  refine g_sld dL_law_587 xl_3 (ixw (k := 1) rfl (by omega)) (by omega) ?_
  refine g_aload_x dL_law_588 rfl rfl ?_
  refine g_iload_n (i := 3) dL_law_589 rfl rfl ?_
  refine g_iconst (v := 2) dL_law_590 (by decide) ?_
  refine g_iadd dL_law_591 ?_
  refine g_sld dL_law_592 xl_3 (ixw (k := 2) rfl (by omega)) (by omega) ?_
  refine g_callV (M' := mX8_move) dL_law_593 lc_X8_move ml_L_65 (mo_move hf hm2 _ _) rfl rfl (by repeat' (first | assumption | exact rF_eq | refine rF_ne (by decide) ?_ | refine rF_a ?_ | exact rA_eq | refine rA_ne (by decide) ?_ | refine rA_f ?_)) rfl ⟨Nat.le_of_ble_eq_true rfl, Nat.le_of_ble_eq_true rfl, Nat.le_of_ble_eq_true rfl, Nat.le_of_ble_eq_true rfl⟩ (Nat.le_of_ble_eq_true rfl) ?_
  intro r_ h_ q_; obtain ⟨rfl, y1, y2⟩ := q_
  have hx2 := rx_hi x1 y2
  refine g_icmp_eq (tgt := 1306) dL_law_596 (by decide) (fun hc596 => ?_) (fun hc596 => ?_)
  · have hd596 := i_eq.mp hc596; (try simp (disch := omega) only [nT, t_m1000100, t_m1000010, t_m1000003, t_m1000002, t_m1000001, t_m1000000, t_m65535, t_m1000, t_m3, t_m1, t_0, t_1, t_2, t_3, t_4, t_5, t_6, t_7, t_8, t_9, t_10, t_11, t_12, t_13, t_15, t_16, t_20, t_21, t_22, t_32, t_40, t_41, t_48, t_49, t_57, t_59, t_60, t_63, t_72, t_76, t_88, t_100, t_144, t_200, t_255, t_288, t_400, t_800, t_999, t_1000, t_1024, t_1200, t_1600, t_3200, t_100000, t_200000, t_252645135, t_858993459, t_1431655765, u_m1000002, u_m1000001, u_m1000, u_m3, u_m1, u_0, u_1, u_2, u_3, u_4, u_5, u_7, u_8, u_10, u_11, u_15, u_60, u_100, u_255, u_999, u_1000, u_100000, u_4294967295] at hd596)
    exact K _ _ _ _ _ _ _ _ _ _ _ ⟨fS, fP, fA, wf_move fT _ _, fR, fG, fW, fQ⟩ hx2 y1
  · have hd596 := mt i_eq.mpr hc596; (try simp (disch := omega) only [nT, t_m1000100, t_m1000010, t_m1000003, t_m1000002, t_m1000001, t_m1000000, t_m65535, t_m1000, t_m3, t_m1, t_0, t_1, t_2, t_3, t_4, t_5, t_6, t_7, t_8, t_9, t_10, t_11, t_12, t_13, t_15, t_16, t_20, t_21, t_22, t_32, t_40, t_41, t_48, t_49, t_57, t_59, t_60, t_63, t_72, t_76, t_88, t_100, t_144, t_200, t_255, t_288, t_400, t_800, t_999, t_1000, t_1024, t_1200, t_1600, t_3200, t_100000, t_200000, t_252645135, t_858993459, t_1431655765, u_m1000002, u_m1000001, u_m1000, u_m3, u_m1, u_0, u_1, u_2, u_3, u_4, u_5, u_7, u_8, u_10, u_11, u_15, u_60, u_100, u_255, u_999, u_1000, u_100000, u_4294967295] at hd596); exact absurd rfl hc596
theorem lw_c_flow (hi : i + 6 ≤ L) (hL : L ≤ 3072) (hf : WF w P A T R G W pt) (hx : RX w P E A T R G W pt fl h) (hm : RM w P E A T R G W pt fl h) (K : ∀ (w : SH) (P : TP) (E : ST2) (A : LA) (T : TS) (R : RS) (G : GL2) (W : WA) (pt : PT) (fl : Int32) (h' : HH), WF w P A T R G W pt → RX w P E A T R G W pt fl h' → RM w P E A T R G W pt fl h' → GG (EL L xs) 75 216376 1306 [hX, .ref 0, .ref 44, .int (nI i)] [] h') : GG (EL L xs) 75 216376 601 [hX, .ref 0, .ref 44, .int (nI i)] [] h := by
  have e0 := hx.1.1.1
  obtain ⟨fS, fP, fA, fT, fR, fG, fW, fQ⟩ := id hf
  refine g_aload_n (i := 1) dL_law_601 rfl rfl ?_
  refine g_aload_x dL_law_602 rfl rfl ?_
  refine g_iload_n (i := 3) dL_law_603 rfl rfl ?_
  refine g_iconst (v := 1) dL_law_604 (by decide) ?_
  refine g_iadd dL_law_605 ?_
  refine g_sld dL_law_606 xl_3 (ixw (k := 1) rfl (by omega)) (by omega) ?_
  refine g_callV (M' := mX7_flow) dL_law_607 lc_X7_flow ml_L_66 (xo_flow hf hx _) rfl rfl (by repeat' (first | assumption | exact rF_eq | refine rF_ne (by decide) ?_ | refine rF_a ?_ | exact rA_eq | refine rA_ne (by decide) ?_ | refine rA_f ?_)) rfl ⟨Nat.le_of_ble_eq_true rfl, Nat.le_of_ble_eq_true rfl, Nat.le_of_ble_eq_true rfl, Nat.le_of_ble_eq_true rfl⟩ (Nat.le_of_ble_eq_true rfl) ?_
  intro r_ h_ q_; obtain ⟨rfl, x1, x2⟩ := q_
  have hm2 := rm_lo hm x2
  have e44 := hm2.2.1.1
  refine g_aload_n (i := 2) dL_law_610 rfl rfl ?_
  refine g_aload_x dL_law_611 rfl rfl ?_
  refine g_iload_n (i := 3) dL_law_612 rfl rfl ?_
  refine g_iconst (v := 1) dL_law_613 (by decide) ?_
  refine g_iadd dL_law_614 ?_
  refine g_sld dL_law_615 xl_3 (ixw (k := 1) rfl (by omega)) (by omega) ?_
  refine g_callV (M' := mX8_flow) dL_law_616 lc_X8_flow ml_L_69 (mo_flow hf hm2 _) rfl rfl (by repeat' (first | assumption | exact rF_eq | refine rF_ne (by decide) ?_ | refine rF_a ?_ | exact rA_eq | refine rA_ne (by decide) ?_ | refine rA_f ?_)) rfl ⟨Nat.le_of_ble_eq_true rfl, Nat.le_of_ble_eq_true rfl, Nat.le_of_ble_eq_true rfl, Nat.le_of_ble_eq_true rfl⟩ (Nat.le_of_ble_eq_true rfl) ?_
  intro r_ h_ q_; obtain ⟨rfl, y1, y2⟩ := q_
  have hx2 := rx_hi x1 y2
  refine g_icmp_eq (tgt := 1306) dL_law_619 (by decide) (fun hc619 => ?_) (fun hc619 => ?_)
  · have hd619 := i_eq.mp hc619; (try simp (disch := omega) only [nT, t_m1000100, t_m1000010, t_m1000003, t_m1000002, t_m1000001, t_m1000000, t_m65535, t_m1000, t_m3, t_m1, t_0, t_1, t_2, t_3, t_4, t_5, t_6, t_7, t_8, t_9, t_10, t_11, t_12, t_13, t_15, t_16, t_20, t_21, t_22, t_32, t_40, t_41, t_48, t_49, t_57, t_59, t_60, t_63, t_72, t_76, t_88, t_100, t_144, t_200, t_255, t_288, t_400, t_800, t_999, t_1000, t_1024, t_1200, t_1600, t_3200, t_100000, t_200000, t_252645135, t_858993459, t_1431655765, u_m1000002, u_m1000001, u_m1000, u_m3, u_m1, u_0, u_1, u_2, u_3, u_4, u_5, u_7, u_8, u_10, u_11, u_15, u_60, u_100, u_255, u_999, u_1000, u_100000, u_4294967295] at hd619)
    exact K _ _ _ _ _ _ _ _ _ _ _ ⟨fS, fP, fA, fT, fR, fG, fW, fQ⟩ hx2 y1
  · have hd619 := mt i_eq.mpr hc619; (try simp (disch := omega) only [nT, t_m1000100, t_m1000010, t_m1000003, t_m1000002, t_m1000001, t_m1000000, t_m65535, t_m1000, t_m3, t_m1, t_0, t_1, t_2, t_3, t_4, t_5, t_6, t_7, t_8, t_9, t_10, t_11, t_12, t_13, t_15, t_16, t_20, t_21, t_22, t_32, t_40, t_41, t_48, t_49, t_57, t_59, t_60, t_63, t_72, t_76, t_88, t_100, t_144, t_200, t_255, t_288, t_400, t_800, t_999, t_1000, t_1024, t_1200, t_1600, t_3200, t_100000, t_200000, t_252645135, t_858993459, t_1431655765, u_m1000002, u_m1000001, u_m1000, u_m3, u_m1, u_0, u_1, u_2, u_3, u_4, u_5, u_7, u_8, u_10, u_11, u_15, u_60, u_100, u_255, u_999, u_1000, u_100000, u_4294967295] at hd619); exact absurd rfl hc619
theorem lw_c_kind (hi : i + 6 ≤ L) (hL : L ≤ 3072) (hf : WF w P A T R G W pt) (hx : RX w P E A T R G W pt fl h) (hm : RM w P E A T R G W pt fl h) (K : ∀ (w : SH) (P : TP) (E : ST2) (A : LA) (T : TS) (R : RS) (G : GL2) (W : WA) (pt : PT) (fl : Int32) (h' : HH), WF w P A T R G W pt → RX w P E A T R G W pt fl h' → RM w P E A T R G W pt fl h' → GG (EL L xs) 75 216376 1306 [hX, .ref 0, .ref 44, .int (nI i)] [] h') : GG (EL L xs) 75 216376 624 [hX, .ref 0, .ref 44, .int (nI i)] [] h := by
  have e0 := hx.1.1.1
  obtain ⟨fS, fP, fA, fT, fR, fG, fW, fQ⟩ := id hf
  refine g_aload_n (i := 1) dL_law_624 rfl rfl ?_
  refine g_aload_x dL_law_625 rfl rfl ?_
  refine g_iload_n (i := 3) dL_law_626 rfl rfl ?_
  refine g_iconst (v := 1) dL_law_627 (by decide) ?_
  refine g_iadd dL_law_628 ?_
  refine g_sld dL_law_629 xl_3 (ixw (k := 1) rfl (by omega)) (by omega) ?_
  refine g_callV (M' := mX7_kind) dL_law_630 lc_X7_kind ml_L_70 (xo_kind hf hx _) rfl rfl (by repeat' (first | assumption | exact rF_eq | refine rF_ne (by decide) ?_ | refine rF_a ?_ | exact rA_eq | refine rA_ne (by decide) ?_ | refine rA_f ?_)) rfl ⟨Nat.le_of_ble_eq_true rfl, Nat.le_of_ble_eq_true rfl, Nat.le_of_ble_eq_true rfl, Nat.le_of_ble_eq_true rfl⟩ (Nat.le_of_ble_eq_true rfl) ?_
  intro r_ h_ q_; obtain ⟨rfl, x1, x2⟩ := q_
  have hm2 := rm_lo hm x2
  have e44 := hm2.2.1.1
  refine g_aload_n (i := 2) dL_law_633 rfl rfl ?_
  refine g_aload_x dL_law_634 rfl rfl ?_
  refine g_iload_n (i := 3) dL_law_635 rfl rfl ?_
  refine g_iconst (v := 1) dL_law_636 (by decide) ?_
  refine g_iadd dL_law_637 ?_
  refine g_sld dL_law_638 xl_3 (ixw (k := 1) rfl (by omega)) (by omega) ?_
  refine g_callV (M' := mX8_kind) dL_law_639 lc_X8_kind ml_L_73 (mo_kind hf hm2 _) rfl rfl (by repeat' (first | assumption | exact rF_eq | refine rF_ne (by decide) ?_ | refine rF_a ?_ | exact rA_eq | refine rA_ne (by decide) ?_ | refine rA_f ?_)) rfl ⟨Nat.le_of_ble_eq_true rfl, Nat.le_of_ble_eq_true rfl, Nat.le_of_ble_eq_true rfl, Nat.le_of_ble_eq_true rfl⟩ (Nat.le_of_ble_eq_true rfl) ?_
  intro r_ h_ q_; obtain ⟨rfl, y1, y2⟩ := q_
  have hx2 := rx_hi x1 y2
  refine g_icmp_eq (tgt := 1306) dL_law_642 (by decide) (fun hc642 => ?_) (fun hc642 => ?_)
  · have hd642 := i_eq.mp hc642; (try simp (disch := omega) only [nT, t_m1000100, t_m1000010, t_m1000003, t_m1000002, t_m1000001, t_m1000000, t_m65535, t_m1000, t_m3, t_m1, t_0, t_1, t_2, t_3, t_4, t_5, t_6, t_7, t_8, t_9, t_10, t_11, t_12, t_13, t_15, t_16, t_20, t_21, t_22, t_32, t_40, t_41, t_48, t_49, t_57, t_59, t_60, t_63, t_72, t_76, t_88, t_100, t_144, t_200, t_255, t_288, t_400, t_800, t_999, t_1000, t_1024, t_1200, t_1600, t_3200, t_100000, t_200000, t_252645135, t_858993459, t_1431655765, u_m1000002, u_m1000001, u_m1000, u_m3, u_m1, u_0, u_1, u_2, u_3, u_4, u_5, u_7, u_8, u_10, u_11, u_15, u_60, u_100, u_255, u_999, u_1000, u_100000, u_4294967295] at hd642)
    exact K _ _ _ _ _ _ _ _ _ _ _ ⟨fS, fP, fA, fT, fR, fG, fW, fQ⟩ hx2 y1
  · have hd642 := mt i_eq.mpr hc642; (try simp (disch := omega) only [nT, t_m1000100, t_m1000010, t_m1000003, t_m1000002, t_m1000001, t_m1000000, t_m65535, t_m1000, t_m3, t_m1, t_0, t_1, t_2, t_3, t_4, t_5, t_6, t_7, t_8, t_9, t_10, t_11, t_12, t_13, t_15, t_16, t_20, t_21, t_22, t_32, t_40, t_41, t_48, t_49, t_57, t_59, t_60, t_63, t_72, t_76, t_88, t_100, t_144, t_200, t_255, t_288, t_400, t_800, t_999, t_1000, t_1024, t_1200, t_1600, t_3200, t_100000, t_200000, t_252645135, t_858993459, t_1431655765, u_m1000002, u_m1000001, u_m1000, u_m3, u_m1, u_0, u_1, u_2, u_3, u_4, u_5, u_7, u_8, u_10, u_11, u_15, u_60, u_100, u_255, u_999, u_1000, u_100000, u_4294967295] at hd642); exact absurd rfl hc642
theorem lw_c_as (hi : i + 6 ≤ L) (hL : L ≤ 3072) (hf : WF w P A T R G W pt) (hx : RX w P E A T R G W pt fl h) (hm : RM w P E A T R G W pt fl h) (K : ∀ (w : SH) (P : TP) (E : ST2) (A : LA) (T : TS) (R : RS) (G : GL2) (W : WA) (pt : PT) (fl : Int32) (h' : HH), WF w P A T R G W pt → RX w P E A T R G W pt fl h' → RM w P E A T R G W pt fl h' → GG (EL L xs) 75 216376 1306 [hX, .ref 0, .ref 44, .int (nI i)] [] h') : GG (EL L xs) 75 216376 647 [hX, .ref 0, .ref 44, .int (nI i)] [] h := by
  have e0 := hx.1.1.1
  obtain ⟨fS, fP, fA, fT, fR, fG, fW, fQ⟩ := id hf
  refine g_aload_n (i := 1) dL_law_647 rfl rfl ?_
  refine g_aload_x dL_law_648 rfl rfl ?_
  refine g_iload_n (i := 3) dL_law_649 rfl rfl ?_
  refine g_iconst (v := 1) dL_law_650 (by decide) ?_
  refine g_iadd dL_law_651 ?_
  refine g_sld dL_law_652 xl_3 (ixw (k := 1) rfl (by omega)) (by omega) ?_
  refine g_aload_x dL_law_653 rfl rfl ?_
  refine g_iload_n (i := 3) dL_law_654 rfl rfl ?_
  refine g_iconst (v := 2) dL_law_655 (by decide) ?_
  refine g_iadd dL_law_656 ?_
  refine g_sld dL_law_657 xl_3 (ixw (k := 2) rfl (by omega)) (by omega) ?_
  refine g_callV (M' := mX7_as) dL_law_658 lc_X7_as ml_L_74 (xo_as hf hx _ _) rfl rfl (by repeat' (first | assumption | exact rF_eq | refine rF_ne (by decide) ?_ | refine rF_a ?_ | exact rA_eq | refine rA_ne (by decide) ?_ | refine rA_f ?_)) rfl ⟨Nat.le_of_ble_eq_true rfl, Nat.le_of_ble_eq_true rfl, Nat.le_of_ble_eq_true rfl, Nat.le_of_ble_eq_true rfl⟩ (Nat.le_of_ble_eq_true rfl) ?_
  intro r_ h_ q_; obtain ⟨rfl, x1, x2⟩ := q_
  have hm2 := rm_lo hm x2
  have e44 := hm2.2.1.1
  refine g_aload_n (i := 2) dL_law_661 rfl rfl ?_
  refine g_aload_x dL_law_662 rfl rfl ?_
  refine g_iload_n (i := 3) dL_law_663 rfl rfl ?_
  refine g_iconst (v := 1) dL_law_664 (by decide) ?_
  refine g_iadd dL_law_665 ?_
  refine g_sld dL_law_666 xl_3 (ixw (k := 1) rfl (by omega)) (by omega) ?_
  refine g_aload_x dL_law_667 rfl rfl ?_
  refine g_iload_n (i := 3) dL_law_668 rfl rfl ?_
  refine g_iconst (v := 2) dL_law_669 (by decide) ?_
  refine g_iadd dL_law_670 ?_
  refine g_sld dL_law_671 xl_3 (ixw (k := 2) rfl (by omega)) (by omega) ?_
  refine g_callV (M' := mX8_as) dL_law_672 lc_X8_as ml_L_77 (mo_as hf hm2 _ _) rfl rfl (by repeat' (first | assumption | exact rF_eq | refine rF_ne (by decide) ?_ | refine rF_a ?_ | exact rA_eq | refine rA_ne (by decide) ?_ | refine rA_f ?_)) rfl ⟨Nat.le_of_ble_eq_true rfl, Nat.le_of_ble_eq_true rfl, Nat.le_of_ble_eq_true rfl, Nat.le_of_ble_eq_true rfl⟩ (Nat.le_of_ble_eq_true rfl) ?_
  intro r_ h_ q_; obtain ⟨rfl, y1, y2⟩ := q_
  have hx2 := rx_hi x1 y2
  refine g_icmp_eq (tgt := 1306) dL_law_675 (by decide) (fun hc675 => ?_) (fun hc675 => ?_)
  · have hd675 := i_eq.mp hc675; (try simp (disch := omega) only [nT, t_m1000100, t_m1000010, t_m1000003, t_m1000002, t_m1000001, t_m1000000, t_m65535, t_m1000, t_m3, t_m1, t_0, t_1, t_2, t_3, t_4, t_5, t_6, t_7, t_8, t_9, t_10, t_11, t_12, t_13, t_15, t_16, t_20, t_21, t_22, t_32, t_40, t_41, t_48, t_49, t_57, t_59, t_60, t_63, t_72, t_76, t_88, t_100, t_144, t_200, t_255, t_288, t_400, t_800, t_999, t_1000, t_1024, t_1200, t_1600, t_3200, t_100000, t_200000, t_252645135, t_858993459, t_1431655765, u_m1000002, u_m1000001, u_m1000, u_m3, u_m1, u_0, u_1, u_2, u_3, u_4, u_5, u_7, u_8, u_10, u_11, u_15, u_60, u_100, u_255, u_999, u_1000, u_100000, u_4294967295] at hd675)
    exact K _ _ _ _ _ _ _ _ _ _ _ ⟨wfs_st fS _, fP, fA, fT, fR, fG, fW, fQ⟩ hx2 y1
  · have hd675 := mt i_eq.mpr hc675; (try simp (disch := omega) only [nT, t_m1000100, t_m1000010, t_m1000003, t_m1000002, t_m1000001, t_m1000000, t_m65535, t_m1000, t_m3, t_m1, t_0, t_1, t_2, t_3, t_4, t_5, t_6, t_7, t_8, t_9, t_10, t_11, t_12, t_13, t_15, t_16, t_20, t_21, t_22, t_32, t_40, t_41, t_48, t_49, t_57, t_59, t_60, t_63, t_72, t_76, t_88, t_100, t_144, t_200, t_255, t_288, t_400, t_800, t_999, t_1000, t_1024, t_1200, t_1600, t_3200, t_100000, t_200000, t_252645135, t_858993459, t_1431655765, u_m1000002, u_m1000001, u_m1000, u_m3, u_m1, u_0, u_1, u_2, u_3, u_4, u_5, u_7, u_8, u_10, u_11, u_15, u_60, u_100, u_255, u_999, u_1000, u_100000, u_4294967295] at hd675); exact absurd rfl hc675
theorem lw_c_ask (hi : i + 6 ≤ L) (hL : L ≤ 3072) (hf : WF w P A T R G W pt) (hx : RX w P E A T R G W pt fl h) (hm : RM w P E A T R G W pt fl h) (K : ∀ (w : SH) (P : TP) (E : ST2) (A : LA) (T : TS) (R : RS) (G : GL2) (W : WA) (pt : PT) (fl : Int32) (h' : HH), WF w P A T R G W pt → RX w P E A T R G W pt fl h' → RM w P E A T R G W pt fl h' → GG (EL L xs) 75 216376 1306 [hX, .ref 0, .ref 44, .int (nI i)] [] h') : GG (EL L xs) 75 216376 680 [hX, .ref 0, .ref 44, .int (nI i)] [] h := by
  have e0 := hx.1.1.1
  obtain ⟨fS, fP, fA, fT, fR, fG, fW, fQ⟩ := id hf
  refine g_aload_n (i := 1) dL_law_680 rfl rfl ?_
  refine g_aload_x dL_law_681 rfl rfl ?_
  refine g_iload_n (i := 3) dL_law_682 rfl rfl ?_
  refine g_iconst (v := 1) dL_law_683 (by decide) ?_
  refine g_iadd dL_law_684 ?_
  refine g_sld dL_law_685 xl_3 (ixw (k := 1) rfl (by omega)) (by omega) ?_
  refine g_aload_x dL_law_686 rfl rfl ?_
  refine g_iload_n (i := 3) dL_law_687 rfl rfl ?_
  refine g_iconst (v := 2) dL_law_688 (by decide) ?_
  refine g_iadd dL_law_689 ?_
  refine g_sld dL_law_690 xl_3 (ixw (k := 2) rfl (by omega)) (by omega) ?_
  refine g_callV (M' := mX7_ask) dL_law_691 lc_X7_ask ml_L_78 (xo_ask hf hx _ _) rfl rfl (by repeat' (first | assumption | exact rF_eq | refine rF_ne (by decide) ?_ | refine rF_a ?_ | exact rA_eq | refine rA_ne (by decide) ?_ | refine rA_f ?_)) rfl ⟨Nat.le_of_ble_eq_true rfl, Nat.le_of_ble_eq_true rfl, Nat.le_of_ble_eq_true rfl, Nat.le_of_ble_eq_true rfl⟩ (Nat.le_of_ble_eq_true rfl) ?_
  intro r_ h_ q_; obtain ⟨rfl, x1, x2⟩ := q_
  have hm2 := rm_lo hm x2
  have e44 := hm2.2.1.1
  refine g_aload_n (i := 2) dL_law_694 rfl rfl ?_
  refine g_aload_x dL_law_695 rfl rfl ?_
  refine g_iload_n (i := 3) dL_law_696 rfl rfl ?_
  refine g_iconst (v := 1) dL_law_697 (by decide) ?_
  refine g_iadd dL_law_698 ?_
  refine g_sld dL_law_699 xl_3 (ixw (k := 1) rfl (by omega)) (by omega) ?_
  refine g_aload_x dL_law_700 rfl rfl ?_
  refine g_iload_n (i := 3) dL_law_701 rfl rfl ?_
  refine g_iconst (v := 2) dL_law_702 (by decide) ?_
  refine g_iadd dL_law_703 ?_
  refine g_sld dL_law_704 xl_3 (ixw (k := 2) rfl (by omega)) (by omega) ?_
  refine g_callV (M' := mX8_ask) dL_law_705 lc_X8_ask ml_L_81 (mo_ask hf hm2 _ _) rfl rfl (by repeat' (first | assumption | exact rF_eq | refine rF_ne (by decide) ?_ | refine rF_a ?_ | exact rA_eq | refine rA_ne (by decide) ?_ | refine rA_f ?_)) rfl ⟨Nat.le_of_ble_eq_true rfl, Nat.le_of_ble_eq_true rfl, Nat.le_of_ble_eq_true rfl, Nat.le_of_ble_eq_true rfl⟩ (Nat.le_of_ble_eq_true rfl) ?_
  intro r_ h_ q_; obtain ⟨rfl, y1, y2⟩ := q_
  have hx2 := rx_hi x1 y2
  refine g_icmp_eq (tgt := 1306) dL_law_708 (by decide) (fun hc708 => ?_) (fun hc708 => ?_)
  · have hd708 := i_eq.mp hc708; (try simp (disch := omega) only [nT, t_m1000100, t_m1000010, t_m1000003, t_m1000002, t_m1000001, t_m1000000, t_m65535, t_m1000, t_m3, t_m1, t_0, t_1, t_2, t_3, t_4, t_5, t_6, t_7, t_8, t_9, t_10, t_11, t_12, t_13, t_15, t_16, t_20, t_21, t_22, t_32, t_40, t_41, t_48, t_49, t_57, t_59, t_60, t_63, t_72, t_76, t_88, t_100, t_144, t_200, t_255, t_288, t_400, t_800, t_999, t_1000, t_1024, t_1200, t_1600, t_3200, t_100000, t_200000, t_252645135, t_858993459, t_1431655765, u_m1000002, u_m1000001, u_m1000, u_m3, u_m1, u_0, u_1, u_2, u_3, u_4, u_5, u_7, u_8, u_10, u_11, u_15, u_60, u_100, u_255, u_999, u_1000, u_100000, u_4294967295] at hd708)
    exact K _ _ _ _ _ _ _ _ _ _ _ ⟨fS, fP, fA, fT, wf_ask fR _ _, fG, fW, fQ⟩ hx2 y1
  · have hd708 := mt i_eq.mpr hc708; (try simp (disch := omega) only [nT, t_m1000100, t_m1000010, t_m1000003, t_m1000002, t_m1000001, t_m1000000, t_m65535, t_m1000, t_m3, t_m1, t_0, t_1, t_2, t_3, t_4, t_5, t_6, t_7, t_8, t_9, t_10, t_11, t_12, t_13, t_15, t_16, t_20, t_21, t_22, t_32, t_40, t_41, t_48, t_49, t_57, t_59, t_60, t_63, t_72, t_76, t_88, t_100, t_144, t_200, t_255, t_288, t_400, t_800, t_999, t_1000, t_1024, t_1200, t_1600, t_3200, t_100000, t_200000, t_252645135, t_858993459, t_1431655765, u_m1000002, u_m1000001, u_m1000, u_m3, u_m1, u_0, u_1, u_2, u_3, u_4, u_5, u_7, u_8, u_10, u_11, u_15, u_60, u_100, u_255, u_999, u_1000, u_100000, u_4294967295] at hd708); exact absurd rfl hc708
theorem lw_c_trace (hi : i + 6 ≤ L) (hL : L ≤ 3072) (hf : WF w P A T R G W pt) (hx : RX w P E A T R G W pt fl h) (hm : RM w P E A T R G W pt fl h) (K : ∀ (w : SH) (P : TP) (E : ST2) (A : LA) (T : TS) (R : RS) (G : GL2) (W : WA) (pt : PT) (fl : Int32) (h' : HH), WF w P A T R G W pt → RX w P E A T R G W pt fl h' → RM w P E A T R G W pt fl h' → GG (EL L xs) 75 216376 1306 [hX, .ref 0, .ref 44, .int (nI i)] [] h') : GG (EL L xs) 75 216376 713 [hX, .ref 0, .ref 44, .int (nI i)] [] h := by
  have e0 := hx.1.1.1
  obtain ⟨fS, fP, fA, fT, fR, fG, fW, fQ⟩ := id hf
  refine g_aload_n (i := 1) dL_law_713 rfl rfl ?_
  refine g_aload_x dL_law_714 rfl rfl ?_
  refine g_iload_n (i := 3) dL_law_715 rfl rfl ?_
  refine g_iconst (v := 1) dL_law_716 (by decide) ?_
  refine g_iadd dL_law_717 ?_
  refine g_sld dL_law_718 xl_3 (ixw (k := 1) rfl (by omega)) (by omega) ?_
  refine g_callV (M' := mX7_trace) dL_law_719 lc_X7_trace ml_L_82 (xo_trace hf hx _) rfl rfl (by repeat' (first | assumption | exact rF_eq | refine rF_ne (by decide) ?_ | refine rF_a ?_ | exact rA_eq | refine rA_ne (by decide) ?_ | refine rA_f ?_)) rfl ⟨Nat.le_of_ble_eq_true rfl, Nat.le_of_ble_eq_true rfl, Nat.le_of_ble_eq_true rfl, Nat.le_of_ble_eq_true rfl⟩ (Nat.le_of_ble_eq_true rfl) ?_
  intro r_ h_ q_; obtain ⟨rfl, x1, x2⟩ := q_
  have hm2 := rm_lo hm x2
  have e44 := hm2.2.1.1
  refine g_aload_n (i := 2) dL_law_722 rfl rfl ?_
  refine g_aload_x dL_law_723 rfl rfl ?_
  refine g_iload_n (i := 3) dL_law_724 rfl rfl ?_
  refine g_iconst (v := 1) dL_law_725 (by decide) ?_
  refine g_iadd dL_law_726 ?_
  refine g_sld dL_law_727 xl_3 (ixw (k := 1) rfl (by omega)) (by omega) ?_
  refine g_callV (M' := mX8_trace) dL_law_728 lc_X8_trace ml_L_85 (mo_trace hf hm2 _) rfl rfl (by repeat' (first | assumption | exact rF_eq | refine rF_ne (by decide) ?_ | refine rF_a ?_ | exact rA_eq | refine rA_ne (by decide) ?_ | refine rA_f ?_)) rfl ⟨Nat.le_of_ble_eq_true rfl, Nat.le_of_ble_eq_true rfl, Nat.le_of_ble_eq_true rfl, Nat.le_of_ble_eq_true rfl⟩ (Nat.le_of_ble_eq_true rfl) ?_
  intro r_ h_ q_; obtain ⟨rfl, y1, y2⟩ := q_
  have hx2 := rx_hi x1 y2
  refine g_icmp_eq (tgt := 1306) dL_law_731 (by decide) (fun hc731 => ?_) (fun hc731 => ?_)
  · have hd731 := i_eq.mp hc731; (try simp (disch := omega) only [nT, t_m1000100, t_m1000010, t_m1000003, t_m1000002, t_m1000001, t_m1000000, t_m65535, t_m1000, t_m3, t_m1, t_0, t_1, t_2, t_3, t_4, t_5, t_6, t_7, t_8, t_9, t_10, t_11, t_12, t_13, t_15, t_16, t_20, t_21, t_22, t_32, t_40, t_41, t_48, t_49, t_57, t_59, t_60, t_63, t_72, t_76, t_88, t_100, t_144, t_200, t_255, t_288, t_400, t_800, t_999, t_1000, t_1024, t_1200, t_1600, t_3200, t_100000, t_200000, t_252645135, t_858993459, t_1431655765, u_m1000002, u_m1000001, u_m1000, u_m3, u_m1, u_0, u_1, u_2, u_3, u_4, u_5, u_7, u_8, u_10, u_11, u_15, u_60, u_100, u_255, u_999, u_1000, u_100000, u_4294967295] at hd731)
    exact K _ _ _ _ _ _ _ _ _ _ _ ⟨fS, fP, fA, fT, fR, fG, fW, fQ⟩ hx2 y1
  · have hd731 := mt i_eq.mpr hc731; (try simp (disch := omega) only [nT, t_m1000100, t_m1000010, t_m1000003, t_m1000002, t_m1000001, t_m1000000, t_m65535, t_m1000, t_m3, t_m1, t_0, t_1, t_2, t_3, t_4, t_5, t_6, t_7, t_8, t_9, t_10, t_11, t_12, t_13, t_15, t_16, t_20, t_21, t_22, t_32, t_40, t_41, t_48, t_49, t_57, t_59, t_60, t_63, t_72, t_76, t_88, t_100, t_144, t_200, t_255, t_288, t_400, t_800, t_999, t_1000, t_1024, t_1200, t_1600, t_3200, t_100000, t_200000, t_252645135, t_858993459, t_1431655765, u_m1000002, u_m1000001, u_m1000, u_m3, u_m1, u_0, u_1, u_2, u_3, u_4, u_5, u_7, u_8, u_10, u_11, u_15, u_60, u_100, u_255, u_999, u_1000, u_100000, u_4294967295] at hd731); exact absurd rfl hc731
theorem lw_c_seat (hi : i + 6 ≤ L) (hL : L ≤ 3072) (hf : WF w P A T R G W pt) (hx : RX w P E A T R G W pt fl h) (hm : RM w P E A T R G W pt fl h) (K : ∀ (w : SH) (P : TP) (E : ST2) (A : LA) (T : TS) (R : RS) (G : GL2) (W : WA) (pt : PT) (fl : Int32) (h' : HH), WF w P A T R G W pt → RX w P E A T R G W pt fl h' → RM w P E A T R G W pt fl h' → GG (EL L xs) 75 216376 1306 [hX, .ref 0, .ref 44, .int (nI i)] [] h') : GG (EL L xs) 75 216376 736 [hX, .ref 0, .ref 44, .int (nI i)] [] h := by
  have e0 := hx.1.1.1
  obtain ⟨fS, fP, fA, fT, fR, fG, fW, fQ⟩ := id hf
  refine g_aload_n (i := 1) dL_law_736 rfl rfl ?_
  refine g_aload_x dL_law_737 rfl rfl ?_
  refine g_iload_n (i := 3) dL_law_738 rfl rfl ?_
  refine g_iconst (v := 1) dL_law_739 (by decide) ?_
  refine g_iadd dL_law_740 ?_
  refine g_sld dL_law_741 xl_3 (ixw (k := 1) rfl (by omega)) (by omega) ?_
  refine g_aload_x dL_law_742 rfl rfl ?_
  refine g_iload_n (i := 3) dL_law_743 rfl rfl ?_
  refine g_iconst (v := 2) dL_law_744 (by decide) ?_
  refine g_iadd dL_law_745 ?_
  refine g_sld dL_law_746 xl_3 (ixw (k := 2) rfl (by omega)) (by omega) ?_
  refine g_callV (M' := mX7_seat) dL_law_747 lc_X7_seat ml_L_86 (xo_seat hf hx _ _) rfl rfl (by repeat' (first | assumption | exact rF_eq | refine rF_ne (by decide) ?_ | refine rF_a ?_ | exact rA_eq | refine rA_ne (by decide) ?_ | refine rA_f ?_)) rfl ⟨Nat.le_of_ble_eq_true rfl, Nat.le_of_ble_eq_true rfl, Nat.le_of_ble_eq_true rfl, Nat.le_of_ble_eq_true rfl⟩ (Nat.le_of_ble_eq_true rfl) ?_
  intro r_ h_ q_; obtain ⟨rfl, x1, x2⟩ := q_
  have hm2 := rm_lo hm x2
  have e44 := hm2.2.1.1
  refine g_aload_n (i := 2) dL_law_750 rfl rfl ?_
  refine g_aload_x dL_law_751 rfl rfl ?_
  refine g_iload_n (i := 3) dL_law_752 rfl rfl ?_
  refine g_iconst (v := 1) dL_law_753 (by decide) ?_
  refine g_iadd dL_law_754 ?_
  refine g_sld dL_law_755 xl_3 (ixw (k := 1) rfl (by omega)) (by omega) ?_
  refine g_aload_x dL_law_756 rfl rfl ?_
  refine g_iload_n (i := 3) dL_law_757 rfl rfl ?_
  refine g_iconst (v := 2) dL_law_758 (by decide) ?_
  refine g_iadd dL_law_759 ?_
  refine g_sld dL_law_760 xl_3 (ixw (k := 2) rfl (by omega)) (by omega) ?_
  refine g_callV (M' := mX8_seat) dL_law_761 lc_X8_seat ml_L_89 (mo_seat hf hm2 _ _) rfl rfl (by repeat' (first | assumption | exact rF_eq | refine rF_ne (by decide) ?_ | refine rF_a ?_ | exact rA_eq | refine rA_ne (by decide) ?_ | refine rA_f ?_)) rfl ⟨Nat.le_of_ble_eq_true rfl, Nat.le_of_ble_eq_true rfl, Nat.le_of_ble_eq_true rfl, Nat.le_of_ble_eq_true rfl⟩ (Nat.le_of_ble_eq_true rfl) ?_
  intro r_ h_ q_; obtain ⟨rfl, y1, y2⟩ := q_
  have hx2 := rx_hi x1 y2
  refine g_icmp_eq (tgt := 1306) dL_law_764 (by decide) (fun hc764 => ?_) (fun hc764 => ?_)
  · have hd764 := i_eq.mp hc764; (try simp (disch := omega) only [nT, t_m1000100, t_m1000010, t_m1000003, t_m1000002, t_m1000001, t_m1000000, t_m65535, t_m1000, t_m3, t_m1, t_0, t_1, t_2, t_3, t_4, t_5, t_6, t_7, t_8, t_9, t_10, t_11, t_12, t_13, t_15, t_16, t_20, t_21, t_22, t_32, t_40, t_41, t_48, t_49, t_57, t_59, t_60, t_63, t_72, t_76, t_88, t_100, t_144, t_200, t_255, t_288, t_400, t_800, t_999, t_1000, t_1024, t_1200, t_1600, t_3200, t_100000, t_200000, t_252645135, t_858993459, t_1431655765, u_m1000002, u_m1000001, u_m1000, u_m3, u_m1, u_0, u_1, u_2, u_3, u_4, u_5, u_7, u_8, u_10, u_11, u_15, u_60, u_100, u_255, u_999, u_1000, u_100000, u_4294967295] at hd764)
    exact K _ _ _ _ _ _ _ _ _ _ _ ⟨fS, fP, fA, fT, fR, fG, fW, fQ⟩ hx2 y1
  · have hd764 := mt i_eq.mpr hc764; (try simp (disch := omega) only [nT, t_m1000100, t_m1000010, t_m1000003, t_m1000002, t_m1000001, t_m1000000, t_m65535, t_m1000, t_m3, t_m1, t_0, t_1, t_2, t_3, t_4, t_5, t_6, t_7, t_8, t_9, t_10, t_11, t_12, t_13, t_15, t_16, t_20, t_21, t_22, t_32, t_40, t_41, t_48, t_49, t_57, t_59, t_60, t_63, t_72, t_76, t_88, t_100, t_144, t_200, t_255, t_288, t_400, t_800, t_999, t_1000, t_1024, t_1200, t_1600, t_3200, t_100000, t_200000, t_252645135, t_858993459, t_1431655765, u_m1000002, u_m1000001, u_m1000, u_m3, u_m1, u_0, u_1, u_2, u_3, u_4, u_5, u_7, u_8, u_10, u_11, u_15, u_60, u_100, u_255, u_999, u_1000, u_100000, u_4294967295] at hd764); exact absurd rfl hc764
theorem lw_c_dead (hi : i + 6 ≤ L) (hL : L ≤ 3072) (hf : WF w P A T R G W pt) (hx : RX w P E A T R G W pt fl h) (hm : RM w P E A T R G W pt fl h) (K : ∀ (w : SH) (P : TP) (E : ST2) (A : LA) (T : TS) (R : RS) (G : GL2) (W : WA) (pt : PT) (fl : Int32) (h' : HH), WF w P A T R G W pt → RX w P E A T R G W pt fl h' → RM w P E A T R G W pt fl h' → GG (EL L xs) 75 216376 1306 [hX, .ref 0, .ref 44, .int (nI i)] [] h') : GG (EL L xs) 75 216376 769 [hX, .ref 0, .ref 44, .int (nI i)] [] h := by
  have e0 := hx.1.1.1
  obtain ⟨fS, fP, fA, fT, fR, fG, fW, fQ⟩ := id hf
  refine g_aload_n (i := 1) dL_law_769 rfl rfl ?_
  refine g_aload_x dL_law_770 rfl rfl ?_
  refine g_iload_n (i := 3) dL_law_771 rfl rfl ?_
  refine g_iconst (v := 1) dL_law_772 (by decide) ?_
  refine g_iadd dL_law_773 ?_
  refine g_sld dL_law_774 xl_3 (ixw (k := 1) rfl (by omega)) (by omega) ?_
  refine g_callV (M' := mX7_dead) dL_law_775 lc_X7_dead ml_L_90 (xo_dead hf hx _) rfl rfl (by repeat' (first | assumption | exact rF_eq | refine rF_ne (by decide) ?_ | refine rF_a ?_ | exact rA_eq | refine rA_ne (by decide) ?_ | refine rA_f ?_)) rfl ⟨Nat.le_of_ble_eq_true rfl, Nat.le_of_ble_eq_true rfl, Nat.le_of_ble_eq_true rfl, Nat.le_of_ble_eq_true rfl⟩ (Nat.le_of_ble_eq_true rfl) ?_
  intro r_ h_ q_; obtain ⟨rfl, x1, x2⟩ := q_
  have hm2 := rm_lo hm x2
  have e44 := hm2.2.1.1
  refine g_aload_n (i := 2) dL_law_778 rfl rfl ?_
  refine g_aload_x dL_law_779 rfl rfl ?_
  refine g_iload_n (i := 3) dL_law_780 rfl rfl ?_
  refine g_iconst (v := 1) dL_law_781 (by decide) ?_
  refine g_iadd dL_law_782 ?_
  refine g_sld dL_law_783 xl_3 (ixw (k := 1) rfl (by omega)) (by omega) ?_
  refine g_callV (M' := mX8_dead) dL_law_784 lc_X8_dead ml_L_93 (mo_dead hf hm2 _) rfl rfl (by repeat' (first | assumption | exact rF_eq | refine rF_ne (by decide) ?_ | refine rF_a ?_ | exact rA_eq | refine rA_ne (by decide) ?_ | refine rA_f ?_)) rfl ⟨Nat.le_of_ble_eq_true rfl, Nat.le_of_ble_eq_true rfl, Nat.le_of_ble_eq_true rfl, Nat.le_of_ble_eq_true rfl⟩ (Nat.le_of_ble_eq_true rfl) ?_
  intro r_ h_ q_; obtain ⟨rfl, y1, y2⟩ := q_
  have hx2 := rx_hi x1 y2
  refine g_icmp_eq (tgt := 1306) dL_law_787 (by decide) (fun hc787 => ?_) (fun hc787 => ?_)
  · have hd787 := i_eq.mp hc787; (try simp (disch := omega) only [nT, t_m1000100, t_m1000010, t_m1000003, t_m1000002, t_m1000001, t_m1000000, t_m65535, t_m1000, t_m3, t_m1, t_0, t_1, t_2, t_3, t_4, t_5, t_6, t_7, t_8, t_9, t_10, t_11, t_12, t_13, t_15, t_16, t_20, t_21, t_22, t_32, t_40, t_41, t_48, t_49, t_57, t_59, t_60, t_63, t_72, t_76, t_88, t_100, t_144, t_200, t_255, t_288, t_400, t_800, t_999, t_1000, t_1024, t_1200, t_1600, t_3200, t_100000, t_200000, t_252645135, t_858993459, t_1431655765, u_m1000002, u_m1000001, u_m1000, u_m3, u_m1, u_0, u_1, u_2, u_3, u_4, u_5, u_7, u_8, u_10, u_11, u_15, u_60, u_100, u_255, u_999, u_1000, u_100000, u_4294967295] at hd787)
    exact K _ _ _ _ _ _ _ _ _ _ _ ⟨fS, fP, fA, fT, fR, fG, fW, fQ⟩ hx2 y1
  · have hd787 := mt i_eq.mpr hc787; (try simp (disch := omega) only [nT, t_m1000100, t_m1000010, t_m1000003, t_m1000002, t_m1000001, t_m1000000, t_m65535, t_m1000, t_m3, t_m1, t_0, t_1, t_2, t_3, t_4, t_5, t_6, t_7, t_8, t_9, t_10, t_11, t_12, t_13, t_15, t_16, t_20, t_21, t_22, t_32, t_40, t_41, t_48, t_49, t_57, t_59, t_60, t_63, t_72, t_76, t_88, t_100, t_144, t_200, t_255, t_288, t_400, t_800, t_999, t_1000, t_1024, t_1200, t_1600, t_3200, t_100000, t_200000, t_252645135, t_858993459, t_1431655765, u_m1000002, u_m1000001, u_m1000, u_m3, u_m1, u_0, u_1, u_2, u_3, u_4, u_5, u_7, u_8, u_10, u_11, u_15, u_60, u_100, u_255, u_999, u_1000, u_100000, u_4294967295] at hd787); exact absurd rfl hc787
end Calls

/-! the law: one call of both, and the loop -/
section LAW
variable {E : EV} {A : Nat → Prop} {Q : State → Prop} {b L : Nat} {xs : Nat → Int32} {l : Launch} {G : GC} {G' : GM} {σ τ : St} {B j : Int}
theorem law_letter (hL : LH G G' b L xs A l E) (hI : IM B τ) (hC : RC σ τ) (hB : B ≤ 9000) (j0 : 0 ≤ j) (j1 : j + 4 ≤ (L : Int)) (nxt : ∀ σ' τ' : St, IM (B + 1) τ' → RC σ' τ' → VV E 4 A Q (JJ G G' σ' τ') 884 (lvq b G G' j) []) : VV E 4 A Q (JJ G G' σ τ) 156 (lvq b G G' j) [] := by
  refine x_aload_n (pc' := 157) hL.1 dL_law_156 rfl rfl ?_
  refine x_aload_n (pc' := 158) hL.1 dL_law_157 rfl rfl ?_
  refine x_iload_n (pc' := 159) hL.1 dL_law_158 rfl rfl ?_
  refine x_iconst (pc' := 160) hL.1 dL_law_159 rfl ?_
  refine x_iadd (pc' := 161) hL.1 dL_law_160 rfl ?_
  refine w_sld (pc' := 162) hL.1 hL.2.2.2.2.2.1 (by omega) (by omega) hL.2.2.2.2.2.2.2.2.2 dL_law_161 rfl ?_
  refine w_cC1 (pc' := 165) hL (c_X8_letter l G _ _ B hI hC (by omega) _ (xz_in _ _)) kX8_letter tM_L_13 (by decide) dL_law_162 rfl rfl (Nat.le_of_ble_eq_true rfl) (fun σ1 e1 => ?_)
  refine x_aload_n (pc' := 166) hL.1 dL_law_165 rfl rfl ?_
  refine x_aload_n (pc' := 167) hL.1 dL_law_166 rfl rfl ?_
  refine x_iload_n (pc' := 168) hL.1 dL_law_167 rfl rfl ?_
  refine x_iconst (pc' := 169) hL.1 dL_law_168 rfl ?_
  refine x_iadd (pc' := 170) hL.1 dL_law_169 rfl ?_
  refine w_sld (pc' := 171) hL.1 hL.2.2.2.2.2.1 (by omega) (by omega) hL.2.2.2.2.2.2.2.2.2 dL_law_170 rfl ?_
  refine w_cM1 (pc' := 174) hL (c_X9_letter l G' _ B hI (by omega) _ (xz_in _ _)) kX9_letter tM_L_17 (by decide) dL_law_171 rfl rfl (Nat.le_of_ble_eq_true rfl) (fun τ1 e2 => ?_)
  refine w_eq (tgt := 884) hL.1 dL_law_174 (by decide) ?_
  exact nxt _ _ (e2.im (I_letter _ hI)) (e2.rc e1)
theorem law_blank (hL : LH G G' b L xs A l E) (hI : IM B τ) (hC : RC σ τ) (hB : B ≤ 9000) (j0 : 0 ≤ j) (j1 : j + 4 ≤ (L : Int)) (nxt : ∀ σ' τ' : St, IM (B + 1) τ' → RC σ' τ' → VV E 4 A Q (JJ G G' σ' τ') 884 (lvq b G G' j) []) : VV E 4 A Q (JJ G G' σ τ) 179 (lvq b G G' j) [] := by
  refine x_aload_n (pc' := 180) hL.1 dL_law_179 rfl rfl ?_
  refine w_cC1 (pc' := 183) hL (c_X8_blank l G _ _ B hI hC (by omega)) kX8_blank tM_L_18 (by decide) dL_law_180 rfl rfl (Nat.le_of_ble_eq_true rfl) (fun σ1 e1 => ?_)
  refine x_aload_n (pc' := 184) hL.1 dL_law_183 rfl rfl ?_
  refine w_cM1 (pc' := 187) hL (c_X9_blank l G' _ B hI (by omega)) kX9_blank tM_L_22 (by decide) dL_law_184 rfl rfl (Nat.le_of_ble_eq_true rfl) (fun τ1 e2 => ?_)
  refine w_eq (tgt := 884) hL.1 dL_law_187 (by decide) ?_
  exact nxt _ _ (e2.im (I_blank hI)) (e2.rc e1)
theorem law_fault (hL : LH G G' b L xs A l E) (hI : IM B τ) (hC : RC σ τ) (hB : B ≤ 9000) (j0 : 0 ≤ j) (j1 : j + 4 ≤ (L : Int)) (nxt : ∀ σ' τ' : St, IM (B + 1) τ' → RC σ' τ' → VV E 4 A Q (JJ G G' σ' τ') 884 (lvq b G G' j) []) : VV E 4 A Q (JJ G G' σ τ) 192 (lvq b G G' j) [] := by
  refine x_aload_n (pc' := 193) hL.1 dL_law_192 rfl rfl ?_
  refine w_cC1 (pc' := 196) hL (c_X8_fault l G _ _ B hI hC (by omega)) kX8_fault tM_L_23 (by decide) dL_law_193 rfl rfl (Nat.le_of_ble_eq_true rfl) (fun σ1 e1 => ?_)
  refine x_aload_n (pc' := 197) hL.1 dL_law_196 rfl rfl ?_
  refine w_cM1 (pc' := 200) hL (c_X9_fault l G' _ B hI (by omega)) kX9_fault tM_L_26 (by decide) dL_law_197 rfl rfl (Nat.le_of_ble_eq_true rfl) (fun τ1 e2 => ?_)
  refine w_eq (tgt := 884) hL.1 dL_law_200 (by decide) ?_
  exact nxt _ _ (e2.im (IM_s hI)) (e2.rc e1)
theorem law_feasts (hL : LH G G' b L xs A l E) (hI : IM B τ) (hC : RC σ τ) (hB : B ≤ 9000) (j0 : 0 ≤ j) (j1 : j + 4 ≤ (L : Int)) (nxt : ∀ σ' τ' : St, IM (B + 1) τ' → RC σ' τ' → VV E 4 A Q (JJ G G' σ' τ') 884 (lvq b G G' j) []) : VV E 4 A Q (JJ G G' σ τ) 205 (lvq b G G' j) [] := by
  refine x_aload_n (pc' := 206) hL.1 dL_law_205 rfl rfl ?_
  refine w_cC1 (pc' := 209) hL (c_X8_feasts l G _ _ B hI hC (by omega)) kX8_feasts tM_L_27 (by decide) dL_law_206 rfl rfl (Nat.le_of_ble_eq_true rfl) (fun σ1 e1 => ?_)
  refine x_aload_n (pc' := 210) hL.1 dL_law_209 rfl rfl ?_
  refine w_cM1 (pc' := 213) hL (c_X9_feasts l G' _ B hI (by omega)) kX9_feasts tM_L_30 (by decide) dL_law_210 rfl rfl (Nat.le_of_ble_eq_true rfl) (fun τ1 e2 => ?_)
  refine w_eq (tgt := 884) hL.1 dL_law_213 (by decide) ?_
  exact nxt _ _ (e2.im (I_feasts hI)) (e2.rc e1)
theorem law_dayOf (hL : LH G G' b L xs A l E) (hI : IM B τ) (hC : RC σ τ) (hB : B ≤ 9000) (j0 : 0 ≤ j) (j1 : j + 4 ≤ (L : Int)) (nxt : ∀ σ' τ' : St, IM (B + 1) τ' → RC σ' τ' → VV E 4 A Q (JJ G G' σ' τ') 884 (lvq b G G' j) []) : VV E 4 A Q (JJ G G' σ τ) 218 (lvq b G G' j) [] := by
  refine x_aload_n (pc' := 219) hL.1 dL_law_218 rfl rfl ?_
  refine x_aload_n (pc' := 220) hL.1 dL_law_219 rfl rfl ?_
  refine x_iload_n (pc' := 221) hL.1 dL_law_220 rfl rfl ?_
  refine x_iconst (pc' := 222) hL.1 dL_law_221 rfl ?_
  refine x_iadd (pc' := 223) hL.1 dL_law_222 rfl ?_
  refine w_sld (pc' := 224) hL.1 hL.2.2.2.2.2.1 (by omega) (by omega) hL.2.2.2.2.2.2.2.2.2 dL_law_223 rfl ?_
  refine x_aload_n (pc' := 225) hL.1 dL_law_224 rfl rfl ?_
  refine x_iload_n (pc' := 226) hL.1 dL_law_225 rfl rfl ?_
  refine x_iconst (pc' := 227) hL.1 dL_law_226 rfl ?_
  refine x_iadd (pc' := 228) hL.1 dL_law_227 rfl ?_
  refine w_sld (pc' := 229) hL.1 hL.2.2.2.2.2.1 (by omega) (by omega) hL.2.2.2.2.2.2.2.2.2 dL_law_228 rfl ?_
  refine w_cC1 (pc' := 232) hL (c_X8_dayOf l G _ _ B hI hC (by omega) _ (xz_in _ _) _ (xz_in _ _)) kX8_dayOf tM_L_31 (by decide) dL_law_229 rfl rfl (Nat.le_of_ble_eq_true rfl) (fun σ1 e1 => ?_)
  refine x_aload_n (pc' := 233) hL.1 dL_law_232 rfl rfl ?_
  refine x_aload_n (pc' := 234) hL.1 dL_law_233 rfl rfl ?_
  refine x_iload_n (pc' := 235) hL.1 dL_law_234 rfl rfl ?_
  refine x_iconst (pc' := 236) hL.1 dL_law_235 rfl ?_
  refine x_iadd (pc' := 237) hL.1 dL_law_236 rfl ?_
  refine w_sld (pc' := 238) hL.1 hL.2.2.2.2.2.1 (by omega) (by omega) hL.2.2.2.2.2.2.2.2.2 dL_law_237 rfl ?_
  refine x_aload_n (pc' := 239) hL.1 dL_law_238 rfl rfl ?_
  refine x_iload_n (pc' := 240) hL.1 dL_law_239 rfl rfl ?_
  refine x_iconst (pc' := 241) hL.1 dL_law_240 rfl ?_
  refine x_iadd (pc' := 242) hL.1 dL_law_241 rfl ?_
  refine w_sld (pc' := 243) hL.1 hL.2.2.2.2.2.1 (by omega) (by omega) hL.2.2.2.2.2.2.2.2.2 dL_law_242 rfl ?_
  refine w_cM1 (pc' := 246) hL (c_X9_dayOf l G' _ B hI (by omega) _ (xz_in _ _) _ (xz_in _ _)) kX9_dayOf tM_L_35 (by decide) dL_law_243 rfl rfl (Nat.le_of_ble_eq_true rfl) (fun τ1 e2 => ?_)
  refine w_eq (tgt := 884) hL.1 dL_law_246 (by decide) ?_
  exact nxt _ _ (e2.im (IM_s hI)) (e2.rc e1)
theorem law_forge (hL : LH G G' b L xs A l E) (hI : IM B τ) (hC : RC σ τ) (hB : B ≤ 9000) (j0 : 0 ≤ j) (j1 : j + 4 ≤ (L : Int)) (nxt : ∀ σ' τ' : St, IM (B + 1) τ' → RC σ' τ' → VV E 4 A Q (JJ G G' σ' τ') 884 (lvq b G G' j) []) : VV E 4 A Q (JJ G G' σ τ) 251 (lvq b G G' j) [] := by
  refine x_aload_n (pc' := 252) hL.1 dL_law_251 rfl rfl ?_
  refine x_aload_n (pc' := 253) hL.1 dL_law_252 rfl rfl ?_
  refine x_iload_n (pc' := 254) hL.1 dL_law_253 rfl rfl ?_
  refine x_iconst (pc' := 255) hL.1 dL_law_254 rfl ?_
  refine x_iadd (pc' := 256) hL.1 dL_law_255 rfl ?_
  refine w_sld (pc' := 257) hL.1 hL.2.2.2.2.2.1 (by omega) (by omega) hL.2.2.2.2.2.2.2.2.2 dL_law_256 rfl ?_
  refine x_aload_n (pc' := 258) hL.1 dL_law_257 rfl rfl ?_
  refine x_iload_n (pc' := 259) hL.1 dL_law_258 rfl rfl ?_
  refine x_iconst (pc' := 260) hL.1 dL_law_259 rfl ?_
  refine x_iadd (pc' := 261) hL.1 dL_law_260 rfl ?_
  refine w_sld (pc' := 262) hL.1 hL.2.2.2.2.2.1 (by omega) (by omega) hL.2.2.2.2.2.2.2.2.2 dL_law_261 rfl ?_
  refine w_cC1 (pc' := 265) hL (c_X8_forge l G _ _ B hI hC (by omega) _ (xz_in _ _) _ (xz_in _ _)) kX8_forge tM_L_36 (by decide) dL_law_262 rfl rfl (Nat.le_of_ble_eq_true rfl) (fun σ1 e1 => ?_)
  refine x_aload_n (pc' := 266) hL.1 dL_law_265 rfl rfl ?_
  refine x_aload_n (pc' := 267) hL.1 dL_law_266 rfl rfl ?_
  refine x_iload_n (pc' := 268) hL.1 dL_law_267 rfl rfl ?_
  refine x_iconst (pc' := 269) hL.1 dL_law_268 rfl ?_
  refine x_iadd (pc' := 270) hL.1 dL_law_269 rfl ?_
  refine w_sld (pc' := 271) hL.1 hL.2.2.2.2.2.1 (by omega) (by omega) hL.2.2.2.2.2.2.2.2.2 dL_law_270 rfl ?_
  refine x_aload_n (pc' := 272) hL.1 dL_law_271 rfl rfl ?_
  refine x_iload_n (pc' := 273) hL.1 dL_law_272 rfl rfl ?_
  refine x_iconst (pc' := 274) hL.1 dL_law_273 rfl ?_
  refine x_iadd (pc' := 275) hL.1 dL_law_274 rfl ?_
  refine w_sld (pc' := 276) hL.1 hL.2.2.2.2.2.1 (by omega) (by omega) hL.2.2.2.2.2.2.2.2.2 dL_law_275 rfl ?_
  refine w_cM1 (pc' := 279) hL (c_X9_forge l G' _ B hI (by omega) _ (xz_in _ _) _ (xz_in _ _)) kX9_forge tM_L_39 (by decide) dL_law_276 rfl rfl (Nat.le_of_ble_eq_true rfl) (fun τ1 e2 => ?_)
  refine w_eq (tgt := 884) hL.1 dL_law_279 (by decide) ?_
  exact nxt _ _ (e2.im (I_forge _ _ hI)) (e2.rc e1)
theorem law_pack (hL : LH G G' b L xs A l E) (hI : IM B τ) (hC : RC σ τ) (hB : B ≤ 9000) (j0 : 0 ≤ j) (j1 : j + 4 ≤ (L : Int)) (nxt : ∀ σ' τ' : St, IM (B + 1) τ' → RC σ' τ' → VV E 4 A Q (JJ G G' σ' τ') 884 (lvq b G G' j) []) : VV E 4 A Q (JJ G G' σ τ) 284 (lvq b G G' j) [] := by
  refine x_aload_n (pc' := 285) hL.1 dL_law_284 rfl rfl ?_
  refine x_aload_n (pc' := 286) hL.1 dL_law_285 rfl rfl ?_
  refine x_iload_n (pc' := 287) hL.1 dL_law_286 rfl rfl ?_
  refine x_iconst (pc' := 288) hL.1 dL_law_287 rfl ?_
  refine x_iadd (pc' := 289) hL.1 dL_law_288 rfl ?_
  refine w_sld (pc' := 290) hL.1 hL.2.2.2.2.2.1 (by omega) (by omega) hL.2.2.2.2.2.2.2.2.2 dL_law_289 rfl ?_
  refine x_aload_n (pc' := 291) hL.1 dL_law_290 rfl rfl ?_
  refine x_iload_n (pc' := 292) hL.1 dL_law_291 rfl rfl ?_
  refine x_iconst (pc' := 293) hL.1 dL_law_292 rfl ?_
  refine x_iadd (pc' := 294) hL.1 dL_law_293 rfl ?_
  refine w_sld (pc' := 295) hL.1 hL.2.2.2.2.2.1 (by omega) (by omega) hL.2.2.2.2.2.2.2.2.2 dL_law_294 rfl ?_
  refine x_aload_n (pc' := 296) hL.1 dL_law_295 rfl rfl ?_
  refine x_iload_n (pc' := 297) hL.1 dL_law_296 rfl rfl ?_
  refine x_iconst (pc' := 298) hL.1 dL_law_297 rfl ?_
  refine x_iadd (pc' := 299) hL.1 dL_law_298 rfl ?_
  refine w_sld (pc' := 300) hL.1 hL.2.2.2.2.2.1 (by omega) (by omega) hL.2.2.2.2.2.2.2.2.2 dL_law_299 rfl ?_
  refine w_cC1 (pc' := 303) hL (c_X8_pack l G _ _ B hI hC (by omega) _ (xz_in _ _) _ (xz_in _ _) _ (xz_in _ _)) kX8_pack tM_L_40 (by decide) dL_law_300 rfl rfl (Nat.le_of_ble_eq_true rfl) (fun σ1 e1 => ?_)
  refine x_aload_n (pc' := 304) hL.1 dL_law_303 rfl rfl ?_
  refine x_aload_n (pc' := 305) hL.1 dL_law_304 rfl rfl ?_
  refine x_iload_n (pc' := 306) hL.1 dL_law_305 rfl rfl ?_
  refine x_iconst (pc' := 307) hL.1 dL_law_306 rfl ?_
  refine x_iadd (pc' := 308) hL.1 dL_law_307 rfl ?_
  refine w_sld (pc' := 309) hL.1 hL.2.2.2.2.2.1 (by omega) (by omega) hL.2.2.2.2.2.2.2.2.2 dL_law_308 rfl ?_
  refine x_aload_n (pc' := 310) hL.1 dL_law_309 rfl rfl ?_
  refine x_iload_n (pc' := 311) hL.1 dL_law_310 rfl rfl ?_
  refine x_iconst (pc' := 312) hL.1 dL_law_311 rfl ?_
  refine x_iadd (pc' := 313) hL.1 dL_law_312 rfl ?_
  refine w_sld (pc' := 314) hL.1 hL.2.2.2.2.2.1 (by omega) (by omega) hL.2.2.2.2.2.2.2.2.2 dL_law_313 rfl ?_
  refine x_aload_n (pc' := 315) hL.1 dL_law_314 rfl rfl ?_
  refine x_iload_n (pc' := 316) hL.1 dL_law_315 rfl rfl ?_
  refine x_iconst (pc' := 317) hL.1 dL_law_316 rfl ?_
  refine x_iadd (pc' := 318) hL.1 dL_law_317 rfl ?_
  refine w_sld (pc' := 319) hL.1 hL.2.2.2.2.2.1 (by omega) (by omega) hL.2.2.2.2.2.2.2.2.2 dL_law_318 rfl ?_
  refine w_cM1 (pc' := 322) hL (c_X9_pack l G' _ B hI (by omega) _ (xz_in _ _) _ (xz_in _ _) _ (xz_in _ _)) kX9_pack tM_L_44 (by decide) dL_law_319 rfl rfl (Nat.le_of_ble_eq_true rfl) (fun τ1 e2 => ?_)
  refine w_eq (tgt := 884) hL.1 dL_law_322 (by decide) ?_
  exact nxt _ _ (e2.im (I_pack _ _ _ hI)) (e2.rc e1)
theorem law_about (hL : LH G G' b L xs A l E) (hI : IM B τ) (hC : RC σ τ) (hB : B ≤ 9000) (j0 : 0 ≤ j) (j1 : j + 4 ≤ (L : Int)) (nxt : ∀ σ' τ' : St, IM (B + 1) τ' → RC σ' τ' → VV E 4 A Q (JJ G G' σ' τ') 884 (lvq b G G' j) []) : VV E 4 A Q (JJ G G' σ τ) 327 (lvq b G G' j) [] := by
  refine x_aload_n (pc' := 328) hL.1 dL_law_327 rfl rfl ?_
  refine x_aload_n (pc' := 329) hL.1 dL_law_328 rfl rfl ?_
  refine x_iload_n (pc' := 330) hL.1 dL_law_329 rfl rfl ?_
  refine x_iconst (pc' := 331) hL.1 dL_law_330 rfl ?_
  refine x_iadd (pc' := 332) hL.1 dL_law_331 rfl ?_
  refine w_sld (pc' := 333) hL.1 hL.2.2.2.2.2.1 (by omega) (by omega) hL.2.2.2.2.2.2.2.2.2 dL_law_332 rfl ?_
  refine x_aload_n (pc' := 334) hL.1 dL_law_333 rfl rfl ?_
  refine x_iload_n (pc' := 335) hL.1 dL_law_334 rfl rfl ?_
  refine x_iconst (pc' := 336) hL.1 dL_law_335 rfl ?_
  refine x_iadd (pc' := 337) hL.1 dL_law_336 rfl ?_
  refine w_sld (pc' := 338) hL.1 hL.2.2.2.2.2.1 (by omega) (by omega) hL.2.2.2.2.2.2.2.2.2 dL_law_337 rfl ?_
  refine w_cC1 (pc' := 341) hL (c_X8_about l G _ _ B hI hC (by omega) _ (xz_in _ _) _ (xz_in _ _)) kX8_about tM_L_45 (by decide) dL_law_338 rfl rfl (Nat.le_of_ble_eq_true rfl) (fun σ1 e1 => ?_)
  refine x_aload_n (pc' := 342) hL.1 dL_law_341 rfl rfl ?_
  refine x_aload_n (pc' := 343) hL.1 dL_law_342 rfl rfl ?_
  refine x_iload_n (pc' := 344) hL.1 dL_law_343 rfl rfl ?_
  refine x_iconst (pc' := 345) hL.1 dL_law_344 rfl ?_
  refine x_iadd (pc' := 346) hL.1 dL_law_345 rfl ?_
  refine w_sld (pc' := 347) hL.1 hL.2.2.2.2.2.1 (by omega) (by omega) hL.2.2.2.2.2.2.2.2.2 dL_law_346 rfl ?_
  refine x_aload_n (pc' := 348) hL.1 dL_law_347 rfl rfl ?_
  refine x_iload_n (pc' := 349) hL.1 dL_law_348 rfl rfl ?_
  refine x_iconst (pc' := 350) hL.1 dL_law_349 rfl ?_
  refine x_iadd (pc' := 351) hL.1 dL_law_350 rfl ?_
  refine w_sld (pc' := 352) hL.1 hL.2.2.2.2.2.1 (by omega) (by omega) hL.2.2.2.2.2.2.2.2.2 dL_law_351 rfl ?_
  refine w_cM1 (pc' := 355) hL (c_X9_about l G' _ B hI (by omega) _ (xz_in _ _) _ (xz_in _ _)) kX9_about tM_L_48 (by decide) dL_law_352 rfl rfl (Nat.le_of_ble_eq_true rfl) (fun τ1 e2 => ?_)
  refine w_eq (tgt := 884) hL.1 dL_law_355 (by decide) ?_
  exact nxt _ _ (e2.im (IM_s hI)) (e2.rc e1)
theorem law_as (hL : LH G G' b L xs A l E) (hI : IM B τ) (hC : RC σ τ) (hB : B ≤ 9000) (j0 : 0 ≤ j) (j1 : j + 4 ≤ (L : Int)) (nxt : ∀ σ' τ' : St, IM (B + 1) τ' → RC σ' τ' → VV E 4 A Q (JJ G G' σ' τ') 884 (lvq b G G' j) []) : VV E 4 A Q (JJ G G' σ τ) 360 (lvq b G G' j) [] := by
  refine x_aload_n (pc' := 361) hL.1 dL_law_360 rfl rfl ?_
  refine x_aload_n (pc' := 362) hL.1 dL_law_361 rfl rfl ?_
  refine x_iload_n (pc' := 363) hL.1 dL_law_362 rfl rfl ?_
  refine x_iconst (pc' := 364) hL.1 dL_law_363 rfl ?_
  refine x_iadd (pc' := 365) hL.1 dL_law_364 rfl ?_
  refine w_sld (pc' := 366) hL.1 hL.2.2.2.2.2.1 (by omega) (by omega) hL.2.2.2.2.2.2.2.2.2 dL_law_365 rfl ?_
  refine x_aload_n (pc' := 367) hL.1 dL_law_366 rfl rfl ?_
  refine x_iload_n (pc' := 368) hL.1 dL_law_367 rfl rfl ?_
  refine x_iconst (pc' := 369) hL.1 dL_law_368 rfl ?_
  refine x_iadd (pc' := 370) hL.1 dL_law_369 rfl ?_
  refine w_sld (pc' := 371) hL.1 hL.2.2.2.2.2.1 (by omega) (by omega) hL.2.2.2.2.2.2.2.2.2 dL_law_370 rfl ?_
  refine w_cC1 (pc' := 374) hL (c_X8_as l G _ _ B hI hC (by omega) _ (xz_in _ _) _ (xz_in _ _)) kX8_as tM_L_49 (by decide) dL_law_371 rfl rfl (Nat.le_of_ble_eq_true rfl) (fun σ1 e1 => ?_)
  refine x_aload_n (pc' := 375) hL.1 dL_law_374 rfl rfl ?_
  refine x_aload_n (pc' := 376) hL.1 dL_law_375 rfl rfl ?_
  refine x_iload_n (pc' := 377) hL.1 dL_law_376 rfl rfl ?_
  refine x_iconst (pc' := 378) hL.1 dL_law_377 rfl ?_
  refine x_iadd (pc' := 379) hL.1 dL_law_378 rfl ?_
  refine w_sld (pc' := 380) hL.1 hL.2.2.2.2.2.1 (by omega) (by omega) hL.2.2.2.2.2.2.2.2.2 dL_law_379 rfl ?_
  refine x_aload_n (pc' := 381) hL.1 dL_law_380 rfl rfl ?_
  refine x_iload_n (pc' := 382) hL.1 dL_law_381 rfl rfl ?_
  refine x_iconst (pc' := 383) hL.1 dL_law_382 rfl ?_
  refine x_iadd (pc' := 384) hL.1 dL_law_383 rfl ?_
  refine w_sld (pc' := 385) hL.1 hL.2.2.2.2.2.1 (by omega) (by omega) hL.2.2.2.2.2.2.2.2.2 dL_law_384 rfl ?_
  refine w_cM1 (pc' := 388) hL (c_X9_as l G' _ B hI (by omega) _ (xz_in _ _) _ (xz_in _ _)) kX9_as tM_L_52 (by decide) dL_law_385 rfl rfl (Nat.le_of_ble_eq_true rfl) (fun τ1 e2 => ?_)
  refine w_eq (tgt := 884) hL.1 dL_law_388 (by decide) ?_
  exact nxt _ _ (e2.im (IM_s hI)) (e2.rc e1)
theorem law_flock (hL : LH G G' b L xs A l E) (hI : IM B τ) (hC : RC σ τ) (hB : B ≤ 9000) (j0 : 0 ≤ j) (j1 : j + 4 ≤ (L : Int)) (nxt : ∀ σ' τ' : St, IM (B + 1) τ' → RC σ' τ' → VV E 4 A Q (JJ G G' σ' τ') 884 (lvq b G G' j) []) : VV E 4 A Q (JJ G G' σ τ) 393 (lvq b G G' j) [] := by
  refine x_aload_n (pc' := 394) hL.1 dL_law_393 rfl rfl ?_
  refine x_aload_n (pc' := 395) hL.1 dL_law_394 rfl rfl ?_
  refine x_iload_n (pc' := 396) hL.1 dL_law_395 rfl rfl ?_
  refine x_iconst (pc' := 397) hL.1 dL_law_396 rfl ?_
  refine x_iadd (pc' := 398) hL.1 dL_law_397 rfl ?_
  refine w_sld (pc' := 399) hL.1 hL.2.2.2.2.2.1 (by omega) (by omega) hL.2.2.2.2.2.2.2.2.2 dL_law_398 rfl ?_
  refine x_aload_n (pc' := 400) hL.1 dL_law_399 rfl rfl ?_
  refine x_iload_n (pc' := 401) hL.1 dL_law_400 rfl rfl ?_
  refine x_iconst (pc' := 402) hL.1 dL_law_401 rfl ?_
  refine x_iadd (pc' := 403) hL.1 dL_law_402 rfl ?_
  refine w_sld (pc' := 404) hL.1 hL.2.2.2.2.2.1 (by omega) (by omega) hL.2.2.2.2.2.2.2.2.2 dL_law_403 rfl ?_
  refine w_cC1 (pc' := 407) hL (c_X8_flock l G _ _ B hI hC (by omega) _ (xz_in _ _) _ (xz_in _ _)) kX8_flock tM_L_53 (by decide) dL_law_404 rfl rfl (Nat.le_of_ble_eq_true rfl) (fun σ1 e1 => ?_)
  refine x_aload_n (pc' := 408) hL.1 dL_law_407 rfl rfl ?_
  refine x_aload_n (pc' := 409) hL.1 dL_law_408 rfl rfl ?_
  refine x_iload_n (pc' := 410) hL.1 dL_law_409 rfl rfl ?_
  refine x_iconst (pc' := 411) hL.1 dL_law_410 rfl ?_
  refine x_iadd (pc' := 412) hL.1 dL_law_411 rfl ?_
  refine w_sld (pc' := 413) hL.1 hL.2.2.2.2.2.1 (by omega) (by omega) hL.2.2.2.2.2.2.2.2.2 dL_law_412 rfl ?_
  refine x_aload_n (pc' := 414) hL.1 dL_law_413 rfl rfl ?_
  refine x_iload_n (pc' := 415) hL.1 dL_law_414 rfl rfl ?_
  refine x_iconst (pc' := 416) hL.1 dL_law_415 rfl ?_
  refine x_iadd (pc' := 417) hL.1 dL_law_416 rfl ?_
  refine w_sld (pc' := 418) hL.1 hL.2.2.2.2.2.1 (by omega) (by omega) hL.2.2.2.2.2.2.2.2.2 dL_law_417 rfl ?_
  refine w_cM1 (pc' := 421) hL (c_X9_flock l G' _ B hI (by omega) _ (xz_in _ _) _ (xz_in _ _)) kX9_flock tM_L_56 (by decide) dL_law_418 rfl rfl (Nat.le_of_ble_eq_true rfl) (fun τ1 e2 => ?_)
  refine w_eq (tgt := 884) hL.1 dL_law_421 (by decide) ?_
  exact nxt _ _ (e2.im (I_flock _ _ hI)) (e2.rc e1)
theorem law_flockOf (hL : LH G G' b L xs A l E) (hI : IM B τ) (hC : RC σ τ) (hB : B ≤ 9000) (j0 : 0 ≤ j) (j1 : j + 4 ≤ (L : Int)) (nxt : ∀ σ' τ' : St, IM (B + 1) τ' → RC σ' τ' → VV E 4 A Q (JJ G G' σ' τ') 884 (lvq b G G' j) []) : VV E 4 A Q (JJ G G' σ τ) 426 (lvq b G G' j) [] := by
  refine x_aload_n (pc' := 427) hL.1 dL_law_426 rfl rfl ?_
  refine x_aload_n (pc' := 428) hL.1 dL_law_427 rfl rfl ?_
  refine x_iload_n (pc' := 429) hL.1 dL_law_428 rfl rfl ?_
  refine x_iconst (pc' := 430) hL.1 dL_law_429 rfl ?_
  refine x_iadd (pc' := 431) hL.1 dL_law_430 rfl ?_
  refine w_sld (pc' := 432) hL.1 hL.2.2.2.2.2.1 (by omega) (by omega) hL.2.2.2.2.2.2.2.2.2 dL_law_431 rfl ?_
  refine x_aload_n (pc' := 433) hL.1 dL_law_432 rfl rfl ?_
  refine x_iload_n (pc' := 434) hL.1 dL_law_433 rfl rfl ?_
  refine x_iconst (pc' := 435) hL.1 dL_law_434 rfl ?_
  refine x_iadd (pc' := 436) hL.1 dL_law_435 rfl ?_
  refine w_sld (pc' := 437) hL.1 hL.2.2.2.2.2.1 (by omega) (by omega) hL.2.2.2.2.2.2.2.2.2 dL_law_436 rfl ?_
  refine w_cC1 (pc' := 440) hL (c_X8_flockOf l G _ _ B hI hC (by omega) _ (xz_in _ _) _ (xz_in _ _)) kX8_flockOf tM_L_57 (by decide) dL_law_437 rfl rfl (Nat.le_of_ble_eq_true rfl) (fun σ1 e1 => ?_)
  refine x_aload_n (pc' := 441) hL.1 dL_law_440 rfl rfl ?_
  refine x_aload_n (pc' := 442) hL.1 dL_law_441 rfl rfl ?_
  refine x_iload_n (pc' := 443) hL.1 dL_law_442 rfl rfl ?_
  refine x_iconst (pc' := 444) hL.1 dL_law_443 rfl ?_
  refine x_iadd (pc' := 445) hL.1 dL_law_444 rfl ?_
  refine w_sld (pc' := 446) hL.1 hL.2.2.2.2.2.1 (by omega) (by omega) hL.2.2.2.2.2.2.2.2.2 dL_law_445 rfl ?_
  refine x_aload_n (pc' := 447) hL.1 dL_law_446 rfl rfl ?_
  refine x_iload_n (pc' := 448) hL.1 dL_law_447 rfl rfl ?_
  refine x_iconst (pc' := 449) hL.1 dL_law_448 rfl ?_
  refine x_iadd (pc' := 450) hL.1 dL_law_449 rfl ?_
  refine w_sld (pc' := 451) hL.1 hL.2.2.2.2.2.1 (by omega) (by omega) hL.2.2.2.2.2.2.2.2.2 dL_law_450 rfl ?_
  refine w_cM1 (pc' := 454) hL (c_X9_flockOf l G' _ B hI (by omega) _ (xz_in _ _) _ (xz_in _ _)) kX9_flockOf tM_L_60 (by decide) dL_law_451 rfl rfl (Nat.le_of_ble_eq_true rfl) (fun τ1 e2 => ?_)
  refine w_eq (tgt := 884) hL.1 dL_law_454 (by decide) ?_
  exact nxt _ _ (e2.im (IM_s hI)) (e2.rc e1)
theorem law_name (hL : LH G G' b L xs A l E) (hI : IM B τ) (hC : RC σ τ) (hB : B ≤ 9000) (j0 : 0 ≤ j) (j1 : j + 4 ≤ (L : Int)) (nxt : ∀ σ' τ' : St, IM (B + 1) τ' → RC σ' τ' → VV E 4 A Q (JJ G G' σ' τ') 884 (lvq b G G' j) []) : VV E 4 A Q (JJ G G' σ τ) 459 (lvq b G G' j) [] := by
  refine x_aload_n (pc' := 460) hL.1 dL_law_459 rfl rfl ?_
  refine x_aload_n (pc' := 461) hL.1 dL_law_460 rfl rfl ?_
  refine x_iload_n (pc' := 462) hL.1 dL_law_461 rfl rfl ?_
  refine x_iconst (pc' := 463) hL.1 dL_law_462 rfl ?_
  refine x_iadd (pc' := 464) hL.1 dL_law_463 rfl ?_
  refine w_sld (pc' := 465) hL.1 hL.2.2.2.2.2.1 (by omega) (by omega) hL.2.2.2.2.2.2.2.2.2 dL_law_464 rfl ?_
  refine x_aload_n (pc' := 466) hL.1 dL_law_465 rfl rfl ?_
  refine x_iload_n (pc' := 467) hL.1 dL_law_466 rfl rfl ?_
  refine x_iconst (pc' := 468) hL.1 dL_law_467 rfl ?_
  refine x_iadd (pc' := 469) hL.1 dL_law_468 rfl ?_
  refine w_sld (pc' := 470) hL.1 hL.2.2.2.2.2.1 (by omega) (by omega) hL.2.2.2.2.2.2.2.2.2 dL_law_469 rfl ?_
  refine w_cC1 (pc' := 473) hL (c_X8_name l G _ _ B hI hC (by omega) _ (xz_in _ _) _ (xz_in _ _)) kX8_name tM_L_61 (by decide) dL_law_470 rfl rfl (Nat.le_of_ble_eq_true rfl) (fun σ1 e1 => ?_)
  refine x_aload_n (pc' := 474) hL.1 dL_law_473 rfl rfl ?_
  refine x_aload_n (pc' := 475) hL.1 dL_law_474 rfl rfl ?_
  refine x_iload_n (pc' := 476) hL.1 dL_law_475 rfl rfl ?_
  refine x_iconst (pc' := 477) hL.1 dL_law_476 rfl ?_
  refine x_iadd (pc' := 478) hL.1 dL_law_477 rfl ?_
  refine w_sld (pc' := 479) hL.1 hL.2.2.2.2.2.1 (by omega) (by omega) hL.2.2.2.2.2.2.2.2.2 dL_law_478 rfl ?_
  refine x_aload_n (pc' := 480) hL.1 dL_law_479 rfl rfl ?_
  refine x_iload_n (pc' := 481) hL.1 dL_law_480 rfl rfl ?_
  refine x_iconst (pc' := 482) hL.1 dL_law_481 rfl ?_
  refine x_iadd (pc' := 483) hL.1 dL_law_482 rfl ?_
  refine w_sld (pc' := 484) hL.1 hL.2.2.2.2.2.1 (by omega) (by omega) hL.2.2.2.2.2.2.2.2.2 dL_law_483 rfl ?_
  refine w_cM1 (pc' := 487) hL (c_X9_name l G' _ B hI (by omega) _ (xz_in _ _) _ (xz_in _ _)) kX9_name tM_L_64 (by decide) dL_law_484 rfl rfl (Nat.le_of_ble_eq_true rfl) (fun τ1 e2 => ?_)
  refine w_eq (tgt := 884) hL.1 dL_law_487 (by decide) ?_
  exact nxt _ _ (e2.im (I_name _ _ hI)) (e2.rc e1)
theorem law_move (hL : LH G G' b L xs A l E) (hI : IM B τ) (hC : RC σ τ) (hB : B ≤ 9000) (j0 : 0 ≤ j) (j1 : j + 4 ≤ (L : Int)) (nxt : ∀ σ' τ' : St, IM (B + 1) τ' → RC σ' τ' → VV E 4 A Q (JJ G G' σ' τ') 884 (lvq b G G' j) []) : VV E 4 A Q (JJ G G' σ τ) 492 (lvq b G G' j) [] := by
  refine x_aload_n (pc' := 493) hL.1 dL_law_492 rfl rfl ?_
  refine x_aload_n (pc' := 494) hL.1 dL_law_493 rfl rfl ?_
  refine x_iload_n (pc' := 495) hL.1 dL_law_494 rfl rfl ?_
  refine x_iconst (pc' := 496) hL.1 dL_law_495 rfl ?_
  refine x_iadd (pc' := 497) hL.1 dL_law_496 rfl ?_
  refine w_sld (pc' := 498) hL.1 hL.2.2.2.2.2.1 (by omega) (by omega) hL.2.2.2.2.2.2.2.2.2 dL_law_497 rfl ?_
  refine x_aload_n (pc' := 499) hL.1 dL_law_498 rfl rfl ?_
  refine x_iload_n (pc' := 500) hL.1 dL_law_499 rfl rfl ?_
  refine x_iconst (pc' := 501) hL.1 dL_law_500 rfl ?_
  refine x_iadd (pc' := 502) hL.1 dL_law_501 rfl ?_
  refine w_sld (pc' := 503) hL.1 hL.2.2.2.2.2.1 (by omega) (by omega) hL.2.2.2.2.2.2.2.2.2 dL_law_502 rfl ?_
  refine w_cC1 (pc' := 506) hL (c_X8_move l G _ _ B hI hC (by omega) _ (xz_in _ _) _ (xz_in _ _)) kX8_move tM_L_65 (by decide) dL_law_503 rfl rfl (Nat.le_of_ble_eq_true rfl) (fun σ1 e1 => ?_)
  refine x_aload_n (pc' := 507) hL.1 dL_law_506 rfl rfl ?_
  refine x_aload_n (pc' := 508) hL.1 dL_law_507 rfl rfl ?_
  refine x_iload_n (pc' := 509) hL.1 dL_law_508 rfl rfl ?_
  refine x_iconst (pc' := 510) hL.1 dL_law_509 rfl ?_
  refine x_iadd (pc' := 511) hL.1 dL_law_510 rfl ?_
  refine w_sld (pc' := 512) hL.1 hL.2.2.2.2.2.1 (by omega) (by omega) hL.2.2.2.2.2.2.2.2.2 dL_law_511 rfl ?_
  refine x_aload_n (pc' := 513) hL.1 dL_law_512 rfl rfl ?_
  refine x_iload_n (pc' := 514) hL.1 dL_law_513 rfl rfl ?_
  refine x_iconst (pc' := 515) hL.1 dL_law_514 rfl ?_
  refine x_iadd (pc' := 516) hL.1 dL_law_515 rfl ?_
  refine w_sld (pc' := 517) hL.1 hL.2.2.2.2.2.1 (by omega) (by omega) hL.2.2.2.2.2.2.2.2.2 dL_law_516 rfl ?_
  refine w_cM1 (pc' := 520) hL (c_X9_move l G' _ B hI (by omega) _ (xz_in _ _) _ (xz_in _ _)) kX9_move tM_L_68 (by decide) dL_law_517 rfl rfl (Nat.le_of_ble_eq_true rfl) (fun τ1 e2 => ?_)
  refine w_eq (tgt := 884) hL.1 dL_law_520 (by decide) ?_
  exact nxt _ _ (e2.im (I_move _ _ hI)) (e2.rc e1)
theorem law_day (hL : LH G G' b L xs A l E) (hI : IM B τ) (hC : RC σ τ) (hB : B ≤ 9000) (j0 : 0 ≤ j) (j1 : j + 4 ≤ (L : Int)) (nxt : ∀ σ' τ' : St, IM (B + 1) τ' → RC σ' τ' → VV E 4 A Q (JJ G G' σ' τ') 884 (lvq b G G' j) []) : VV E 4 A Q (JJ G G' σ τ) 525 (lvq b G G' j) [] := by
  refine x_aload_n (pc' := 526) hL.1 dL_law_525 rfl rfl ?_
  refine w_cC1 (pc' := 529) hL (c_X8_day l G _ _ B hI hC (by omega)) kX8_day tM_L_69 (by decide) dL_law_526 rfl rfl (Nat.le_of_ble_eq_true rfl) (fun σ1 e1 => ?_)
  refine x_aload_n (pc' := 530) hL.1 dL_law_529 rfl rfl ?_
  refine w_cM1 (pc' := 533) hL (c_X9_day l G' _ B hI (by omega)) kX9_day tM_L_72 (by decide) dL_law_530 rfl rfl (Nat.le_of_ble_eq_true rfl) (fun τ1 e2 => ?_)
  refine w_eq (tgt := 884) hL.1 dL_law_533 (by decide) ?_
  exact nxt _ _ (e2.im (IM_day hI)) (e2.rc e1)
theorem law_loss (hL : LH G G' b L xs A l E) (hI : IM B τ) (hC : RC σ τ) (hB : B ≤ 9000) (j0 : 0 ≤ j) (j1 : j + 4 ≤ (L : Int)) (nxt : ∀ σ' τ' : St, IM (B + 1) τ' → RC σ' τ' → VV E 4 A Q (JJ G G' σ' τ') 884 (lvq b G G' j) []) : VV E 4 A Q (JJ G G' σ τ) 538 (lvq b G G' j) [] := by
  refine x_aload_n (pc' := 539) hL.1 dL_law_538 rfl rfl ?_
  refine x_aload_n (pc' := 540) hL.1 dL_law_539 rfl rfl ?_
  refine x_iload_n (pc' := 541) hL.1 dL_law_540 rfl rfl ?_
  refine x_iconst (pc' := 542) hL.1 dL_law_541 rfl ?_
  refine x_iadd (pc' := 543) hL.1 dL_law_542 rfl ?_
  refine w_sld (pc' := 544) hL.1 hL.2.2.2.2.2.1 (by omega) (by omega) hL.2.2.2.2.2.2.2.2.2 dL_law_543 rfl ?_
  refine w_cC1 (pc' := 547) hL (c_X8_loss l G _ _ B hI hC (by omega) _ (xz_in _ _)) kX8_loss tM_L_73 (by decide) dL_law_544 rfl rfl (Nat.le_of_ble_eq_true rfl) (fun σ1 e1 => ?_)
  refine x_aload_n (pc' := 548) hL.1 dL_law_547 rfl rfl ?_
  refine x_aload_n (pc' := 549) hL.1 dL_law_548 rfl rfl ?_
  refine x_iload_n (pc' := 550) hL.1 dL_law_549 rfl rfl ?_
  refine x_iconst (pc' := 551) hL.1 dL_law_550 rfl ?_
  refine x_iadd (pc' := 552) hL.1 dL_law_551 rfl ?_
  refine w_sld (pc' := 553) hL.1 hL.2.2.2.2.2.1 (by omega) (by omega) hL.2.2.2.2.2.2.2.2.2 dL_law_552 rfl ?_
  refine w_cM1 (pc' := 556) hL (c_X9_loss l G' _ B hI (by omega) _ (xz_in _ _)) kX9_loss tM_L_76 (by decide) dL_law_553 rfl rfl (Nat.le_of_ble_eq_true rfl) (fun τ1 e2 => ?_)
  refine w_eq (tgt := 884) hL.1 dL_law_556 (by decide) ?_
  exact nxt _ _ (e2.im (IM_s hI)) (e2.rc e1)
theorem law_falls (hL : LH G G' b L xs A l E) (hI : IM B τ) (hC : RC σ τ) (hB : B ≤ 9000) (j0 : 0 ≤ j) (j1 : j + 4 ≤ (L : Int)) (nxt : ∀ σ' τ' : St, IM (B + 1) τ' → RC σ' τ' → VV E 4 A Q (JJ G G' σ' τ') 884 (lvq b G G' j) []) : VV E 4 A Q (JJ G G' σ τ) 561 (lvq b G G' j) [] := by
  refine x_aload_n (pc' := 562) hL.1 dL_law_561 rfl rfl ?_
  refine x_aload_n (pc' := 563) hL.1 dL_law_562 rfl rfl ?_
  refine x_iload_n (pc' := 564) hL.1 dL_law_563 rfl rfl ?_
  refine x_iconst (pc' := 565) hL.1 dL_law_564 rfl ?_
  refine x_iadd (pc' := 566) hL.1 dL_law_565 rfl ?_
  refine w_sld (pc' := 567) hL.1 hL.2.2.2.2.2.1 (by omega) (by omega) hL.2.2.2.2.2.2.2.2.2 dL_law_566 rfl ?_
  refine w_cC1 (pc' := 570) hL (c_X8_falls l G _ _ B hI hC (by omega) _ (xz_in _ _)) kX8_falls tM_L_77 (by decide) dL_law_567 rfl rfl (Nat.le_of_ble_eq_true rfl) (fun σ1 e1 => ?_)
  refine x_aload_n (pc' := 571) hL.1 dL_law_570 rfl rfl ?_
  refine x_aload_n (pc' := 572) hL.1 dL_law_571 rfl rfl ?_
  refine x_iload_n (pc' := 573) hL.1 dL_law_572 rfl rfl ?_
  refine x_iconst (pc' := 574) hL.1 dL_law_573 rfl ?_
  refine x_iadd (pc' := 575) hL.1 dL_law_574 rfl ?_
  refine w_sld (pc' := 576) hL.1 hL.2.2.2.2.2.1 (by omega) (by omega) hL.2.2.2.2.2.2.2.2.2 dL_law_575 rfl ?_
  refine w_cM1 (pc' := 579) hL (c_X9_falls l G' _ B hI (by omega) _ (xz_in _ _)) kX9_falls tM_L_80 (by decide) dL_law_576 rfl rfl (Nat.le_of_ble_eq_true rfl) (fun τ1 e2 => ?_)
  refine w_eq (tgt := 884) hL.1 dL_law_579 (by decide) ?_
  exact nxt _ _ (e2.im (IM_s hI)) (e2.rc e1)
theorem law_safe (hL : LH G G' b L xs A l E) (hI : IM B τ) (hC : RC σ τ) (hB : B ≤ 9000) (j0 : 0 ≤ j) (j1 : j + 4 ≤ (L : Int)) (nxt : ∀ σ' τ' : St, IM (B + 1) τ' → RC σ' τ' → VV E 4 A Q (JJ G G' σ' τ') 884 (lvq b G G' j) []) : VV E 4 A Q (JJ G G' σ τ) 584 (lvq b G G' j) [] := by
  refine x_aload_n (pc' := 585) hL.1 dL_law_584 rfl rfl ?_
  refine x_aload_n (pc' := 586) hL.1 dL_law_585 rfl rfl ?_
  refine x_iload_n (pc' := 587) hL.1 dL_law_586 rfl rfl ?_
  refine x_iconst (pc' := 588) hL.1 dL_law_587 rfl ?_
  refine x_iadd (pc' := 589) hL.1 dL_law_588 rfl ?_
  refine w_sld (pc' := 590) hL.1 hL.2.2.2.2.2.1 (by omega) (by omega) hL.2.2.2.2.2.2.2.2.2 dL_law_589 rfl ?_
  refine x_aload_n (pc' := 591) hL.1 dL_law_590 rfl rfl ?_
  refine x_iload_n (pc' := 592) hL.1 dL_law_591 rfl rfl ?_
  refine x_iconst (pc' := 593) hL.1 dL_law_592 rfl ?_
  refine x_iadd (pc' := 594) hL.1 dL_law_593 rfl ?_
  refine w_sld (pc' := 595) hL.1 hL.2.2.2.2.2.1 (by omega) (by omega) hL.2.2.2.2.2.2.2.2.2 dL_law_594 rfl ?_
  refine w_cC1 (pc' := 598) hL (c_X8_safe l G _ _ B hI hC (by omega) _ (xz_in _ _) _ (xz_in _ _)) kX8_safe tM_L_81 (by decide) dL_law_595 rfl rfl (Nat.le_of_ble_eq_true rfl) (fun σ1 e1 => ?_)
  refine x_aload_n (pc' := 599) hL.1 dL_law_598 rfl rfl ?_
  refine x_aload_n (pc' := 600) hL.1 dL_law_599 rfl rfl ?_
  refine x_iload_n (pc' := 601) hL.1 dL_law_600 rfl rfl ?_
  refine x_iconst (pc' := 602) hL.1 dL_law_601 rfl ?_
  refine x_iadd (pc' := 603) hL.1 dL_law_602 rfl ?_
  refine w_sld (pc' := 604) hL.1 hL.2.2.2.2.2.1 (by omega) (by omega) hL.2.2.2.2.2.2.2.2.2 dL_law_603 rfl ?_
  refine x_aload_n (pc' := 605) hL.1 dL_law_604 rfl rfl ?_
  refine x_iload_n (pc' := 606) hL.1 dL_law_605 rfl rfl ?_
  refine x_iconst (pc' := 607) hL.1 dL_law_606 rfl ?_
  refine x_iadd (pc' := 608) hL.1 dL_law_607 rfl ?_
  refine w_sld (pc' := 609) hL.1 hL.2.2.2.2.2.1 (by omega) (by omega) hL.2.2.2.2.2.2.2.2.2 dL_law_608 rfl ?_
  refine w_cM1 (pc' := 612) hL (c_X9_safe l G' _ B hI (by omega) _ (xz_in _ _) _ (xz_in _ _)) kX9_safe tM_L_84 (by decide) dL_law_609 rfl rfl (Nat.le_of_ble_eq_true rfl) (fun τ1 e2 => ?_)
  refine w_eq (tgt := 884) hL.1 dL_law_612 (by decide) ?_
  exact nxt _ _ (e2.im (IM_s hI)) (e2.rc e1)
theorem law_graze (hL : LH G G' b L xs A l E) (hI : IM B τ) (hC : RC σ τ) (hB : B ≤ 9000) (j0 : 0 ≤ j) (j1 : j + 4 ≤ (L : Int)) (nxt : ∀ σ' τ' : St, IM (B + 1) τ' → RC σ' τ' → VV E 4 A Q (JJ G G' σ' τ') 884 (lvq b G G' j) []) : VV E 4 A Q (JJ G G' σ τ) 617 (lvq b G G' j) [] := by
  refine x_aload_n (pc' := 618) hL.1 dL_law_617 rfl rfl ?_
  refine x_aload_n (pc' := 619) hL.1 dL_law_618 rfl rfl ?_
  refine x_iload_n (pc' := 620) hL.1 dL_law_619 rfl rfl ?_
  refine x_iconst (pc' := 621) hL.1 dL_law_620 rfl ?_
  refine x_iadd (pc' := 622) hL.1 dL_law_621 rfl ?_
  refine w_sld (pc' := 623) hL.1 hL.2.2.2.2.2.1 (by omega) (by omega) hL.2.2.2.2.2.2.2.2.2 dL_law_622 rfl ?_
  refine x_aload_n (pc' := 624) hL.1 dL_law_623 rfl rfl ?_
  refine x_iload_n (pc' := 625) hL.1 dL_law_624 rfl rfl ?_
  refine x_iconst (pc' := 626) hL.1 dL_law_625 rfl ?_
  refine x_iadd (pc' := 627) hL.1 dL_law_626 rfl ?_
  refine w_sld (pc' := 628) hL.1 hL.2.2.2.2.2.1 (by omega) (by omega) hL.2.2.2.2.2.2.2.2.2 dL_law_627 rfl ?_
  refine x_aload_n (pc' := 629) hL.1 dL_law_628 rfl rfl ?_
  refine x_iload_n (pc' := 630) hL.1 dL_law_629 rfl rfl ?_
  refine x_iconst (pc' := 631) hL.1 dL_law_630 rfl ?_
  refine x_iadd (pc' := 632) hL.1 dL_law_631 rfl ?_
  refine w_sld (pc' := 633) hL.1 hL.2.2.2.2.2.1 (by omega) (by omega) hL.2.2.2.2.2.2.2.2.2 dL_law_632 rfl ?_
  refine w_cC1 (pc' := 636) hL (c_X8_graze l G _ _ B hI hC (by omega) _ (xz_in _ _) _ (xz_in _ _) _ (xz_in _ _)) kX8_graze tM_L_85 (by decide) dL_law_633 rfl rfl (Nat.le_of_ble_eq_true rfl) (fun σ1 e1 => ?_)
  refine x_aload_n (pc' := 637) hL.1 dL_law_636 rfl rfl ?_
  refine x_aload_n (pc' := 638) hL.1 dL_law_637 rfl rfl ?_
  refine x_iload_n (pc' := 639) hL.1 dL_law_638 rfl rfl ?_
  refine x_iconst (pc' := 640) hL.1 dL_law_639 rfl ?_
  refine x_iadd (pc' := 641) hL.1 dL_law_640 rfl ?_
  refine w_sld (pc' := 642) hL.1 hL.2.2.2.2.2.1 (by omega) (by omega) hL.2.2.2.2.2.2.2.2.2 dL_law_641 rfl ?_
  refine x_aload_n (pc' := 643) hL.1 dL_law_642 rfl rfl ?_
  refine x_iload_n (pc' := 644) hL.1 dL_law_643 rfl rfl ?_
  refine x_iconst (pc' := 645) hL.1 dL_law_644 rfl ?_
  refine x_iadd (pc' := 646) hL.1 dL_law_645 rfl ?_
  refine w_sld (pc' := 647) hL.1 hL.2.2.2.2.2.1 (by omega) (by omega) hL.2.2.2.2.2.2.2.2.2 dL_law_646 rfl ?_
  refine x_aload_n (pc' := 648) hL.1 dL_law_647 rfl rfl ?_
  refine x_iload_n (pc' := 649) hL.1 dL_law_648 rfl rfl ?_
  refine x_iconst (pc' := 650) hL.1 dL_law_649 rfl ?_
  refine x_iadd (pc' := 651) hL.1 dL_law_650 rfl ?_
  refine w_sld (pc' := 652) hL.1 hL.2.2.2.2.2.1 (by omega) (by omega) hL.2.2.2.2.2.2.2.2.2 dL_law_651 rfl ?_
  refine w_cM1 (pc' := 655) hL (c_X9_graze l G' _ B hI (by omega) _ (xz_in _ _) _ (xz_in _ _) _ (xz_in _ _)) kX9_graze tM_L_88 (by decide) dL_law_652 rfl rfl (Nat.le_of_ble_eq_true rfl) (fun τ1 e2 => ?_)
  refine w_eq (tgt := 884) hL.1 dL_law_655 (by decide) ?_
  exact nxt _ _ (e2.im (I_graze _ _ _ hI)) (e2.rc e1)
theorem law_nail (hL : LH G G' b L xs A l E) (hI : IM B τ) (hC : RC σ τ) (hB : B ≤ 9000) (j0 : 0 ≤ j) (j1 : j + 4 ≤ (L : Int)) (nxt : ∀ σ' τ' : St, IM (B + 1) τ' → RC σ' τ' → VV E 4 A Q (JJ G G' σ' τ') 884 (lvq b G G' j) []) : VV E 4 A Q (JJ G G' σ τ) 660 (lvq b G G' j) [] := by
  refine x_aload_n (pc' := 661) hL.1 dL_law_660 rfl rfl ?_
  refine x_aload_n (pc' := 662) hL.1 dL_law_661 rfl rfl ?_
  refine x_iload_n (pc' := 663) hL.1 dL_law_662 rfl rfl ?_
  refine x_iconst (pc' := 664) hL.1 dL_law_663 rfl ?_
  refine x_iadd (pc' := 665) hL.1 dL_law_664 rfl ?_
  refine w_sld (pc' := 666) hL.1 hL.2.2.2.2.2.1 (by omega) (by omega) hL.2.2.2.2.2.2.2.2.2 dL_law_665 rfl ?_
  refine x_aload_n (pc' := 667) hL.1 dL_law_666 rfl rfl ?_
  refine x_iload_n (pc' := 668) hL.1 dL_law_667 rfl rfl ?_
  refine x_iconst (pc' := 669) hL.1 dL_law_668 rfl ?_
  refine x_iadd (pc' := 670) hL.1 dL_law_669 rfl ?_
  refine w_sld (pc' := 671) hL.1 hL.2.2.2.2.2.1 (by omega) (by omega) hL.2.2.2.2.2.2.2.2.2 dL_law_670 rfl ?_
  refine w_cC1 (pc' := 674) hL (c_X8_nail l G _ _ B hI hC (by omega) _ (xz_in _ _) _ (xz_in _ _)) kX8_nail tM_L_89 (by decide) dL_law_671 rfl rfl (Nat.le_of_ble_eq_true rfl) (fun σ1 e1 => ?_)
  refine x_aload_n (pc' := 675) hL.1 dL_law_674 rfl rfl ?_
  refine x_aload_n (pc' := 676) hL.1 dL_law_675 rfl rfl ?_
  refine x_iload_n (pc' := 677) hL.1 dL_law_676 rfl rfl ?_
  refine x_iconst (pc' := 678) hL.1 dL_law_677 rfl ?_
  refine x_iadd (pc' := 679) hL.1 dL_law_678 rfl ?_
  refine w_sld (pc' := 680) hL.1 hL.2.2.2.2.2.1 (by omega) (by omega) hL.2.2.2.2.2.2.2.2.2 dL_law_679 rfl ?_
  refine x_aload_n (pc' := 681) hL.1 dL_law_680 rfl rfl ?_
  refine x_iload_n (pc' := 682) hL.1 dL_law_681 rfl rfl ?_
  refine x_iconst (pc' := 683) hL.1 dL_law_682 rfl ?_
  refine x_iadd (pc' := 684) hL.1 dL_law_683 rfl ?_
  refine w_sld (pc' := 685) hL.1 hL.2.2.2.2.2.1 (by omega) (by omega) hL.2.2.2.2.2.2.2.2.2 dL_law_684 rfl ?_
  refine w_cM1 (pc' := 688) hL (c_X9_nail l G' _ B hI (by omega) _ (xz_in _ _) _ (xz_in _ _)) kX9_nail tM_L_92 (by decide) dL_law_685 rfl rfl (Nat.le_of_ble_eq_true rfl) (fun τ1 e2 => ?_)
  refine w_eq (tgt := 884) hL.1 dL_law_688 (by decide) ?_
  exact nxt _ _ (e2.im (IM_s hI)) (e2.rc e1)
theorem law_watch (hL : LH G G' b L xs A l E) (hI : IM B τ) (hC : RC σ τ) (hB : B ≤ 9000) (j0 : 0 ≤ j) (j1 : j + 4 ≤ (L : Int)) (nxt : ∀ σ' τ' : St, IM (B + 1) τ' → RC σ' τ' → VV E 4 A Q (JJ G G' σ' τ') 884 (lvq b G G' j) []) : VV E 4 A Q (JJ G G' σ τ) 693 (lvq b G G' j) [] := by
  refine x_aload_n (pc' := 694) hL.1 dL_law_693 rfl rfl ?_
  refine x_aload_n (pc' := 695) hL.1 dL_law_694 rfl rfl ?_
  refine x_iload_n (pc' := 696) hL.1 dL_law_695 rfl rfl ?_
  refine x_iconst (pc' := 697) hL.1 dL_law_696 rfl ?_
  refine x_iadd (pc' := 698) hL.1 dL_law_697 rfl ?_
  refine w_sld (pc' := 699) hL.1 hL.2.2.2.2.2.1 (by omega) (by omega) hL.2.2.2.2.2.2.2.2.2 dL_law_698 rfl ?_
  refine w_cC1 (pc' := 702) hL (c_X8_watch l G _ _ B hI hC (by omega) _ (xz_in _ _)) kX8_watch tM_L_93 (by decide) dL_law_699 rfl rfl (Nat.le_of_ble_eq_true rfl) (fun σ1 e1 => ?_)
  refine x_aload_n (pc' := 703) hL.1 dL_law_702 rfl rfl ?_
  refine x_aload_n (pc' := 704) hL.1 dL_law_703 rfl rfl ?_
  refine x_iload_n (pc' := 705) hL.1 dL_law_704 rfl rfl ?_
  refine x_iconst (pc' := 706) hL.1 dL_law_705 rfl ?_
  refine x_iadd (pc' := 707) hL.1 dL_law_706 rfl ?_
  refine w_sld (pc' := 708) hL.1 hL.2.2.2.2.2.1 (by omega) (by omega) hL.2.2.2.2.2.2.2.2.2 dL_law_707 rfl ?_
  refine w_cM1 (pc' := 711) hL (c_X9_watch l G' _ B hI (by omega) _ (xz_in _ _)) kX9_watch tM_L_96 (by decide) dL_law_708 rfl rfl (Nat.le_of_ble_eq_true rfl) (fun τ1 e2 => ?_)
  refine w_eq (tgt := 884) hL.1 dL_law_711 (by decide) ?_
  exact nxt _ _ (e2.im (I_watch _ hI)) (e2.rc e1)
theorem law_seen (hL : LH G G' b L xs A l E) (hI : IM B τ) (hC : RC σ τ) (hB : B ≤ 9000) (j0 : 0 ≤ j) (j1 : j + 4 ≤ (L : Int)) (nxt : ∀ σ' τ' : St, IM (B + 1) τ' → RC σ' τ' → VV E 4 A Q (JJ G G' σ' τ') 884 (lvq b G G' j) []) : VV E 4 A Q (JJ G G' σ τ) 716 (lvq b G G' j) [] := by
  refine x_aload_n (pc' := 717) hL.1 dL_law_716 rfl rfl ?_
  refine x_aload_n (pc' := 718) hL.1 dL_law_717 rfl rfl ?_
  refine x_iload_n (pc' := 719) hL.1 dL_law_718 rfl rfl ?_
  refine x_iconst (pc' := 720) hL.1 dL_law_719 rfl ?_
  refine x_iadd (pc' := 721) hL.1 dL_law_720 rfl ?_
  refine w_sld (pc' := 722) hL.1 hL.2.2.2.2.2.1 (by omega) (by omega) hL.2.2.2.2.2.2.2.2.2 dL_law_721 rfl ?_
  refine x_ifeq (tgt := 729) (pc' := 725) hL.1 dL_law_722 (by decide) rfl (xz_in _ _) (fun h1 => ?_) (fun h1 => ?_)
  · refine x_iconst (pc' := 730) hL.1 dL_law_729 rfl ?_
    refine x_st (st' := [.int (bI false), .ref (aC G 0 0 0)]) (by rw [bI_f]) ?_
    refine w_cC1 (pc' := 733) hL (c_X8_seen l G _ _ B hI hC (by omega) false) kX8_seen tM_L_97 (by decide) dL_law_730 rfl rfl (Nat.le_of_ble_eq_true rfl) (fun σ1 e1 => ?_)
    refine x_aload_n (pc' := 734) hL.1 dL_law_733 rfl rfl ?_
    refine x_aload_n (pc' := 735) hL.1 dL_law_734 rfl rfl ?_
    refine x_iload_n (pc' := 736) hL.1 dL_law_735 rfl rfl ?_
    refine x_iconst (pc' := 737) hL.1 dL_law_736 rfl ?_
    refine x_iadd (pc' := 738) hL.1 dL_law_737 rfl ?_
    refine w_sld (pc' := 739) hL.1 hL.2.2.2.2.2.1 (by omega) (by omega) hL.2.2.2.2.2.2.2.2.2 dL_law_738 rfl ?_
    refine x_ifeq (tgt := 746) (pc' := 742) hL.1 dL_law_739 (by decide) rfl (xz_in _ _) (fun _ => ?_) (fun h9 => absurd h1 h9)
    refine x_iconst (pc' := 747) hL.1 dL_law_746 rfl ?_
    refine x_st (st' := [.int (bI false), .ref (aM G' 0), _]) (by rw [bI_f]) ?_
    refine w_cM1 (pc' := 750) hL (c_X9_seen l G' _ B hI (by omega) false) kX9_seen tM_L_101 (by decide) dL_law_747 rfl rfl (Nat.le_of_ble_eq_true rfl) (fun τ1 e2 => ?_)
    refine w_eq (tgt := 884) hL.1 dL_law_750 (by decide) ?_
    exact nxt _ _ (e2.im (I_seen _ hI)) (e2.rc e1)
  · refine x_iconst (pc' := 726) hL.1 dL_law_725 rfl ?_
    refine x_goto (tgt := 730) hL.1 dL_law_726 (by decide) ?_
    refine x_st (st' := [.int (bI true), .ref (aC G 0 0 0)]) (by rw [bI_t]) ?_
    refine w_cC1 (pc' := 733) hL (c_X8_seen l G _ _ B hI hC (by omega) true) kX8_seen tM_L_97 (by decide) dL_law_730 rfl rfl (Nat.le_of_ble_eq_true rfl) (fun σ1 e1 => ?_)
    refine x_aload_n (pc' := 734) hL.1 dL_law_733 rfl rfl ?_
    refine x_aload_n (pc' := 735) hL.1 dL_law_734 rfl rfl ?_
    refine x_iload_n (pc' := 736) hL.1 dL_law_735 rfl rfl ?_
    refine x_iconst (pc' := 737) hL.1 dL_law_736 rfl ?_
    refine x_iadd (pc' := 738) hL.1 dL_law_737 rfl ?_
    refine w_sld (pc' := 739) hL.1 hL.2.2.2.2.2.1 (by omega) (by omega) hL.2.2.2.2.2.2.2.2.2 dL_law_738 rfl ?_
    refine x_ifeq (tgt := 746) (pc' := 742) hL.1 dL_law_739 (by decide) rfl (xz_in _ _) (fun h9 => absurd h9 h1) (fun _ => ?_)
    refine x_iconst (pc' := 743) hL.1 dL_law_742 rfl ?_
    refine x_goto (tgt := 747) hL.1 dL_law_743 (by decide) ?_
    refine x_st (st' := [.int (bI true), .ref (aM G' 0), _]) (by rw [bI_t]) ?_
    refine w_cM1 (pc' := 750) hL (c_X9_seen l G' _ B hI (by omega) true) kX9_seen tM_L_101 (by decide) dL_law_747 rfl rfl (Nat.le_of_ble_eq_true rfl) (fun τ1 e2 => ?_)
    refine w_eq (tgt := 884) hL.1 dL_law_750 (by decide) ?_
    exact nxt _ _ (e2.im (I_seen _ hI)) (e2.rc e1)
theorem law_fits (hL : LH G G' b L xs A l E) (hI : IM B τ) (hC : RC σ τ) (hB : B ≤ 9000) (j0 : 0 ≤ j) (j1 : j + 4 ≤ (L : Int)) (nxt : ∀ σ' τ' : St, IM (B + 1) τ' → RC σ' τ' → VV E 4 A Q (JJ G G' σ' τ') 884 (lvq b G G' j) []) : VV E 4 A Q (JJ G G' σ τ) 755 (lvq b G G' j) [] := by
  refine x_aload_n (pc' := 756) hL.1 dL_law_755 rfl rfl ?_
  refine x_aload_n (pc' := 757) hL.1 dL_law_756 rfl rfl ?_
  refine x_iload_n (pc' := 758) hL.1 dL_law_757 rfl rfl ?_
  refine x_iconst (pc' := 759) hL.1 dL_law_758 rfl ?_
  refine x_iadd (pc' := 760) hL.1 dL_law_759 rfl ?_
  refine w_sld (pc' := 761) hL.1 hL.2.2.2.2.2.1 (by omega) (by omega) hL.2.2.2.2.2.2.2.2.2 dL_law_760 rfl ?_
  refine w_cC1 (pc' := 764) hL (c_X8_fits l G _ _ B hI hC (by omega) _ (xz_in _ _)) kX8_fits tM_L_102 (by decide) dL_law_761 rfl rfl (Nat.le_of_ble_eq_true rfl) (fun σ1 e1 => ?_)
  refine x_aload_n (pc' := 765) hL.1 dL_law_764 rfl rfl ?_
  refine x_aload_n (pc' := 766) hL.1 dL_law_765 rfl rfl ?_
  refine x_iload_n (pc' := 767) hL.1 dL_law_766 rfl rfl ?_
  refine x_iconst (pc' := 768) hL.1 dL_law_767 rfl ?_
  refine x_iadd (pc' := 769) hL.1 dL_law_768 rfl ?_
  refine w_sld (pc' := 770) hL.1 hL.2.2.2.2.2.1 (by omega) (by omega) hL.2.2.2.2.2.2.2.2.2 dL_law_769 rfl ?_
  refine w_cM1 (pc' := 773) hL (c_X9_fits l G' _ B hI (by omega) _ (xz_in _ _)) kX9_fits tM_L_105 (by decide) dL_law_770 rfl rfl (Nat.le_of_ble_eq_true rfl) (fun τ1 e2 => ?_)
  refine w_eq (tgt := 884) hL.1 dL_law_773 (by decide) ?_
  exact nxt _ _ (e2.im (IM_s hI)) (e2.rc e1)
theorem law_years (hL : LH G G' b L xs A l E) (hI : IM B τ) (hC : RC σ τ) (hB : B ≤ 9000) (j0 : 0 ≤ j) (j1 : j + 4 ≤ (L : Int)) (nxt : ∀ σ' τ' : St, IM (B + 1) τ' → RC σ' τ' → VV E 4 A Q (JJ G G' σ' τ') 884 (lvq b G G' j) []) : VV E 4 A Q (JJ G G' σ τ) 778 (lvq b G G' j) [] := by
  refine x_aload_n (pc' := 779) hL.1 dL_law_778 rfl rfl ?_
  refine x_aload_n (pc' := 780) hL.1 dL_law_779 rfl rfl ?_
  refine x_iload_n (pc' := 781) hL.1 dL_law_780 rfl rfl ?_
  refine x_iconst (pc' := 782) hL.1 dL_law_781 rfl ?_
  refine x_iadd (pc' := 783) hL.1 dL_law_782 rfl ?_
  refine w_sld (pc' := 784) hL.1 hL.2.2.2.2.2.1 (by omega) (by omega) hL.2.2.2.2.2.2.2.2.2 dL_law_783 rfl ?_
  refine x_aload_n (pc' := 785) hL.1 dL_law_784 rfl rfl ?_
  refine x_iload_n (pc' := 786) hL.1 dL_law_785 rfl rfl ?_
  refine x_iconst (pc' := 787) hL.1 dL_law_786 rfl ?_
  refine x_iadd (pc' := 788) hL.1 dL_law_787 rfl ?_
  refine w_sld (pc' := 789) hL.1 hL.2.2.2.2.2.1 (by omega) (by omega) hL.2.2.2.2.2.2.2.2.2 dL_law_788 rfl ?_
  refine x_aload_n (pc' := 790) hL.1 dL_law_789 rfl rfl ?_
  refine x_iload_n (pc' := 791) hL.1 dL_law_790 rfl rfl ?_
  refine x_iconst (pc' := 792) hL.1 dL_law_791 rfl ?_
  refine x_iadd (pc' := 793) hL.1 dL_law_792 rfl ?_
  refine w_sld (pc' := 794) hL.1 hL.2.2.2.2.2.1 (by omega) (by omega) hL.2.2.2.2.2.2.2.2.2 dL_law_793 rfl ?_
  refine w_cC1 (pc' := 797) hL (c_X8_years l G _ _ B hI hC (by omega) _ (xz_in _ _) _ (xz_in _ _) _ (xz_in _ _)) kX8_years tM_L_106 (by decide) dL_law_794 rfl rfl (Nat.le_of_ble_eq_true rfl) (fun σ1 e1 => ?_)
  refine x_aload_n (pc' := 798) hL.1 dL_law_797 rfl rfl ?_
  refine x_aload_n (pc' := 799) hL.1 dL_law_798 rfl rfl ?_
  refine x_iload_n (pc' := 800) hL.1 dL_law_799 rfl rfl ?_
  refine x_iconst (pc' := 801) hL.1 dL_law_800 rfl ?_
  refine x_iadd (pc' := 802) hL.1 dL_law_801 rfl ?_
  refine w_sld (pc' := 803) hL.1 hL.2.2.2.2.2.1 (by omega) (by omega) hL.2.2.2.2.2.2.2.2.2 dL_law_802 rfl ?_
  refine x_aload_n (pc' := 804) hL.1 dL_law_803 rfl rfl ?_
  refine x_iload_n (pc' := 805) hL.1 dL_law_804 rfl rfl ?_
  refine x_iconst (pc' := 806) hL.1 dL_law_805 rfl ?_
  refine x_iadd (pc' := 807) hL.1 dL_law_806 rfl ?_
  refine w_sld (pc' := 808) hL.1 hL.2.2.2.2.2.1 (by omega) (by omega) hL.2.2.2.2.2.2.2.2.2 dL_law_807 rfl ?_
  refine x_aload_n (pc' := 809) hL.1 dL_law_808 rfl rfl ?_
  refine x_iload_n (pc' := 810) hL.1 dL_law_809 rfl rfl ?_
  refine x_iconst (pc' := 811) hL.1 dL_law_810 rfl ?_
  refine x_iadd (pc' := 812) hL.1 dL_law_811 rfl ?_
  refine w_sld (pc' := 813) hL.1 hL.2.2.2.2.2.1 (by omega) (by omega) hL.2.2.2.2.2.2.2.2.2 dL_law_812 rfl ?_
  refine w_cM1 (pc' := 816) hL (c_X9_years l G' _ B hI (by omega) _ (xz_in _ _) _ (xz_in _ _) _ (xz_in _ _)) kX9_years tM_L_109 (by decide) dL_law_813 rfl rfl (Nat.le_of_ble_eq_true rfl) (fun τ1 e2 => ?_)
  refine w_eq (tgt := 884) hL.1 dL_law_816 (by decide) ?_
  exact nxt _ _ (e2.im (IM_s hI)) (e2.rc e1)
theorem law_image (hL : LH G G' b L xs A l E) (hI : IM B τ) (hC : RC σ τ) (hB : B ≤ 9000) (j0 : 0 ≤ j) (j1 : j + 4 ≤ (L : Int)) (nxt : ∀ σ' τ' : St, IM (B + 1) τ' → RC σ' τ' → VV E 4 A Q (JJ G G' σ' τ') 884 (lvq b G G' j) []) : VV E 4 A Q (JJ G G' σ τ) 821 (lvq b G G' j) [] := by
  refine x_aload_n (pc' := 822) hL.1 dL_law_821 rfl rfl ?_
  refine w_cC1 (pc' := 825) hL (c_X8_image l G _ _ B hI hC (by omega)) kX8_image tM_L_110 (by decide) dL_law_822 rfl rfl (Nat.le_of_ble_eq_true rfl) (fun σ1 e1 => ?_)
  refine x_aload_n (pc' := 826) hL.1 dL_law_825 rfl rfl ?_
  refine w_cM1 (pc' := 829) hL (c_X9_image l G' _ B hI (by omega)) kX9_image tM_L_113 (by decide) dL_law_826 rfl rfl (Nat.le_of_ble_eq_true rfl) (fun τ1 e2 => ?_)
  refine w_eq (tgt := 884) hL.1 dL_law_829 (by decide) ?_
  exact nxt _ _ (e2.im (I_image hI)) (e2.rc e1)
theorem law_restore (hL : LH G G' b L xs A l E) (hI : IM B τ) (hC : RC σ τ) (hB : B ≤ 9000) (j0 : 0 ≤ j) (j1 : j + 4 ≤ (L : Int)) (nxt : ∀ σ' τ' : St, IM (B + 1) τ' → RC σ' τ' → VV E 4 A Q (JJ G G' σ' τ') 884 (lvq b G G' j) []) : VV E 4 A Q (JJ G G' σ τ) 834 (lvq b G G' j) [] := by
  refine x_aload_n (pc' := 835) hL.1 dL_law_834 rfl rfl ?_
  refine w_cC1 (pc' := 838) hL (c_X8_restore l G _ _ B hI hC (by omega)) kX8_restore tM_L_114 (by decide) dL_law_835 rfl rfl (Nat.le_of_ble_eq_true rfl) (fun σ1 e1 => ?_)
  refine x_aload_n (pc' := 839) hL.1 dL_law_838 rfl rfl ?_
  refine w_cM1 (pc' := 842) hL (c_X9_restore l G' _ B hI (by omega)) kX9_restore tM_L_117 (by decide) dL_law_839 rfl rfl (Nat.le_of_ble_eq_true rfl) (fun τ1 e2 => ?_)
  refine w_eq (tgt := 884) hL.1 dL_law_842 (by decide) ?_
  exact nxt _ _ (e2.im (I_restore hI)) (e2.rc e1)
theorem law_count (hL : LH G G' b L xs A l E) (hI : IM B τ) (hC : RC σ τ) (hB : B ≤ 9000) (j0 : 0 ≤ j) (j1 : j + 4 ≤ (L : Int)) (nxt : ∀ σ' τ' : St, IM (B + 1) τ' → RC σ' τ' → VV E 4 A Q (JJ G G' σ' τ') 884 (lvq b G G' j) []) : VV E 4 A Q (JJ G G' σ τ) 847 (lvq b G G' j) [] := by
  refine x_aload_n (pc' := 848) hL.1 dL_law_847 rfl rfl ?_
  refine x_aload_n (pc' := 849) hL.1 dL_law_848 rfl rfl ?_
  refine x_iload_n (pc' := 850) hL.1 dL_law_849 rfl rfl ?_
  refine x_iconst (pc' := 851) hL.1 dL_law_850 rfl ?_
  refine x_iadd (pc' := 852) hL.1 dL_law_851 rfl ?_
  refine w_sld (pc' := 853) hL.1 hL.2.2.2.2.2.1 (by omega) (by omega) hL.2.2.2.2.2.2.2.2.2 dL_law_852 rfl ?_
  refine w_cC1 (pc' := 856) hL (c_X8_count l G _ _ B hI hC (by omega) _ (xz_in _ _)) kX8_count tM_L_118 (by decide) dL_law_853 rfl rfl (Nat.le_of_ble_eq_true rfl) (fun σ1 e1 => ?_)
  refine x_aload_n (pc' := 857) hL.1 dL_law_856 rfl rfl ?_
  refine x_aload_n (pc' := 858) hL.1 dL_law_857 rfl rfl ?_
  refine x_iload_n (pc' := 859) hL.1 dL_law_858 rfl rfl ?_
  refine x_iconst (pc' := 860) hL.1 dL_law_859 rfl ?_
  refine x_iadd (pc' := 861) hL.1 dL_law_860 rfl ?_
  refine w_sld (pc' := 862) hL.1 hL.2.2.2.2.2.1 (by omega) (by omega) hL.2.2.2.2.2.2.2.2.2 dL_law_861 rfl ?_
  refine w_cM1 (pc' := 865) hL (c_X9_count l G' _ B hI (by omega) _ (xz_in _ _)) kX9_count tM_L_121 (by decide) dL_law_862 rfl rfl (Nat.le_of_ble_eq_true rfl) (fun τ1 e2 => ?_)
  refine w_eq (tgt := 884) hL.1 dL_law_865 (by decide) ?_
  exact nxt _ _ (e2.im (IM_s hI)) (e2.rc e1)
theorem law_digest (hL : LH G G' b L xs A l E) (hI : IM B τ) (hC : RC σ τ) (hB : B ≤ 9000) (j0 : 0 ≤ j) (j1 : j + 4 ≤ (L : Int)) (nxt : ∀ σ' τ' : St, IM (B + 1) τ' → RC σ' τ' → VV E 4 A Q (JJ G G' σ' τ') 884 (lvq b G G' j) []) : VV E 4 A Q (JJ G G' σ τ) 870 (lvq b G G' j) [] := by
  obtain ⟨-, -, i3, i4, i5, i10, i6, i7, i8, i9, -⟩ := id hI
  have i0 := hI.1.1
  have w00 : wv τ 0 0 = τ 0 0 0 5 := rfl
  refine x_aload_n (pc' := 871) hL.1 dL_law_870 rfl rfl ?_
  refine w_cC1 (pc' := 874) hL (c_X8_digest l G _ _ B hI hC (by omega) hB) kX8_digest tM_L_122 (by decide) dL_law_871 rfl rfl (Nat.le_of_ble_eq_true rfl) (fun σ1 e1 => ?_)
  refine x_aload_n (pc' := 875) hL.1 dL_law_874 rfl rfl ?_
  refine w_cM1 (pc' := 878) hL (c_X9_digest l G' _ B hI.1 (by omega) hI.2.1 (by omega) (by omega) (by omega) i9 (by omega) i10 (by omega) (by omega)) kX9_digest tM_L_126 (by decide) dL_law_875 rfl rfl (Nat.le_of_ble_eq_true rfl) (fun τ1 e2 => ?_)
  refine w_leq (pc' := 879) hL.1 dL_law_878 rfl ?_
  refine x_ifeq (tgt := 884) (pc' := 882) hL.1 dL_law_879 (by decide) rfl inR_0 (fun _ => ?_) (fun h9 => absurd rfl h9)
  exact nxt _ _ (e2.im (IM_s hI)) (e2.rc e1)
theorem law_loop (hL : LH G G' b L xs A l E) (hend : ∀ lv : List (Option Value), VV E 4 A Q (fun _ => True) 890 lv []) : ∀ (n i : Nat) (σ τ : St), IM (i : Int) τ → RC σ τ → (L : Int) ≤ 4 * (i : Int) + 4 * (n : Int) → 4 * (i : Int) ≤ (L : Int) → VV E 4 A Q (JJ G G' σ τ) 18 (lvq b G G' (4 * (i : Int))) [] := by
  intro n
  induction n with
  | zero =>
    intro i σ τ hI hC hn hi
    have h256 := hL.2.2.2.2.2.2.2.2.2
    refine x_iload_n (pc' := 19) hL.1 dL_law_18 rfl rfl ?_
    refine x_aload_n (pc' := 20) hL.1 dL_law_19 rfl rfl ?_
    refine w_slen (pc' := 21) hL.1 hL.2.2.2.2.2.1 dL_law_20 rfl ?_
    refine x_iconst (pc' := 22) hL.1 dL_law_21 rfl ?_
    refine x_isub (pc' := 23) hL.1 dL_law_22 rfl ?_
    refine x_icmpgt (tgt := 890) (pc' := 26) hL.1 dL_law_23 (by decide) rfl ⟨by omega, by omega⟩ ⟨by omega, by omega⟩ (fun h1 => ?_) (fun h1 => ?_)
    · exact x_J (fun _ _ => trivial) (hend _)
    · exact absurd h1 (by omega)
  | succ n ih =>
    intro i σ τ hI hC hn hi
    have h256 := hL.2.2.2.2.2.2.2.2.2
    refine x_iload_n (pc' := 19) hL.1 dL_law_18 rfl rfl ?_
    refine x_aload_n (pc' := 20) hL.1 dL_law_19 rfl rfl ?_
    refine w_slen (pc' := 21) hL.1 hL.2.2.2.2.2.1 dL_law_20 rfl ?_
    refine x_iconst (pc' := 22) hL.1 dL_law_21 rfl ?_
    refine x_isub (pc' := 23) hL.1 dL_law_22 rfl ?_
    refine x_icmpgt (tgt := 890) (pc' := 26) hL.1 dL_law_23 (by decide) rfl ⟨by omega, by omega⟩ ⟨by omega, by omega⟩ (fun h1 => ?_) (fun h1 => ?_)
    · exact x_J (fun _ _ => trivial) (hend _)
    have j0 : 0 ≤ 4 * (i : Int) := by omega
    have j1 : 4 * (i : Int) + 4 ≤ (L : Int) := by omega
    have hB : (i : Int) ≤ 9000 := by omega
    have nxt : ∀ σ' τ' : St, IM ((i : Int) + 1) τ' → RC σ' τ' → VV E 4 A Q (JJ G G' σ' τ') 884 (lvq b G G' (4 * (i : Int))) [] := by
      intro σ' τ' hI' hC'
      refine x_iinc (pc' := 887) hL.1 dL_law_884 rfl rfl (by decide) rfl rfl ?_
      refine x_goto (tgt := 18) hL.1 dL_law_887 (by decide) ?_
      have e : 4 * (i : Int) + 4 = 4 * ((i + 1 : Nat) : Int) := by omega
      show VV E 4 A Q (JJ G G' σ' τ') 18 (lvq b G G' (4 * (i : Int) + 4)) []
      rw [e]
      exact ih (i + 1) σ' τ' (by rw [show ((i + 1 : Nat) : Int) = (i : Int) + 1 by omega]; exact hI') hC' (by omega) (by omega)
    refine x_aload_n (pc' := 27) hL.1 dL_law_26 rfl rfl ?_
    refine x_iload_n (pc' := 28) hL.1 dL_law_27 rfl rfl ?_
    refine w_sld (pc' := 29) hL.1 hL.2.2.2.2.2.1 (by omega) (by omega) h256 dL_law_28 rfl ?_
    refine x_bipush (pc' := 31) hL.1 dL_law_29 rfl (by decide +kernel) ?_
    refine x_iand (pc' := 32) hL.1 dL_law_31 rfl ?_
    obtain ⟨z, hz, hr⟩ := iN_ex (iN (xz xs (4 * (i : Int))) &&& iN 31)
    rw [hz]
    rcases (show z = 0 ∨ z = 1 ∨ z = 2 ∨ z = 3 ∨ z = 4 ∨ z = 5 ∨ z = 6 ∨ z = 7 ∨ z = 8 ∨ z = 9 ∨ z = 10 ∨ z = 11 ∨ z = 12 ∨ z = 13 ∨ z = 14 ∨ z = 15 ∨ z = 16 ∨ z = 17 ∨ z = 18 ∨ z = 19 ∨ z = 20 ∨ z = 21 ∨ z = 22 ∨ z = 23 ∨ z = 24 ∨ z = 25 ∨ z = 26 ∨ (z < 0 ∨ 26 < z) by omega) with h2 | h2 | h2 | h2 | h2 | h2 | h2 | h2 | h2 | h2 | h2 | h2 | h2 | h2 | h2 | h2 | h2 | h2 | h2 | h2 | h2 | h2 | h2 | h2 | h2 | h2 | h2 | h2
    · refine x_tabIn (tgt := 156) (off := 124) hL.1 dL_law_32 hr (by omega) (by omega) (by rw [h2]; rfl) (by decide) ?_
      exact law_letter hL hI hC hB j0 j1 nxt
    · refine x_tabIn (tgt := 179) (off := 147) hL.1 dL_law_32 hr (by omega) (by omega) (by rw [h2]; rfl) (by decide) ?_
      exact law_blank hL hI hC hB j0 j1 nxt
    · refine x_tabIn (tgt := 192) (off := 160) hL.1 dL_law_32 hr (by omega) (by omega) (by rw [h2]; rfl) (by decide) ?_
      exact law_fault hL hI hC hB j0 j1 nxt
    · refine x_tabIn (tgt := 205) (off := 173) hL.1 dL_law_32 hr (by omega) (by omega) (by rw [h2]; rfl) (by decide) ?_
      exact law_feasts hL hI hC hB j0 j1 nxt
    · refine x_tabIn (tgt := 218) (off := 186) hL.1 dL_law_32 hr (by omega) (by omega) (by rw [h2]; rfl) (by decide) ?_
      exact law_dayOf hL hI hC hB j0 j1 nxt
    · refine x_tabIn (tgt := 251) (off := 219) hL.1 dL_law_32 hr (by omega) (by omega) (by rw [h2]; rfl) (by decide) ?_
      exact law_forge hL hI hC hB j0 j1 nxt
    · refine x_tabIn (tgt := 284) (off := 252) hL.1 dL_law_32 hr (by omega) (by omega) (by rw [h2]; rfl) (by decide) ?_
      exact law_pack hL hI hC hB j0 j1 nxt
    · refine x_tabIn (tgt := 327) (off := 295) hL.1 dL_law_32 hr (by omega) (by omega) (by rw [h2]; rfl) (by decide) ?_
      exact law_about hL hI hC hB j0 j1 nxt
    · refine x_tabIn (tgt := 360) (off := 328) hL.1 dL_law_32 hr (by omega) (by omega) (by rw [h2]; rfl) (by decide) ?_
      exact law_as hL hI hC hB j0 j1 nxt
    · refine x_tabIn (tgt := 393) (off := 361) hL.1 dL_law_32 hr (by omega) (by omega) (by rw [h2]; rfl) (by decide) ?_
      exact law_flock hL hI hC hB j0 j1 nxt
    · refine x_tabIn (tgt := 426) (off := 394) hL.1 dL_law_32 hr (by omega) (by omega) (by rw [h2]; rfl) (by decide) ?_
      exact law_flockOf hL hI hC hB j0 j1 nxt
    · refine x_tabIn (tgt := 459) (off := 427) hL.1 dL_law_32 hr (by omega) (by omega) (by rw [h2]; rfl) (by decide) ?_
      exact law_name hL hI hC hB j0 j1 nxt
    · refine x_tabIn (tgt := 492) (off := 460) hL.1 dL_law_32 hr (by omega) (by omega) (by rw [h2]; rfl) (by decide) ?_
      exact law_move hL hI hC hB j0 j1 nxt
    · refine x_tabIn (tgt := 525) (off := 493) hL.1 dL_law_32 hr (by omega) (by omega) (by rw [h2]; rfl) (by decide) ?_
      exact law_day hL hI hC hB j0 j1 nxt
    · refine x_tabIn (tgt := 538) (off := 506) hL.1 dL_law_32 hr (by omega) (by omega) (by rw [h2]; rfl) (by decide) ?_
      exact law_loss hL hI hC hB j0 j1 nxt
    · refine x_tabIn (tgt := 561) (off := 529) hL.1 dL_law_32 hr (by omega) (by omega) (by rw [h2]; rfl) (by decide) ?_
      exact law_falls hL hI hC hB j0 j1 nxt
    · refine x_tabIn (tgt := 584) (off := 552) hL.1 dL_law_32 hr (by omega) (by omega) (by rw [h2]; rfl) (by decide) ?_
      exact law_safe hL hI hC hB j0 j1 nxt
    · refine x_tabIn (tgt := 617) (off := 585) hL.1 dL_law_32 hr (by omega) (by omega) (by rw [h2]; rfl) (by decide) ?_
      exact law_graze hL hI hC hB j0 j1 nxt
    · refine x_tabIn (tgt := 660) (off := 628) hL.1 dL_law_32 hr (by omega) (by omega) (by rw [h2]; rfl) (by decide) ?_
      exact law_nail hL hI hC hB j0 j1 nxt
    · refine x_tabIn (tgt := 693) (off := 661) hL.1 dL_law_32 hr (by omega) (by omega) (by rw [h2]; rfl) (by decide) ?_
      exact law_watch hL hI hC hB j0 j1 nxt
    · refine x_tabIn (tgt := 716) (off := 684) hL.1 dL_law_32 hr (by omega) (by omega) (by rw [h2]; rfl) (by decide) ?_
      exact law_seen hL hI hC hB j0 j1 nxt
    · refine x_tabIn (tgt := 755) (off := 723) hL.1 dL_law_32 hr (by omega) (by omega) (by rw [h2]; rfl) (by decide) ?_
      exact law_fits hL hI hC hB j0 j1 nxt
    · refine x_tabIn (tgt := 778) (off := 746) hL.1 dL_law_32 hr (by omega) (by omega) (by rw [h2]; rfl) (by decide) ?_
      exact law_years hL hI hC hB j0 j1 nxt
    · refine x_tabIn (tgt := 821) (off := 789) hL.1 dL_law_32 hr (by omega) (by omega) (by rw [h2]; rfl) (by decide) ?_
      exact law_image hL hI hC hB j0 j1 nxt
    · refine x_tabIn (tgt := 834) (off := 802) hL.1 dL_law_32 hr (by omega) (by omega) (by rw [h2]; rfl) (by decide) ?_
      exact law_restore hL hI hC hB j0 j1 nxt
    · refine x_tabIn (tgt := 847) (off := 815) hL.1 dL_law_32 hr (by omega) (by omega) (by rw [h2]; rfl) (by decide) ?_
      exact law_count hL hI hC hB j0 j1 nxt
    · refine x_tabIn (tgt := 870) (off := 838) hL.1 dL_law_32 hr (by omega) (by omega) (by rw [h2]; rfl) (by decide) ?_
      exact law_digest hL hI hC hB j0 j1 nxt
    · refine x_tabOut (tgt := 884) hL.1 dL_law_32 hr h2 (by decide) ?_
      exact nxt _ _ (IM_s hI) hC
end LAW

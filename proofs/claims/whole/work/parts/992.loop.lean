set_option maxHeartbeats 4000000 in
set_option maxRecDepth 100000 in
theorem lw_c0 {E : Ev} {ad0 : Nat → Nat} {p : Program} {e : Env} {s : State} {m : MethodId} {below : List Frame} {meth : Method} {c : Code} {b N : Nat} {xs : Nat → Int32} (C_ : lwC E ad0 p s m meth c b N xs) (hN_ : N ≤ 2048) (i_ : Nat) (hi_ : i_ + 4 ≤ N) (h961_ : ∀ σ α, ivA σ α → VE E ad0 p e s m below meth c b 108 1537 LA σ α 961 [some (vX 14), some (vR 0), some (vR 95), some (vI ((i_ : Nat) : Int))] []) (σ α : St) (hI_ : ivA σ α) : VE E ad0 p e s m below meth c b 108 1537 LA σ α 164 [some (vX 14), some (vR 0), some (vR 95), some (vI ((i_ : Nat) : Int))] [] := by
  refine e_aload C_ iL_law_164 rfl ?_
  refine e_aloadX C_ iL_law_165 rfl ?_
  refine e_iload C_ iL_law_166 rfl ?_
  refine e_iconst C_ iL_law_167 ?_
  refine e_iadd C_ iL_law_168 ?_
  refine e_sld (j := i_ + 1) C_ iL_law_169 ⟨by omega, by omega, hN_⟩ ?_
  obtain ⟨r_, dx_, dm_, Q1_, hdx_, hdm_, hcx_, hcm_⟩ := ag_write (xs (i_ + 1)).toInt (i32_r _) σ α hI_
  refine e_callV (Mc := mX7_write) (q := 0) C_ iL_law_170 lL_13 kX7_write hcx_ hdx_ rfl rfl rfl rfl (Nat.le_of_ble_eq_true rfl) ⟨by omega, by omega⟩ (by refine ⟨?_, ?_⟩ <;> simp only [okL, okS, okV, and_true, true_and] <;> omega) ?_
  rintro r9_ s1_ a1_ ⟨rfl, hq_⟩
  refine e_aload C_ iL_law_173 rfl ?_
  refine e_aloadX C_ iL_law_174 rfl ?_
  refine e_iload C_ iL_law_175 rfl ?_
  refine e_iconst C_ iL_law_176 ?_
  refine e_iadd C_ iL_law_177 ?_
  refine e_sld (j := i_ + 1) C_ iL_law_178 ⟨by omega, by omega, hN_⟩ ?_
  refine e_callV (Mc := mX8_write) (q := 95) C_ iL_law_179 lL_17 kX8_write (hcm_ s1_ a1_ hq_) hdm_ rfl rfl rfl rfl (Nat.le_of_ble_eq_true rfl) ⟨by omega, by omega⟩ ⟨⟨trivial, (show 0 < 108 by decide), (show 95 < 108 by decide), trivial, trivial⟩, ⟨trivial, trivial⟩⟩ ?_
  rintro r9_ s2_ a2_ ⟨rfl, hI2_⟩
  refine e_same (tgt := 961) C_ iL_law_182 (by decide) ?_
  exact h961_ s2_ a2_ hI2_

set_option maxHeartbeats 4000000 in
set_option maxRecDepth 100000 in
theorem lw_c1 {E : Ev} {ad0 : Nat → Nat} {p : Program} {e : Env} {s : State} {m : MethodId} {below : List Frame} {meth : Method} {c : Code} {b N : Nat} {xs : Nat → Int32} (C_ : lwC E ad0 p s m meth c b N xs) (hN_ : N ≤ 2048) (i_ : Nat) (hi_ : i_ + 4 ≤ N) (h961_ : ∀ σ α, ivA σ α → VE E ad0 p e s m below meth c b 108 1537 LA σ α 961 [some (vX 14), some (vR 0), some (vR 95), some (vI ((i_ : Nat) : Int))] []) (σ α : St) (hI_ : ivA σ α) : VE E ad0 p e s m below meth c b 108 1537 LA σ α 187 [some (vX 14), some (vR 0), some (vR 95), some (vI ((i_ : Nat) : Int))] [] := by
  refine e_aload C_ iL_law_187 rfl ?_
  obtain ⟨r_, dx_, dm_, Q1_, hdx_, hdm_, hcx_, hcm_⟩ := ag_erase  σ α hI_
  refine e_callV (Mc := mX7_erase) (q := 0) C_ iL_law_188 lL_18 kX7_erase hcx_ hdx_ rfl rfl rfl rfl (Nat.le_of_ble_eq_true rfl) ⟨by omega, by omega⟩ (by refine ⟨?_, ?_⟩ <;> simp only [okL, okS, okV, and_true, true_and] <;> omega) ?_
  rintro r9_ s1_ a1_ ⟨rfl, hq_⟩
  refine e_aload C_ iL_law_191 rfl ?_
  refine e_callV (Mc := mX8_erase) (q := 95) C_ iL_law_192 lL_22 kX8_erase (hcm_ s1_ a1_ hq_) hdm_ rfl rfl rfl rfl (Nat.le_of_ble_eq_true rfl) ⟨by omega, by omega⟩ ⟨⟨trivial, (show 0 < 108 by decide), (show 95 < 108 by decide), trivial, trivial⟩, ⟨trivial, trivial⟩⟩ ?_
  rintro r9_ s2_ a2_ ⟨rfl, hI2_⟩
  refine e_same (tgt := 961) C_ iL_law_195 (by decide) ?_
  exact h961_ s2_ a2_ hI2_

set_option maxHeartbeats 4000000 in
set_option maxRecDepth 100000 in
theorem lw_c2 {E : Ev} {ad0 : Nat → Nat} {p : Program} {e : Env} {s : State} {m : MethodId} {below : List Frame} {meth : Method} {c : Code} {b N : Nat} {xs : Nat → Int32} (C_ : lwC E ad0 p s m meth c b N xs) (hN_ : N ≤ 2048) (i_ : Nat) (hi_ : i_ + 4 ≤ N) (h961_ : ∀ σ α, ivA σ α → VE E ad0 p e s m below meth c b 108 1537 LA σ α 961 [some (vX 14), some (vR 0), some (vR 95), some (vI ((i_ : Nat) : Int))] []) (σ α : St) (hI_ : ivA σ α) : VE E ad0 p e s m below meth c b 108 1537 LA σ α 200 [some (vX 14), some (vR 0), some (vR 95), some (vI ((i_ : Nat) : Int))] [] := by
  refine e_aload C_ iL_law_200 rfl ?_
  obtain ⟨r_, dx_, dm_, Q1_, hdx_, hdm_, hcx_, hcm_⟩ := ag_fault  σ α hI_
  refine e_callV (Mc := mX7_fault) (q := 0) C_ iL_law_201 lL_23 kX7_fault hcx_ hdx_ rfl rfl rfl rfl (Nat.le_of_ble_eq_true rfl) ⟨by omega, by omega⟩ (by refine ⟨?_, ?_⟩ <;> simp only [okL, okS, okV, and_true, true_and] <;> omega) ?_
  rintro r9_ s1_ a1_ ⟨rfl, hq_⟩
  refine e_aload C_ iL_law_204 rfl ?_
  refine e_callV (Mc := mX8_fault) (q := 95) C_ iL_law_205 lL_26 kX8_fault (hcm_ s1_ a1_ hq_) hdm_ rfl rfl rfl rfl (Nat.le_of_ble_eq_true rfl) ⟨by omega, by omega⟩ ⟨⟨trivial, (show 0 < 108 by decide), (show 95 < 108 by decide), trivial, trivial⟩, ⟨trivial, trivial⟩⟩ ?_
  rintro r9_ s2_ a2_ ⟨rfl, hI2_⟩
  refine e_same (tgt := 961) C_ iL_law_208 (by decide) ?_
  exact h961_ s2_ a2_ hI2_

set_option maxHeartbeats 4000000 in
set_option maxRecDepth 100000 in
theorem lw_c3 {E : Ev} {ad0 : Nat → Nat} {p : Program} {e : Env} {s : State} {m : MethodId} {below : List Frame} {meth : Method} {c : Code} {b N : Nat} {xs : Nat → Int32} (C_ : lwC E ad0 p s m meth c b N xs) (hN_ : N ≤ 2048) (i_ : Nat) (hi_ : i_ + 4 ≤ N) (h961_ : ∀ σ α, ivA σ α → VE E ad0 p e s m below meth c b 108 1537 LA σ α 961 [some (vX 14), some (vR 0), some (vR 95), some (vI ((i_ : Nat) : Int))] []) (σ α : St) (hI_ : ivA σ α) : VE E ad0 p e s m below meth c b 108 1537 LA σ α 213 [some (vX 14), some (vR 0), some (vR 95), some (vI ((i_ : Nat) : Int))] [] := by
  refine e_aload C_ iL_law_213 rfl ?_
  obtain ⟨r_, dx_, dm_, Q1_, hdx_, hdm_, hcx_, hcm_⟩ := ag_casting  σ α hI_
  refine e_callV (Mc := mX7_casting) (q := 0) C_ iL_law_214 lL_27 kX7_casting hcx_ hdx_ rfl rfl rfl rfl (Nat.le_of_ble_eq_true rfl) ⟨by omega, by omega⟩ (by refine ⟨?_, ?_⟩ <;> simp only [okL, okS, okV, and_true, true_and] <;> omega) ?_
  rintro r9_ s1_ a1_ ⟨rfl, hq_⟩
  refine e_aload C_ iL_law_217 rfl ?_
  refine e_callV (Mc := mX8_casting) (q := 95) C_ iL_law_218 lL_30 kX8_casting (hcm_ s1_ a1_ hq_) hdm_ rfl rfl rfl rfl (Nat.le_of_ble_eq_true rfl) ⟨by omega, by omega⟩ ⟨⟨trivial, (show 0 < 108 by decide), (show 95 < 108 by decide), trivial, trivial⟩, ⟨trivial, trivial⟩⟩ ?_
  rintro r9_ s2_ a2_ ⟨rfl, hI2_⟩
  refine e_same (tgt := 961) C_ iL_law_221 (by decide) ?_
  exact h961_ s2_ a2_ hI2_

set_option maxHeartbeats 4000000 in
set_option maxRecDepth 100000 in
theorem lw_c4 {E : Ev} {ad0 : Nat → Nat} {p : Program} {e : Env} {s : State} {m : MethodId} {below : List Frame} {meth : Method} {c : Code} {b N : Nat} {xs : Nat → Int32} (C_ : lwC E ad0 p s m meth c b N xs) (hN_ : N ≤ 2048) (i_ : Nat) (hi_ : i_ + 4 ≤ N) (h961_ : ∀ σ α, ivA σ α → VE E ad0 p e s m below meth c b 108 1537 LA σ α 961 [some (vX 14), some (vR 0), some (vR 95), some (vI ((i_ : Nat) : Int))] []) (σ α : St) (hI_ : ivA σ α) : VE E ad0 p e s m below meth c b 108 1537 LA σ α 226 [some (vX 14), some (vR 0), some (vR 95), some (vI ((i_ : Nat) : Int))] [] := by
  refine e_aload C_ iL_law_226 rfl ?_
  refine e_aloadX C_ iL_law_227 rfl ?_
  refine e_iload C_ iL_law_228 rfl ?_
  refine e_iconst C_ iL_law_229 ?_
  refine e_iadd C_ iL_law_230 ?_
  refine e_sld (j := i_ + 1) C_ iL_law_231 ⟨by omega, by omega, hN_⟩ ?_
  refine e_aloadX C_ iL_law_232 rfl ?_
  refine e_iload C_ iL_law_233 rfl ?_
  refine e_iconst C_ iL_law_234 ?_
  refine e_iadd C_ iL_law_235 ?_
  refine e_sld (j := i_ + 2) C_ iL_law_236 ⟨by omega, by omega, hN_⟩ ?_
  obtain ⟨r_, dx_, dm_, Q1_, hdx_, hdm_, hcx_, hcm_⟩ := ag_section (xs (i_ + 1)).toInt (xs (i_ + 2)).toInt (i32_r _) (i32_r _) σ α hI_
  refine e_callV (Mc := mX7_section) (q := 0) C_ iL_law_237 lL_31 kX7_section hcx_ hdx_ rfl rfl rfl rfl (Nat.le_of_ble_eq_true rfl) ⟨by omega, by omega⟩ (by refine ⟨?_, ?_⟩ <;> simp only [okL, okS, okV, and_true, true_and] <;> omega) ?_
  rintro r9_ s1_ a1_ ⟨rfl, hq_⟩
  refine e_aload C_ iL_law_240 rfl ?_
  refine e_aloadX C_ iL_law_241 rfl ?_
  refine e_iload C_ iL_law_242 rfl ?_
  refine e_iconst C_ iL_law_243 ?_
  refine e_iadd C_ iL_law_244 ?_
  refine e_sld (j := i_ + 1) C_ iL_law_245 ⟨by omega, by omega, hN_⟩ ?_
  refine e_aloadX C_ iL_law_246 rfl ?_
  refine e_iload C_ iL_law_247 rfl ?_
  refine e_iconst C_ iL_law_248 ?_
  refine e_iadd C_ iL_law_249 ?_
  refine e_sld (j := i_ + 2) C_ iL_law_250 ⟨by omega, by omega, hN_⟩ ?_
  refine e_callV (Mc := mX8_section) (q := 95) C_ iL_law_251 lL_35 kX8_section (hcm_ s1_ a1_ hq_) hdm_ rfl rfl rfl rfl (Nat.le_of_ble_eq_true rfl) ⟨by omega, by omega⟩ ⟨⟨trivial, (show 0 < 108 by decide), (show 95 < 108 by decide), trivial, trivial⟩, ⟨trivial, trivial⟩⟩ ?_
  rintro r9_ s2_ a2_ ⟨rfl, hI2_⟩
  refine e_same (tgt := 961) C_ iL_law_254 (by decide) ?_
  exact h961_ s2_ a2_ hI2_

set_option maxHeartbeats 4000000 in
set_option maxRecDepth 100000 in
theorem lw_c5 {E : Ev} {ad0 : Nat → Nat} {p : Program} {e : Env} {s : State} {m : MethodId} {below : List Frame} {meth : Method} {c : Code} {b N : Nat} {xs : Nat → Int32} (C_ : lwC E ad0 p s m meth c b N xs) (hN_ : N ≤ 2048) (i_ : Nat) (hi_ : i_ + 4 ≤ N) (h961_ : ∀ σ α, ivA σ α → VE E ad0 p e s m below meth c b 108 1537 LA σ α 961 [some (vX 14), some (vR 0), some (vR 95), some (vI ((i_ : Nat) : Int))] []) (σ α : St) (hI_ : ivA σ α) : VE E ad0 p e s m below meth c b 108 1537 LA σ α 259 [some (vX 14), some (vR 0), some (vR 95), some (vI ((i_ : Nat) : Int))] [] := by
  refine e_aload C_ iL_law_259 rfl ?_
  refine e_aloadX C_ iL_law_260 rfl ?_
  refine e_iload C_ iL_law_261 rfl ?_
  refine e_iconst C_ iL_law_262 ?_
  refine e_iadd C_ iL_law_263 ?_
  refine e_sld (j := i_ + 1) C_ iL_law_264 ⟨by omega, by omega, hN_⟩ ?_
  refine e_aloadX C_ iL_law_265 rfl ?_
  refine e_iload C_ iL_law_266 rfl ?_
  refine e_iconst C_ iL_law_267 ?_
  refine e_iadd C_ iL_law_268 ?_
  refine e_sld (j := i_ + 2) C_ iL_law_269 ⟨by omega, by omega, hN_⟩ ?_
  obtain ⟨r_, dx_, dm_, Q1_, hdx_, hdm_, hcx_, hcm_⟩ := ag_top (xs (i_ + 1)).toInt (xs (i_ + 2)).toInt (i32_r _) (i32_r _) σ α hI_
  refine e_callV (Mc := mX7_top) (q := 0) C_ iL_law_270 lL_36 kX7_top hcx_ hdx_ rfl rfl rfl rfl (Nat.le_of_ble_eq_true rfl) ⟨by omega, by omega⟩ (by refine ⟨?_, ?_⟩ <;> simp only [okL, okS, okV, and_true, true_and] <;> omega) ?_
  rintro r9_ s1_ a1_ ⟨rfl, hq_⟩
  refine e_aload C_ iL_law_273 rfl ?_
  refine e_aloadX C_ iL_law_274 rfl ?_
  refine e_iload C_ iL_law_275 rfl ?_
  refine e_iconst C_ iL_law_276 ?_
  refine e_iadd C_ iL_law_277 ?_
  refine e_sld (j := i_ + 1) C_ iL_law_278 ⟨by omega, by omega, hN_⟩ ?_
  refine e_aloadX C_ iL_law_279 rfl ?_
  refine e_iload C_ iL_law_280 rfl ?_
  refine e_iconst C_ iL_law_281 ?_
  refine e_iadd C_ iL_law_282 ?_
  refine e_sld (j := i_ + 2) C_ iL_law_283 ⟨by omega, by omega, hN_⟩ ?_
  refine e_callV (Mc := mX8_top) (q := 95) C_ iL_law_284 lL_39 kX8_top (hcm_ s1_ a1_ hq_) hdm_ rfl rfl rfl rfl (Nat.le_of_ble_eq_true rfl) ⟨by omega, by omega⟩ ⟨⟨trivial, (show 0 < 108 by decide), (show 95 < 108 by decide), trivial, trivial⟩, ⟨trivial, trivial⟩⟩ ?_
  rintro r9_ s2_ a2_ ⟨rfl, hI2_⟩
  refine e_same (tgt := 961) C_ iL_law_287 (by decide) ?_
  exact h961_ s2_ a2_ hI2_

set_option maxHeartbeats 4000000 in
set_option maxRecDepth 100000 in
theorem lw_c6 {E : Ev} {ad0 : Nat → Nat} {p : Program} {e : Env} {s : State} {m : MethodId} {below : List Frame} {meth : Method} {c : Code} {b N : Nat} {xs : Nat → Int32} (C_ : lwC E ad0 p s m meth c b N xs) (hN_ : N ≤ 2048) (i_ : Nat) (hi_ : i_ + 4 ≤ N) (h961_ : ∀ σ α, ivA σ α → VE E ad0 p e s m below meth c b 108 1537 LA σ α 961 [some (vX 14), some (vR 0), some (vR 95), some (vI ((i_ : Nat) : Int))] []) (σ α : St) (hI_ : ivA σ α) : VE E ad0 p e s m below meth c b 108 1537 LA σ α 292 [some (vX 14), some (vR 0), some (vR 95), some (vI ((i_ : Nat) : Int))] [] := by
  refine e_aload C_ iL_law_292 rfl ?_
  refine e_aloadX C_ iL_law_293 rfl ?_
  refine e_iload C_ iL_law_294 rfl ?_
  refine e_iconst C_ iL_law_295 ?_
  refine e_iadd C_ iL_law_296 ?_
  refine e_sld (j := i_ + 1) C_ iL_law_297 ⟨by omega, by omega, hN_⟩ ?_
  refine e_aloadX C_ iL_law_298 rfl ?_
  refine e_iload C_ iL_law_299 rfl ?_
  refine e_iconst C_ iL_law_300 ?_
  refine e_iadd C_ iL_law_301 ?_
  refine e_sld (j := i_ + 2) C_ iL_law_302 ⟨by omega, by omega, hN_⟩ ?_
  obtain ⟨r_, dx_, dm_, Q1_, hdx_, hdm_, hcx_, hcm_⟩ := ag_riser (xs (i_ + 1)).toInt (xs (i_ + 2)).toInt (i32_r _) (i32_r _) σ α hI_
  refine e_callV (Mc := mX7_riser) (q := 0) C_ iL_law_303 lL_40 kX7_riser hcx_ hdx_ rfl rfl rfl rfl (Nat.le_of_ble_eq_true rfl) ⟨by omega, by omega⟩ (by refine ⟨?_, ?_⟩ <;> simp only [okL, okS, okV, and_true, true_and] <;> omega) ?_
  rintro r9_ s1_ a1_ ⟨rfl, hq_⟩
  refine e_aload C_ iL_law_306 rfl ?_
  refine e_aloadX C_ iL_law_307 rfl ?_
  refine e_iload C_ iL_law_308 rfl ?_
  refine e_iconst C_ iL_law_309 ?_
  refine e_iadd C_ iL_law_310 ?_
  refine e_sld (j := i_ + 1) C_ iL_law_311 ⟨by omega, by omega, hN_⟩ ?_
  refine e_aloadX C_ iL_law_312 rfl ?_
  refine e_iload C_ iL_law_313 rfl ?_
  refine e_iconst C_ iL_law_314 ?_
  refine e_iadd C_ iL_law_315 ?_
  refine e_sld (j := i_ + 2) C_ iL_law_316 ⟨by omega, by omega, hN_⟩ ?_
  refine e_callV (Mc := mX8_riser) (q := 95) C_ iL_law_317 lL_43 kX8_riser (hcm_ s1_ a1_ hq_) hdm_ rfl rfl rfl rfl (Nat.le_of_ble_eq_true rfl) ⟨by omega, by omega⟩ ⟨⟨trivial, (show 0 < 108 by decide), (show 95 < 108 by decide), trivial, trivial⟩, ⟨trivial, trivial⟩⟩ ?_
  rintro r9_ s2_ a2_ ⟨rfl, hI2_⟩
  refine e_same (tgt := 961) C_ iL_law_320 (by decide) ?_
  exact h961_ s2_ a2_ hI2_

set_option maxHeartbeats 4000000 in
set_option maxRecDepth 100000 in
theorem lw_c7 {E : Ev} {ad0 : Nat → Nat} {p : Program} {e : Env} {s : State} {m : MethodId} {below : List Frame} {meth : Method} {c : Code} {b N : Nat} {xs : Nat → Int32} (C_ : lwC E ad0 p s m meth c b N xs) (hN_ : N ≤ 2048) (i_ : Nat) (hi_ : i_ + 4 ≤ N) (h961_ : ∀ σ α, ivA σ α → VE E ad0 p e s m below meth c b 108 1537 LA σ α 961 [some (vX 14), some (vR 0), some (vR 95), some (vI ((i_ : Nat) : Int))] []) (σ α : St) (hI_ : ivA σ α) : VE E ad0 p e s m below meth c b 108 1537 LA σ α 325 [some (vX 14), some (vR 0), some (vR 95), some (vI ((i_ : Nat) : Int))] [] := by
  refine e_aload C_ iL_law_325 rfl ?_
  refine e_aloadX C_ iL_law_326 rfl ?_
  refine e_iload C_ iL_law_327 rfl ?_
  refine e_iconst C_ iL_law_328 ?_
  refine e_iadd C_ iL_law_329 ?_
  refine e_sld (j := i_ + 1) C_ iL_law_330 ⟨by omega, by omega, hN_⟩ ?_
  refine e_aloadX C_ iL_law_331 rfl ?_
  refine e_iload C_ iL_law_332 rfl ?_
  refine e_iconst C_ iL_law_333 ?_
  refine e_iadd C_ iL_law_334 ?_
  refine e_sld (j := i_ + 2) C_ iL_law_335 ⟨by omega, by omega, hN_⟩ ?_
  refine e_aloadX C_ iL_law_336 rfl ?_
  refine e_iload C_ iL_law_337 rfl ?_
  refine e_iconst C_ iL_law_338 ?_
  refine e_iadd C_ iL_law_339 ?_
  refine e_sld (j := i_ + 3) C_ iL_law_340 ⟨by omega, by omega, hN_⟩ ?_
  obtain ⟨r_, dx_, dm_, Q1_, hdx_, hdm_, hcx_, hcm_⟩ := ag_put (xs (i_ + 1)).toInt (xs (i_ + 2)).toInt (xs (i_ + 3)).toInt (i32_r _) (i32_r _) (i32_r _) σ α hI_
  refine e_callV (Mc := mX7_put) (q := 0) C_ iL_law_341 lL_44 kX7_put hcx_ hdx_ rfl rfl rfl rfl (Nat.le_of_ble_eq_true rfl) ⟨by omega, by omega⟩ (by refine ⟨?_, ?_⟩ <;> simp only [okL, okS, okV, and_true, true_and] <;> omega) ?_
  rintro r9_ s1_ a1_ ⟨rfl, hq_⟩
  refine e_aload C_ iL_law_344 rfl ?_
  refine e_aloadX C_ iL_law_345 rfl ?_
  refine e_iload C_ iL_law_346 rfl ?_
  refine e_iconst C_ iL_law_347 ?_
  refine e_iadd C_ iL_law_348 ?_
  refine e_sld (j := i_ + 1) C_ iL_law_349 ⟨by omega, by omega, hN_⟩ ?_
  refine e_aloadX C_ iL_law_350 rfl ?_
  refine e_iload C_ iL_law_351 rfl ?_
  refine e_iconst C_ iL_law_352 ?_
  refine e_iadd C_ iL_law_353 ?_
  refine e_sld (j := i_ + 2) C_ iL_law_354 ⟨by omega, by omega, hN_⟩ ?_
  refine e_aloadX C_ iL_law_355 rfl ?_
  refine e_iload C_ iL_law_356 rfl ?_
  refine e_iconst C_ iL_law_357 ?_
  refine e_iadd C_ iL_law_358 ?_
  refine e_sld (j := i_ + 3) C_ iL_law_359 ⟨by omega, by omega, hN_⟩ ?_
  refine e_callV (Mc := mX8_put) (q := 95) C_ iL_law_360 lL_48 kX8_put (hcm_ s1_ a1_ hq_) hdm_ rfl rfl rfl rfl (Nat.le_of_ble_eq_true rfl) ⟨by omega, by omega⟩ ⟨⟨trivial, (show 0 < 108 by decide), (show 95 < 108 by decide), trivial, trivial⟩, ⟨trivial, trivial⟩⟩ ?_
  rintro r9_ s2_ a2_ ⟨rfl, hI2_⟩
  refine e_same (tgt := 961) C_ iL_law_363 (by decide) ?_
  exact h961_ s2_ a2_ hI2_

set_option maxHeartbeats 4000000 in
set_option maxRecDepth 100000 in
theorem lw_c8 {E : Ev} {ad0 : Nat → Nat} {p : Program} {e : Env} {s : State} {m : MethodId} {below : List Frame} {meth : Method} {c : Code} {b N : Nat} {xs : Nat → Int32} (C_ : lwC E ad0 p s m meth c b N xs) (hN_ : N ≤ 2048) (i_ : Nat) (hi_ : i_ + 4 ≤ N) (h961_ : ∀ σ α, ivA σ α → VE E ad0 p e s m below meth c b 108 1537 LA σ α 961 [some (vX 14), some (vR 0), some (vR 95), some (vI ((i_ : Nat) : Int))] []) (σ α : St) (hI_ : ivA σ α) : VE E ad0 p e s m below meth c b 108 1537 LA σ α 368 [some (vX 14), some (vR 0), some (vR 95), some (vI ((i_ : Nat) : Int))] [] := by
  refine e_aload C_ iL_law_368 rfl ?_
  refine e_aloadX C_ iL_law_369 rfl ?_
  refine e_iload C_ iL_law_370 rfl ?_
  refine e_iconst C_ iL_law_371 ?_
  refine e_iadd C_ iL_law_372 ?_
  refine e_sld (j := i_ + 1) C_ iL_law_373 ⟨by omega, by omega, hN_⟩ ?_
  obtain ⟨r_, dx_, dm_, Q1_, hdx_, hdm_, hcx_, hcm_⟩ := ag_take (xs (i_ + 1)).toInt (i32_r _) σ α hI_
  refine e_callV (Mc := mX7_take) (q := 0) C_ iL_law_374 lL_49 kX7_take hcx_ hdx_ rfl rfl rfl rfl (Nat.le_of_ble_eq_true rfl) ⟨by omega, by omega⟩ (by refine ⟨?_, ?_⟩ <;> simp only [okL, okS, okV, and_true, true_and] <;> omega) ?_
  rintro r9_ s1_ a1_ ⟨rfl, hq_⟩
  refine e_aload C_ iL_law_377 rfl ?_
  refine e_aloadX C_ iL_law_378 rfl ?_
  refine e_iload C_ iL_law_379 rfl ?_
  refine e_iconst C_ iL_law_380 ?_
  refine e_iadd C_ iL_law_381 ?_
  refine e_sld (j := i_ + 1) C_ iL_law_382 ⟨by omega, by omega, hN_⟩ ?_
  refine e_callV (Mc := mX8_take) (q := 95) C_ iL_law_383 lL_52 kX8_take (hcm_ s1_ a1_ hq_) hdm_ rfl rfl rfl rfl (Nat.le_of_ble_eq_true rfl) ⟨by omega, by omega⟩ ⟨⟨trivial, (show 0 < 108 by decide), (show 95 < 108 by decide), trivial, trivial⟩, ⟨trivial, trivial⟩⟩ ?_
  rintro r9_ s2_ a2_ ⟨rfl, hI2_⟩
  refine e_same (tgt := 961) C_ iL_law_386 (by decide) ?_
  exact h961_ s2_ a2_ hI2_

set_option maxHeartbeats 4000000 in
set_option maxRecDepth 100000 in
theorem lw_c9 {E : Ev} {ad0 : Nat → Nat} {p : Program} {e : Env} {s : State} {m : MethodId} {below : List Frame} {meth : Method} {c : Code} {b N : Nat} {xs : Nat → Int32} (C_ : lwC E ad0 p s m meth c b N xs) (hN_ : N ≤ 2048) (i_ : Nat) (hi_ : i_ + 4 ≤ N) (h961_ : ∀ σ α, ivA σ α → VE E ad0 p e s m below meth c b 108 1537 LA σ α 961 [some (vX 14), some (vR 0), some (vR 95), some (vI ((i_ : Nat) : Int))] []) (σ α : St) (hI_ : ivA σ α) : VE E ad0 p e s m below meth c b 108 1537 LA σ α 391 [some (vX 14), some (vR 0), some (vR 95), some (vI ((i_ : Nat) : Int))] [] := by
  refine e_aload C_ iL_law_391 rfl ?_
  refine e_aloadX C_ iL_law_392 rfl ?_
  refine e_iload C_ iL_law_393 rfl ?_
  refine e_iconst C_ iL_law_394 ?_
  refine e_iadd C_ iL_law_395 ?_
  refine e_sld (j := i_ + 1) C_ iL_law_396 ⟨by omega, by omega, hN_⟩ ?_
  refine e_aloadX C_ iL_law_397 rfl ?_
  refine e_iload C_ iL_law_398 rfl ?_
  refine e_iconst C_ iL_law_399 ?_
  refine e_iadd C_ iL_law_400 ?_
  refine e_sld (j := i_ + 2) C_ iL_law_401 ⟨by omega, by omega, hN_⟩ ?_
  refine e_aloadX C_ iL_law_402 rfl ?_
  refine e_iload C_ iL_law_403 rfl ?_
  refine e_iconst C_ iL_law_404 ?_
  refine e_iadd C_ iL_law_405 ?_
  refine e_sld (j := i_ + 3) C_ iL_law_406 ⟨by omega, by omega, hN_⟩ ?_
  obtain ⟨r_, dx_, dm_, Q1_, hdx_, hdm_, hcx_, hcm_⟩ := ag_move (xs (i_ + 1)).toInt (xs (i_ + 2)).toInt (xs (i_ + 3)).toInt (i32_r _) (i32_r _) (i32_r _) σ α hI_
  refine e_callV (Mc := mX7_move) (q := 0) C_ iL_law_407 lL_53 kX7_move hcx_ hdx_ rfl rfl rfl rfl (Nat.le_of_ble_eq_true rfl) ⟨by omega, by omega⟩ (by refine ⟨?_, ?_⟩ <;> simp only [okL, okS, okV, and_true, true_and] <;> omega) ?_
  rintro r9_ s1_ a1_ ⟨rfl, hq_⟩
  refine e_aload C_ iL_law_410 rfl ?_
  refine e_aloadX C_ iL_law_411 rfl ?_
  refine e_iload C_ iL_law_412 rfl ?_
  refine e_iconst C_ iL_law_413 ?_
  refine e_iadd C_ iL_law_414 ?_
  refine e_sld (j := i_ + 1) C_ iL_law_415 ⟨by omega, by omega, hN_⟩ ?_
  refine e_aloadX C_ iL_law_416 rfl ?_
  refine e_iload C_ iL_law_417 rfl ?_
  refine e_iconst C_ iL_law_418 ?_
  refine e_iadd C_ iL_law_419 ?_
  refine e_sld (j := i_ + 2) C_ iL_law_420 ⟨by omega, by omega, hN_⟩ ?_
  refine e_aloadX C_ iL_law_421 rfl ?_
  refine e_iload C_ iL_law_422 rfl ?_
  refine e_iconst C_ iL_law_423 ?_
  refine e_iadd C_ iL_law_424 ?_
  refine e_sld (j := i_ + 3) C_ iL_law_425 ⟨by omega, by omega, hN_⟩ ?_
  refine e_callV (Mc := mX8_move) (q := 95) C_ iL_law_426 lL_56 kX8_move (hcm_ s1_ a1_ hq_) hdm_ rfl rfl rfl rfl (Nat.le_of_ble_eq_true rfl) ⟨by omega, by omega⟩ ⟨⟨trivial, (show 0 < 108 by decide), (show 95 < 108 by decide), trivial, trivial⟩, ⟨trivial, trivial⟩⟩ ?_
  rintro r9_ s2_ a2_ ⟨rfl, hI2_⟩
  refine e_same (tgt := 961) C_ iL_law_429 (by decide) ?_
  exact h961_ s2_ a2_ hI2_

set_option maxHeartbeats 4000000 in
set_option maxRecDepth 100000 in
theorem lw_c10 {E : Ev} {ad0 : Nat → Nat} {p : Program} {e : Env} {s : State} {m : MethodId} {below : List Frame} {meth : Method} {c : Code} {b N : Nat} {xs : Nat → Int32} (C_ : lwC E ad0 p s m meth c b N xs) (hN_ : N ≤ 2048) (i_ : Nat) (hi_ : i_ + 4 ≤ N) (h961_ : ∀ σ α, ivA σ α → VE E ad0 p e s m below meth c b 108 1537 LA σ α 961 [some (vX 14), some (vR 0), some (vR 95), some (vI ((i_ : Nat) : Int))] []) (σ α : St) (hI_ : ivA σ α) : VE E ad0 p e s m below meth c b 108 1537 LA σ α 434 [some (vX 14), some (vR 0), some (vR 95), some (vI ((i_ : Nat) : Int))] [] := by
  refine e_aload C_ iL_law_434 rfl ?_
  refine e_aloadX C_ iL_law_435 rfl ?_
  refine e_iload C_ iL_law_436 rfl ?_
  refine e_iconst C_ iL_law_437 ?_
  refine e_iadd C_ iL_law_438 ?_
  refine e_sld (j := i_ + 1) C_ iL_law_439 ⟨by omega, by omega, hN_⟩ ?_
  refine e_aloadX C_ iL_law_440 rfl ?_
  refine e_iload C_ iL_law_441 rfl ?_
  refine e_iconst C_ iL_law_442 ?_
  refine e_iadd C_ iL_law_443 ?_
  refine e_sld (j := i_ + 2) C_ iL_law_444 ⟨by omega, by omega, hN_⟩ ?_
  obtain ⟨r_, dx_, dm_, Q1_, hdx_, hdm_, hcx_, hcm_⟩ := ag_chill (xs (i_ + 1)).toInt (xs (i_ + 2)).toInt (i32_r _) (i32_r _) σ α hI_
  refine e_callV (Mc := mX7_chill) (q := 0) C_ iL_law_445 lL_57 kX7_chill hcx_ hdx_ rfl rfl rfl rfl (Nat.le_of_ble_eq_true rfl) ⟨by omega, by omega⟩ (by refine ⟨?_, ?_⟩ <;> simp only [okL, okS, okV, and_true, true_and] <;> omega) ?_
  rintro r9_ s1_ a1_ ⟨rfl, hq_⟩
  refine e_aload C_ iL_law_448 rfl ?_
  refine e_aloadX C_ iL_law_449 rfl ?_
  refine e_iload C_ iL_law_450 rfl ?_
  refine e_iconst C_ iL_law_451 ?_
  refine e_iadd C_ iL_law_452 ?_
  refine e_sld (j := i_ + 1) C_ iL_law_453 ⟨by omega, by omega, hN_⟩ ?_
  refine e_aloadX C_ iL_law_454 rfl ?_
  refine e_iload C_ iL_law_455 rfl ?_
  refine e_iconst C_ iL_law_456 ?_
  refine e_iadd C_ iL_law_457 ?_
  refine e_sld (j := i_ + 2) C_ iL_law_458 ⟨by omega, by omega, hN_⟩ ?_
  refine e_callV (Mc := mX8_chill) (q := 95) C_ iL_law_459 lL_60 kX8_chill (hcm_ s1_ a1_ hq_) hdm_ rfl rfl rfl rfl (Nat.le_of_ble_eq_true rfl) ⟨by omega, by omega⟩ ⟨⟨trivial, (show 0 < 108 by decide), (show 95 < 108 by decide), trivial, trivial⟩, ⟨trivial, trivial⟩⟩ ?_
  rintro r9_ s2_ a2_ ⟨rfl, hI2_⟩
  refine e_same (tgt := 961) C_ iL_law_462 (by decide) ?_
  exact h961_ s2_ a2_ hI2_

set_option maxHeartbeats 4000000 in
set_option maxRecDepth 100000 in
theorem lw_c11 {E : Ev} {ad0 : Nat → Nat} {p : Program} {e : Env} {s : State} {m : MethodId} {below : List Frame} {meth : Method} {c : Code} {b N : Nat} {xs : Nat → Int32} (C_ : lwC E ad0 p s m meth c b N xs) (hN_ : N ≤ 2048) (i_ : Nat) (hi_ : i_ + 4 ≤ N) (h961_ : ∀ σ α, ivA σ α → VE E ad0 p e s m below meth c b 108 1537 LA σ α 961 [some (vX 14), some (vR 0), some (vR 95), some (vI ((i_ : Nat) : Int))] []) (σ α : St) (hI_ : ivA σ α) : VE E ad0 p e s m below meth c b 108 1537 LA σ α 467 [some (vX 14), some (vR 0), some (vR 95), some (vI ((i_ : Nat) : Int))] [] := by
  refine e_aload C_ iL_law_467 rfl ?_
  obtain ⟨r_, dx_, dm_, Q1_, hdx_, hdm_, hcx_, hcm_⟩ := ag_undo  σ α hI_
  refine e_callV (Mc := mX7_undo) (q := 0) C_ iL_law_468 lL_61 kX7_undo hcx_ hdx_ rfl rfl rfl rfl (Nat.le_of_ble_eq_true rfl) ⟨by omega, by omega⟩ (by refine ⟨?_, ?_⟩ <;> simp only [okL, okS, okV, and_true, true_and] <;> omega) ?_
  rintro r9_ s1_ a1_ ⟨rfl, hq_⟩
  refine e_aload C_ iL_law_471 rfl ?_
  refine e_callV (Mc := mX8_undo) (q := 95) C_ iL_law_472 lL_64 kX8_undo (hcm_ s1_ a1_ hq_) hdm_ rfl rfl rfl rfl (Nat.le_of_ble_eq_true rfl) ⟨by omega, by omega⟩ ⟨⟨trivial, (show 0 < 108 by decide), (show 95 < 108 by decide), trivial, trivial⟩, ⟨trivial, trivial⟩⟩ ?_
  rintro r9_ s2_ a2_ ⟨rfl, hI2_⟩
  refine e_same (tgt := 961) C_ iL_law_475 (by decide) ?_
  exact h961_ s2_ a2_ hI2_

set_option maxHeartbeats 4000000 in
set_option maxRecDepth 100000 in
theorem lw_c12 {E : Ev} {ad0 : Nat → Nat} {p : Program} {e : Env} {s : State} {m : MethodId} {below : List Frame} {meth : Method} {c : Code} {b N : Nat} {xs : Nat → Int32} (C_ : lwC E ad0 p s m meth c b N xs) (hN_ : N ≤ 2048) (i_ : Nat) (hi_ : i_ + 4 ≤ N) (h961_ : ∀ σ α, ivA σ α → VE E ad0 p e s m below meth c b 108 1537 LA σ α 961 [some (vX 14), some (vR 0), some (vR 95), some (vI ((i_ : Nat) : Int))] []) (σ α : St) (hI_ : ivA σ α) : VE E ad0 p e s m below meth c b 108 1537 LA σ α 480 [some (vX 14), some (vR 0), some (vR 95), some (vI ((i_ : Nat) : Int))] [] := by
  refine e_aload C_ iL_law_480 rfl ?_
  refine e_aloadX C_ iL_law_481 rfl ?_
  refine e_iload C_ iL_law_482 rfl ?_
  refine e_iconst C_ iL_law_483 ?_
  refine e_iadd C_ iL_law_484 ?_
  refine e_sld (j := i_ + 1) C_ iL_law_485 ⟨by omega, by omega, hN_⟩ ?_
  obtain ⟨r_, dx_, dm_, Q1_, hdx_, hdm_, hcx_, hcm_⟩ := ag_keep (xs (i_ + 1)).toInt (i32_r _) σ α hI_
  refine e_callV (Mc := mX7_keep) (q := 0) C_ iL_law_486 lL_65 kX7_keep hcx_ hdx_ rfl rfl rfl rfl (Nat.le_of_ble_eq_true rfl) ⟨by omega, by omega⟩ (by refine ⟨?_, ?_⟩ <;> simp only [okL, okS, okV, and_true, true_and] <;> omega) ?_
  rintro r9_ s1_ a1_ ⟨rfl, hq_⟩
  refine e_aload C_ iL_law_489 rfl ?_
  refine e_aloadX C_ iL_law_490 rfl ?_
  refine e_iload C_ iL_law_491 rfl ?_
  refine e_iconst C_ iL_law_492 ?_
  refine e_iadd C_ iL_law_493 ?_
  refine e_sld (j := i_ + 1) C_ iL_law_494 ⟨by omega, by omega, hN_⟩ ?_
  refine e_callV (Mc := mX8_keep) (q := 95) C_ iL_law_495 lL_68 kX8_keep (hcm_ s1_ a1_ hq_) hdm_ rfl rfl rfl rfl (Nat.le_of_ble_eq_true rfl) ⟨by omega, by omega⟩ ⟨⟨trivial, (show 0 < 108 by decide), (show 95 < 108 by decide), trivial, trivial⟩, ⟨trivial, trivial⟩⟩ ?_
  rintro r9_ s2_ a2_ ⟨rfl, hI2_⟩
  refine e_same (tgt := 961) C_ iL_law_498 (by decide) ?_
  exact h961_ s2_ a2_ hI2_

set_option maxHeartbeats 4000000 in
set_option maxRecDepth 100000 in
theorem lw_c13 {E : Ev} {ad0 : Nat → Nat} {p : Program} {e : Env} {s : State} {m : MethodId} {below : List Frame} {meth : Method} {c : Code} {b N : Nat} {xs : Nat → Int32} (C_ : lwC E ad0 p s m meth c b N xs) (hN_ : N ≤ 2048) (i_ : Nat) (hi_ : i_ + 4 ≤ N) (h961_ : ∀ σ α, ivA σ α → VE E ad0 p e s m below meth c b 108 1537 LA σ α 961 [some (vX 14), some (vR 0), some (vR 95), some (vI ((i_ : Nat) : Int))] []) (σ α : St) (hI_ : ivA σ α) : VE E ad0 p e s m below meth c b 108 1537 LA σ α 503 [some (vX 14), some (vR 0), some (vR 95), some (vI ((i_ : Nat) : Int))] [] := by
  refine e_aload C_ iL_law_503 rfl ?_
  refine e_aloadX C_ iL_law_504 rfl ?_
  refine e_iload C_ iL_law_505 rfl ?_
  refine e_iconst C_ iL_law_506 ?_
  refine e_iadd C_ iL_law_507 ?_
  refine e_sld (j := i_ + 1) C_ iL_law_508 ⟨by omega, by omega, hN_⟩ ?_
  obtain ⟨r_, dx_, dm_, Q1_, hdx_, hdm_, hcx_, hcm_⟩ := ag_back (xs (i_ + 1)).toInt (i32_r _) σ α hI_
  refine e_callV (Mc := mX7_back) (q := 0) C_ iL_law_509 lL_69 kX7_back hcx_ hdx_ rfl rfl rfl rfl (Nat.le_of_ble_eq_true rfl) ⟨by omega, by omega⟩ (by refine ⟨?_, ?_⟩ <;> simp only [okL, okS, okV, and_true, true_and] <;> omega) ?_
  rintro r9_ s1_ a1_ ⟨rfl, hq_⟩
  refine e_aload C_ iL_law_512 rfl ?_
  refine e_aloadX C_ iL_law_513 rfl ?_
  refine e_iload C_ iL_law_514 rfl ?_
  refine e_iconst C_ iL_law_515 ?_
  refine e_iadd C_ iL_law_516 ?_
  refine e_sld (j := i_ + 1) C_ iL_law_517 ⟨by omega, by omega, hN_⟩ ?_
  refine e_callV (Mc := mX8_back) (q := 95) C_ iL_law_518 lL_72 kX8_back (hcm_ s1_ a1_ hq_) hdm_ rfl rfl rfl rfl (Nat.le_of_ble_eq_true rfl) ⟨by omega, by omega⟩ ⟨⟨trivial, (show 0 < 108 by decide), (show 95 < 108 by decide), trivial, trivial⟩, ⟨trivial, trivial⟩⟩ ?_
  rintro r9_ s2_ a2_ ⟨rfl, hI2_⟩
  refine e_same (tgt := 961) C_ iL_law_521 (by decide) ?_
  exact h961_ s2_ a2_ hI2_

set_option maxHeartbeats 4000000 in
set_option maxRecDepth 100000 in
theorem lw_c14 {E : Ev} {ad0 : Nat → Nat} {p : Program} {e : Env} {s : State} {m : MethodId} {below : List Frame} {meth : Method} {c : Code} {b N : Nat} {xs : Nat → Int32} (C_ : lwC E ad0 p s m meth c b N xs) (hN_ : N ≤ 2048) (i_ : Nat) (hi_ : i_ + 4 ≤ N) (h961_ : ∀ σ α, ivA σ α → VE E ad0 p e s m below meth c b 108 1537 LA σ α 961 [some (vX 14), some (vR 0), some (vR 95), some (vI ((i_ : Nat) : Int))] []) (σ α : St) (hI_ : ivA σ α) : VE E ad0 p e s m below meth c b 108 1537 LA σ α 526 [some (vX 14), some (vR 0), some (vR 95), some (vI ((i_ : Nat) : Int))] [] := by
  refine e_aload C_ iL_law_526 rfl ?_
  refine e_aloadX C_ iL_law_527 rfl ?_
  refine e_iload C_ iL_law_528 rfl ?_
  refine e_iconst C_ iL_law_529 ?_
  refine e_iadd C_ iL_law_530 ?_
  refine e_sld (j := i_ + 1) C_ iL_law_531 ⟨by omega, by omega, hN_⟩ ?_
  obtain ⟨r_, dx_, dm_, Q1_, hdx_, hdm_, hcx_, hcm_⟩ := ag_order (xs (i_ + 1)).toInt (i32_r _) σ α hI_
  refine e_callV (Mc := mX7_order) (q := 0) C_ iL_law_532 lL_73 kX7_order hcx_ hdx_ rfl rfl rfl rfl (Nat.le_of_ble_eq_true rfl) ⟨by omega, by omega⟩ (by refine ⟨?_, ?_⟩ <;> simp only [okL, okS, okV, and_true, true_and] <;> omega) ?_
  rintro r9_ s1_ a1_ ⟨rfl, hq_⟩
  refine e_aload C_ iL_law_535 rfl ?_
  refine e_aloadX C_ iL_law_536 rfl ?_
  refine e_iload C_ iL_law_537 rfl ?_
  refine e_iconst C_ iL_law_538 ?_
  refine e_iadd C_ iL_law_539 ?_
  refine e_sld (j := i_ + 1) C_ iL_law_540 ⟨by omega, by omega, hN_⟩ ?_
  refine e_callV (Mc := mX8_order) (q := 95) C_ iL_law_541 lL_76 kX8_order (hcm_ s1_ a1_ hq_) hdm_ rfl rfl rfl rfl (Nat.le_of_ble_eq_true rfl) ⟨by omega, by omega⟩ ⟨⟨trivial, (show 0 < 108 by decide), (show 95 < 108 by decide), trivial, trivial⟩, ⟨trivial, trivial⟩⟩ ?_
  rintro r9_ s2_ a2_ ⟨rfl, hI2_⟩
  refine e_same (tgt := 961) C_ iL_law_544 (by decide) ?_
  exact h961_ s2_ a2_ hI2_

set_option maxHeartbeats 4000000 in
set_option maxRecDepth 100000 in
theorem lw_c15 {E : Ev} {ad0 : Nat → Nat} {p : Program} {e : Env} {s : State} {m : MethodId} {below : List Frame} {meth : Method} {c : Code} {b N : Nat} {xs : Nat → Int32} (C_ : lwC E ad0 p s m meth c b N xs) (hN_ : N ≤ 2048) (i_ : Nat) (hi_ : i_ + 4 ≤ N) (h961_ : ∀ σ α, ivA σ α → VE E ad0 p e s m below meth c b 108 1537 LA σ α 961 [some (vX 14), some (vR 0), some (vR 95), some (vI ((i_ : Nat) : Int))] []) (σ α : St) (hI_ : ivA σ α) : VE E ad0 p e s m below meth c b 108 1537 LA σ α 549 [some (vX 14), some (vR 0), some (vR 95), some (vI ((i_ : Nat) : Int))] [] := by
  refine e_aload C_ iL_law_549 rfl ?_
  refine e_aloadX C_ iL_law_550 rfl ?_
  refine e_iload C_ iL_law_551 rfl ?_
  refine e_iconst C_ iL_law_552 ?_
  refine e_iadd C_ iL_law_553 ?_
  refine e_sld (j := i_ + 1) C_ iL_law_554 ⟨by omega, by omega, hN_⟩ ?_
  refine e_aloadX C_ iL_law_555 rfl ?_
  refine e_iload C_ iL_law_556 rfl ?_
  refine e_iconst C_ iL_law_557 ?_
  refine e_iadd C_ iL_law_558 ?_
  refine e_sld (j := i_ + 2) C_ iL_law_559 ⟨by omega, by omega, hN_⟩ ?_
  obtain ⟨r_, dx_, dm_, Q1_, hdx_, hdm_, hcx_, hcm_⟩ := ag_pass (xs (i_ + 1)).toInt (xs (i_ + 2)).toInt (i32_r _) (i32_r _) σ α hI_
  refine e_callV (Mc := mX7_pass) (q := 0) C_ iL_law_560 lL_77 kX7_pass hcx_ hdx_ rfl rfl rfl rfl (Nat.le_of_ble_eq_true rfl) ⟨by omega, by omega⟩ (by refine ⟨?_, ?_⟩ <;> simp only [okL, okS, okV, and_true, true_and] <;> omega) ?_
  rintro r9_ s1_ a1_ ⟨rfl, hq_⟩
  refine e_aload C_ iL_law_563 rfl ?_
  refine e_aloadX C_ iL_law_564 rfl ?_
  refine e_iload C_ iL_law_565 rfl ?_
  refine e_iconst C_ iL_law_566 ?_
  refine e_iadd C_ iL_law_567 ?_
  refine e_sld (j := i_ + 1) C_ iL_law_568 ⟨by omega, by omega, hN_⟩ ?_
  refine e_aloadX C_ iL_law_569 rfl ?_
  refine e_iload C_ iL_law_570 rfl ?_
  refine e_iconst C_ iL_law_571 ?_
  refine e_iadd C_ iL_law_572 ?_
  refine e_sld (j := i_ + 2) C_ iL_law_573 ⟨by omega, by omega, hN_⟩ ?_
  refine e_callV (Mc := mX8_pass) (q := 95) C_ iL_law_574 lL_80 kX8_pass (hcm_ s1_ a1_ hq_) hdm_ rfl rfl rfl rfl (Nat.le_of_ble_eq_true rfl) ⟨by omega, by omega⟩ ⟨⟨trivial, (show 0 < 108 by decide), (show 95 < 108 by decide), trivial, trivial⟩, ⟨trivial, trivial⟩⟩ ?_
  rintro r9_ s2_ a2_ ⟨rfl, hI2_⟩
  refine e_same (tgt := 961) C_ iL_law_577 (by decide) ?_
  exact h961_ s2_ a2_ hI2_

set_option maxHeartbeats 4000000 in
set_option maxRecDepth 100000 in
theorem lw_c16 {E : Ev} {ad0 : Nat → Nat} {p : Program} {e : Env} {s : State} {m : MethodId} {below : List Frame} {meth : Method} {c : Code} {b N : Nat} {xs : Nat → Int32} (C_ : lwC E ad0 p s m meth c b N xs) (hN_ : N ≤ 2048) (i_ : Nat) (hi_ : i_ + 4 ≤ N) (h961_ : ∀ σ α, ivA σ α → VE E ad0 p e s m below meth c b 108 1537 LA σ α 961 [some (vX 14), some (vR 0), some (vR 95), some (vI ((i_ : Nat) : Int))] []) (σ α : St) (hI_ : ivA σ α) : VE E ad0 p e s m below meth c b 108 1537 LA σ α 582 [some (vX 14), some (vR 0), some (vR 95), some (vI ((i_ : Nat) : Int))] [] := by
  refine e_aload C_ iL_law_582 rfl ?_
  refine e_aloadX C_ iL_law_583 rfl ?_
  refine e_iload C_ iL_law_584 rfl ?_
  refine e_iconst C_ iL_law_585 ?_
  refine e_iadd C_ iL_law_586 ?_
  refine e_sld (j := i_ + 1) C_ iL_law_587 ⟨by omega, by omega, hN_⟩ ?_
  refine e_aloadX C_ iL_law_588 rfl ?_
  refine e_iload C_ iL_law_589 rfl ?_
  refine e_iconst C_ iL_law_590 ?_
  refine e_iadd C_ iL_law_591 ?_
  refine e_sld (j := i_ + 2) C_ iL_law_592 ⟨by omega, by omega, hN_⟩ ?_
  obtain ⟨r_, dx_, dm_, Q1_, hdx_, hdm_, hcx_, hcm_⟩ := ag_need (xs (i_ + 1)).toInt (xs (i_ + 2)).toInt (i32_r _) (i32_r _) σ α hI_
  refine e_callV (Mc := mX7_need) (q := 0) C_ iL_law_593 lL_81 kX7_need hcx_ hdx_ rfl rfl rfl rfl (Nat.le_of_ble_eq_true rfl) ⟨by omega, by omega⟩ (by refine ⟨?_, ?_⟩ <;> simp only [okL, okS, okV, and_true, true_and] <;> omega) ?_
  rintro r9_ s1_ a1_ ⟨rfl, hq_⟩
  refine e_aload C_ iL_law_596 rfl ?_
  refine e_aloadX C_ iL_law_597 rfl ?_
  refine e_iload C_ iL_law_598 rfl ?_
  refine e_iconst C_ iL_law_599 ?_
  refine e_iadd C_ iL_law_600 ?_
  refine e_sld (j := i_ + 1) C_ iL_law_601 ⟨by omega, by omega, hN_⟩ ?_
  refine e_aloadX C_ iL_law_602 rfl ?_
  refine e_iload C_ iL_law_603 rfl ?_
  refine e_iconst C_ iL_law_604 ?_
  refine e_iadd C_ iL_law_605 ?_
  refine e_sld (j := i_ + 2) C_ iL_law_606 ⟨by omega, by omega, hN_⟩ ?_
  refine e_callV (Mc := mX8_need) (q := 95) C_ iL_law_607 lL_84 kX8_need (hcm_ s1_ a1_ hq_) hdm_ rfl rfl rfl rfl (Nat.le_of_ble_eq_true rfl) ⟨by omega, by omega⟩ ⟨⟨trivial, (show 0 < 108 by decide), (show 95 < 108 by decide), trivial, trivial⟩, ⟨trivial, trivial⟩⟩ ?_
  rintro r9_ s2_ a2_ ⟨rfl, hI2_⟩
  refine e_same (tgt := 961) C_ iL_law_610 (by decide) ?_
  exact h961_ s2_ a2_ hI2_

set_option maxHeartbeats 4000000 in
set_option maxRecDepth 100000 in
theorem lw_c17 {E : Ev} {ad0 : Nat → Nat} {p : Program} {e : Env} {s : State} {m : MethodId} {below : List Frame} {meth : Method} {c : Code} {b N : Nat} {xs : Nat → Int32} (C_ : lwC E ad0 p s m meth c b N xs) (hN_ : N ≤ 2048) (i_ : Nat) (hi_ : i_ + 4 ≤ N) (h961_ : ∀ σ α, ivA σ α → VE E ad0 p e s m below meth c b 108 1537 LA σ α 961 [some (vX 14), some (vR 0), some (vR 95), some (vI ((i_ : Nat) : Int))] []) (σ α : St) (hI_ : ivA σ α) : VE E ad0 p e s m below meth c b 108 1537 LA σ α 615 [some (vX 14), some (vR 0), some (vR 95), some (vI ((i_ : Nat) : Int))] [] := by
  refine e_aload C_ iL_law_615 rfl ?_
  refine e_aloadX C_ iL_law_616 rfl ?_
  refine e_iload C_ iL_law_617 rfl ?_
  refine e_iconst C_ iL_law_618 ?_
  refine e_iadd C_ iL_law_619 ?_
  refine e_sld (j := i_ + 1) C_ iL_law_620 ⟨by omega, by omega, hN_⟩ ?_
  refine e_aloadX C_ iL_law_621 rfl ?_
  refine e_iload C_ iL_law_622 rfl ?_
  refine e_iconst C_ iL_law_623 ?_
  refine e_iadd C_ iL_law_624 ?_
  refine e_sld (j := i_ + 2) C_ iL_law_625 ⟨by omega, by omega, hN_⟩ ?_
  obtain ⟨r_, dx_, dm_, Q1_, hdx_, hdm_, hcx_, hcm_⟩ := ag_best (xs (i_ + 1)).toInt (xs (i_ + 2)).toInt (i32_r _) (i32_r _) σ α hI_
  refine e_callV (Mc := mX7_best) (q := 0) C_ iL_law_626 lL_85 kX7_best hcx_ hdx_ rfl rfl rfl rfl (Nat.le_of_ble_eq_true rfl) ⟨by omega, by omega⟩ (by refine ⟨?_, ?_⟩ <;> simp only [okL, okS, okV, and_true, true_and] <;> omega) ?_
  rintro r9_ s1_ a1_ ⟨rfl, hq_⟩
  refine e_aload C_ iL_law_629 rfl ?_
  refine e_aloadX C_ iL_law_630 rfl ?_
  refine e_iload C_ iL_law_631 rfl ?_
  refine e_iconst C_ iL_law_632 ?_
  refine e_iadd C_ iL_law_633 ?_
  refine e_sld (j := i_ + 1) C_ iL_law_634 ⟨by omega, by omega, hN_⟩ ?_
  refine e_aloadX C_ iL_law_635 rfl ?_
  refine e_iload C_ iL_law_636 rfl ?_
  refine e_iconst C_ iL_law_637 ?_
  refine e_iadd C_ iL_law_638 ?_
  refine e_sld (j := i_ + 2) C_ iL_law_639 ⟨by omega, by omega, hN_⟩ ?_
  refine e_callV (Mc := mX8_best) (q := 95) C_ iL_law_640 lL_88 kX8_best (hcm_ s1_ a1_ hq_) hdm_ rfl rfl rfl rfl (Nat.le_of_ble_eq_true rfl) ⟨by omega, by omega⟩ ⟨⟨trivial, (show 0 < 108 by decide), (show 95 < 108 by decide), trivial, trivial⟩, ⟨trivial, trivial⟩⟩ ?_
  rintro r9_ s2_ a2_ ⟨rfl, hI2_⟩
  refine e_same (tgt := 961) C_ iL_law_643 (by decide) ?_
  exact h961_ s2_ a2_ hI2_

set_option maxHeartbeats 4000000 in
set_option maxRecDepth 100000 in
theorem lw_c18 {E : Ev} {ad0 : Nat → Nat} {p : Program} {e : Env} {s : State} {m : MethodId} {below : List Frame} {meth : Method} {c : Code} {b N : Nat} {xs : Nat → Int32} (C_ : lwC E ad0 p s m meth c b N xs) (hN_ : N ≤ 2048) (i_ : Nat) (hi_ : i_ + 4 ≤ N) (h961_ : ∀ σ α, ivA σ α → VE E ad0 p e s m below meth c b 108 1537 LA σ α 961 [some (vX 14), some (vR 0), some (vR 95), some (vI ((i_ : Nat) : Int))] []) (σ α : St) (hI_ : ivA σ α) : VE E ad0 p e s m below meth c b 108 1537 LA σ α 648 [some (vX 14), some (vR 0), some (vR 95), some (vI ((i_ : Nat) : Int))] [] := by
  refine e_aload C_ iL_law_648 rfl ?_
  refine e_aloadX C_ iL_law_649 rfl ?_
  refine e_iload C_ iL_law_650 rfl ?_
  refine e_iconst C_ iL_law_651 ?_
  refine e_iadd C_ iL_law_652 ?_
  refine e_sld (j := i_ + 1) C_ iL_law_653 ⟨by omega, by omega, hN_⟩ ?_
  obtain ⟨r_, dx_, dm_, Q1_, hdx_, hdm_, hcx_, hcm_⟩ := ag_least (xs (i_ + 1)).toInt (i32_r _) σ α hI_
  refine e_callV (Mc := mX7_least) (q := 0) C_ iL_law_654 lL_89 kX7_least hcx_ hdx_ rfl rfl rfl rfl (Nat.le_of_ble_eq_true rfl) ⟨by omega, by omega⟩ (by refine ⟨?_, ?_⟩ <;> simp only [okL, okS, okV, and_true, true_and] <;> omega) ?_
  rintro r9_ s1_ a1_ ⟨rfl, hq_⟩
  refine e_aload C_ iL_law_657 rfl ?_
  refine e_aloadX C_ iL_law_658 rfl ?_
  refine e_iload C_ iL_law_659 rfl ?_
  refine e_iconst C_ iL_law_660 ?_
  refine e_iadd C_ iL_law_661 ?_
  refine e_sld (j := i_ + 1) C_ iL_law_662 ⟨by omega, by omega, hN_⟩ ?_
  refine e_callV (Mc := mX8_least) (q := 95) C_ iL_law_663 lL_92 kX8_least (hcm_ s1_ a1_ hq_) hdm_ rfl rfl rfl rfl (Nat.le_of_ble_eq_true rfl) ⟨by omega, by omega⟩ ⟨⟨trivial, (show 0 < 108 by decide), (show 95 < 108 by decide), trivial, trivial⟩, ⟨trivial, trivial⟩⟩ ?_
  rintro r9_ s2_ a2_ ⟨rfl, hI2_⟩
  refine e_same (tgt := 961) C_ iL_law_666 (by decide) ?_
  exact h961_ s2_ a2_ hI2_

set_option maxHeartbeats 4000000 in
set_option maxRecDepth 100000 in
theorem lw_c19 {E : Ev} {ad0 : Nat → Nat} {p : Program} {e : Env} {s : State} {m : MethodId} {below : List Frame} {meth : Method} {c : Code} {b N : Nat} {xs : Nat → Int32} (C_ : lwC E ad0 p s m meth c b N xs) (hN_ : N ≤ 2048) (i_ : Nat) (hi_ : i_ + 4 ≤ N) (h961_ : ∀ σ α, ivA σ α → VE E ad0 p e s m below meth c b 108 1537 LA σ α 961 [some (vX 14), some (vR 0), some (vR 95), some (vI ((i_ : Nat) : Int))] []) (σ α : St) (hI_ : ivA σ α) : VE E ad0 p e s m below meth c b 108 1537 LA σ α 671 [some (vX 14), some (vR 0), some (vR 95), some (vI ((i_ : Nat) : Int))] [] := by
  refine e_aload C_ iL_law_671 rfl ?_
  refine e_aloadX C_ iL_law_672 rfl ?_
  refine e_iload C_ iL_law_673 rfl ?_
  refine e_iconst C_ iL_law_674 ?_
  refine e_iadd C_ iL_law_675 ?_
  refine e_sld (j := i_ + 1) C_ iL_law_676 ⟨by omega, by omega, hN_⟩ ?_
  refine e_aloadX C_ iL_law_677 rfl ?_
  refine e_iload C_ iL_law_678 rfl ?_
  refine e_iconst C_ iL_law_679 ?_
  refine e_iadd C_ iL_law_680 ?_
  refine e_sld (j := i_ + 2) C_ iL_law_681 ⟨by omega, by omega, hN_⟩ ?_
  obtain ⟨r_, dx_, dm_, Q1_, hdx_, hdm_, hcx_, hcm_⟩ := ag_bin (xs (i_ + 1)).toInt (xs (i_ + 2)).toInt (i32_r _) (i32_r _) σ α hI_
  refine e_callV (Mc := mX7_bin) (q := 0) C_ iL_law_682 lL_93 kX7_bin hcx_ hdx_ rfl rfl rfl rfl (Nat.le_of_ble_eq_true rfl) ⟨by omega, by omega⟩ (by refine ⟨?_, ?_⟩ <;> simp only [okL, okS, okV, and_true, true_and] <;> omega) ?_
  rintro r9_ s1_ a1_ ⟨rfl, hq_⟩
  refine e_aload C_ iL_law_685 rfl ?_
  refine e_aloadX C_ iL_law_686 rfl ?_
  refine e_iload C_ iL_law_687 rfl ?_
  refine e_iconst C_ iL_law_688 ?_
  refine e_iadd C_ iL_law_689 ?_
  refine e_sld (j := i_ + 1) C_ iL_law_690 ⟨by omega, by omega, hN_⟩ ?_
  refine e_aloadX C_ iL_law_691 rfl ?_
  refine e_iload C_ iL_law_692 rfl ?_
  refine e_iconst C_ iL_law_693 ?_
  refine e_iadd C_ iL_law_694 ?_
  refine e_sld (j := i_ + 2) C_ iL_law_695 ⟨by omega, by omega, hN_⟩ ?_
  refine e_callV (Mc := mX8_bin) (q := 95) C_ iL_law_696 lL_96 kX8_bin (hcm_ s1_ a1_ hq_) hdm_ rfl rfl rfl rfl (Nat.le_of_ble_eq_true rfl) ⟨by omega, by omega⟩ ⟨⟨trivial, (show 0 < 108 by decide), (show 95 < 108 by decide), trivial, trivial⟩, ⟨trivial, trivial⟩⟩ ?_
  rintro r9_ s2_ a2_ ⟨rfl, hI2_⟩
  refine e_same (tgt := 961) C_ iL_law_699 (by decide) ?_
  exact h961_ s2_ a2_ hI2_

set_option maxHeartbeats 4000000 in
set_option maxRecDepth 100000 in
theorem lw_c20 {E : Ev} {ad0 : Nat → Nat} {p : Program} {e : Env} {s : State} {m : MethodId} {below : List Frame} {meth : Method} {c : Code} {b N : Nat} {xs : Nat → Int32} (C_ : lwC E ad0 p s m meth c b N xs) (hN_ : N ≤ 2048) (i_ : Nat) (hi_ : i_ + 4 ≤ N) (h961_ : ∀ σ α, ivA σ α → VE E ad0 p e s m below meth c b 108 1537 LA σ α 961 [some (vX 14), some (vR 0), some (vR 95), some (vI ((i_ : Nat) : Int))] []) (σ α : St) (hI_ : ivA σ α) : VE E ad0 p e s m below meth c b 108 1537 LA σ α 704 [some (vX 14), some (vR 0), some (vR 95), some (vI ((i_ : Nat) : Int))] [] := by
  refine e_aload C_ iL_law_704 rfl ?_
  refine e_aloadX C_ iL_law_705 rfl ?_
  refine e_iload C_ iL_law_706 rfl ?_
  refine e_iconst C_ iL_law_707 ?_
  refine e_iadd C_ iL_law_708 ?_
  refine e_sld (j := i_ + 1) C_ iL_law_709 ⟨by omega, by omega, hN_⟩ ?_
  refine e_aloadX C_ iL_law_710 rfl ?_
  refine e_iload C_ iL_law_711 rfl ?_
  refine e_iconst C_ iL_law_712 ?_
  refine e_iadd C_ iL_law_713 ?_
  refine e_sld (j := i_ + 2) C_ iL_law_714 ⟨by omega, by omega, hN_⟩ ?_
  obtain ⟨r_, dx_, dm_, Q1_, hdx_, hdm_, hcx_, hcm_⟩ := ag_addWhole (xs (i_ + 1)).toInt (xs (i_ + 2)).toInt (i32_r _) (i32_r _) σ α hI_
  refine e_callV (Mc := mX7_addWhole) (q := 0) C_ iL_law_715 lL_97 kX7_addWhole hcx_ hdx_ rfl rfl rfl rfl (Nat.le_of_ble_eq_true rfl) ⟨by omega, by omega⟩ (by refine ⟨?_, ?_⟩ <;> simp only [okL, okS, okV, and_true, true_and] <;> omega) ?_
  rintro r9_ s1_ a1_ ⟨rfl, hq_⟩
  refine e_aload C_ iL_law_718 rfl ?_
  refine e_aloadX C_ iL_law_719 rfl ?_
  refine e_iload C_ iL_law_720 rfl ?_
  refine e_iconst C_ iL_law_721 ?_
  refine e_iadd C_ iL_law_722 ?_
  refine e_sld (j := i_ + 1) C_ iL_law_723 ⟨by omega, by omega, hN_⟩ ?_
  refine e_aloadX C_ iL_law_724 rfl ?_
  refine e_iload C_ iL_law_725 rfl ?_
  refine e_iconst C_ iL_law_726 ?_
  refine e_iadd C_ iL_law_727 ?_
  refine e_sld (j := i_ + 2) C_ iL_law_728 ⟨by omega, by omega, hN_⟩ ?_
  refine e_callV (Mc := mX8_addWhole) (q := 95) C_ iL_law_729 lL_100 kX8_addWhole (hcm_ s1_ a1_ hq_) hdm_ rfl rfl rfl rfl (Nat.le_of_ble_eq_true rfl) ⟨by omega, by omega⟩ ⟨⟨trivial, (show 0 < 108 by decide), (show 95 < 108 by decide), trivial, trivial⟩, ⟨trivial, trivial⟩⟩ ?_
  rintro r9_ s2_ a2_ ⟨rfl, hI2_⟩
  refine e_same (tgt := 961) C_ iL_law_732 (by decide) ?_
  exact h961_ s2_ a2_ hI2_

set_option maxHeartbeats 4000000 in
set_option maxRecDepth 100000 in
theorem lw_c21 {E : Ev} {ad0 : Nat → Nat} {p : Program} {e : Env} {s : State} {m : MethodId} {below : List Frame} {meth : Method} {c : Code} {b N : Nat} {xs : Nat → Int32} (C_ : lwC E ad0 p s m meth c b N xs) (hN_ : N ≤ 2048) (i_ : Nat) (hi_ : i_ + 4 ≤ N) (h961_ : ∀ σ α, ivA σ α → VE E ad0 p e s m below meth c b 108 1537 LA σ α 961 [some (vX 14), some (vR 0), some (vR 95), some (vI ((i_ : Nat) : Int))] []) (σ α : St) (hI_ : ivA σ α) : VE E ad0 p e s m below meth c b 108 1537 LA σ α 737 [some (vX 14), some (vR 0), some (vR 95), some (vI ((i_ : Nat) : Int))] [] := by
  refine e_aload C_ iL_law_737 rfl ?_
  refine e_aloadX C_ iL_law_738 rfl ?_
  refine e_iload C_ iL_law_739 rfl ?_
  refine e_iconst C_ iL_law_740 ?_
  refine e_iadd C_ iL_law_741 ?_
  refine e_sld (j := i_ + 1) C_ iL_law_742 ⟨by omega, by omega, hN_⟩ ?_
  refine e_aloadX C_ iL_law_743 rfl ?_
  refine e_iload C_ iL_law_744 rfl ?_
  refine e_iconst C_ iL_law_745 ?_
  refine e_iadd C_ iL_law_746 ?_
  refine e_sld (j := i_ + 2) C_ iL_law_747 ⟨by omega, by omega, hN_⟩ ?_
  refine e_aloadX C_ iL_law_748 rfl ?_
  refine e_iload C_ iL_law_749 rfl ?_
  refine e_iconst C_ iL_law_750 ?_
  refine e_iadd C_ iL_law_751 ?_
  refine e_sld (j := i_ + 3) C_ iL_law_752 ⟨by omega, by omega, hN_⟩ ?_
  obtain ⟨r_, dx_, dm_, Q1_, hdx_, hdm_, hcx_, hcm_⟩ := ag_addPair (xs (i_ + 1)).toInt (xs (i_ + 2)).toInt (xs (i_ + 3)).toInt (i32_r _) (i32_r _) (i32_r _) σ α hI_
  refine e_callV (Mc := mX7_addPair) (q := 0) C_ iL_law_753 lL_101 kX7_addPair hcx_ hdx_ rfl rfl rfl rfl (Nat.le_of_ble_eq_true rfl) ⟨by omega, by omega⟩ (by refine ⟨?_, ?_⟩ <;> simp only [okL, okS, okV, and_true, true_and] <;> omega) ?_
  rintro r9_ s1_ a1_ ⟨rfl, hq_⟩
  refine e_aload C_ iL_law_756 rfl ?_
  refine e_aloadX C_ iL_law_757 rfl ?_
  refine e_iload C_ iL_law_758 rfl ?_
  refine e_iconst C_ iL_law_759 ?_
  refine e_iadd C_ iL_law_760 ?_
  refine e_sld (j := i_ + 1) C_ iL_law_761 ⟨by omega, by omega, hN_⟩ ?_
  refine e_aloadX C_ iL_law_762 rfl ?_
  refine e_iload C_ iL_law_763 rfl ?_
  refine e_iconst C_ iL_law_764 ?_
  refine e_iadd C_ iL_law_765 ?_
  refine e_sld (j := i_ + 2) C_ iL_law_766 ⟨by omega, by omega, hN_⟩ ?_
  refine e_aloadX C_ iL_law_767 rfl ?_
  refine e_iload C_ iL_law_768 rfl ?_
  refine e_iconst C_ iL_law_769 ?_
  refine e_iadd C_ iL_law_770 ?_
  refine e_sld (j := i_ + 3) C_ iL_law_771 ⟨by omega, by omega, hN_⟩ ?_
  refine e_callV (Mc := mX8_addPair) (q := 95) C_ iL_law_772 lL_104 kX8_addPair (hcm_ s1_ a1_ hq_) hdm_ rfl rfl rfl rfl (Nat.le_of_ble_eq_true rfl) ⟨by omega, by omega⟩ ⟨⟨trivial, (show 0 < 108 by decide), (show 95 < 108 by decide), trivial, trivial⟩, ⟨trivial, trivial⟩⟩ ?_
  rintro r9_ s2_ a2_ ⟨rfl, hI2_⟩
  refine e_same (tgt := 961) C_ iL_law_775 (by decide) ?_
  exact h961_ s2_ a2_ hI2_

set_option maxHeartbeats 4000000 in
set_option maxRecDepth 100000 in
theorem lw_c22 {E : Ev} {ad0 : Nat → Nat} {p : Program} {e : Env} {s : State} {m : MethodId} {below : List Frame} {meth : Method} {c : Code} {b N : Nat} {xs : Nat → Int32} (C_ : lwC E ad0 p s m meth c b N xs) (hN_ : N ≤ 2048) (i_ : Nat) (hi_ : i_ + 4 ≤ N) (h961_ : ∀ σ α, ivA σ α → VE E ad0 p e s m below meth c b 108 1537 LA σ α 961 [some (vX 14), some (vR 0), some (vR 95), some (vI ((i_ : Nat) : Int))] []) (σ α : St) (hI_ : ivA σ α) : VE E ad0 p e s m below meth c b 108 1537 LA σ α 780 [some (vX 14), some (vR 0), some (vR 95), some (vI ((i_ : Nat) : Int))] [] := by
  refine e_aload C_ iL_law_780 rfl ?_
  refine e_aloadX C_ iL_law_781 rfl ?_
  refine e_iload C_ iL_law_782 rfl ?_
  refine e_iconst C_ iL_law_783 ?_
  refine e_iadd C_ iL_law_784 ?_
  refine e_sld (j := i_ + 1) C_ iL_law_785 ⟨by omega, by omega, hN_⟩ ?_
  refine e_aloadX C_ iL_law_786 rfl ?_
  refine e_iload C_ iL_law_787 rfl ?_
  refine e_iconst C_ iL_law_788 ?_
  refine e_iadd C_ iL_law_789 ?_
  refine e_sld (j := i_ + 2) C_ iL_law_790 ⟨by omega, by omega, hN_⟩ ?_
  obtain ⟨r_, dx_, dm_, Q1_, hdx_, hdm_, hcx_, hcm_⟩ := ag_find (xs (i_ + 1)).toInt (xs (i_ + 2)).toInt (i32_r _) (i32_r _) σ α hI_
  refine e_callV (Mc := mX7_find) (q := 0) C_ iL_law_791 lL_105 kX7_find hcx_ hdx_ rfl rfl rfl rfl (Nat.le_of_ble_eq_true rfl) ⟨by omega, by omega⟩ (by refine ⟨?_, ?_⟩ <;> simp only [okL, okS, okV, and_true, true_and] <;> omega) ?_
  rintro r9_ s1_ a1_ ⟨rfl, hq_⟩
  refine e_aload C_ iL_law_794 rfl ?_
  refine e_aloadX C_ iL_law_795 rfl ?_
  refine e_iload C_ iL_law_796 rfl ?_
  refine e_iconst C_ iL_law_797 ?_
  refine e_iadd C_ iL_law_798 ?_
  refine e_sld (j := i_ + 1) C_ iL_law_799 ⟨by omega, by omega, hN_⟩ ?_
  refine e_aloadX C_ iL_law_800 rfl ?_
  refine e_iload C_ iL_law_801 rfl ?_
  refine e_iconst C_ iL_law_802 ?_
  refine e_iadd C_ iL_law_803 ?_
  refine e_sld (j := i_ + 2) C_ iL_law_804 ⟨by omega, by omega, hN_⟩ ?_
  refine e_callV (Mc := mX8_find) (q := 95) C_ iL_law_805 lL_108 kX8_find (hcm_ s1_ a1_ hq_) hdm_ rfl rfl rfl rfl (Nat.le_of_ble_eq_true rfl) ⟨by omega, by omega⟩ ⟨⟨trivial, (show 0 < 108 by decide), (show 95 < 108 by decide), trivial, trivial⟩, ⟨trivial, trivial⟩⟩ ?_
  rintro r9_ s2_ a2_ ⟨rfl, hI2_⟩
  refine e_same (tgt := 961) C_ iL_law_808 (by decide) ?_
  exact h961_ s2_ a2_ hI2_

set_option maxHeartbeats 4000000 in
set_option maxRecDepth 100000 in
theorem lw_c23 {E : Ev} {ad0 : Nat → Nat} {p : Program} {e : Env} {s : State} {m : MethodId} {below : List Frame} {meth : Method} {c : Code} {b N : Nat} {xs : Nat → Int32} (C_ : lwC E ad0 p s m meth c b N xs) (hN_ : N ≤ 2048) (i_ : Nat) (hi_ : i_ + 4 ≤ N) (h961_ : ∀ σ α, ivA σ α → VE E ad0 p e s m below meth c b 108 1537 LA σ α 961 [some (vX 14), some (vR 0), some (vR 95), some (vI ((i_ : Nat) : Int))] []) (σ α : St) (hI_ : ivA σ α) : VE E ad0 p e s m below meth c b 108 1537 LA σ α 813 [some (vX 14), some (vR 0), some (vR 95), some (vI ((i_ : Nat) : Int))] [] := by
  refine e_aload C_ iL_law_813 rfl ?_
  refine e_aloadX C_ iL_law_814 rfl ?_
  refine e_iload C_ iL_law_815 rfl ?_
  refine e_iconst C_ iL_law_816 ?_
  refine e_iadd C_ iL_law_817 ?_
  refine e_sld (j := i_ + 1) C_ iL_law_818 ⟨by omega, by omega, hN_⟩ ?_
  obtain ⟨r_, dx_, dm_, Q1_, hdx_, hdm_, hcx_, hcm_⟩ := ag_pop (xs (i_ + 1)).toInt (i32_r _) σ α hI_
  refine e_callV (Mc := mX7_pop) (q := 0) C_ iL_law_819 lL_109 kX7_pop hcx_ hdx_ rfl rfl rfl rfl (Nat.le_of_ble_eq_true rfl) ⟨by omega, by omega⟩ (by refine ⟨?_, ?_⟩ <;> simp only [okL, okS, okV, and_true, true_and] <;> omega) ?_
  rintro r9_ s1_ a1_ ⟨rfl, hq_⟩
  refine e_aload C_ iL_law_822 rfl ?_
  refine e_aloadX C_ iL_law_823 rfl ?_
  refine e_iload C_ iL_law_824 rfl ?_
  refine e_iconst C_ iL_law_825 ?_
  refine e_iadd C_ iL_law_826 ?_
  refine e_sld (j := i_ + 1) C_ iL_law_827 ⟨by omega, by omega, hN_⟩ ?_
  refine e_callV (Mc := mX8_pop) (q := 95) C_ iL_law_828 lL_112 kX8_pop (hcm_ s1_ a1_ hq_) hdm_ rfl rfl rfl rfl (Nat.le_of_ble_eq_true rfl) ⟨by omega, by omega⟩ ⟨⟨trivial, (show 0 < 108 by decide), (show 95 < 108 by decide), trivial, trivial⟩, ⟨trivial, trivial⟩⟩ ?_
  rintro r9_ s2_ a2_ ⟨rfl, hI2_⟩
  refine e_same (tgt := 961) C_ iL_law_831 (by decide) ?_
  exact h961_ s2_ a2_ hI2_

set_option maxHeartbeats 4000000 in
set_option maxRecDepth 100000 in
theorem lw_c24 {E : Ev} {ad0 : Nat → Nat} {p : Program} {e : Env} {s : State} {m : MethodId} {below : List Frame} {meth : Method} {c : Code} {b N : Nat} {xs : Nat → Int32} (C_ : lwC E ad0 p s m meth c b N xs) (hN_ : N ≤ 2048) (i_ : Nat) (hi_ : i_ + 4 ≤ N) (h961_ : ∀ σ α, ivA σ α → VE E ad0 p e s m below meth c b 108 1537 LA σ α 961 [some (vX 14), some (vR 0), some (vR 95), some (vI ((i_ : Nat) : Int))] []) (σ α : St) (hI_ : ivA σ α) : VE E ad0 p e s m below meth c b 108 1537 LA σ α 836 [some (vX 14), some (vR 0), some (vR 95), some (vI ((i_ : Nat) : Int))] [] := by
  refine e_aload C_ iL_law_836 rfl ?_
  refine e_aloadX C_ iL_law_837 rfl ?_
  refine e_iload C_ iL_law_838 rfl ?_
  refine e_iconst C_ iL_law_839 ?_
  refine e_iadd C_ iL_law_840 ?_
  refine e_sld (j := i_ + 1) C_ iL_law_841 ⟨by omega, by omega, hN_⟩ ?_
  obtain ⟨r_, dx_, dm_, Q1_, hdx_, hdm_, hcx_, hcm_⟩ := ag_sort (xs (i_ + 1)).toInt (i32_r _) σ α hI_
  refine e_callV (Mc := mX7_sort) (q := 0) C_ iL_law_842 lL_113 kX7_sort hcx_ hdx_ rfl rfl rfl rfl (Nat.le_of_ble_eq_true rfl) ⟨by omega, by omega⟩ (by refine ⟨?_, ?_⟩ <;> simp only [okL, okS, okV, and_true, true_and] <;> omega) ?_
  rintro r9_ s1_ a1_ ⟨rfl, hq_⟩
  refine e_aload C_ iL_law_845 rfl ?_
  refine e_aloadX C_ iL_law_846 rfl ?_
  refine e_iload C_ iL_law_847 rfl ?_
  refine e_iconst C_ iL_law_848 ?_
  refine e_iadd C_ iL_law_849 ?_
  refine e_sld (j := i_ + 1) C_ iL_law_850 ⟨by omega, by omega, hN_⟩ ?_
  refine e_callV (Mc := mX8_sort) (q := 95) C_ iL_law_851 lL_116 kX8_sort (hcm_ s1_ a1_ hq_) hdm_ rfl rfl rfl rfl (Nat.le_of_ble_eq_true rfl) ⟨by omega, by omega⟩ ⟨⟨trivial, (show 0 < 108 by decide), (show 95 < 108 by decide), trivial, trivial⟩, ⟨trivial, trivial⟩⟩ ?_
  rintro r9_ s2_ a2_ ⟨rfl, hI2_⟩
  refine e_same (tgt := 961) C_ iL_law_854 (by decide) ?_
  exact h961_ s2_ a2_ hI2_

set_option maxHeartbeats 4000000 in
set_option maxRecDepth 100000 in
theorem lw_c25 {E : Ev} {ad0 : Nat → Nat} {p : Program} {e : Env} {s : State} {m : MethodId} {below : List Frame} {meth : Method} {c : Code} {b N : Nat} {xs : Nat → Int32} (C_ : lwC E ad0 p s m meth c b N xs) (hN_ : N ≤ 2048) (i_ : Nat) (hi_ : i_ + 4 ≤ N) (h961_ : ∀ σ α, ivA σ α → VE E ad0 p e s m below meth c b 108 1537 LA σ α 961 [some (vX 14), some (vR 0), some (vR 95), some (vI ((i_ : Nat) : Int))] []) (σ α : St) (hI_ : ivA σ α) : VE E ad0 p e s m below meth c b 108 1537 LA σ α 859 [some (vX 14), some (vR 0), some (vR 95), some (vI ((i_ : Nat) : Int))] [] := by
  refine e_aload C_ iL_law_859 rfl ?_
  refine e_aloadX C_ iL_law_860 rfl ?_
  refine e_iload C_ iL_law_861 rfl ?_
  refine e_iconst C_ iL_law_862 ?_
  refine e_iadd C_ iL_law_863 ?_
  refine e_sld (j := i_ + 1) C_ iL_law_864 ⟨by omega, by omega, hN_⟩ ?_
  refine e_aloadX C_ iL_law_865 rfl ?_
  refine e_iload C_ iL_law_866 rfl ?_
  refine e_iconst C_ iL_law_867 ?_
  refine e_iadd C_ iL_law_868 ?_
  refine e_sld (j := i_ + 2) C_ iL_law_869 ⟨by omega, by omega, hN_⟩ ?_
  obtain ⟨r_, dx_, dm_, Q1_, hdx_, hdm_, hcx_, hcm_⟩ := ag_pour (xs (i_ + 1)).toInt (xs (i_ + 2)).toInt (i32_r _) (i32_r _) σ α hI_
  refine e_callV (Mc := mX7_pour) (q := 0) C_ iL_law_870 lL_117 kX7_pour hcx_ hdx_ rfl rfl rfl rfl (Nat.le_of_ble_eq_true rfl) ⟨by omega, by omega⟩ (by refine ⟨?_, ?_⟩ <;> simp only [okL, okS, okV, and_true, true_and] <;> omega) ?_
  rintro r9_ s1_ a1_ ⟨rfl, hq_⟩
  refine e_aload C_ iL_law_873 rfl ?_
  refine e_aloadX C_ iL_law_874 rfl ?_
  refine e_iload C_ iL_law_875 rfl ?_
  refine e_iconst C_ iL_law_876 ?_
  refine e_iadd C_ iL_law_877 ?_
  refine e_sld (j := i_ + 1) C_ iL_law_878 ⟨by omega, by omega, hN_⟩ ?_
  refine e_aloadX C_ iL_law_879 rfl ?_
  refine e_iload C_ iL_law_880 rfl ?_
  refine e_iconst C_ iL_law_881 ?_
  refine e_iadd C_ iL_law_882 ?_
  refine e_sld (j := i_ + 2) C_ iL_law_883 ⟨by omega, by omega, hN_⟩ ?_
  refine e_callV (Mc := mX8_pour) (q := 95) C_ iL_law_884 lL_120 kX8_pour (hcm_ s1_ a1_ hq_) hdm_ rfl rfl rfl rfl (Nat.le_of_ble_eq_true rfl) ⟨by omega, by omega⟩ ⟨⟨trivial, (show 0 < 108 by decide), (show 95 < 108 by decide), trivial, trivial⟩, ⟨trivial, trivial⟩⟩ ?_
  rintro r9_ s2_ a2_ ⟨rfl, hI2_⟩
  refine e_same (tgt := 961) C_ iL_law_887 (by decide) ?_
  exact h961_ s2_ a2_ hI2_

set_option maxHeartbeats 4000000 in
set_option maxRecDepth 100000 in
theorem lw_c26 {E : Ev} {ad0 : Nat → Nat} {p : Program} {e : Env} {s : State} {m : MethodId} {below : List Frame} {meth : Method} {c : Code} {b N : Nat} {xs : Nat → Int32} (C_ : lwC E ad0 p s m meth c b N xs) (hN_ : N ≤ 2048) (i_ : Nat) (hi_ : i_ + 4 ≤ N) (h961_ : ∀ σ α, ivA σ α → VE E ad0 p e s m below meth c b 108 1537 LA σ α 961 [some (vX 14), some (vR 0), some (vR 95), some (vI ((i_ : Nat) : Int))] []) (σ α : St) (hI_ : ivA σ α) : VE E ad0 p e s m below meth c b 108 1537 LA σ α 892 [some (vX 14), some (vR 0), some (vR 95), some (vI ((i_ : Nat) : Int))] [] := by
  refine e_aload C_ iL_law_892 rfl ?_
  refine e_aloadX C_ iL_law_893 rfl ?_
  refine e_iload C_ iL_law_894 rfl ?_
  refine e_iconst C_ iL_law_895 ?_
  refine e_iadd C_ iL_law_896 ?_
  refine e_sld (j := i_ + 1) C_ iL_law_897 ⟨by omega, by omega, hN_⟩ ?_
  obtain ⟨r_, dx_, dm_, Q1_, hdx_, hdm_, hcx_, hcm_⟩ := ag_sum (xs (i_ + 1)).toInt (i32_r _) σ α hI_
  refine e_callV (Mc := mX7_sum) (q := 0) C_ iL_law_898 lL_121 kX7_sum hcx_ hdx_ rfl rfl rfl rfl (Nat.le_of_ble_eq_true rfl) ⟨by omega, by omega⟩ (by refine ⟨?_, ?_⟩ <;> simp only [okL, okS, okV, and_true, true_and] <;> omega) ?_
  rintro r9_ s1_ a1_ ⟨rfl, hq_⟩
  refine e_aload C_ iL_law_901 rfl ?_
  refine e_aloadX C_ iL_law_902 rfl ?_
  refine e_iload C_ iL_law_903 rfl ?_
  refine e_iconst C_ iL_law_904 ?_
  refine e_iadd C_ iL_law_905 ?_
  refine e_sld (j := i_ + 1) C_ iL_law_906 ⟨by omega, by omega, hN_⟩ ?_
  refine e_callV (Mc := mX8_sum) (q := 95) C_ iL_law_907 lL_124 kX8_sum (hcm_ s1_ a1_ hq_) hdm_ rfl rfl rfl rfl (Nat.le_of_ble_eq_true rfl) ⟨by omega, by omega⟩ ⟨⟨trivial, (show 0 < 108 by decide), (show 95 < 108 by decide), trivial, trivial⟩, ⟨trivial, trivial⟩⟩ ?_
  rintro r9_ s2_ a2_ ⟨rfl, hI2_⟩
  refine e_same (tgt := 961) C_ iL_law_910 (by decide) ?_
  exact h961_ s2_ a2_ hI2_

set_option maxHeartbeats 4000000 in
set_option maxRecDepth 100000 in
theorem lw_c27 {E : Ev} {ad0 : Nat → Nat} {p : Program} {e : Env} {s : State} {m : MethodId} {below : List Frame} {meth : Method} {c : Code} {b N : Nat} {xs : Nat → Int32} (C_ : lwC E ad0 p s m meth c b N xs) (hN_ : N ≤ 2048) (i_ : Nat) (hi_ : i_ + 4 ≤ N) (h961_ : ∀ σ α, ivA σ α → VE E ad0 p e s m below meth c b 108 1537 LA σ α 961 [some (vX 14), some (vR 0), some (vR 95), some (vI ((i_ : Nat) : Int))] []) (σ α : St) (hI_ : ivA σ α) : VE E ad0 p e s m below meth c b 108 1537 LA σ α 915 [some (vX 14), some (vR 0), some (vR 95), some (vI ((i_ : Nat) : Int))] [] := by
  refine e_aload C_ iL_law_915 rfl ?_
  refine e_aloadX C_ iL_law_916 rfl ?_
  refine e_iload C_ iL_law_917 rfl ?_
  refine e_iconst C_ iL_law_918 ?_
  refine e_iadd C_ iL_law_919 ?_
  refine e_sld (j := i_ + 1) C_ iL_law_920 ⟨by omega, by omega, hN_⟩ ?_
  obtain ⟨r_, dx_, dm_, Q1_, hdx_, hdm_, hcx_, hcm_⟩ := ag_drop (xs (i_ + 1)).toInt (i32_r _) σ α hI_
  refine e_callV (Mc := mX7_drop) (q := 0) C_ iL_law_921 lL_125 kX7_drop hcx_ hdx_ rfl rfl rfl rfl (Nat.le_of_ble_eq_true rfl) ⟨by omega, by omega⟩ (by refine ⟨?_, ?_⟩ <;> simp only [okL, okS, okV, and_true, true_and] <;> omega) ?_
  rintro r9_ s1_ a1_ ⟨rfl, hq_⟩
  refine e_aload C_ iL_law_924 rfl ?_
  refine e_aloadX C_ iL_law_925 rfl ?_
  refine e_iload C_ iL_law_926 rfl ?_
  refine e_iconst C_ iL_law_927 ?_
  refine e_iadd C_ iL_law_928 ?_
  refine e_sld (j := i_ + 1) C_ iL_law_929 ⟨by omega, by omega, hN_⟩ ?_
  refine e_callV (Mc := mX8_drop) (q := 95) C_ iL_law_930 lL_128 kX8_drop (hcm_ s1_ a1_ hq_) hdm_ rfl rfl rfl rfl (Nat.le_of_ble_eq_true rfl) ⟨by omega, by omega⟩ ⟨⟨trivial, (show 0 < 108 by decide), (show 95 < 108 by decide), trivial, trivial⟩, ⟨trivial, trivial⟩⟩ ?_
  rintro r9_ s2_ a2_ ⟨rfl, hI2_⟩
  refine e_same (tgt := 961) C_ iL_law_933 (by decide) ?_
  exact h961_ s2_ a2_ hI2_

set_option maxHeartbeats 4000000 in
set_option maxRecDepth 100000 in
theorem lw_c28 {E : Ev} {ad0 : Nat → Nat} {p : Program} {e : Env} {s : State} {m : MethodId} {below : List Frame} {meth : Method} {c : Code} {b N : Nat} {xs : Nat → Int32} (C_ : lwC E ad0 p s m meth c b N xs) (hN_ : N ≤ 2048) (i_ : Nat) (hi_ : i_ + 4 ≤ N) (h961_ : ∀ σ α, ivA σ α → VE E ad0 p e s m below meth c b 108 1537 LA σ α 961 [some (vX 14), some (vR 0), some (vR 95), some (vI ((i_ : Nat) : Int))] []) (σ α : St) (hI_ : ivA σ α) : VE E ad0 p e s m below meth c b 108 1537 LA σ α 938 [some (vX 14), some (vR 0), some (vR 95), some (vI ((i_ : Nat) : Int))] [] := by
  refine e_aload C_ iL_law_938 rfl ?_
  refine e_aloadX C_ iL_law_939 rfl ?_
  refine e_iload C_ iL_law_940 rfl ?_
  refine e_iconst C_ iL_law_941 ?_
  refine e_iadd C_ iL_law_942 ?_
  refine e_sld (j := i_ + 1) C_ iL_law_943 ⟨by omega, by omega, hN_⟩ ?_
  obtain ⟨r_, dx_, dm_, Q1_, hdx_, hdm_, hcx_, hcm_⟩ := ag_count (xs (i_ + 1)).toInt (i32_r _) σ α hI_
  refine e_callV (Mc := mX7_count) (q := 0) C_ iL_law_944 lL_129 kX7_count hcx_ hdx_ rfl rfl rfl rfl (Nat.le_of_ble_eq_true rfl) ⟨by omega, by omega⟩ (by refine ⟨?_, ?_⟩ <;> simp only [okL, okS, okV, and_true, true_and] <;> omega) ?_
  rintro r9_ s1_ a1_ ⟨rfl, hq_⟩
  refine e_aload C_ iL_law_947 rfl ?_
  refine e_aloadX C_ iL_law_948 rfl ?_
  refine e_iload C_ iL_law_949 rfl ?_
  refine e_iconst C_ iL_law_950 ?_
  refine e_iadd C_ iL_law_951 ?_
  refine e_sld (j := i_ + 1) C_ iL_law_952 ⟨by omega, by omega, hN_⟩ ?_
  refine e_callV (Mc := mX8_count) (q := 95) C_ iL_law_953 lL_132 kX8_count (hcm_ s1_ a1_ hq_) hdm_ rfl rfl rfl rfl (Nat.le_of_ble_eq_true rfl) ⟨by omega, by omega⟩ ⟨⟨trivial, (show 0 < 108 by decide), (show 95 < 108 by decide), trivial, trivial⟩, ⟨trivial, trivial⟩⟩ ?_
  rintro r9_ s2_ a2_ ⟨rfl, hI2_⟩
  refine e_same (tgt := 961) C_ iL_law_956 (by decide) ?_
  exact h961_ s2_ a2_ hI2_

set_option maxHeartbeats 8000000 in
set_option maxRecDepth 100000 in
theorem lw_loop {E : Ev} {ad0 : Nat → Nat} {p : Program} {e : Env} {s : State} {m : MethodId} {below : List Frame} {meth : Method} {c : Code} {b N : Nat} {xs : Nat → Int32} (C_ : lwC E ad0 p s m meth c b N xs) (hN_ : N ≤ 2048) : ∀ i_ : Nat, i_ ≤ N → ∀ σ α, ivA σ α → VE E ad0 p e s m below meth c b 108 1537 LA σ α 18 [some (vX 14), some (vR 0), some (vR 95), some (vI ((i_ : Nat) : Int))] [] := by
  refine ind_me (P := fun i_ => i_ ≤ N → ∀ σ α, ivA σ α → VE E ad0 p e s m below meth c b 108 1537 LA σ α 18 [some (vX 14), some (vR 0), some (vR 95), some (vI ((i_ : Nat) : Int))] []) (fun i_ => N - i_) ?_
  intro i_ ih_ hi_ σ α hI_
  refine e_iload C_ iL_law_18 rfl ?_
  refine e_aloadX C_ iL_law_19 rfl ?_
  refine e_alen C_ iL_law_20 ?_
  refine e_iconst C_ iL_law_21 ?_
  refine e_isub C_ iL_law_22 ?_
  refine e_icmp_gt (tgt := 967) C_ iL_law_23 (by decide) (by omega) (fun h23_ => ?_) (fun h23_ => ?_)
  · refine e_iconst C_ iL_law_967 ?_
    exact e_ret C_ iL_law_968 ⟨by omega, by omega⟩
  · have h961_ : ∀ σ α, ivA σ α → VE E ad0 p e s m below meth c b 108 1537 LA σ α 961 [some (vX 14), some (vR 0), some (vR 95), some (vI ((i_ : Nat) : Int))] [] := by
      intro σ α hI_
      refine e_iinc C_ iL_law_961 ⟨rfl, rfl, by decide⟩ rfl rfl ?_
      refine e_goto (tgt := 18) C_ iL_law_964 (by decide) ?_
      have h_ := ih_ (i_ + 4) (by omega) (by omega) σ α hI_
      rw [show ((i_ + 4 : Nat) : Int) = (i_ : Int) + 4 by omega] at h_
      exact h_
    refine e_aloadX C_ iL_law_26 rfl ?_
    refine e_iload C_ iL_law_27 rfl ?_
    refine e_sld (j := i_) C_ iL_law_28 ⟨rfl, by omega, hN_⟩ ?_
    refine e_bipush C_ iL_law_29 (by decide) ?_
    refine e_and31 C_ iL_law_31 (fun z_ hz_ => ?_)
    rcases (show z_ = 0 ∨ z_ = 1 ∨ z_ = 2 ∨ z_ = 3 ∨ z_ = 4 ∨ z_ = 5 ∨ z_ = 6 ∨ z_ = 7 ∨ z_ = 8 ∨ z_ = 9 ∨ z_ = 10 ∨ z_ = 11 ∨ z_ = 12 ∨ z_ = 13 ∨ z_ = 14 ∨ z_ = 15 ∨ z_ = 16 ∨ z_ = 17 ∨ z_ = 18 ∨ z_ = 19 ∨ z_ = 20 ∨ z_ = 21 ∨ z_ = 22 ∨ z_ = 23 ∨ z_ = 24 ∨ z_ = 25 ∨ z_ = 26 ∨ z_ = 27 ∨ z_ = 28 ∨ 28 < z_ by omega) with rfl | rfl | rfl | rfl | rfl | rfl | rfl | rfl | rfl | rfl | rfl | rfl | rfl | rfl | rfl | rfl | rfl | rfl | rfl | rfl | rfl | rfl | rfl | rfl | rfl | rfl | rfl | rfl | rfl | h28_
    · refine e_tabIn (tgt := 164) C_ iL_law_32 (by decide) (by decide) rfl (by decide) ?_
      exact lw_c0 C_ hN_ i_ (by omega) h961_ σ α hI_
    · refine e_tabIn (tgt := 187) C_ iL_law_32 (by decide) (by decide) rfl (by decide) ?_
      exact lw_c1 C_ hN_ i_ (by omega) h961_ σ α hI_
    · refine e_tabIn (tgt := 200) C_ iL_law_32 (by decide) (by decide) rfl (by decide) ?_
      exact lw_c2 C_ hN_ i_ (by omega) h961_ σ α hI_
    · refine e_tabIn (tgt := 213) C_ iL_law_32 (by decide) (by decide) rfl (by decide) ?_
      exact lw_c3 C_ hN_ i_ (by omega) h961_ σ α hI_
    · refine e_tabIn (tgt := 226) C_ iL_law_32 (by decide) (by decide) rfl (by decide) ?_
      exact lw_c4 C_ hN_ i_ (by omega) h961_ σ α hI_
    · refine e_tabIn (tgt := 259) C_ iL_law_32 (by decide) (by decide) rfl (by decide) ?_
      exact lw_c5 C_ hN_ i_ (by omega) h961_ σ α hI_
    · refine e_tabIn (tgt := 292) C_ iL_law_32 (by decide) (by decide) rfl (by decide) ?_
      exact lw_c6 C_ hN_ i_ (by omega) h961_ σ α hI_
    · refine e_tabIn (tgt := 325) C_ iL_law_32 (by decide) (by decide) rfl (by decide) ?_
      exact lw_c7 C_ hN_ i_ (by omega) h961_ σ α hI_
    · refine e_tabIn (tgt := 368) C_ iL_law_32 (by decide) (by decide) rfl (by decide) ?_
      exact lw_c8 C_ hN_ i_ (by omega) h961_ σ α hI_
    · refine e_tabIn (tgt := 391) C_ iL_law_32 (by decide) (by decide) rfl (by decide) ?_
      exact lw_c9 C_ hN_ i_ (by omega) h961_ σ α hI_
    · refine e_tabIn (tgt := 434) C_ iL_law_32 (by decide) (by decide) rfl (by decide) ?_
      exact lw_c10 C_ hN_ i_ (by omega) h961_ σ α hI_
    · refine e_tabIn (tgt := 467) C_ iL_law_32 (by decide) (by decide) rfl (by decide) ?_
      exact lw_c11 C_ hN_ i_ (by omega) h961_ σ α hI_
    · refine e_tabIn (tgt := 480) C_ iL_law_32 (by decide) (by decide) rfl (by decide) ?_
      exact lw_c12 C_ hN_ i_ (by omega) h961_ σ α hI_
    · refine e_tabIn (tgt := 503) C_ iL_law_32 (by decide) (by decide) rfl (by decide) ?_
      exact lw_c13 C_ hN_ i_ (by omega) h961_ σ α hI_
    · refine e_tabIn (tgt := 526) C_ iL_law_32 (by decide) (by decide) rfl (by decide) ?_
      exact lw_c14 C_ hN_ i_ (by omega) h961_ σ α hI_
    · refine e_tabIn (tgt := 549) C_ iL_law_32 (by decide) (by decide) rfl (by decide) ?_
      exact lw_c15 C_ hN_ i_ (by omega) h961_ σ α hI_
    · refine e_tabIn (tgt := 582) C_ iL_law_32 (by decide) (by decide) rfl (by decide) ?_
      exact lw_c16 C_ hN_ i_ (by omega) h961_ σ α hI_
    · refine e_tabIn (tgt := 615) C_ iL_law_32 (by decide) (by decide) rfl (by decide) ?_
      exact lw_c17 C_ hN_ i_ (by omega) h961_ σ α hI_
    · refine e_tabIn (tgt := 648) C_ iL_law_32 (by decide) (by decide) rfl (by decide) ?_
      exact lw_c18 C_ hN_ i_ (by omega) h961_ σ α hI_
    · refine e_tabIn (tgt := 671) C_ iL_law_32 (by decide) (by decide) rfl (by decide) ?_
      exact lw_c19 C_ hN_ i_ (by omega) h961_ σ α hI_
    · refine e_tabIn (tgt := 704) C_ iL_law_32 (by decide) (by decide) rfl (by decide) ?_
      exact lw_c20 C_ hN_ i_ (by omega) h961_ σ α hI_
    · refine e_tabIn (tgt := 737) C_ iL_law_32 (by decide) (by decide) rfl (by decide) ?_
      exact lw_c21 C_ hN_ i_ (by omega) h961_ σ α hI_
    · refine e_tabIn (tgt := 780) C_ iL_law_32 (by decide) (by decide) rfl (by decide) ?_
      exact lw_c22 C_ hN_ i_ (by omega) h961_ σ α hI_
    · refine e_tabIn (tgt := 813) C_ iL_law_32 (by decide) (by decide) rfl (by decide) ?_
      exact lw_c23 C_ hN_ i_ (by omega) h961_ σ α hI_
    · refine e_tabIn (tgt := 836) C_ iL_law_32 (by decide) (by decide) rfl (by decide) ?_
      exact lw_c24 C_ hN_ i_ (by omega) h961_ σ α hI_
    · refine e_tabIn (tgt := 859) C_ iL_law_32 (by decide) (by decide) rfl (by decide) ?_
      exact lw_c25 C_ hN_ i_ (by omega) h961_ σ α hI_
    · refine e_tabIn (tgt := 892) C_ iL_law_32 (by decide) (by decide) rfl (by decide) ?_
      exact lw_c26 C_ hN_ i_ (by omega) h961_ σ α hI_
    · refine e_tabIn (tgt := 915) C_ iL_law_32 (by decide) (by decide) rfl (by decide) ?_
      exact lw_c27 C_ hN_ i_ (by omega) h961_ σ α hI_
    · refine e_tabIn (tgt := 938) C_ iL_law_32 (by decide) (by decide) rfl (by decide) ?_
      exact lw_c28 C_ hN_ i_ (by omega) h961_ σ α hI_
    · refine e_tabOut (tgt := 961) C_ iL_law_32 (by omega) (by omega) (by decide) ?_
      exact h961_ σ α hI_

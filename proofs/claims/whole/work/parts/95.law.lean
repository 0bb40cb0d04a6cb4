/-! the law: a call of both for each of its thirty-three lines -/
theorem ix_1 {i j : Nat} {x : Int32} (h : x = nI j) : nI i + x = nI (i + j) := by rw [h, nI_add]
theorem hoOK {T : Tb} {im : Option Tb} {n : Nat} {hs : Nat → List Cz} {X : Tx} {tr : List Nat} {P : Tp} {L : List Cz} (H : StOK T im n hs X tr P) (h6 : n < 6) (l1 : 0 < L.length) (l2 : L.length ≤ 10) : StOK (setT T 7 5 (n + 1)) im (n + 1) (fun f => if f = n then L else hs f) (0, X.2) tr P := by
  obtain ⟨⟨k1, k2, k3, k4⟩, k5, k6, k7, k8, k9⟩ := H
  refine ⟨⟨setH_ok k1 (by omega), by rw [setH_e (by omega)]; exact k2, by rw [setH_5]; omega, by omega⟩, fun U hU => ⟨(k5 U hU).1, (k5 U hU).2.1, by have := (k5 U hU).2.2; omega⟩, TxOK.zero, k7, k8, fun f hf => ?_⟩
  show 0 < (if f = n then L else hs f).length ∧ (if f = n then L else hs f).length ≤ 10
  by_cases z : f = n
  · rw [if_pos z]; exact ⟨l1, l2⟩
  · rw [if_neg z]; exact k9 f (by omega)
theorem la_0 {G : WT} {l : Launch} (hG : GOK G) {nc ns i : Nat} (hL : gL G < 2 ^ 31) (hi : i + 6 ≤ gL G) {h : Hp} (W0 : Good h) {Q : Option Value → Hp → Prop} (kk : ∀ h', Good h' → WpN nc ns G l 60 RL cL_law 4 ret 1162 [.ref (gX G), .ref (gA G 0), .ref (gA G 134), .int (nI i)] [] h' Q) : WpN nc ns G l 60 RL cL_law 4 ret 180 [.ref (gX G), .ref (gA G 0), .ref (gA G 134), .int (nI i)] [] h Q := by
  obtain ⟨T, im, n, hs, X, tr, P, W⟩ := W0
  refine q_aload_n dL_law_180 rfl ?_
  refine q_aload_n dL_law_181 rfl ?_
  refine q_iload_n dL_law_182 rfl ?_
  refine q_iconst (v := 1) dL_law_183 (by decide) ?_
  refine q_iadd dL_law_184 ?_
  refine q_sld (i + 1) dL_law_185 (ix_1 rfl) (show i + 1 < gL G by omega) hL ?_
  refine q_aload_n dL_law_186 rfl ?_
  refine q_iload_n dL_law_187 rfl ?_
  refine q_iconst (v := 2) dL_law_188 (by decide) ?_
  refine q_iadd dL_law_189 ?_
  refine q_sld (i + 2) dL_law_190 (ix_1 rfl) (show i + 2 < gL G by omega) hL ?_
  refine q_aload_n dL_law_191 rfl ?_
  refine q_iload_n dL_law_192 rfl ?_
  refine q_iconst (v := 3) dL_law_193 (by decide) ?_
  refine q_iadd dL_law_194 ?_
  refine q_sld (i + 3) dL_law_195 (ix_1 rfl) (show i + 3 < gL G by omega) hL ?_
  refine q_callV dL_law_196 l_L_13 o_X6_eater v_X6_eater rfl (by decide) rfl rfl (m_X6_eater hG W.2.1.1) (by decide) rfl (Nat.le_of_ble_eq_true rfl) (fun r196 h196 hq196 => ?_)
  obtain ⟨rfl, D1, F1⟩ := hq196
  have M1 := mnD W D1 F1 SmB.eater
  refine q_aload_n dL_law_199 rfl ?_
  refine q_aload_n dL_law_200 rfl ?_
  refine q_iload_n dL_law_201 rfl ?_
  refine q_iconst (v := 1) dL_law_202 (by decide) ?_
  refine q_iadd dL_law_203 ?_
  refine q_sld (i + 1) dL_law_204 (ix_1 rfl) (show i + 1 < gL G by omega) hL ?_
  refine q_aload_n dL_law_205 rfl ?_
  refine q_iload_n dL_law_206 rfl ?_
  refine q_iconst (v := 2) dL_law_207 (by decide) ?_
  refine q_iadd dL_law_208 ?_
  refine q_sld (i + 2) dL_law_209 (ix_1 rfl) (show i + 2 < gL G by omega) hL ?_
  refine q_aload_n dL_law_210 rfl ?_
  refine q_iload_n dL_law_211 rfl ?_
  refine q_iconst (v := 3) dL_law_212 (by decide) ?_
  refine q_iadd dL_law_213 ?_
  refine q_sld (i + 3) dL_law_214 (ix_1 rfl) (show i + 3 < gL G by omega) hL ?_
  refine q_callV dL_law_215 l_L_17 o_X7_eater v_X7_eater rfl (by decide) rfl rfl (m_X7_eater hG M1.2.1) (by decide) rfl (Nat.le_of_ble_eq_true rfl) (fun r215 h215 hq215 => ?_)
  obtain ⟨rfl, C2, F2⟩ := hq215
  have W2 := mnM W M1 C2 F2 SmB.eater
  refine q_icmp_eq (tgt := 1162) dL_law_218 (by decide) (fun c_218 => ?_) (fun c_218 => ?_)
  · exact kk _ (W2)
  · exact absurd rfl c_218
theorem la_1 {G : WT} {l : Launch} (hG : GOK G) {nc ns i : Nat} (hL : gL G < 2 ^ 31) (hi : i + 6 ≤ gL G) {h : Hp} (W0 : Good h) {Q : Option Value → Hp → Prop} (kk : ∀ h', Good h' → WpN nc ns G l 60 RL cL_law 4 ret 1162 [.ref (gX G), .ref (gA G 0), .ref (gA G 134), .int (nI i)] [] h' Q) : WpN nc ns G l 60 RL cL_law 4 ret 223 [.ref (gX G), .ref (gA G 0), .ref (gA G 134), .int (nI i)] [] h Q := by
  obtain ⟨T, im, n, hs, X, tr, P, W⟩ := W0
  refine q_aload_n dL_law_223 rfl ?_
  refine q_aload_n dL_law_224 rfl ?_
  refine q_iload_n dL_law_225 rfl ?_
  refine q_iconst (v := 1) dL_law_226 (by decide) ?_
  refine q_iadd dL_law_227 ?_
  refine q_sld (i + 1) dL_law_228 (ix_1 rfl) (show i + 1 < gL G by omega) hL ?_
  refine q_aload_n dL_law_229 rfl ?_
  refine q_iload_n dL_law_230 rfl ?_
  refine q_iconst (v := 2) dL_law_231 (by decide) ?_
  refine q_iadd dL_law_232 ?_
  refine q_sld (i + 2) dL_law_233 (ix_1 rfl) (show i + 2 < gL G by omega) hL ?_
  refine q_callV dL_law_234 l_L_18 o_X6_of v_X6_of rfl (by decide) rfl rfl (m_X6_of hG W.2.1.1) (by decide) rfl (Nat.le_of_ble_eq_true rfl) (fun r234 h234 hq234 => ?_)
  obtain ⟨rfl, D1, F1⟩ := hq234
  have M1 := asD W D1 F1
  refine q_aload_n dL_law_237 rfl ?_
  refine q_aload_n dL_law_238 rfl ?_
  refine q_iload_n dL_law_239 rfl ?_
  refine q_iconst (v := 1) dL_law_240 (by decide) ?_
  refine q_iadd dL_law_241 ?_
  refine q_sld (i + 1) dL_law_242 (ix_1 rfl) (show i + 1 < gL G by omega) hL ?_
  refine q_aload_n dL_law_243 rfl ?_
  refine q_iload_n dL_law_244 rfl ?_
  refine q_iconst (v := 2) dL_law_245 (by decide) ?_
  refine q_iadd dL_law_246 ?_
  refine q_sld (i + 2) dL_law_247 (ix_1 rfl) (show i + 2 < gL G by omega) hL ?_
  refine q_callV dL_law_248 l_L_22 o_X7_of v_X7_of rfl (by decide) rfl rfl (m_X7_of hG M1.2.1) (by decide) rfl (Nat.le_of_ble_eq_true rfl) (fun r248 h248 hq248 => ?_)
  obtain ⟨rfl, C2, F2⟩ := hq248
  have W2 := asM W M1 C2 F2
  refine q_icmp_eq (tgt := 1162) dL_law_251 (by decide) (fun c_251 => ?_) (fun c_251 => ?_)
  · exact kk _ (W2)
  · exact absurd rfl c_251
theorem la_2 {G : WT} {l : Launch} (hG : GOK G) {nc ns i : Nat} (hL : gL G < 2 ^ 31) (hi : i + 6 ≤ gL G) {h : Hp} (W0 : Good h) {Q : Option Value → Hp → Prop} (kk : ∀ h', Good h' → WpN nc ns G l 60 RL cL_law 4 ret 1162 [.ref (gX G), .ref (gA G 0), .ref (gA G 134), .int (nI i)] [] h' Q) : WpN nc ns G l 60 RL cL_law 4 ret 256 [.ref (gX G), .ref (gA G 0), .ref (gA G 134), .int (nI i)] [] h Q := by
  obtain ⟨T, im, n, hs, X, tr, P, W⟩ := W0
  refine q_aload_n dL_law_256 rfl ?_
  refine q_aload_n dL_law_257 rfl ?_
  refine q_iload_n dL_law_258 rfl ?_
  refine q_iconst (v := 1) dL_law_259 (by decide) ?_
  refine q_iadd dL_law_260 ?_
  refine q_sld (i + 1) dL_law_261 (ix_1 rfl) (show i + 1 < gL G by omega) hL ?_
  refine q_aload_n dL_law_262 rfl ?_
  refine q_iload_n dL_law_263 rfl ?_
  refine q_iconst (v := 2) dL_law_264 (by decide) ?_
  refine q_iadd dL_law_265 ?_
  refine q_sld (i + 2) dL_law_266 (ix_1 rfl) (show i + 2 < gL G by omega) hL ?_
  refine q_callV dL_law_267 l_L_23 o_X6_hunger v_X6_hunger rfl (by decide) rfl rfl (m_X6_hunger hG W.2.1.1) (by decide) rfl (Nat.le_of_ble_eq_true rfl) (fun r267 h267 hq267 => ?_)
  obtain ⟨rfl, D1, F1⟩ := hq267
  have M1 := mnD W D1 F1 SmB.hunger
  refine q_aload_n dL_law_270 rfl ?_
  refine q_aload_n dL_law_271 rfl ?_
  refine q_iload_n dL_law_272 rfl ?_
  refine q_iconst (v := 1) dL_law_273 (by decide) ?_
  refine q_iadd dL_law_274 ?_
  refine q_sld (i + 1) dL_law_275 (ix_1 rfl) (show i + 1 < gL G by omega) hL ?_
  refine q_aload_n dL_law_276 rfl ?_
  refine q_iload_n dL_law_277 rfl ?_
  refine q_iconst (v := 2) dL_law_278 (by decide) ?_
  refine q_iadd dL_law_279 ?_
  refine q_sld (i + 2) dL_law_280 (ix_1 rfl) (show i + 2 < gL G by omega) hL ?_
  refine q_callV dL_law_281 l_L_26 o_X7_hunger v_X7_hunger rfl (by decide) rfl rfl (m_X7_hunger hG M1.2.1) (by decide) rfl (Nat.le_of_ble_eq_true rfl) (fun r281 h281 hq281 => ?_)
  obtain ⟨rfl, C2, F2⟩ := hq281
  have W2 := mnM W M1 C2 F2 SmB.hunger
  refine q_icmp_eq (tgt := 1162) dL_law_284 (by decide) (fun c_284 => ?_) (fun c_284 => ?_)
  · exact kk _ (W2)
  · exact absurd rfl c_284
theorem la_3 {G : WT} {l : Launch} (hG : GOK G) {nc ns i : Nat} (hL : gL G < 2 ^ 31) (hi : i + 6 ≤ gL G) {h : Hp} (W0 : Good h) {Q : Option Value → Hp → Prop} (kk : ∀ h', Good h' → WpN nc ns G l 60 RL cL_law 4 ret 1162 [.ref (gX G), .ref (gA G 0), .ref (gA G 134), .int (nI i)] [] h' Q) : WpN nc ns G l 60 RL cL_law 4 ret 289 [.ref (gX G), .ref (gA G 0), .ref (gA G 134), .int (nI i)] [] h Q := by
  obtain ⟨T, im, n, hs, X, tr, P, W⟩ := W0
  refine q_aload_n dL_law_289 rfl ?_
  refine q_aload_n dL_law_290 rfl ?_
  refine q_iload_n dL_law_291 rfl ?_
  refine q_iconst (v := 1) dL_law_292 (by decide) ?_
  refine q_iadd dL_law_293 ?_
  refine q_sld (i + 1) dL_law_294 (ix_1 rfl) (show i + 1 < gL G by omega) hL ?_
  refine q_aload_n dL_law_295 rfl ?_
  refine q_iload_n dL_law_296 rfl ?_
  refine q_iconst (v := 2) dL_law_297 (by decide) ?_
  refine q_iadd dL_law_298 ?_
  refine q_sld (i + 2) dL_law_299 (ix_1 rfl) (show i + 2 < gL G by omega) hL ?_
  refine q_aload_n dL_law_300 rfl ?_
  refine q_iload_n dL_law_301 rfl ?_
  refine q_iconst (v := 3) dL_law_302 (by decide) ?_
  refine q_iadd dL_law_303 ?_
  refine q_sld (i + 3) dL_law_304 (ix_1 rfl) (show i + 3 < gL G by omega) hL ?_
  refine q_callV dL_law_305 l_L_27 o_X6_row v_X6_row rfl (by decide) rfl rfl (m_X6_row hG W.2.1.1) (by decide) rfl (Nat.le_of_ble_eq_true rfl) (fun r305 h305 hq305 => ?_)
  obtain ⟨rfl, D1, F1⟩ := hq305
  have M1 := mnD W D1 F1 SmB.row
  refine q_aload_n dL_law_308 rfl ?_
  refine q_aload_n dL_law_309 rfl ?_
  refine q_iload_n dL_law_310 rfl ?_
  refine q_iconst (v := 1) dL_law_311 (by decide) ?_
  refine q_iadd dL_law_312 ?_
  refine q_sld (i + 1) dL_law_313 (ix_1 rfl) (show i + 1 < gL G by omega) hL ?_
  refine q_aload_n dL_law_314 rfl ?_
  refine q_iload_n dL_law_315 rfl ?_
  refine q_iconst (v := 2) dL_law_316 (by decide) ?_
  refine q_iadd dL_law_317 ?_
  refine q_sld (i + 2) dL_law_318 (ix_1 rfl) (show i + 2 < gL G by omega) hL ?_
  refine q_aload_n dL_law_319 rfl ?_
  refine q_iload_n dL_law_320 rfl ?_
  refine q_iconst (v := 3) dL_law_321 (by decide) ?_
  refine q_iadd dL_law_322 ?_
  refine q_sld (i + 3) dL_law_323 (ix_1 rfl) (show i + 3 < gL G by omega) hL ?_
  refine q_callV dL_law_324 l_L_30 o_X7_row v_X7_row rfl (by decide) rfl rfl (m_X7_row hG M1.2.1) (by decide) rfl (Nat.le_of_ble_eq_true rfl) (fun r324 h324 hq324 => ?_)
  obtain ⟨rfl, C2, F2⟩ := hq324
  have W2 := mnM W M1 C2 F2 SmB.row
  refine q_icmp_eq (tgt := 1162) dL_law_327 (by decide) (fun c_327 => ?_) (fun c_327 => ?_)
  · exact kk _ (W2)
  · exact absurd rfl c_327
theorem la_4 {G : WT} {l : Launch} (hG : GOK G) {nc ns i : Nat} (hL : gL G < 2 ^ 31) (hi : i + 6 ≤ gL G) {h : Hp} (W0 : Good h) {Q : Option Value → Hp → Prop} (kk : ∀ h', Good h' → WpN nc ns G l 60 RL cL_law 4 ret 1162 [.ref (gX G), .ref (gA G 0), .ref (gA G 134), .int (nI i)] [] h' Q) : WpN nc ns G l 60 RL cL_law 4 ret 332 [.ref (gX G), .ref (gA G 0), .ref (gA G 134), .int (nI i)] [] h Q := by
  obtain ⟨T, im, n, hs, X, tr, P, W⟩ := W0
  refine q_aload_n dL_law_332 rfl ?_
  refine q_aload_n dL_law_333 rfl ?_
  refine q_iload_n dL_law_334 rfl ?_
  refine q_iconst (v := 1) dL_law_335 (by decide) ?_
  refine q_iadd dL_law_336 ?_
  refine q_sld (i + 1) dL_law_337 (ix_1 rfl) (show i + 1 < gL G by omega) hL ?_
  refine q_callV dL_law_338 l_L_31 o_X6_bin v_X6_bin rfl (by decide) rfl rfl (m_X6_bin hG W.2.1.1) (by decide) rfl (Nat.le_of_ble_eq_true rfl) (fun r338 h338 hq338 => ?_)
  obtain ⟨rfl, D1, F1⟩ := hq338
  have M1 := mnD W D1 F1 SmB.bin
  refine q_aload_n dL_law_341 rfl ?_
  refine q_aload_n dL_law_342 rfl ?_
  refine q_iload_n dL_law_343 rfl ?_
  refine q_iconst (v := 1) dL_law_344 (by decide) ?_
  refine q_iadd dL_law_345 ?_
  refine q_sld (i + 1) dL_law_346 (ix_1 rfl) (show i + 1 < gL G by omega) hL ?_
  refine q_callV dL_law_347 l_L_35 o_X7_bin v_X7_bin rfl (by decide) rfl rfl (m_X7_bin hG M1.2.1) (by decide) rfl (Nat.le_of_ble_eq_true rfl) (fun r347 h347 hq347 => ?_)
  obtain ⟨rfl, C2, F2⟩ := hq347
  have W2 := mnM W M1 C2 F2 SmB.bin
  refine q_icmp_eq (tgt := 1162) dL_law_350 (by decide) (fun c_350 => ?_) (fun c_350 => ?_)
  · exact kk _ (W2)
  · exact absurd rfl c_350
theorem la_5 {G : WT} {l : Launch} (hG : GOK G) {nc ns i : Nat} (hL : gL G < 2 ^ 31) (hi : i + 6 ≤ gL G) {h : Hp} (W0 : Good h) {Q : Option Value → Hp → Prop} (kk : ∀ h', Good h' → WpN nc ns G l 60 RL cL_law 4 ret 1162 [.ref (gX G), .ref (gA G 0), .ref (gA G 134), .int (nI i)] [] h' Q) : WpN nc ns G l 60 RL cL_law 4 ret 355 [.ref (gX G), .ref (gA G 0), .ref (gA G 134), .int (nI i)] [] h Q := by
  obtain ⟨T, im, n, hs, X, tr, P, W⟩ := W0
  obtain ⟨⟨⟨k1, k2, k3, k4⟩, k5, k6, k7, k8, k9⟩, ⟨d1, ⟨d2, d2i⟩, d3, d4, dac, d6, d7⟩, ⟨m1, ⟨m2, m2t⟩, ⟨m3, m3i⟩, ⟨m4, m4l⟩, mtx, mac, mtp, mle⟩⟩ := id W
  refine q_aload_n dL_law_355 rfl ?_
  refine q_aload_n dL_law_356 rfl ?_
  refine q_iload_n dL_law_357 rfl ?_
  refine q_iconst (v := 1) dL_law_358 (by decide) ?_
  refine q_iadd dL_law_359 ?_
  refine q_sld (i + 1) dL_law_360 (ix_1 rfl) (show i + 1 < gL G by omega) hL ?_
  refine q_callV dL_law_361 l_L_36 o_X6_feed v_X6_feed rfl (by decide) rfl rfl (m_X6_feed hG d4 k6) (by decide) rfl (Nat.le_of_ble_eq_true rfl) (fun r361 h361 hq361 => ?_)
  obtain ⟨rfl, D1, ok1, F1⟩ := hq361
  have M1 := fdD W D1 F1
  refine q_aload_n dL_law_364 rfl ?_
  refine q_aload_n dL_law_365 rfl ?_
  refine q_iload_n dL_law_366 rfl ?_
  refine q_iconst (v := 1) dL_law_367 (by decide) ?_
  refine q_iadd dL_law_368 ?_
  refine q_sld (i + 1) dL_law_369 (ix_1 rfl) (show i + 1 < gL G by omega) hL ?_
  refine q_callV dL_law_370 l_L_39 o_X7_feed v_X7_feed rfl (by decide) rfl rfl (m_X7_feed hG M1.2.2.2.2.2.1 k6) (by decide) rfl (Nat.le_of_ble_eq_true rfl) (fun r370 h370 hq370 => ?_)
  obtain ⟨rfl, C2, ok2, F2⟩ := hq370
  have W2 := fdM W M1 C2 ok2 F2
  refine q_icmp_eq (tgt := 1162) dL_law_373 (by decide) (fun c_373 => ?_) (fun c_373 => ?_)
  · exact kk _ (W2)
  · exact absurd rfl c_373
theorem la_6 {G : WT} {l : Launch} (hG : GOK G) {nc ns i : Nat} (hL : gL G < 2 ^ 31) (hi : i + 6 ≤ gL G) {h : Hp} (W0 : Good h) {Q : Option Value → Hp → Prop} (kk : ∀ h', Good h' → WpN nc ns G l 60 RL cL_law 4 ret 1162 [.ref (gX G), .ref (gA G 0), .ref (gA G 134), .int (nI i)] [] h' Q) : WpN nc ns G l 60 RL cL_law 4 ret 378 [.ref (gX G), .ref (gA G 0), .ref (gA G 134), .int (nI i)] [] h Q := by
  obtain ⟨T, im, n, hs, X, tr, P, W⟩ := W0
  obtain ⟨⟨⟨k1, k2, k3, k4⟩, k5, k6, k7, k8, k9⟩, ⟨d1, ⟨d2, d2i⟩, d3, d4, dac, d6, d7⟩, ⟨m1, ⟨m2, m2t⟩, ⟨m3, m3i⟩, ⟨m4, m4l⟩, mtx, mac, mtp, mle⟩⟩ := id W
  by_cases h6 : n = 6
  · skip
    refine q_aload_n dL_law_378 rfl ?_
    refine q_callV dL_law_379 l_L_40 o_X6_house v_X6_house rfl (by decide) rfl rfl (m_X6_house hG k4 d4 k6 d1.2.2.2.1.1) (by decide) rfl (Nat.le_of_ble_eq_true rfl) (fun r379 h379 hq379 => ?_)
    obtain ⟨rfl, rfl⟩ := hq379.1 h6
    refine q_aload_n dL_law_382 rfl ?_
    refine q_callV dL_law_383 l_L_44 o_X7_house v_X7_house rfl (by decide) rfl rfl (m_X7_house hG k4 mtx k6 mle m4) (by decide) rfl (Nat.le_of_ble_eq_true rfl) (fun r383 h383 hq383 => ?_)
    obtain ⟨rfl, rfl⟩ := hq383.1 h6
    refine q_icmp_eq (tgt := 1162) dL_law_386 (by decide) (fun c_386 => ?_) (fun c_386 => ?_)
    · exact kk _ (W.good)
    · exact absurd rfl c_386
  · have h6 : n < 6 := by omega
    cases ht : houseT X with
    | mk o b =>
      cases o with
      | none =>
        refine q_aload_n dL_law_378 rfl ?_
        refine q_callV dL_law_379 l_L_40 o_X6_house v_X6_house rfl (by decide) rfl rfl (m_X6_house hG k4 d4 k6 d1.2.2.2.1.1) (by decide) rfl (Nat.le_of_ble_eq_true rfl) (fun r379 h379 hq379 => ?_)
        obtain ⟨a1, a2, a3, a4⟩ := hq379.2 h6
        obtain ⟨rfl, b2, b3⟩ := a1 b ht
        have F1 : hoD n h h379 := a4
        have D1 := W.2.1.hoN F1 h6 a3 b2 b3
        have M1 := W.2.2.hoDo h6 F1
        refine q_aload_n dL_law_382 rfl ?_
        refine q_callV dL_law_383 l_L_44 o_X7_house v_X7_house rfl (by decide) rfl rfl (m_X7_house hG k4 M1.2.2.2.2.1 k6 M1.2.2.2.2.2.2.2 M1.2.2.2.1.1) (by decide) rfl (Nat.le_of_ble_eq_true rfl) (fun r383 h383 hq383 => ?_)
        obtain ⟨c1, c2, F2⟩ := hq383.2 h6
        obtain ⟨rfl, e1, e2, e3⟩ := c1 b ht
        have D2 := D1.hoMo k4 F2
        have M2 := M1.hoN F2 (RTx.zero (X := X) e1) e2 e3 k1 k2 k3 k4 k9
        refine q_icmp_eq (tgt := 1162) dL_law_386 (by decide) (fun c_386 => ?_) (fun c_386 => ?_)
        · exact kk _ (⟨T, im, n, hs, (0, X.2), tr, P, ⟨⟨k1, k2, k3, k4⟩, k5, TxOK.zero, k7, k8, k9⟩, D2, M2⟩)
        · exact absurd rfl c_386
      | some L =>
        refine q_aload_n dL_law_378 rfl ?_
        refine q_callV dL_law_379 l_L_40 o_X6_house v_X6_house rfl (by decide) rfl rfl (m_X6_house hG k4 d4 k6 d1.2.2.2.1.1) (by decide) rfl (Nat.le_of_ble_eq_true rfl) (fun r379 h379 hq379 => ?_)
        obtain ⟨a1, a2, a3, a4⟩ := hq379.2 h6
        obtain ⟨rfl, b2, b3, b4, b5, b6⟩ := a2 L b ht
        have F1 : hoD n h h379 := a4
        have D1 := W.2.1.hoY F1 h6 a3 b2 b3 b4
        have M1 := W.2.2.hoDo h6 F1
        refine q_aload_n dL_law_382 rfl ?_
        refine q_callV dL_law_383 l_L_44 o_X7_house v_X7_house rfl (by decide) rfl rfl (m_X7_house hG k4 M1.2.2.2.2.1 k6 M1.2.2.2.2.2.2.2 M1.2.2.2.1.1) (by decide) rfl (Nat.le_of_ble_eq_true rfl) (fun r383 h383 hq383 => ?_)
        obtain ⟨c1, c2, F2⟩ := hq383.2 h6
        obtain ⟨rfl, e1, e2, e3, e4, e5, e6, e7⟩ := c2 L b ht
        have D2 := D1.hoMo (by omega) F2
        have M2 := M1.hoY F2 (RTx.zero (X := X) e1) e2 e3 e4 e5 e6 e7 k1 k2 h6 k9
        refine q_icmp_eq (tgt := 1162) dL_law_386 (by decide) (fun c_386 => ?_) (fun c_386 => ?_)
        · exact kk _ (⟨setT T 7 5 (n + 1), im, n + 1, fun f => if f = n then L else hs f, (0, X.2), tr, P, hoOK ⟨⟨k1, k2, k3, k4⟩, k5, k6, k7, k8, k9⟩ h6 e6 e7, D2, M2⟩)
        · exact absurd rfl c_386
theorem la_7 {G : WT} {l : Launch} (hG : GOK G) {nc ns i : Nat} (hL : gL G < 2 ^ 31) (hi : i + 6 ≤ gL G) {h : Hp} (W0 : Good h) {Q : Option Value → Hp → Prop} (kk : ∀ h', Good h' → WpN nc ns G l 60 RL cL_law 4 ret 1162 [.ref (gX G), .ref (gA G 0), .ref (gA G 134), .int (nI i)] [] h' Q) : WpN nc ns G l 60 RL cL_law 4 ret 391 [.ref (gX G), .ref (gA G 0), .ref (gA G 134), .int (nI i)] [] h Q := by
  obtain ⟨T, im, n, hs, X, tr, P, W⟩ := W0
  obtain ⟨⟨⟨k1, k2, k3, k4⟩, k5, k6, k7, k8, k9⟩, ⟨d1, ⟨d2, d2i⟩, d3, d4, dac, d6, d7⟩, ⟨m1, ⟨m2, m2t⟩, ⟨m3, m3i⟩, ⟨m4, m4l⟩, mtx, mac, mtp, mle⟩⟩ := id W
  refine q_aload_n dL_law_391 rfl ?_
  refine q_aload_n dL_law_392 rfl ?_
  refine q_iload_n dL_law_393 rfl ?_
  refine q_iconst (v := 1) dL_law_394 (by decide) ?_
  refine q_iadd dL_law_395 ?_
  refine q_sld (i + 1) dL_law_396 (ix_1 rfl) (show i + 1 < gL G by omega) hL ?_
  refine q_callV dL_law_397 l_L_45 o_X6_told v_X6_told rfl (by decide) rfl rfl (m_X6_told hG d1) (by decide) rfl (Nat.le_of_ble_eq_true rfl) (fun r397 h397 hq397 => ?_)
  obtain ⟨rfl, rfl⟩ := hq397
  refine q_aload_n dL_law_400 rfl ?_
  refine q_aload_n dL_law_401 rfl ?_
  refine q_iload_n dL_law_402 rfl ?_
  refine q_iconst (v := 1) dL_law_403 (by decide) ?_
  refine q_iadd dL_law_404 ?_
  refine q_sld (i + 1) dL_law_405 (ix_1 rfl) (show i + 1 < gL G by omega) hL ?_
  refine q_callV dL_law_406 l_L_48 o_X7_told v_X7_told rfl (by decide) rfl rfl (m_X7_told hG m1) (by decide) rfl (Nat.le_of_ble_eq_true rfl) (fun r406 h406 hq406 => ?_)
  obtain ⟨rfl, rfl⟩ := hq406
  refine q_icmp_eq (tgt := 1162) dL_law_409 (by decide) (fun c_409 => ?_) (fun c_409 => ?_)
  · exact kk _ (W.good)
  · exact absurd rfl c_409
theorem la_8 {G : WT} {l : Launch} (hG : GOK G) {nc ns i : Nat} (hL : gL G < 2 ^ 31) (hi : i + 6 ≤ gL G) {h : Hp} (W0 : Good h) {Q : Option Value → Hp → Prop} (kk : ∀ h', Good h' → WpN nc ns G l 60 RL cL_law 4 ret 1162 [.ref (gX G), .ref (gA G 0), .ref (gA G 134), .int (nI i)] [] h' Q) : WpN nc ns G l 60 RL cL_law 4 ret 414 [.ref (gX G), .ref (gA G 0), .ref (gA G 134), .int (nI i)] [] h Q := by
  obtain ⟨T, im, n, hs, X, tr, P, W⟩ := W0
  refine q_aload_n dL_law_414 rfl ?_
  refine q_callV dL_law_415 l_L_49 o_X6_supper v_X6_supper rfl (by decide) rfl rfl (m_X6_supper hG W.2.1.1) (by decide) rfl (Nat.le_of_ble_eq_true rfl) (fun r415 h415 hq415 => ?_)
  obtain ⟨rfl, D1, F1⟩ := hq415
  have M1 := mnD W D1 F1 SmB.supper
  refine q_aload_n dL_law_418 rfl ?_
  refine q_callV dL_law_419 l_L_52 o_X7_supper v_X7_supper rfl (by decide) rfl rfl (m_X7_supper hG M1.2.1) (by decide) rfl (Nat.le_of_ble_eq_true rfl) (fun r419 h419 hq419 => ?_)
  obtain ⟨rfl, C2, F2⟩ := hq419
  have W2 := mnM W M1 C2 F2 SmB.supper
  refine q_icmp_eq (tgt := 1162) dL_law_422 (by decide) (fun c_422 => ?_) (fun c_422 => ?_)
  · exact kk _ (W2)
  · exact absurd rfl c_422
theorem la_9 {G : WT} {l : Launch} (hG : GOK G) {nc ns i : Nat} (hL : gL G < 2 ^ 31) (hi : i + 6 ≤ gL G) {h : Hp} (W0 : Good h) {Q : Option Value → Hp → Prop} (kk : ∀ h', Good h' → WpN nc ns G l 60 RL cL_law 4 ret 1162 [.ref (gX G), .ref (gA G 0), .ref (gA G 134), .int (nI i)] [] h' Q) : WpN nc ns G l 60 RL cL_law 4 ret 427 [.ref (gX G), .ref (gA G 0), .ref (gA G 134), .int (nI i)] [] h Q := by
  obtain ⟨T, im, n, hs, X, tr, P, W⟩ := W0
  refine q_aload_n dL_law_427 rfl ?_
  refine q_aload_n dL_law_428 rfl ?_
  refine q_iload_n dL_law_429 rfl ?_
  refine q_iconst (v := 1) dL_law_430 (by decide) ?_
  refine q_iadd dL_law_431 ?_
  refine q_sld (i + 1) dL_law_432 (ix_1 rfl) (show i + 1 < gL G by omega) hL ?_
  refine q_aload_n dL_law_433 rfl ?_
  refine q_iload_n dL_law_434 rfl ?_
  refine q_iconst (v := 2) dL_law_435 (by decide) ?_
  refine q_iadd dL_law_436 ?_
  refine q_sld (i + 2) dL_law_437 (ix_1 rfl) (show i + 2 < gL G by omega) hL ?_
  refine q_callV dL_law_438 l_L_53 o_X6_run v_X6_run rfl (by decide) rfl rfl (m_X6_run hG W.2.1.1) (by decide) rfl (Nat.le_of_ble_eq_true rfl) (fun r438 h438 hq438 => ?_)
  obtain ⟨rfl, D1, F1⟩ := hq438
  have M1 := asD W D1 F1
  refine q_aload_n dL_law_441 rfl ?_
  refine q_aload_n dL_law_442 rfl ?_
  refine q_iload_n dL_law_443 rfl ?_
  refine q_iconst (v := 1) dL_law_444 (by decide) ?_
  refine q_iadd dL_law_445 ?_
  refine q_sld (i + 1) dL_law_446 (ix_1 rfl) (show i + 1 < gL G by omega) hL ?_
  refine q_aload_n dL_law_447 rfl ?_
  refine q_iload_n dL_law_448 rfl ?_
  refine q_iconst (v := 2) dL_law_449 (by decide) ?_
  refine q_iadd dL_law_450 ?_
  refine q_sld (i + 2) dL_law_451 (ix_1 rfl) (show i + 2 < gL G by omega) hL ?_
  refine q_callV dL_law_452 l_L_56 o_X7_run v_X7_run rfl (by decide) rfl rfl (m_X7_run hG M1.2.1) (by decide) rfl (Nat.le_of_ble_eq_true rfl) (fun r452 h452 hq452 => ?_)
  obtain ⟨rfl, C2, F2⟩ := hq452
  have W2 := asM W M1 C2 F2
  refine q_icmp_eq (tgt := 1162) dL_law_455 (by decide) (fun c_455 => ?_) (fun c_455 => ?_)
  · exact kk _ (W2)
  · exact absurd rfl c_455
theorem la_10 {G : WT} {l : Launch} (hG : GOK G) {nc ns i : Nat} (hL : gL G < 2 ^ 31) (hi : i + 6 ≤ gL G) {h : Hp} (W0 : Good h) {Q : Option Value → Hp → Prop} (kk : ∀ h', Good h' → WpN nc ns G l 60 RL cL_law 4 ret 1162 [.ref (gX G), .ref (gA G 0), .ref (gA G 134), .int (nI i)] [] h' Q) : WpN nc ns G l 60 RL cL_law 4 ret 460 [.ref (gX G), .ref (gA G 0), .ref (gA G 134), .int (nI i)] [] h Q := by
  obtain ⟨T, im, n, hs, X, tr, P, W⟩ := W0
  refine q_aload_n dL_law_460 rfl ?_
  refine q_callV dL_law_461 l_L_57 o_X6_round v_X6_round rfl (by decide) rfl rfl (m_X6_round hG W.2.1.1) (by decide) rfl (Nat.le_of_ble_eq_true rfl) (fun r461 h461 hq461 => ?_)
  obtain ⟨rfl, D1, F1⟩ := hq461
  have M1 := asD W D1 F1
  refine q_aload_n dL_law_464 rfl ?_
  refine q_callV dL_law_465 l_L_60 o_X7_round v_X7_round rfl (by decide) rfl rfl (m_X7_round hG M1.2.1) (by decide) rfl (Nat.le_of_ble_eq_true rfl) (fun r465 h465 hq465 => ?_)
  obtain ⟨rfl, C2, F2⟩ := hq465
  have W2 := asM W M1 C2 F2
  refine q_icmp_eq (tgt := 1162) dL_law_468 (by decide) (fun c_468 => ?_) (fun c_468 => ?_)
  · exact kk _ (W2)
  · exact absurd rfl c_468
theorem la_11 {G : WT} {l : Launch} (hG : GOK G) {nc ns i : Nat} (hL : gL G < 2 ^ 31) (hi : i + 6 ≤ gL G) {h : Hp} (W0 : Good h) {Q : Option Value → Hp → Prop} (kk : ∀ h', Good h' → WpN nc ns G l 60 RL cL_law 4 ret 1162 [.ref (gX G), .ref (gA G 0), .ref (gA G 134), .int (nI i)] [] h' Q) : WpN nc ns G l 60 RL cL_law 4 ret 473 [.ref (gX G), .ref (gA G 0), .ref (gA G 134), .int (nI i)] [] h Q := by
  obtain ⟨T, im, n, hs, X, tr, P, W⟩ := W0
  refine q_aload_n dL_law_473 rfl ?_
  refine q_aload_n dL_law_474 rfl ?_
  refine q_iload_n dL_law_475 rfl ?_
  refine q_iconst (v := 1) dL_law_476 (by decide) ?_
  refine q_iadd dL_law_477 ?_
  refine q_sld (i + 1) dL_law_478 (ix_1 rfl) (show i + 1 < gL G by omega) hL ?_
  refine q_callV dL_law_479 l_L_61 o_X6_still v_X6_still rfl (by decide) rfl rfl (m_X6_still hG W.2.1.1) (by decide) rfl (Nat.le_of_ble_eq_true rfl) (fun r479 h479 hq479 => ?_)
  obtain ⟨rfl, D1, F1⟩ := hq479
  have M1 := asD W D1 F1
  refine q_aload_n dL_law_482 rfl ?_
  refine q_aload_n dL_law_483 rfl ?_
  refine q_iload_n dL_law_484 rfl ?_
  refine q_iconst (v := 1) dL_law_485 (by decide) ?_
  refine q_iadd dL_law_486 ?_
  refine q_sld (i + 1) dL_law_487 (ix_1 rfl) (show i + 1 < gL G by omega) hL ?_
  refine q_callV dL_law_488 l_L_64 o_X7_still v_X7_still rfl (by decide) rfl rfl (m_X7_still hG M1.2.1) (by decide) rfl (Nat.le_of_ble_eq_true rfl) (fun r488 h488 hq488 => ?_)
  obtain ⟨rfl, C2, F2⟩ := hq488
  have W2 := asM W M1 C2 F2
  refine q_icmp_eq (tgt := 1162) dL_law_491 (by decide) (fun c_491 => ?_) (fun c_491 => ?_)
  · exact kk _ (W2)
  · exact absurd rfl c_491
theorem la_12 {G : WT} {l : Launch} (hG : GOK G) {nc ns i : Nat} (hL : gL G < 2 ^ 31) (hi : i + 6 ≤ gL G) {h : Hp} (W0 : Good h) {Q : Option Value → Hp → Prop} (kk : ∀ h', Good h' → WpN nc ns G l 60 RL cL_law 4 ret 1162 [.ref (gX G), .ref (gA G 0), .ref (gA G 134), .int (nI i)] [] h' Q) : WpN nc ns G l 60 RL cL_law 4 ret 496 [.ref (gX G), .ref (gA G 0), .ref (gA G 134), .int (nI i)] [] h Q := by
  obtain ⟨T, im, n, hs, X, tr, P, W⟩ := W0
  refine q_aload_n dL_law_496 rfl ?_
  refine q_aload_n dL_law_497 rfl ?_
  refine q_iload_n dL_law_498 rfl ?_
  refine q_iconst (v := 1) dL_law_499 (by decide) ?_
  refine q_iadd dL_law_500 ?_
  refine q_sld (i + 1) dL_law_501 (ix_1 rfl) (show i + 1 < gL G by omega) hL ?_
  refine q_callV dL_law_502 l_L_65 o_X6_allBest v_X6_allBest rfl (by decide) rfl rfl (m_X6_allBest hG W.2.1.1) (by decide) rfl (Nat.le_of_ble_eq_true rfl) (fun r502 h502 hq502 => ?_)
  obtain ⟨rfl, D1, F1⟩ := hq502
  have M1 := asD W D1 F1
  refine q_aload_n dL_law_505 rfl ?_
  refine q_aload_n dL_law_506 rfl ?_
  refine q_iload_n dL_law_507 rfl ?_
  refine q_iconst (v := 1) dL_law_508 (by decide) ?_
  refine q_iadd dL_law_509 ?_
  refine q_sld (i + 1) dL_law_510 (ix_1 rfl) (show i + 1 < gL G by omega) hL ?_
  refine q_callV dL_law_511 l_L_68 o_X7_allBest v_X7_allBest rfl (by decide) rfl rfl (m_X7_allBest hG M1.2.1) (by decide) rfl (Nat.le_of_ble_eq_true rfl) (fun r511 h511 hq511 => ?_)
  obtain ⟨rfl, C2, F2⟩ := hq511
  have W2 := asM W M1 C2 F2
  refine q_icmp_eq (tgt := 1162) dL_law_514 (by decide) (fun c_514 => ?_) (fun c_514 => ?_)
  · exact kk _ (W2)
  · exact absurd rfl c_514
theorem la_13 {G : WT} {l : Launch} (hG : GOK G) {nc ns i : Nat} (hL : gL G < 2 ^ 31) (hi : i + 6 ≤ gL G) {h : Hp} (W0 : Good h) {Q : Option Value → Hp → Prop} (kk : ∀ h', Good h' → WpN nc ns G l 60 RL cL_law 4 ret 1162 [.ref (gX G), .ref (gA G 0), .ref (gA G 134), .int (nI i)] [] h' Q) : WpN nc ns G l 60 RL cL_law 4 ret 519 [.ref (gX G), .ref (gA G 0), .ref (gA G 134), .int (nI i)] [] h Q := by
  obtain ⟨T, im, n, hs, X, tr, P, W⟩ := W0
  refine q_aload_n dL_law_519 rfl ?_
  refine q_aload_n dL_law_520 rfl ?_
  refine q_iload_n dL_law_521 rfl ?_
  refine q_iconst (v := 1) dL_law_522 (by decide) ?_
  refine q_iadd dL_law_523 ?_
  refine q_sld (i + 1) dL_law_524 (ix_1 rfl) (show i + 1 < gL G by omega) hL ?_
  refine q_callV dL_law_525 l_L_69 o_X6_laws v_X6_laws rfl (by decide) rfl rfl (m_X6_laws hG W.2.1.1) (by decide) rfl (Nat.le_of_ble_eq_true rfl) (fun r525 h525 hq525 => ?_)
  obtain ⟨rfl, D1, F1⟩ := hq525
  have M1 := asD W D1 F1
  refine q_aload_n dL_law_528 rfl ?_
  refine q_aload_n dL_law_529 rfl ?_
  refine q_iload_n dL_law_530 rfl ?_
  refine q_iconst (v := 1) dL_law_531 (by decide) ?_
  refine q_iadd dL_law_532 ?_
  refine q_sld (i + 1) dL_law_533 (ix_1 rfl) (show i + 1 < gL G by omega) hL ?_
  refine q_callV dL_law_534 l_L_72 o_X7_laws v_X7_laws rfl (by decide) rfl rfl (m_X7_laws hG M1.2.1) (by decide) rfl (Nat.le_of_ble_eq_true rfl) (fun r534 h534 hq534 => ?_)
  obtain ⟨rfl, C2, F2⟩ := hq534
  have W2 := asM W M1 C2 F2
  refine q_icmp_eq (tgt := 1162) dL_law_537 (by decide) (fun c_537 => ?_) (fun c_537 => ?_)
  · exact kk _ (W2)
  · exact absurd rfl c_537
theorem la_14 {G : WT} {l : Launch} (hG : GOK G) {nc ns i : Nat} (hL : gL G < 2 ^ 31) (hi : i + 6 ≤ gL G) {h : Hp} (W0 : Good h) {Q : Option Value → Hp → Prop} (kk : ∀ h', Good h' → WpN nc ns G l 60 RL cL_law 4 ret 1162 [.ref (gX G), .ref (gA G 0), .ref (gA G 134), .int (nI i)] [] h' Q) : WpN nc ns G l 60 RL cL_law 4 ret 542 [.ref (gX G), .ref (gA G 0), .ref (gA G 134), .int (nI i)] [] h Q := by
  obtain ⟨T, im, n, hs, X, tr, P, W⟩ := W0
  refine q_aload_n dL_law_542 rfl ?_
  refine q_aload_n dL_law_543 rfl ?_
  refine q_iload_n dL_law_544 rfl ?_
  refine q_iconst (v := 1) dL_law_545 (by decide) ?_
  refine q_iadd dL_law_546 ?_
  refine q_sld (i + 1) dL_law_547 (ix_1 rfl) (show i + 1 < gL G by omega) hL ?_
  refine q_aload_n dL_law_548 rfl ?_
  refine q_iload_n dL_law_549 rfl ?_
  refine q_iconst (v := 2) dL_law_550 (by decide) ?_
  refine q_iadd dL_law_551 ?_
  refine q_sld (i + 2) dL_law_552 (ix_1 rfl) (show i + 2 < gL G by omega) hL ?_
  refine q_callV dL_law_553 l_L_73 o_X6_cook v_X6_cook rfl (by decide) rfl rfl (m_X6_cook hG W.2.1.1) (by decide) rfl (Nat.le_of_ble_eq_true rfl) (fun r553 h553 hq553 => ?_)
  obtain ⟨rfl, D1, F1⟩ := hq553
  have M1 := asD W D1 F1
  refine q_aload_n dL_law_556 rfl ?_
  refine q_aload_n dL_law_557 rfl ?_
  refine q_iload_n dL_law_558 rfl ?_
  refine q_iconst (v := 1) dL_law_559 (by decide) ?_
  refine q_iadd dL_law_560 ?_
  refine q_sld (i + 1) dL_law_561 (ix_1 rfl) (show i + 1 < gL G by omega) hL ?_
  refine q_aload_n dL_law_562 rfl ?_
  refine q_iload_n dL_law_563 rfl ?_
  refine q_iconst (v := 2) dL_law_564 (by decide) ?_
  refine q_iadd dL_law_565 ?_
  refine q_sld (i + 2) dL_law_566 (ix_1 rfl) (show i + 2 < gL G by omega) hL ?_
  refine q_callV dL_law_567 l_L_76 o_X7_cook v_X7_cook rfl (by decide) rfl rfl (m_X7_cook hG M1.2.1) (by decide) rfl (Nat.le_of_ble_eq_true rfl) (fun r567 h567 hq567 => ?_)
  obtain ⟨rfl, C2, F2⟩ := hq567
  have W2 := asM W M1 C2 F2
  refine q_icmp_eq (tgt := 1162) dL_law_570 (by decide) (fun c_570 => ?_) (fun c_570 => ?_)
  · exact kk _ (W2)
  · exact absurd rfl c_570
theorem la_15 {G : WT} {l : Launch} (hG : GOK G) {nc ns i : Nat} (hL : gL G < 2 ^ 31) (hi : i + 6 ≤ gL G) {h : Hp} (W0 : Good h) {Q : Option Value → Hp → Prop} (kk : ∀ h', Good h' → WpN nc ns G l 60 RL cL_law 4 ret 1162 [.ref (gX G), .ref (gA G 0), .ref (gA G 134), .int (nI i)] [] h' Q) : WpN nc ns G l 60 RL cL_law 4 ret 575 [.ref (gX G), .ref (gA G 0), .ref (gA G 134), .int (nI i)] [] h Q := by
  obtain ⟨T, im, n, hs, X, tr, P, W⟩ := W0
  refine q_aload_n dL_law_575 rfl ?_
  refine q_aload_n dL_law_576 rfl ?_
  refine q_iload_n dL_law_577 rfl ?_
  refine q_iconst (v := 1) dL_law_578 (by decide) ?_
  refine q_iadd dL_law_579 ?_
  refine q_sld (i + 1) dL_law_580 (ix_1 rfl) (show i + 1 < gL G by omega) hL ?_
  refine q_callV dL_law_581 l_L_77 o_X6_thin v_X6_thin rfl (by decide) rfl rfl (m_X6_thin hG W.2.1.1 W.2.1.2.2.2.2.2.2) (by decide) rfl (Nat.le_of_ble_eq_true rfl) (fun r581 h581 hq581 => ?_)
  obtain ⟨rfl, D1, F1⟩ := hq581
  have M1 := asD W D1 F1
  refine q_aload_n dL_law_584 rfl ?_
  refine q_aload_n dL_law_585 rfl ?_
  refine q_iload_n dL_law_586 rfl ?_
  refine q_iconst (v := 1) dL_law_587 (by decide) ?_
  refine q_iadd dL_law_588 ?_
  refine q_sld (i + 1) dL_law_589 (ix_1 rfl) (show i + 1 < gL G by omega) hL ?_
  refine q_callV dL_law_590 l_L_80 o_X7_thin v_X7_thin rfl (by decide) rfl rfl (m_X7_thin hG M1.2.1) (by decide) rfl (Nat.le_of_ble_eq_true rfl) (fun r590 h590 hq590 => ?_)
  obtain ⟨rfl, C2, F2⟩ := hq590
  have W2 := asM W M1 C2 F2
  refine q_icmp_eq (tgt := 1162) dL_law_593 (by decide) (fun c_593 => ?_) (fun c_593 => ?_)
  · exact kk _ (W2)
  · exact absurd rfl c_593
theorem la_16 {G : WT} {l : Launch} (hG : GOK G) {nc ns i : Nat} (hL : gL G < 2 ^ 31) (hi : i + 6 ≤ gL G) {h : Hp} (W0 : Good h) {Q : Option Value → Hp → Prop} (kk : ∀ h', Good h' → WpN nc ns G l 60 RL cL_law 4 ret 1162 [.ref (gX G), .ref (gA G 0), .ref (gA G 134), .int (nI i)] [] h' Q) : WpN nc ns G l 60 RL cL_law 4 ret 598 [.ref (gX G), .ref (gA G 0), .ref (gA G 134), .int (nI i)] [] h Q := by
  obtain ⟨T, im, n, hs, X, tr, P, W⟩ := W0
  refine q_aload_n dL_law_598 rfl ?_
  refine q_aload_n dL_law_599 rfl ?_
  refine q_iload_n dL_law_600 rfl ?_
  refine q_iconst (v := 1) dL_law_601 (by decide) ?_
  refine q_iadd dL_law_602 ?_
  refine q_sld (i + 1) dL_law_603 (ix_1 rfl) (show i + 1 < gL G by omega) hL ?_
  refine q_aload_n dL_law_604 rfl ?_
  refine q_iload_n dL_law_605 rfl ?_
  refine q_iconst (v := 2) dL_law_606 (by decide) ?_
  refine q_iadd dL_law_607 ?_
  refine q_sld (i + 2) dL_law_608 (ix_1 rfl) (show i + 2 < gL G by omega) hL ?_
  refine q_aload_n dL_law_609 rfl ?_
  refine q_iload_n dL_law_610 rfl ?_
  refine q_iconst (v := 3) dL_law_611 (by decide) ?_
  refine q_iadd dL_law_612 ?_
  refine q_sld (i + 3) dL_law_613 (ix_1 rfl) (show i + 3 < gL G by omega) hL ?_
  refine q_callV dL_law_614 l_L_81 o_X6_pact v_X6_pact rfl (by decide) rfl rfl (m_X6_pact hG W.2.1.1) (by decide) rfl (Nat.le_of_ble_eq_true rfl) (fun r614 h614 hq614 => ?_)
  obtain ⟨rfl, D1, F1⟩ := hq614
  have M1 := asD W D1 F1
  refine q_aload_n dL_law_617 rfl ?_
  refine q_aload_n dL_law_618 rfl ?_
  refine q_iload_n dL_law_619 rfl ?_
  refine q_iconst (v := 1) dL_law_620 (by decide) ?_
  refine q_iadd dL_law_621 ?_
  refine q_sld (i + 1) dL_law_622 (ix_1 rfl) (show i + 1 < gL G by omega) hL ?_
  refine q_aload_n dL_law_623 rfl ?_
  refine q_iload_n dL_law_624 rfl ?_
  refine q_iconst (v := 2) dL_law_625 (by decide) ?_
  refine q_iadd dL_law_626 ?_
  refine q_sld (i + 2) dL_law_627 (ix_1 rfl) (show i + 2 < gL G by omega) hL ?_
  refine q_aload_n dL_law_628 rfl ?_
  refine q_iload_n dL_law_629 rfl ?_
  refine q_iconst (v := 3) dL_law_630 (by decide) ?_
  refine q_iadd dL_law_631 ?_
  refine q_sld (i + 3) dL_law_632 (ix_1 rfl) (show i + 3 < gL G by omega) hL ?_
  refine q_callV dL_law_633 l_L_84 o_X7_pact v_X7_pact rfl (by decide) rfl rfl (m_X7_pact hG M1.2.1) (by decide) rfl (Nat.le_of_ble_eq_true rfl) (fun r633 h633 hq633 => ?_)
  obtain ⟨rfl, C2, F2⟩ := hq633
  have W2 := asM W M1 C2 F2
  refine q_icmp_eq (tgt := 1162) dL_law_636 (by decide) (fun c_636 => ?_) (fun c_636 => ?_)
  · exact kk _ (W2)
  · exact absurd rfl c_636
theorem la_17 {G : WT} {l : Launch} (hG : GOK G) {nc ns i : Nat} (hL : gL G < 2 ^ 31) (hi : i + 6 ≤ gL G) {h : Hp} (W0 : Good h) {Q : Option Value → Hp → Prop} (kk : ∀ h', Good h' → WpN nc ns G l 60 RL cL_law 4 ret 1162 [.ref (gX G), .ref (gA G 0), .ref (gA G 134), .int (nI i)] [] h' Q) : WpN nc ns G l 60 RL cL_law 4 ret 641 [.ref (gX G), .ref (gA G 0), .ref (gA G 134), .int (nI i)] [] h Q := by
  obtain ⟨T, im, n, hs, X, tr, P, W⟩ := W0
  refine q_aload_n dL_law_641 rfl ?_
  refine q_aload_n dL_law_642 rfl ?_
  refine q_iload_n dL_law_643 rfl ?_
  refine q_iconst (v := 1) dL_law_644 (by decide) ?_
  refine q_iadd dL_law_645 ?_
  refine q_sld (i + 1) dL_law_646 (ix_1 rfl) (show i + 1 < gL G by omega) hL ?_
  refine q_callV dL_law_647 l_L_85 o_X6_guest v_X6_guest rfl (by decide) rfl rfl (m_X6_guest hG W.2.1.1) (by decide) rfl (Nat.le_of_ble_eq_true rfl) (fun r647 h647 hq647 => ?_)
  obtain ⟨rfl, D1, F1⟩ := hq647
  have M1 := asD W D1 F1
  refine q_aload_n dL_law_650 rfl ?_
  refine q_aload_n dL_law_651 rfl ?_
  refine q_iload_n dL_law_652 rfl ?_
  refine q_iconst (v := 1) dL_law_653 (by decide) ?_
  refine q_iadd dL_law_654 ?_
  refine q_sld (i + 1) dL_law_655 (ix_1 rfl) (show i + 1 < gL G by omega) hL ?_
  refine q_callV dL_law_656 l_L_88 o_X7_guest v_X7_guest rfl (by decide) rfl rfl (m_X7_guest hG M1.2.1) (by decide) rfl (Nat.le_of_ble_eq_true rfl) (fun r656 h656 hq656 => ?_)
  obtain ⟨rfl, C2, F2⟩ := hq656
  have W2 := asM W M1 C2 F2
  refine q_icmp_eq (tgt := 1162) dL_law_659 (by decide) (fun c_659 => ?_) (fun c_659 => ?_)
  · exact kk _ (W2)
  · exact absurd rfl c_659
theorem la_18 {G : WT} {l : Launch} (hG : GOK G) {nc ns i : Nat} (hL : gL G < 2 ^ 31) (hi : i + 6 ≤ gL G) {h : Hp} (W0 : Good h) {Q : Option Value → Hp → Prop} (kk : ∀ h', Good h' → WpN nc ns G l 60 RL cL_law 4 ret 1162 [.ref (gX G), .ref (gA G 0), .ref (gA G 134), .int (nI i)] [] h' Q) : WpN nc ns G l 60 RL cL_law 4 ret 664 [.ref (gX G), .ref (gA G 0), .ref (gA G 134), .int (nI i)] [] h Q := by
  obtain ⟨T, im, n, hs, X, tr, P, W⟩ := W0
  refine q_aload_n dL_law_664 rfl ?_
  refine q_aload_n dL_law_665 rfl ?_
  refine q_iload_n dL_law_666 rfl ?_
  refine q_iconst (v := 1) dL_law_667 (by decide) ?_
  refine q_iadd dL_law_668 ?_
  refine q_sld (i + 1) dL_law_669 (ix_1 rfl) (show i + 1 < gL G by omega) hL ?_
  refine q_aload_n dL_law_670 rfl ?_
  refine q_iload_n dL_law_671 rfl ?_
  refine q_iconst (v := 2) dL_law_672 (by decide) ?_
  refine q_iadd dL_law_673 ?_
  refine q_sld (i + 2) dL_law_674 (ix_1 rfl) (show i + 2 < gL G by omega) hL ?_
  refine q_callV dL_law_675 l_L_89 o_X6_odds v_X6_odds rfl (by decide) rfl rfl (m_X6_odds hG W.2.1.1) (by decide) rfl (Nat.le_of_ble_eq_true rfl) (fun r675 h675 hq675 => ?_)
  obtain ⟨rfl, D1, F1⟩ := hq675
  have M1 := asD W D1 F1
  refine q_aload_n dL_law_678 rfl ?_
  refine q_aload_n dL_law_679 rfl ?_
  refine q_iload_n dL_law_680 rfl ?_
  refine q_iconst (v := 1) dL_law_681 (by decide) ?_
  refine q_iadd dL_law_682 ?_
  refine q_sld (i + 1) dL_law_683 (ix_1 rfl) (show i + 1 < gL G by omega) hL ?_
  refine q_aload_n dL_law_684 rfl ?_
  refine q_iload_n dL_law_685 rfl ?_
  refine q_iconst (v := 2) dL_law_686 (by decide) ?_
  refine q_iadd dL_law_687 ?_
  refine q_sld (i + 2) dL_law_688 (ix_1 rfl) (show i + 2 < gL G by omega) hL ?_
  refine q_callV dL_law_689 l_L_93 o_X7_odds v_X7_odds rfl (by decide) rfl rfl (m_X7_odds hG M1.2.1) (by decide) rfl (Nat.le_of_ble_eq_true rfl) (fun r689 h689 hq689 => ?_)
  obtain ⟨rfl, C2, F2⟩ := hq689
  have W2 := asM W M1 C2 F2
  refine q_lcmp dL_law_692 ?_
  refine q_if_eq (tgt := 1162) dL_law_693 (by decide) (fun c_693 => ?_) (fun c_693 => ?_)
  · exact kk _ (W2)
  · exact absurd (lcmp_0.mpr rfl) c_693
theorem la_19 {G : WT} {l : Launch} (hG : GOK G) {nc ns i : Nat} (hL : gL G < 2 ^ 31) (hi : i + 6 ≤ gL G) {h : Hp} (W0 : Good h) {Q : Option Value → Hp → Prop} (kk : ∀ h', Good h' → WpN nc ns G l 60 RL cL_law 4 ret 1162 [.ref (gX G), .ref (gA G 0), .ref (gA G 134), .int (nI i)] [] h' Q) : WpN nc ns G l 60 RL cL_law 4 ret 698 [.ref (gX G), .ref (gA G 0), .ref (gA G 134), .int (nI i)] [] h Q := by
  obtain ⟨T, im, n, hs, X, tr, P, W⟩ := W0
  refine q_aload_n dL_law_698 rfl ?_
  refine q_aload_n dL_law_699 rfl ?_
  refine q_iload_n dL_law_700 rfl ?_
  refine q_iconst (v := 1) dL_law_701 (by decide) ?_
  refine q_iadd dL_law_702 ?_
  refine q_sld (i + 1) dL_law_703 (ix_1 rfl) (show i + 1 < gL G by omega) hL ?_
  refine q_aload_n dL_law_704 rfl ?_
  refine q_iload_n dL_law_705 rfl ?_
  refine q_iconst (v := 2) dL_law_706 (by decide) ?_
  refine q_iadd dL_law_707 ?_
  refine q_sld (i + 2) dL_law_708 (ix_1 rfl) (show i + 2 < gL G by omega) hL ?_
  refine q_callV dL_law_709 l_L_94 o_X6_mean v_X6_mean rfl (by decide) rfl rfl (m_X6_mean hG W.2.1.1) (by decide) rfl (Nat.le_of_ble_eq_true rfl) (fun r709 h709 hq709 => ?_)
  obtain ⟨rfl, D1, F1⟩ := hq709
  have M1 := asD W D1 F1
  refine q_aload_n dL_law_712 rfl ?_
  refine q_aload_n dL_law_713 rfl ?_
  refine q_iload_n dL_law_714 rfl ?_
  refine q_iconst (v := 1) dL_law_715 (by decide) ?_
  refine q_iadd dL_law_716 ?_
  refine q_sld (i + 1) dL_law_717 (ix_1 rfl) (show i + 1 < gL G by omega) hL ?_
  refine q_aload_n dL_law_718 rfl ?_
  refine q_iload_n dL_law_719 rfl ?_
  refine q_iconst (v := 2) dL_law_720 (by decide) ?_
  refine q_iadd dL_law_721 ?_
  refine q_sld (i + 2) dL_law_722 (ix_1 rfl) (show i + 2 < gL G by omega) hL ?_
  refine q_callV dL_law_723 l_L_97 o_X7_mean v_X7_mean rfl (by decide) rfl rfl (m_X7_mean hG M1.2.1) (by decide) rfl (Nat.le_of_ble_eq_true rfl) (fun r723 h723 hq723 => ?_)
  obtain ⟨rfl, C2, F2⟩ := hq723
  have W2 := asM W M1 C2 F2
  refine q_lcmp dL_law_726 ?_
  refine q_if_eq (tgt := 1162) dL_law_727 (by decide) (fun c_727 => ?_) (fun c_727 => ?_)
  · exact kk _ (W2)
  · exact absurd (lcmp_0.mpr rfl) c_727
theorem la_20 {G : WT} {l : Launch} (hG : GOK G) {nc ns i : Nat} (hL : gL G < 2 ^ 31) (hi : i + 6 ≤ gL G) {h : Hp} (W0 : Good h) {Q : Option Value → Hp → Prop} (kk : ∀ h', Good h' → WpN nc ns G l 60 RL cL_law 4 ret 1162 [.ref (gX G), .ref (gA G 0), .ref (gA G 134), .int (nI i)] [] h' Q) : WpN nc ns G l 60 RL cL_law 4 ret 732 [.ref (gX G), .ref (gA G 0), .ref (gA G 134), .int (nI i)] [] h Q := by
  obtain ⟨T, im, n, hs, X, tr, P, W⟩ := W0
  obtain ⟨⟨⟨k1, k2, k3, k4⟩, k5, k6, k7, k8, k9⟩, ⟨d1, ⟨d2, d2i⟩, d3, d4, dac, d6, d7⟩, ⟨m1, ⟨m2, m2t⟩, ⟨m3, m3i⟩, ⟨m4, m4l⟩, mtx, mac, mtp, mle⟩⟩ := id W
  refine q_aload_n dL_law_732 rfl ?_
  refine q_aload_n dL_law_733 rfl ?_
  refine q_iload_n dL_law_734 rfl ?_
  refine q_iconst (v := 1) dL_law_735 (by decide) ?_
  refine q_iadd dL_law_736 ?_
  refine q_sld (i + 1) dL_law_737 (ix_1 rfl) (show i + 1 < gL G by omega) hL ?_
  refine q_callV dL_law_738 l_L_98 o_X6_book v_X6_book rfl (by decide) rfl rfl (m_X6_book hG d1) (by decide) rfl (Nat.le_of_ble_eq_true rfl) (fun r738 h738 hq738 => ?_)
  obtain ⟨rfl, D1, F1⟩ := hq738
  have M1 := bkD W D1 F1
  refine q_aload_n dL_law_741 rfl ?_
  refine q_aload_n dL_law_742 rfl ?_
  refine q_iload_n dL_law_743 rfl ?_
  refine q_iconst (v := 1) dL_law_744 (by decide) ?_
  refine q_iadd dL_law_745 ?_
  refine q_sld (i + 1) dL_law_746 (ix_1 rfl) (show i + 1 < gL G by omega) hL ?_
  refine q_callV dL_law_747 l_L_101 o_X7_book v_X7_book rfl (by decide) rfl rfl (m_X7_book hG M1.2.2.1.1 k1) (by decide) rfl (Nat.le_of_ble_eq_true rfl) (fun r747 h747 hq747 => ?_)
  obtain ⟨rfl, C2, ok2, F2⟩ := hq747
  have W2 := bkM W M1 C2 ok2 F2
  refine q_icmp_eq (tgt := 1162) dL_law_750 (by decide) (fun c_750 => ?_) (fun c_750 => ?_)
  · exact kk _ (W2)
  · exact absurd rfl c_750
theorem la_21 {G : WT} {l : Launch} (hG : GOK G) {nc ns i : Nat} (hL : gL G < 2 ^ 31) (hi : i + 6 ≤ gL G) {h : Hp} (W0 : Good h) {Q : Option Value → Hp → Prop} (kk : ∀ h', Good h' → WpN nc ns G l 60 RL cL_law 4 ret 1162 [.ref (gX G), .ref (gA G 0), .ref (gA G 134), .int (nI i)] [] h' Q) : WpN nc ns G l 60 RL cL_law 4 ret 755 [.ref (gX G), .ref (gA G 0), .ref (gA G 134), .int (nI i)] [] h Q := by
  obtain ⟨T, im, n, hs, X, tr, P, W⟩ := W0
  refine q_aload_n dL_law_755 rfl ?_
  refine q_callV dL_law_756 l_L_102 o_X6_looked v_X6_looked rfl (by decide) rfl rfl (m_X6_looked hG W.2.1.1) (by decide) rfl (Nat.le_of_ble_eq_true rfl) (fun r756 h756 hq756 => ?_)
  obtain ⟨rfl, D1, F1⟩ := hq756
  have M1 := asD W D1 F1
  refine q_aload_n dL_law_759 rfl ?_
  refine q_callV dL_law_760 l_L_105 o_X7_looked v_X7_looked rfl (by decide) rfl rfl (m_X7_looked hG M1.2.1 M1.2.2.1.1.1 M1.2.2.1.1.2) (by decide) rfl (Nat.le_of_ble_eq_true rfl) (fun r760 h760 hq760 => ?_)
  obtain ⟨rfl, C2, F2⟩ := hq760
  have W2 := asM W M1 C2 F2
  refine q_icmp_eq (tgt := 1162) dL_law_763 (by decide) (fun c_763 => ?_) (fun c_763 => ?_)
  · exact kk _ (W2)
  · exact absurd rfl c_763
theorem la_22 {G : WT} {l : Launch} (hG : GOK G) {nc ns i : Nat} (hL : gL G < 2 ^ 31) (hi : i + 6 ≤ gL G) {h : Hp} (W0 : Good h) {Q : Option Value → Hp → Prop} (kk : ∀ h', Good h' → WpN nc ns G l 60 RL cL_law 4 ret 1162 [.ref (gX G), .ref (gA G 0), .ref (gA G 134), .int (nI i)] [] h' Q) : WpN nc ns G l 60 RL cL_law 4 ret 768 [.ref (gX G), .ref (gA G 0), .ref (gA G 134), .int (nI i)] [] h Q := by
  obtain ⟨T, im, n, hs, X, tr, P, W⟩ := W0
  obtain ⟨⟨⟨k1, k2, k3, k4⟩, k5, k6, k7, k8, k9⟩, ⟨d1, ⟨d2, d2i⟩, d3, d4, dac, d6, d7⟩, ⟨m1, ⟨m2, m2t⟩, ⟨m3, m3i⟩, ⟨m4, m4l⟩, mtx, mac, mtp, mle⟩⟩ := id W
  refine q_aload_n dL_law_768 rfl ?_
  refine q_aload_n dL_law_769 rfl ?_
  refine q_iload_n dL_law_770 rfl ?_
  refine q_iconst (v := 1) dL_law_771 (by decide) ?_
  refine q_iadd dL_law_772 ?_
  refine q_sld (i + 1) dL_law_773 (ix_1 rfl) (show i + 1 < gL G by omega) hL ?_
  refine q_aload_n dL_law_774 rfl ?_
  refine q_iload_n dL_law_775 rfl ?_
  refine q_iconst (v := 2) dL_law_776 (by decide) ?_
  refine q_iadd dL_law_777 ?_
  refine q_sld (i + 2) dL_law_778 (ix_1 rfl) (show i + 2 < gL G by omega) hL ?_
  refine q_callV dL_law_779 l_L_106 o_X6_judge v_X6_judge rfl (by decide) rfl rfl (m_X6_judge hG d1.1 k1 d6 k8) (by decide) rfl (Nat.le_of_ble_eq_true rfl) (fun r779 h779 hq779 => ?_)
  obtain ⟨rfl, rfl⟩ := hq779
  refine q_aload_n dL_law_782 rfl ?_
  refine q_aload_n dL_law_783 rfl ?_
  refine q_iload_n dL_law_784 rfl ?_
  refine q_iconst (v := 1) dL_law_785 (by decide) ?_
  refine q_iadd dL_law_786 ?_
  refine q_sld (i + 1) dL_law_787 (ix_1 rfl) (show i + 1 < gL G by omega) hL ?_
  refine q_aload_n dL_law_788 rfl ?_
  refine q_iload_n dL_law_789 rfl ?_
  refine q_iconst (v := 2) dL_law_790 (by decide) ?_
  refine q_iadd dL_law_791 ?_
  refine q_sld (i + 2) dL_law_792 (ix_1 rfl) (show i + 2 < gL G by omega) hL ?_
  refine q_callV dL_law_793 l_L_109 o_X7_judge v_X7_judge rfl (by decide) rfl rfl (m_X7_judge hG m1.1.1 k1 mtp k8) (by decide) rfl (Nat.le_of_ble_eq_true rfl) (fun r793 h793 hq793 => ?_)
  obtain ⟨rfl, rfl⟩ := hq793
  refine q_icmp_eq (tgt := 1162) dL_law_796 (by decide) (fun c_796 => ?_) (fun c_796 => ?_)
  · exact kk _ (W.good)
  · exact absurd rfl c_796
theorem la_23 {G : WT} {l : Launch} (hG : GOK G) {nc ns i : Nat} (hL : gL G < 2 ^ 31) (hi : i + 6 ≤ gL G) {h : Hp} (W0 : Good h) {Q : Option Value → Hp → Prop} (kk : ∀ h', Good h' → WpN nc ns G l 60 RL cL_law 4 ret 1162 [.ref (gX G), .ref (gA G 0), .ref (gA G 134), .int (nI i)] [] h' Q) : WpN nc ns G l 60 RL cL_law 4 ret 801 [.ref (gX G), .ref (gA G 0), .ref (gA G 134), .int (nI i)] [] h Q := by
  obtain ⟨T, im, n, hs, X, tr, P, W⟩ := W0
  obtain ⟨⟨⟨k1, k2, k3, k4⟩, k5, k6, k7, k8, k9⟩, ⟨d1, ⟨d2, d2i⟩, d3, d4, dac, d6, d7⟩, ⟨m1, ⟨m2, m2t⟩, ⟨m3, m3i⟩, ⟨m4, m4l⟩, mtx, mac, mtp, mle⟩⟩ := id W
  refine q_aload_n dL_law_801 rfl ?_
  refine q_callV dL_law_802 l_L_110 o_X6_image v_X6_image rfl (by decide) rfl rfl (m_X6_image hG d1.1) (by decide) rfl (Nat.le_of_ble_eq_true rfl) (fun r802 h802 hq802 => ?_)
  obtain ⟨rfl, D1, D2, F1⟩ := hq802
  have M1 := imD W D1 D2 F1
  refine q_aload_n dL_law_805 rfl ?_
  refine q_callV dL_law_806 l_L_113 o_X7_image v_X7_image rfl (by decide) rfl rfl (m_X7_image hG k1 M1.2.1.1.1 M1.2.2.1.1 M1.2.2.1.2) (by decide) rfl (Nat.le_of_ble_eq_true rfl) (fun r806 h806 hq806 => ?_)
  obtain ⟨rfl, C2, C1, F2⟩ := hq806
  have W2 := imM W M1 C1 C2 F2
  refine q_icmp_eq (tgt := 1162) dL_law_809 (by decide) (fun c_809 => ?_) (fun c_809 => ?_)
  · exact kk _ (W2)
  · exact absurd rfl c_809
theorem la_24 {G : WT} {l : Launch} (hG : GOK G) {nc ns i : Nat} (hL : gL G < 2 ^ 31) (hi : i + 6 ≤ gL G) {h : Hp} (W0 : Good h) {Q : Option Value → Hp → Prop} (kk : ∀ h', Good h' → WpN nc ns G l 60 RL cL_law 4 ret 1162 [.ref (gX G), .ref (gA G 0), .ref (gA G 134), .int (nI i)] [] h' Q) : WpN nc ns G l 60 RL cL_law 4 ret 814 [.ref (gX G), .ref (gA G 0), .ref (gA G 134), .int (nI i)] [] h Q := by
  obtain ⟨T, im, n, hs, X, tr, P, W⟩ := W0
  cases im with
  | none =>
    obtain ⟨⟨⟨k1, k2, k3, k4⟩, k5, k6, k7, k8, k9⟩, ⟨d1, ⟨d2, d2i⟩, d3, d4, dac, d6, d7⟩, ⟨m1, ⟨m2, m2t⟩, ⟨m3, m3i⟩, ⟨m4, m4l⟩, mtx, mac, mtp, mle⟩⟩ := id W
    refine q_aload_n dL_law_814 rfl ?_
    refine q_callV dL_law_815 l_L_114 o_X6_undo v_X6_undo rfl (by decide) rfl rfl (m_X6_undo hG (im := none) d2 d2i) (by decide) rfl (Nat.le_of_ble_eq_true rfl) (fun r815 h815 hq815 => ?_)
    obtain ⟨rfl, rfl⟩ := hq815.1 rfl
    refine q_aload_n dL_law_818 rfl ?_
    refine q_callV dL_law_819 l_L_117 o_X7_undo v_X7_undo rfl (by decide) rfl rfl (m_X7_undo hG (im := none) m3 (fun V hV => by cases hV)) (by decide) rfl (Nat.le_of_ble_eq_true rfl) (fun r819 h819 hq819 => ?_)
    obtain ⟨rfl, rfl⟩ := hq819.1 rfl
    refine q_icmp_eq (tgt := 1162) dL_law_822 (by decide) (fun c_822 => ?_) (fun c_822 => ?_)
    · exact kk _ (W.good)
    · exact absurd rfl c_822
  | some U =>
    obtain ⟨⟨⟨k1, k2, k3, k4⟩, k5, k6, k7, k8, k9⟩, ⟨d1, ⟨d2, d2i⟩, d3, d4, dac, d6, d7⟩, ⟨m1, ⟨m2, m2t⟩, ⟨m3, m3i⟩, ⟨m4, m4l⟩, mtx, mac, mtp, mle⟩⟩ := id W
    refine q_aload_n dL_law_814 rfl ?_
    refine q_callV dL_law_815 l_L_114 o_X6_undo v_X6_undo rfl (by decide) rfl rfl (m_X6_undo hG (im := some U) d2 d2i) (by decide) rfl (Nat.le_of_ble_eq_true rfl) (fun r815 h815 hq815 => ?_)
    obtain ⟨rfl, D1, F1⟩ := hq815.2 U rfl
    have M1 := unD W rfl D1 F1
    refine q_aload_n dL_law_818 rfl ?_
    refine q_callV dL_law_819 l_L_117 o_X7_undo v_X7_undo rfl (by decide) rfl rfl (m_X7_undo hG (im := some U) M1.2.2.2.1.1 (fun V hV => ⟨(k5 V hV).1, M1.2.2.2.1.2 V hV⟩)) (by decide) rfl (Nat.le_of_ble_eq_true rfl) (fun r819 h819 hq819 => ?_)
    obtain ⟨rfl, C1, C2, C3, F2⟩ := hq819.2 U rfl
    have W2 := unM W rfl M1 C1 C2 C3 F2
    refine q_icmp_eq (tgt := 1162) dL_law_822 (by decide) (fun c_822 => ?_) (fun c_822 => ?_)
    · exact kk _ (W2)
    · exact absurd rfl c_822
theorem la_25 {G : WT} {l : Launch} (hG : GOK G) {nc ns i : Nat} (hL : gL G < 2 ^ 31) (hi : i + 6 ≤ gL G) {h : Hp} (W0 : Good h) {Q : Option Value → Hp → Prop} (kk : ∀ h', Good h' → WpN nc ns G l 60 RL cL_law 4 ret 1162 [.ref (gX G), .ref (gA G 0), .ref (gA G 134), .int (nI i)] [] h' Q) : WpN nc ns G l 60 RL cL_law 4 ret 827 [.ref (gX G), .ref (gA G 0), .ref (gA G 134), .int (nI i)] [] h Q := by
  obtain ⟨T, im, n, hs, X, tr, P, W⟩ := W0
  obtain ⟨⟨⟨k1, k2, k3, k4⟩, k5, k6, k7, k8, k9⟩, ⟨d1, ⟨d2, d2i⟩, d3, d4, dac, d6, d7⟩, ⟨m1, ⟨m2, m2t⟩, ⟨m3, m3i⟩, ⟨m4, m4l⟩, mtx, mac, mtp, mle⟩⟩ := id W
  refine q_aload_n dL_law_827 rfl ?_
  refine q_aload_n dL_law_828 rfl ?_
  refine q_iload_n dL_law_829 rfl ?_
  refine q_iconst (v := 1) dL_law_830 (by decide) ?_
  refine q_iadd dL_law_831 ?_
  refine q_sld (i + 1) dL_law_832 (ix_1 rfl) (show i + 1 < gL G by omega) hL ?_
  refine q_aload_n dL_law_833 rfl ?_
  refine q_iload_n dL_law_834 rfl ?_
  refine q_iconst (v := 2) dL_law_835 (by decide) ?_
  refine q_iadd dL_law_836 ?_
  refine q_sld (i + 2) dL_law_837 (ix_1 rfl) (show i + 2 < gL G by omega) hL ?_
  refine q_aload_n dL_law_838 rfl ?_
  refine q_iload_n dL_law_839 rfl ?_
  refine q_iconst (v := 3) dL_law_840 (by decide) ?_
  refine q_iadd dL_law_841 ?_
  refine q_sld (i + 3) dL_law_842 (ix_1 rfl) (show i + 3 < gL G by omega) hL ?_
  refine q_callV dL_law_843 l_L_118 o_X6_act v_X6_act rfl (by decide) rfl rfl (m_X6_act hG d1.1 k1) (by decide) rfl (Nat.le_of_ble_eq_true rfl) (fun r843 h843 hq843 => ?_)
  obtain ⟨rfl, D1, F1⟩ := hq843
  have M1 := acD W D1 F1
  refine q_aload_n dL_law_846 rfl ?_
  refine q_aload_n dL_law_847 rfl ?_
  refine q_iload_n dL_law_848 rfl ?_
  refine q_iconst (v := 1) dL_law_849 (by decide) ?_
  refine q_iadd dL_law_850 ?_
  refine q_sld (i + 1) dL_law_851 (ix_1 rfl) (show i + 1 < gL G by omega) hL ?_
  refine q_aload_n dL_law_852 rfl ?_
  refine q_iload_n dL_law_853 rfl ?_
  refine q_iconst (v := 2) dL_law_854 (by decide) ?_
  refine q_iadd dL_law_855 ?_
  refine q_sld (i + 2) dL_law_856 (ix_1 rfl) (show i + 2 < gL G by omega) hL ?_
  refine q_aload_n dL_law_857 rfl ?_
  refine q_iload_n dL_law_858 rfl ?_
  refine q_iconst (v := 3) dL_law_859 (by decide) ?_
  refine q_iadd dL_law_860 ?_
  refine q_sld (i + 3) dL_law_861 (ix_1 rfl) (show i + 3 < gL G by omega) hL ?_
  refine q_callV dL_law_862 l_L_121 o_X7_act v_X7_act rfl (by decide) rfl rfl (m_X7_act hG M1.2.1.1.1 k1) (by decide) rfl (Nat.le_of_ble_eq_true rfl) (fun r862 h862 hq862 => ?_)
  obtain ⟨rfl, C2, F2⟩ := hq862
  have W2 := acM W M1 C2 (Nat.le_trans (actS_len _ _ _ _) (by omega)) F2
  refine q_icmp_eq (tgt := 1162) dL_law_865 (by decide) (fun c_865 => ?_) (fun c_865 => ?_)
  · exact kk _ (W2)
  · exact absurd rfl c_865
theorem la_26 {G : WT} {l : Launch} (hG : GOK G) {nc ns i : Nat} (hL : gL G < 2 ^ 31) (hi : i + 6 ≤ gL G) {h : Hp} (W0 : Good h) {Q : Option Value → Hp → Prop} (kk : ∀ h', Good h' → WpN nc ns G l 60 RL cL_law 4 ret 1162 [.ref (gX G), .ref (gA G 0), .ref (gA G 134), .int (nI i)] [] h' Q) : WpN nc ns G l 60 RL cL_law 4 ret 870 [.ref (gX G), .ref (gA G 0), .ref (gA G 134), .int (nI i)] [] h Q := by
  obtain ⟨T, im, n, hs, X, tr, P, W⟩ := W0
  obtain ⟨⟨⟨k1, k2, k3, k4⟩, k5, k6, k7, k8, k9⟩, ⟨d1, ⟨d2, d2i⟩, d3, d4, dac, d6, d7⟩, ⟨m1, ⟨m2, m2t⟩, ⟨m3, m3i⟩, ⟨m4, m4l⟩, mtx, mac, mtp, mle⟩⟩ := id W
  refine q_aload_n dL_law_870 rfl ?_
  refine q_aload_n dL_law_871 rfl ?_
  refine q_iload_n dL_law_872 rfl ?_
  refine q_iconst (v := 1) dL_law_873 (by decide) ?_
  refine q_iadd dL_law_874 ?_
  refine q_sld (i + 1) dL_law_875 (ix_1 rfl) (show i + 1 < gL G by omega) hL ?_
  refine q_callV dL_law_876 l_L_122 o_X6_trace v_X6_trace rfl (by decide) rfl rfl (m_X6_trace hG dac k7) (by decide) rfl (Nat.le_of_ble_eq_true rfl) (fun r876 h876 hq876 => ?_)
  obtain ⟨rfl, rfl⟩ := hq876
  refine q_aload_n dL_law_879 rfl ?_
  refine q_aload_n dL_law_880 rfl ?_
  refine q_iload_n dL_law_881 rfl ?_
  refine q_iconst (v := 1) dL_law_882 (by decide) ?_
  refine q_iadd dL_law_883 ?_
  refine q_sld (i + 1) dL_law_884 (ix_1 rfl) (show i + 1 < gL G by omega) hL ?_
  refine q_callV dL_law_885 l_L_125 o_X7_trace v_X7_trace rfl (by decide) rfl rfl (m_X7_trace hG mac k7) (by decide) rfl (Nat.le_of_ble_eq_true rfl) (fun r885 h885 hq885 => ?_)
  obtain ⟨rfl, rfl⟩ := hq885
  refine q_icmp_eq (tgt := 1162) dL_law_888 (by decide) (fun c_888 => ?_) (fun c_888 => ?_)
  · exact kk _ (W.good)
  · exact absurd rfl c_888
theorem la_27 {G : WT} {l : Launch} (hG : GOK G) {nc ns i : Nat} (hL : gL G < 2 ^ 31) (hi : i + 6 ≤ gL G) {h : Hp} (W0 : Good h) {Q : Option Value → Hp → Prop} (kk : ∀ h', Good h' → WpN nc ns G l 60 RL cL_law 4 ret 1162 [.ref (gX G), .ref (gA G 0), .ref (gA G 134), .int (nI i)] [] h' Q) : WpN nc ns G l 60 RL cL_law 4 ret 893 [.ref (gX G), .ref (gA G 0), .ref (gA G 134), .int (nI i)] [] h Q := by
  obtain ⟨T, im, n, hs, X, tr, P, W⟩ := W0
  obtain ⟨⟨⟨k1, k2, k3, k4⟩, k5, k6, k7, k8, k9⟩, ⟨d1, ⟨d2, d2i⟩, d3, d4, dac, d6, d7⟩, ⟨m1, ⟨m2, m2t⟩, ⟨m3, m3i⟩, ⟨m4, m4l⟩, mtx, mac, mtp, mle⟩⟩ := id W
  refine q_aload_n dL_law_893 rfl ?_
  refine q_aload_n dL_law_894 rfl ?_
  refine q_iload_n dL_law_895 rfl ?_
  refine q_iconst (v := 1) dL_law_896 (by decide) ?_
  refine q_iadd dL_law_897 ?_
  refine q_sld (i + 1) dL_law_898 (ix_1 rfl) (show i + 1 < gL G by omega) hL ?_
  refine q_aload_n dL_law_899 rfl ?_
  refine q_iload_n dL_law_900 rfl ?_
  refine q_iconst (v := 2) dL_law_901 (by decide) ?_
  refine q_iadd dL_law_902 ?_
  refine q_sld (i + 2) dL_law_903 (ix_1 rfl) (show i + 2 < gL G by omega) hL ?_
  refine q_callV dL_law_904 l_L_126 o_X6_taken v_X6_taken rfl (by decide) rfl rfl (m_X6_taken hG d1.1 k1) (by decide) rfl (Nat.le_of_ble_eq_true rfl) (fun r904 h904 hq904 => ?_)
  obtain ⟨rfl, rfl⟩ := hq904
  refine q_aload_n dL_law_907 rfl ?_
  refine q_aload_n dL_law_908 rfl ?_
  refine q_iload_n dL_law_909 rfl ?_
  refine q_iconst (v := 1) dL_law_910 (by decide) ?_
  refine q_iadd dL_law_911 ?_
  refine q_sld (i + 1) dL_law_912 (ix_1 rfl) (show i + 1 < gL G by omega) hL ?_
  refine q_aload_n dL_law_913 rfl ?_
  refine q_iload_n dL_law_914 rfl ?_
  refine q_iconst (v := 2) dL_law_915 (by decide) ?_
  refine q_iadd dL_law_916 ?_
  refine q_sld (i + 2) dL_law_917 (ix_1 rfl) (show i + 2 < gL G by omega) hL ?_
  refine q_callV dL_law_918 l_L_129 o_X7_taken v_X7_taken rfl (by decide) rfl rfl (m_X7_taken hG m1.1.1 k1) (by decide) rfl (Nat.le_of_ble_eq_true rfl) (fun r918 h918 hq918 => ?_)
  obtain ⟨rfl, rfl⟩ := hq918
  refine q_icmp_eq (tgt := 1162) dL_law_921 (by decide) (fun c_921 => ?_) (fun c_921 => ?_)
  · exact kk _ (W.good)
  · exact absurd rfl c_921
theorem la_28 {G : WT} {l : Launch} (hG : GOK G) {nc ns i : Nat} (hL : gL G < 2 ^ 31) (hi : i + 6 ≤ gL G) {h : Hp} (W0 : Good h) {Q : Option Value → Hp → Prop} (kk : ∀ h', Good h' → WpN nc ns G l 60 RL cL_law 4 ret 1162 [.ref (gX G), .ref (gA G 0), .ref (gA G 134), .int (nI i)] [] h' Q) : WpN nc ns G l 60 RL cL_law 4 ret 926 [.ref (gX G), .ref (gA G 0), .ref (gA G 134), .int (nI i)] [] h Q := by
  obtain ⟨T, im, n, hs, X, tr, P, W⟩ := W0
  obtain ⟨⟨⟨k1, k2, k3, k4⟩, k5, k6, k7, k8, k9⟩, ⟨d1, ⟨d2, d2i⟩, d3, d4, dac, d6, d7⟩, ⟨m1, ⟨m2, m2t⟩, ⟨m3, m3i⟩, ⟨m4, m4l⟩, mtx, mac, mtp, mle⟩⟩ := id W
  refine q_aload_n dL_law_926 rfl ?_
  refine q_aload_n dL_law_927 rfl ?_
  refine q_iload_n dL_law_928 rfl ?_
  refine q_iconst (v := 1) dL_law_929 (by decide) ?_
  refine q_iadd dL_law_930 ?_
  refine q_sld (i + 1) dL_law_931 (ix_1 rfl) (show i + 1 < gL G by omega) hL ?_
  refine q_callV dL_law_932 l_L_130 o_X6_count v_X6_count rfl (by decide) rfl rfl (m_X6_count hG d1.1 d4 dac d1.2.2.2.1.1) (by decide) rfl (Nat.le_of_ble_eq_true rfl) (fun r932 h932 hq932 => ?_)
  obtain ⟨rfl, rfl⟩ := hq932
  refine q_aload_n dL_law_935 rfl ?_
  refine q_aload_n dL_law_936 rfl ?_
  refine q_iload_n dL_law_937 rfl ?_
  refine q_iconst (v := 1) dL_law_938 (by decide) ?_
  refine q_iadd dL_law_939 ?_
  refine q_sld (i + 1) dL_law_940 (ix_1 rfl) (show i + 1 < gL G by omega) hL ?_
  refine q_callV dL_law_941 l_L_133 o_X7_count v_X7_count rfl (by decide) rfl rfl (m_X7_count hG m1.1.1 m2 mtx mac m4) (by decide) rfl (Nat.le_of_ble_eq_true rfl) (fun r941 h941 hq941 => ?_)
  obtain ⟨rfl, rfl⟩ := hq941
  refine q_icmp_eq (tgt := 1162) dL_law_944 (by decide) (fun c_944 => ?_) (fun c_944 => ?_)
  · exact kk _ (W.good)
  · exact absurd rfl c_944
theorem la_29 {G : WT} {l : Launch} (hG : GOK G) {nc ns i : Nat} (hL : gL G < 2 ^ 31) (hi : i + 6 ≤ gL G) {h : Hp} (W0 : Good h) {Q : Option Value → Hp → Prop} (kk : ∀ h', Good h' → WpN nc ns G l 60 RL cL_law 4 ret 1162 [.ref (gX G), .ref (gA G 0), .ref (gA G 134), .int (nI i)] [] h' Q) : WpN nc ns G l 60 RL cL_law 4 ret 949 [.ref (gX G), .ref (gA G 0), .ref (gA G 134), .int (nI i)] [] h Q := by
  obtain ⟨T, im, n, hs, X, tr, P, W⟩ := W0
  obtain ⟨⟨⟨k1, k2, k3, k4⟩, k5, k6, k7, k8, k9⟩, ⟨d1, ⟨d2, d2i⟩, d3, d4, dac, d6, d7⟩, ⟨m1, ⟨m2, m2t⟩, ⟨m3, m3i⟩, ⟨m4, m4l⟩, mtx, mac, mtp, mle⟩⟩ := id W
  refine q_aload_n dL_law_949 rfl ?_
  refine q_aload_n dL_law_950 rfl ?_
  refine q_iload_n dL_law_951 rfl ?_
  refine q_iconst (v := 1) dL_law_952 (by decide) ?_
  refine q_iadd dL_law_953 ?_
  refine q_sld (i + 1) dL_law_954 (ix_1 rfl) (show i + 1 < gL G by omega) hL ?_
  refine q_aload_n dL_law_955 rfl ?_
  refine q_iload_n dL_law_956 rfl ?_
  refine q_iconst (v := 2) dL_law_957 (by decide) ?_
  refine q_iadd dL_law_958 ?_
  refine q_sld (i + 2) dL_law_959 (ix_1 rfl) (show i + 2 < gL G by omega) hL ?_
  refine q_aload_n dL_law_960 rfl ?_
  refine q_iload_n dL_law_961 rfl ?_
  refine q_iconst (v := 3) dL_law_962 (by decide) ?_
  refine q_iadd dL_law_963 ?_
  refine q_sld (i + 3) dL_law_964 (ix_1 rfl) (show i + 3 < gL G by omega) hL ?_
  refine q_callV dL_law_965 l_L_134 o_X6_tape v_X6_tape rfl (by decide) rfl rfl (m_X6_tape hG d6 k8) (by decide) rfl (Nat.le_of_ble_eq_true rfl) (fun r965 h965 hq965 => ?_)
  obtain ⟨rfl, D1, ok1, F1⟩ := hq965
  have M1 := tpD W D1 F1
  refine q_aload_n dL_law_968 rfl ?_
  refine q_aload_n dL_law_969 rfl ?_
  refine q_iload_n dL_law_970 rfl ?_
  refine q_iconst (v := 1) dL_law_971 (by decide) ?_
  refine q_iadd dL_law_972 ?_
  refine q_sld (i + 1) dL_law_973 (ix_1 rfl) (show i + 1 < gL G by omega) hL ?_
  refine q_aload_n dL_law_974 rfl ?_
  refine q_iload_n dL_law_975 rfl ?_
  refine q_iconst (v := 2) dL_law_976 (by decide) ?_
  refine q_iadd dL_law_977 ?_
  refine q_sld (i + 2) dL_law_978 (ix_1 rfl) (show i + 2 < gL G by omega) hL ?_
  refine q_aload_n dL_law_979 rfl ?_
  refine q_iload_n dL_law_980 rfl ?_
  refine q_iconst (v := 3) dL_law_981 (by decide) ?_
  refine q_iadd dL_law_982 ?_
  refine q_sld (i + 3) dL_law_983 (ix_1 rfl) (show i + 3 < gL G by omega) hL ?_
  refine q_callV dL_law_984 l_L_137 o_X7_tape v_X7_tape rfl (by decide) rfl rfl (m_X7_tape hG M1.2.2.2.2.2.2.2.1 k8) (by decide) rfl (Nat.le_of_ble_eq_true rfl) (fun r984 h984 hq984 => ?_)
  obtain ⟨rfl, C2, ok2, F2⟩ := hq984
  have W2 := tpM W M1 C2 ok2 F2
  refine q_icmp_eq (tgt := 1162) dL_law_987 (by decide) (fun c_987 => ?_) (fun c_987 => ?_)
  · exact kk _ (W2)
  · exact absurd rfl c_987
theorem la_30 {G : WT} {l : Launch} (hG : GOK G) {nc ns i : Nat} (hL : gL G < 2 ^ 31) (hi : i + 6 ≤ gL G) {h : Hp} (W0 : Good h) {Q : Option Value → Hp → Prop} (kk : ∀ h', Good h' → WpN nc ns G l 60 RL cL_law 4 ret 1162 [.ref (gX G), .ref (gA G 0), .ref (gA G 134), .int (nI i)] [] h' Q) : WpN nc ns G l 60 RL cL_law 4 ret 992 [.ref (gX G), .ref (gA G 0), .ref (gA G 134), .int (nI i)] [] h Q := by
  obtain ⟨T, im, n, hs, X, tr, P, W⟩ := W0
  obtain ⟨⟨⟨k1, k2, k3, k4⟩, k5, k6, k7, k8, k9⟩, ⟨d1, ⟨d2, d2i⟩, d3, d4, dac, d6, d7⟩, ⟨m1, ⟨m2, m2t⟩, ⟨m3, m3i⟩, ⟨m4, m4l⟩, mtx, mac, mtp, mle⟩⟩ := id W
  refine q_aload_n dL_law_992 rfl ?_
  refine q_aload_n dL_law_993 rfl ?_
  refine q_iload_n dL_law_994 rfl ?_
  refine q_iconst (v := 1) dL_law_995 (by decide) ?_
  refine q_iadd dL_law_996 ?_
  refine q_sld (i + 1) dL_law_997 (ix_1 rfl) (show i + 1 < gL G by omega) hL ?_
  refine q_aload_n dL_law_998 rfl ?_
  refine q_iload_n dL_law_999 rfl ?_
  refine q_iconst (v := 2) dL_law_1000 (by decide) ?_
  refine q_iadd dL_law_1001 ?_
  refine q_sld (i + 2) dL_law_1002 (ix_1 rfl) (show i + 2 < gL G by omega) hL ?_
  refine q_aload_n dL_law_1003 rfl ?_
  refine q_iload_n dL_law_1004 rfl ?_
  refine q_iconst (v := 3) dL_law_1005 (by decide) ?_
  refine q_iadd dL_law_1006 ?_
  refine q_sld (i + 3) dL_law_1007 (ix_1 rfl) (show i + 3 < gL G by omega) hL ?_
  refine q_i2l dL_law_1008 ?_
  refine q_bipush (v := 32) dL_law_1009 (by decide) ?_
  refine q_lshl dL_law_1011 ?_
  refine q_aload_n dL_law_1012 rfl ?_
  refine q_iload_n dL_law_1013 rfl ?_
  refine q_iconst (v := 4) dL_law_1014 (by decide) ?_
  refine q_iadd dL_law_1015 ?_
  refine q_sld (i + 4) dL_law_1016 (ix_1 rfl) (show i + 4 < gL G by omega) hL ?_
  refine q_i2l dL_law_1017 ?_
  refine q_ldc2 dL_law_1018 n_L_138 ?_
  refine q_land dL_law_1021 ?_
  refine q_lor dL_law_1022 ?_
  refine q_callV dL_law_1023 l_L_140 o_X6_item v_X6_item rfl (by decide) rfl rfl (m_X6_item hG d6 k8) (by decide) rfl (Nat.le_of_ble_eq_true rfl) (fun r1023 h1023 hq1023 => ?_)
  obtain ⟨rfl, D1, ok1, F1⟩ := hq1023
  have M1 := tpD W D1 F1
  refine q_aload_n dL_law_1026 rfl ?_
  refine q_aload_n dL_law_1027 rfl ?_
  refine q_iload_n dL_law_1028 rfl ?_
  refine q_iconst (v := 1) dL_law_1029 (by decide) ?_
  refine q_iadd dL_law_1030 ?_
  refine q_sld (i + 1) dL_law_1031 (ix_1 rfl) (show i + 1 < gL G by omega) hL ?_
  refine q_aload_n dL_law_1032 rfl ?_
  refine q_iload_n dL_law_1033 rfl ?_
  refine q_iconst (v := 2) dL_law_1034 (by decide) ?_
  refine q_iadd dL_law_1035 ?_
  refine q_sld (i + 2) dL_law_1036 (ix_1 rfl) (show i + 2 < gL G by omega) hL ?_
  refine q_aload_n dL_law_1037 rfl ?_
  refine q_iload_n dL_law_1038 rfl ?_
  refine q_iconst (v := 3) dL_law_1039 (by decide) ?_
  refine q_iadd dL_law_1040 ?_
  refine q_sld (i + 3) dL_law_1041 (ix_1 rfl) (show i + 3 < gL G by omega) hL ?_
  refine q_i2l dL_law_1042 ?_
  refine q_bipush (v := 32) dL_law_1043 (by decide) ?_
  refine q_lshl dL_law_1045 ?_
  refine q_aload_n dL_law_1046 rfl ?_
  refine q_iload_n dL_law_1047 rfl ?_
  refine q_iconst (v := 4) dL_law_1048 (by decide) ?_
  refine q_iadd dL_law_1049 ?_
  refine q_sld (i + 4) dL_law_1050 (ix_1 rfl) (show i + 4 < gL G by omega) hL ?_
  refine q_i2l dL_law_1051 ?_
  refine q_ldc2 dL_law_1052 n_L_138 ?_
  refine q_land dL_law_1055 ?_
  refine q_lor dL_law_1056 ?_
  refine q_callV dL_law_1057 l_L_144 o_X7_item v_X7_item rfl (by decide) rfl rfl (m_X7_item hG M1.2.2.2.2.2.2.2.1 k8) (by decide) rfl (Nat.le_of_ble_eq_true rfl) (fun r1057 h1057 hq1057 => ?_)
  obtain ⟨rfl, C2, ok2, F2⟩ := hq1057
  have W2 := tpM W M1 C2 ok2 F2
  refine q_icmp_eq (tgt := 1162) dL_law_1060 (by decide) (fun c_1060 => ?_) (fun c_1060 => ?_)
  · exact kk _ (W2)
  · exact absurd rfl c_1060
theorem la_31 {G : WT} {l : Launch} (hG : GOK G) {nc ns i : Nat} (hL : gL G < 2 ^ 31) (hi : i + 6 ≤ gL G) {h : Hp} (W0 : Good h) {Q : Option Value → Hp → Prop} (kk : ∀ h', Good h' → WpN nc ns G l 60 RL cL_law 4 ret 1162 [.ref (gX G), .ref (gA G 0), .ref (gA G 134), .int (nI i)] [] h' Q) : WpN nc ns G l 60 RL cL_law 4 ret 1065 [.ref (gX G), .ref (gA G 0), .ref (gA G 134), .int (nI i)] [] h Q := by
  obtain ⟨T, im, n, hs, X, tr, P, W⟩ := W0
  obtain ⟨⟨⟨k1, k2, k3, k4⟩, k5, k6, k7, k8, k9⟩, ⟨d1, ⟨d2, d2i⟩, d3, d4, dac, d6, d7⟩, ⟨m1, ⟨m2, m2t⟩, ⟨m3, m3i⟩, ⟨m4, m4l⟩, mtx, mac, mtp, mle⟩⟩ := id W
  refine q_aload_n dL_law_1065 rfl ?_
  refine q_aload_n dL_law_1066 rfl ?_
  refine q_iload_n dL_law_1067 rfl ?_
  refine q_iconst (v := 1) dL_law_1068 (by decide) ?_
  refine q_iadd dL_law_1069 ?_
  refine q_sld (i + 1) dL_law_1070 (ix_1 rfl) (show i + 1 < gL G by omega) hL ?_
  refine q_aload_n dL_law_1071 rfl ?_
  refine q_iload_n dL_law_1072 rfl ?_
  refine q_iconst (v := 2) dL_law_1073 (by decide) ?_
  refine q_iadd dL_law_1074 ?_
  refine q_sld (i + 2) dL_law_1075 (ix_1 rfl) (show i + 2 < gL G by omega) hL ?_
  refine q_callV dL_law_1076 l_L_145 o_X6_read v_X6_read rfl (by decide) rfl rfl (m_X6_read hG d6 k8) (by decide) rfl (Nat.le_of_ble_eq_true rfl) (fun r1076 h1076 hq1076 => ?_)
  obtain ⟨rfl, rfl⟩ := hq1076
  refine q_aload_n dL_law_1079 rfl ?_
  refine q_aload_n dL_law_1080 rfl ?_
  refine q_iload_n dL_law_1081 rfl ?_
  refine q_iconst (v := 1) dL_law_1082 (by decide) ?_
  refine q_iadd dL_law_1083 ?_
  refine q_sld (i + 1) dL_law_1084 (ix_1 rfl) (show i + 1 < gL G by omega) hL ?_
  refine q_aload_n dL_law_1085 rfl ?_
  refine q_iload_n dL_law_1086 rfl ?_
  refine q_iconst (v := 2) dL_law_1087 (by decide) ?_
  refine q_iadd dL_law_1088 ?_
  refine q_sld (i + 2) dL_law_1089 (ix_1 rfl) (show i + 2 < gL G by omega) hL ?_
  refine q_callV dL_law_1090 l_L_148 o_X7_read v_X7_read rfl (by decide) rfl rfl (m_X7_read hG mtp k8) (by decide) rfl (Nat.le_of_ble_eq_true rfl) (fun r1090 h1090 hq1090 => ?_)
  obtain ⟨rfl, rfl⟩ := hq1090
  refine q_lcmp dL_law_1093 ?_
  refine q_if_eq (tgt := 1162) dL_law_1094 (by decide) (fun c_1094 => ?_) (fun c_1094 => ?_)
  · exact kk _ (W.good)
  · exact absurd (lcmp_0.mpr rfl) c_1094
theorem la_32 {G : WT} {l : Launch} (hG : GOK G) {nc ns i : Nat} (hL : gL G < 2 ^ 31) (hi : i + 6 ≤ gL G) {h : Hp} (W0 : Good h) {Q : Option Value → Hp → Prop} (kk : ∀ h', Good h' → WpN nc ns G l 60 RL cL_law 4 ret 1162 [.ref (gX G), .ref (gA G 0), .ref (gA G 134), .int (nI i)] [] h' Q) : WpN nc ns G l 60 RL cL_law 4 ret 1099 [.ref (gX G), .ref (gA G 0), .ref (gA G 134), .int (nI i)] [] h Q := by
  obtain ⟨T, im, n, hs, X, tr, P, W⟩ := W0
  obtain ⟨⟨⟨k1, k2, k3, k4⟩, k5, k6, k7, k8, k9⟩, ⟨d1, ⟨d2, d2i⟩, d3, d4, dac, d6, d7⟩, ⟨m1, ⟨m2, m2t⟩, ⟨m3, m3i⟩, ⟨m4, m4l⟩, mtx, mac, mtp, mle⟩⟩ := id W
  refine q_aload_n dL_law_1099 rfl ?_
  refine q_aload_n dL_law_1100 rfl ?_
  refine q_iload_n dL_law_1101 rfl ?_
  refine q_iconst (v := 1) dL_law_1102 (by decide) ?_
  refine q_iadd dL_law_1103 ?_
  refine q_sld (i + 1) dL_law_1104 (ix_1 rfl) (show i + 1 < gL G by omega) hL ?_
  refine q_aload_n dL_law_1105 rfl ?_
  refine q_iload_n dL_law_1106 rfl ?_
  refine q_iconst (v := 2) dL_law_1107 (by decide) ?_
  refine q_iadd dL_law_1108 ?_
  refine q_sld (i + 2) dL_law_1109 (ix_1 rfl) (show i + 2 < gL G by omega) hL ?_
  refine q_aload_n dL_law_1110 rfl ?_
  refine q_iload_n dL_law_1111 rfl ?_
  refine q_iconst (v := 3) dL_law_1112 (by decide) ?_
  refine q_iadd dL_law_1113 ?_
  refine q_sld (i + 3) dL_law_1114 (ix_1 rfl) (show i + 3 < gL G by omega) hL ?_
  refine q_aload_n dL_law_1115 rfl ?_
  refine q_iload_n dL_law_1116 rfl ?_
  refine q_iconst (v := 4) dL_law_1117 (by decide) ?_
  refine q_iadd dL_law_1118 ?_
  refine q_sld (i + 4) dL_law_1119 (ix_1 rfl) (show i + 4 < gL G by omega) hL ?_
  refine q_aload_n dL_law_1120 rfl ?_
  refine q_iload_n dL_law_1121 rfl ?_
  refine q_iconst (v := 5) dL_law_1122 (by decide) ?_
  refine q_iadd dL_law_1123 ?_
  refine q_sld (i + 5) dL_law_1124 (ix_1 rfl) (show i + 5 < gL G by omega) hL ?_
  refine q_callV dL_law_1125 l_L_149 o_X6_shift v_X6_shift rfl (by decide) rfl rfl (m_X6_shift hG d6 k8) (by decide) rfl (Nat.le_of_ble_eq_true rfl) (fun r1125 h1125 hq1125 => ?_)
  obtain ⟨rfl, D1, ok1, F1⟩ := hq1125
  have M1 := tpD W D1 F1
  refine q_aload_n dL_law_1128 rfl ?_
  refine q_aload_n dL_law_1129 rfl ?_
  refine q_iload_n dL_law_1130 rfl ?_
  refine q_iconst (v := 1) dL_law_1131 (by decide) ?_
  refine q_iadd dL_law_1132 ?_
  refine q_sld (i + 1) dL_law_1133 (ix_1 rfl) (show i + 1 < gL G by omega) hL ?_
  refine q_aload_n dL_law_1134 rfl ?_
  refine q_iload_n dL_law_1135 rfl ?_
  refine q_iconst (v := 2) dL_law_1136 (by decide) ?_
  refine q_iadd dL_law_1137 ?_
  refine q_sld (i + 2) dL_law_1138 (ix_1 rfl) (show i + 2 < gL G by omega) hL ?_
  refine q_aload_n dL_law_1139 rfl ?_
  refine q_iload_n dL_law_1140 rfl ?_
  refine q_iconst (v := 3) dL_law_1141 (by decide) ?_
  refine q_iadd dL_law_1142 ?_
  refine q_sld (i + 3) dL_law_1143 (ix_1 rfl) (show i + 3 < gL G by omega) hL ?_
  refine q_aload_n dL_law_1144 rfl ?_
  refine q_iload_n dL_law_1145 rfl ?_
  refine q_iconst (v := 4) dL_law_1146 (by decide) ?_
  refine q_iadd dL_law_1147 ?_
  refine q_sld (i + 4) dL_law_1148 (ix_1 rfl) (show i + 4 < gL G by omega) hL ?_
  refine q_aload_n dL_law_1149 rfl ?_
  refine q_iload_n dL_law_1150 rfl ?_
  refine q_iconst (v := 5) dL_law_1151 (by decide) ?_
  refine q_iadd dL_law_1152 ?_
  refine q_sld (i + 5) dL_law_1153 (ix_1 rfl) (show i + 5 < gL G by omega) hL ?_
  refine q_callV dL_law_1154 l_L_153 o_X7_shift v_X7_shift rfl (by decide) rfl rfl (m_X7_shift hG M1.2.2.2.2.2.2.2.1 k8) (by decide) rfl (Nat.le_of_ble_eq_true rfl) (fun r1154 h1154 hq1154 => ?_)
  obtain ⟨rfl, C2, ok2, F2⟩ := hq1154
  have W2 := tpM W M1 C2 ok2 F2
  refine q_icmp_eq (tgt := 1162) dL_law_1157 (by decide) (fun c_1157 => ?_) (fun c_1157 => ?_)
  · exact kk _ (W2)
  · exact absurd rfl c_1157

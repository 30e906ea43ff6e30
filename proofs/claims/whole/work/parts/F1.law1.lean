/-! the law, case by case, over the open word -/
set_option maxHeartbeats 4000000 in
set_option maxRecDepth 100000 in
theorem lcG_0 (l : Launch) (cy : Nat → ClassId) (b bx L i n1 n2 : Nat) (xs : Nat → Int32) (σ : aS) (wc : va_W) (ad : Nat → Nat) (iv : Nat → Int32) (ia : Nat → Nat → Int32) (la : Nat → Nat → Int64) (hI : cInv cy bx σ wc) (hm : mInv σ iv ia la) (hi : i + 6 ≤ L) (hL : L < 100000) (h1 : n1 + 1 ≤ 600000) (h2 : n2 + 6 ≤ 7302250) (K : ∀ (σ : aS) (wc : va_W) (iv : Nat → Int32) (ia : Nat → Nat → Int32) (la : Nat → Nat → Int64), cInv cy bx σ wc → mInv σ iv ia la → gw_W l kL_law cy (zL b L xs) (wc ++ mW cy ad iv ia la) (n1 + 1) (n2 + 6) 1202 [some (.ref b), some (.ref bx), some (.ref (ad 0)), some (.int (nI i))] []) : gw_W l kL_law cy (zL b L xs) (wc ++ mW cy ad iv ia la) n1 n2 184 [some (.ref b), some (.ref bx), some (.ref (ad 0)), some (.int (nI i))] [] := by
  refine gw_aload_n dL_law_184 rfl ?_
  refine gw_aload_n dL_law_185 rfl ?_
  refine gw_iload_n dL_law_186 rfl ?_
  refine gw_iconst (v := nI (1)) dL_law_187 (by decide) ?_
  refine gw_iaddN dL_law_188 ?_
  refine gl_sld (zL_Z b L xs) rfl (by omega) (by omega) dL_law_189 ?_
  refine gw_aload_n dL_law_190 rfl ?_
  refine gw_iload_n dL_law_191 rfl ?_
  refine gw_iconst (v := nI (2)) dL_law_192 (by decide) ?_
  refine gw_iaddN dL_law_193 ?_
  refine gl_sld (zL_Z b L xs) rfl (by omega) (by omega) dL_law_194 ?_
  refine gw_aload_n dL_law_195 rfl ?_
  refine gw_iload_n dL_law_196 rfl ?_
  refine gw_iconst (v := nI (3)) dL_law_197 (by decide) ?_
  refine gw_iaddN dL_law_198 ?_
  refine gl_sld (zL_Z b L xs) rfl (by omega) (by omega) dL_law_199 ?_
  refine gw_callH (As := [.int (xs (i + 1)), .int (xs (i + 2)), .int (xs (i + 3))]) (st := []) ((t_ctable l cy bx σ wc hI (xs (i + 1)) (xs (i + 2)) (xs (i + 3))).frame (w2 := wc ++ mW cy ad iv ia la) (f := mW cy ad iv ia la) (List.Perm.refl _)) ok_X11_table ((cInv_has hI).left) rfl rfl wd_222 rfl rfl dL_law_200 (by decide) ⟨by show n1 + 0 ≤ 600000; omega, by show n2 + 0 ≤ 7302250; omega⟩ (Nat.le_of_ble_eq_true rfl) (fun r200 u200 hp200 => ?_)
  obtain ⟨w200, ⟨hr200, hI2⟩, rfl⟩ := hp200
  obtain rfl : r200 = some (.int ((spTable σ (xs (i + 1)) (xs (i + 2)) (xs (i + 3))).1)) := hr200
  refine gw_W.widen (k1 := n1 + 1) (k2 := n2 + 6) (by show n1 + 0 ≤ n1 + 1; omega) (by show n2 + 0 ≤ n2 + 6; omega) ?_
  refine gw_W.norm (st' := [.int ((spTable σ (xs (i + 1)) (xs (i + 2)) (xs (i + 3))).1)]) (k1 := n1 + 1) (k2 := n2 + 6) rfl rfl rfl ?_
  refine gw_aload_n dL_law_203 rfl ?_
  refine gw_aload_n dL_law_204 rfl ?_
  refine gw_iload_n dL_law_205 rfl ?_
  refine gw_iconst (v := nI (1)) dL_law_206 (by decide) ?_
  refine gw_iaddN dL_law_207 ?_
  refine gl_sld (zL_Z b L xs) rfl (by omega) (by omega) dL_law_208 ?_
  refine gw_aload_n dL_law_209 rfl ?_
  refine gw_iload_n dL_law_210 rfl ?_
  refine gw_iconst (v := nI (2)) dL_law_211 (by decide) ?_
  refine gw_iaddN dL_law_212 ?_
  refine gl_sld (zL_Z b L xs) rfl (by omega) (by omega) dL_law_213 ?_
  refine gw_aload_n dL_law_214 rfl ?_
  refine gw_iload_n dL_law_215 rfl ?_
  refine gw_iconst (v := nI (3)) dL_law_216 (by decide) ?_
  refine gw_iaddN dL_law_217 ?_
  refine gl_sld (zL_Z b L xs) rfl (by omega) (by omega) dL_law_218 ?_
  refine gw_callH (As := [.int (xs (i + 1)), .int (xs (i + 2)), .int (xs (i + 3))]) (st := [.int ((spTable σ (xs (i + 1)) (xs (i + 2)) (xs (i + 3))).1)]) ((c_mtable l cy ad iv ia la σ hm (xs (i + 1)) (xs (i + 2)) (xs (i + 3))).frame (w2 := w200 ++ mW cy ad iv ia la) (f := w200) List.perm_append_comm) ok_X12_table (gw_has.right mW_has) rfl rfl wd_891 rfl rfl dL_law_219 (by decide) ⟨by show n1 + 1 + 0 ≤ 600000; omega, by show n2 + 6 + 0 ≤ 7302250; omega⟩ (Nat.le_of_ble_eq_true rfl) (fun r219 u219 hp219 => ?_)
  obtain ⟨w219, ⟨hr219, iv2, ia2, la2, rfl, hm2⟩, rfl⟩ := hp219
  obtain rfl : r219 = some (.int ((spTable σ (xs (i + 1)) (xs (i + 2)) (xs (i + 3))).1)) := hr219
  refine gw_W.perm (w' := w200 ++ mW cy ad iv2 ia2 la2) List.perm_append_comm ?_
  refine gw_W.norm (st' := [.int ((spTable σ (xs (i + 1)) (xs (i + 2)) (xs (i + 3))).1), .int ((spTable σ (xs (i + 1)) (xs (i + 2)) (xs (i + 3))).1)]) (k1 := n1 + 1) (k2 := n2 + 6) rfl rfl rfl ?_
  exact gw_icmp_eq (tgt := 1202) dL_law_222 (by decide) (fun _ => K _ _ _ _ _ hI2 hm2) (fun h => absurd rfl h)
set_option maxHeartbeats 4000000 in
set_option maxRecDepth 100000 in
theorem lcG_1 (l : Launch) (cy : Nat → ClassId) (b bx L i n1 n2 : Nat) (xs : Nat → Int32) (σ : aS) (wc : va_W) (ad : Nat → Nat) (iv : Nat → Int32) (ia : Nat → Nat → Int32) (la : Nat → Nat → Int64) (hI : cInv cy bx σ wc) (hm : mInv σ iv ia la) (hi : i + 6 ≤ L) (hL : L < 100000) (h1 : n1 + 1 ≤ 600000) (h2 : n2 + 6 ≤ 7302250) (K : ∀ (σ : aS) (wc : va_W) (iv : Nat → Int32) (ia : Nat → Nat → Int32) (la : Nat → Nat → Int64), cInv cy bx σ wc → mInv σ iv ia la → gw_W l kL_law cy (zL b L xs) (wc ++ mW cy ad iv ia la) (n1 + 1) (n2 + 6) 1202 [some (.ref b), some (.ref bx), some (.ref (ad 0)), some (.int (nI i))] []) : gw_W l kL_law cy (zL b L xs) (wc ++ mW cy ad iv ia la) n1 n2 227 [some (.ref b), some (.ref bx), some (.ref (ad 0)), some (.int (nI i))] [] := by
  refine gw_aload_n dL_law_227 rfl ?_
  refine gw_aload_n dL_law_228 rfl ?_
  refine gw_iload_n dL_law_229 rfl ?_
  refine gw_iconst (v := nI (1)) dL_law_230 (by decide) ?_
  refine gw_iaddN dL_law_231 ?_
  refine gl_sld (zL_Z b L xs) rfl (by omega) (by omega) dL_law_232 ?_
  refine gw_aload_n dL_law_233 rfl ?_
  refine gw_iload_n dL_law_234 rfl ?_
  refine gw_iconst (v := nI (2)) dL_law_235 (by decide) ?_
  refine gw_iaddN dL_law_236 ?_
  refine gl_sld (zL_Z b L xs) rfl (by omega) (by omega) dL_law_237 ?_
  refine gw_aload_n dL_law_238 rfl ?_
  refine gw_iload_n dL_law_239 rfl ?_
  refine gw_iconst (v := nI (3)) dL_law_240 (by decide) ?_
  refine gw_iaddN dL_law_241 ?_
  refine gl_sld (zL_Z b L xs) rfl (by omega) (by omega) dL_law_242 ?_
  refine gw_callH (As := [.int (xs (i + 1)), .int (xs (i + 2)), .int (xs (i + 3))]) (st := []) ((t_cset l cy bx σ wc hI (xs (i + 1)) (xs (i + 2)) (xs (i + 3))).frame (w2 := wc ++ mW cy ad iv ia la) (f := mW cy ad iv ia la) (List.Perm.refl _)) ok_X11_set ((cInv_has hI).left) rfl rfl wd_250 rfl rfl dL_law_243 (by decide) ⟨by show n1 + 0 ≤ 600000; omega, by show n2 + 0 ≤ 7302250; omega⟩ (Nat.le_of_ble_eq_true rfl) (fun r243 u243 hp243 => ?_)
  obtain ⟨w243, ⟨hr243, hI2⟩, rfl⟩ := hp243
  obtain rfl : r243 = some (.int ((spSet σ (xs (i + 1)) (xs (i + 2)) (xs (i + 3))).1)) := hr243
  refine gw_W.widen (k1 := n1 + 1) (k2 := n2 + 6) (by show n1 + 0 ≤ n1 + 1; omega) (by show n2 + 0 ≤ n2 + 6; omega) ?_
  refine gw_W.norm (st' := [.int ((spSet σ (xs (i + 1)) (xs (i + 2)) (xs (i + 3))).1)]) (k1 := n1 + 1) (k2 := n2 + 6) rfl rfl rfl ?_
  refine gw_aload_n dL_law_246 rfl ?_
  refine gw_aload_n dL_law_247 rfl ?_
  refine gw_iload_n dL_law_248 rfl ?_
  refine gw_iconst (v := nI (1)) dL_law_249 (by decide) ?_
  refine gw_iaddN dL_law_250 ?_
  refine gl_sld (zL_Z b L xs) rfl (by omega) (by omega) dL_law_251 ?_
  refine gw_aload_n dL_law_252 rfl ?_
  refine gw_iload_n dL_law_253 rfl ?_
  refine gw_iconst (v := nI (2)) dL_law_254 (by decide) ?_
  refine gw_iaddN dL_law_255 ?_
  refine gl_sld (zL_Z b L xs) rfl (by omega) (by omega) dL_law_256 ?_
  refine gw_aload_n dL_law_257 rfl ?_
  refine gw_iload_n dL_law_258 rfl ?_
  refine gw_iconst (v := nI (3)) dL_law_259 (by decide) ?_
  refine gw_iaddN dL_law_260 ?_
  refine gl_sld (zL_Z b L xs) rfl (by omega) (by omega) dL_law_261 ?_
  refine gw_callH (As := [.int (xs (i + 1)), .int (xs (i + 2)), .int (xs (i + 3))]) (st := [.int ((spSet σ (xs (i + 1)) (xs (i + 2)) (xs (i + 3))).1)]) ((c_mset l cy ad iv ia la σ hm (xs (i + 1)) (xs (i + 2)) (xs (i + 3))).frame (w2 := w243 ++ mW cy ad iv ia la) (f := w243) List.perm_append_comm) ok_X12_set (gw_has.right mW_has) rfl rfl wd_913 rfl rfl dL_law_262 (by decide) ⟨by show n1 + 1 + 0 ≤ 600000; omega, by show n2 + 6 + 0 ≤ 7302250; omega⟩ (Nat.le_of_ble_eq_true rfl) (fun r262 u262 hp262 => ?_)
  obtain ⟨w262, ⟨hr262, iv2, ia2, la2, rfl, hm2⟩, rfl⟩ := hp262
  obtain rfl : r262 = some (.int ((spSet σ (xs (i + 1)) (xs (i + 2)) (xs (i + 3))).1)) := hr262
  refine gw_W.perm (w' := w243 ++ mW cy ad iv2 ia2 la2) List.perm_append_comm ?_
  refine gw_W.norm (st' := [.int ((spSet σ (xs (i + 1)) (xs (i + 2)) (xs (i + 3))).1), .int ((spSet σ (xs (i + 1)) (xs (i + 2)) (xs (i + 3))).1)]) (k1 := n1 + 1) (k2 := n2 + 6) rfl rfl rfl ?_
  exact gw_icmp_eq (tgt := 1202) dL_law_265 (by decide) (fun _ => K _ _ _ _ _ hI2 hm2) (fun h => absurd rfl h)
set_option maxHeartbeats 4000000 in
set_option maxRecDepth 100000 in
theorem lcG_2 (l : Launch) (cy : Nat → ClassId) (b bx L i n1 n2 : Nat) (xs : Nat → Int32) (σ : aS) (wc : va_W) (ad : Nat → Nat) (iv : Nat → Int32) (ia : Nat → Nat → Int32) (la : Nat → Nat → Int64) (hI : cInv cy bx σ wc) (hm : mInv σ iv ia la) (hi : i + 6 ≤ L) (hL : L < 100000) (h1 : n1 + 1 ≤ 600000) (h2 : n2 + 6 ≤ 7302250) (K : ∀ (σ : aS) (wc : va_W) (iv : Nat → Int32) (ia : Nat → Nat → Int32) (la : Nat → Nat → Int64), cInv cy bx σ wc → mInv σ iv ia la → gw_W l kL_law cy (zL b L xs) (wc ++ mW cy ad iv ia la) (n1 + 1) (n2 + 6) 1202 [some (.ref b), some (.ref bx), some (.ref (ad 0)), some (.int (nI i))] []) : gw_W l kL_law cy (zL b L xs) (wc ++ mW cy ad iv ia la) n1 n2 270 [some (.ref b), some (.ref bx), some (.ref (ad 0)), some (.int (nI i))] [] := by
  refine gw_aload_n dL_law_270 rfl ?_
  refine gw_aload_n dL_law_271 rfl ?_
  refine gw_iload_n dL_law_272 rfl ?_
  refine gw_iconst (v := nI (1)) dL_law_273 (by decide) ?_
  refine gw_iaddN dL_law_274 ?_
  refine gl_sld (zL_Z b L xs) rfl (by omega) (by omega) dL_law_275 ?_
  refine gw_aload_n dL_law_276 rfl ?_
  refine gw_iload_n dL_law_277 rfl ?_
  refine gw_iconst (v := nI (2)) dL_law_278 (by decide) ?_
  refine gw_iaddN dL_law_279 ?_
  refine gl_sld (zL_Z b L xs) rfl (by omega) (by omega) dL_law_280 ?_
  refine gw_aload_n dL_law_281 rfl ?_
  refine gw_iload_n dL_law_282 rfl ?_
  refine gw_iconst (v := nI (3)) dL_law_283 (by decide) ?_
  refine gw_iaddN dL_law_284 ?_
  refine gl_sld (zL_Z b L xs) rfl (by omega) (by omega) dL_law_285 ?_
  refine gw_aload_n dL_law_286 rfl ?_
  refine gw_iload_n dL_law_287 rfl ?_
  refine gw_iconst (v := nI (4)) dL_law_288 (by decide) ?_
  refine gw_iaddN dL_law_289 ?_
  refine gl_sld (zL_Z b L xs) rfl (by omega) (by omega) dL_law_290 ?_
  refine gw_aload_n dL_law_291 rfl ?_
  refine gw_iload_n dL_law_292 rfl ?_
  refine gw_iconst (v := nI (5)) dL_law_293 (by decide) ?_
  refine gw_iaddN dL_law_294 ?_
  refine gl_sld (zL_Z b L xs) rfl (by omega) (by omega) dL_law_295 ?_
  refine gw_callH (As := [.int (xs (i + 1)), .int (xs (i + 2)), .int (xs (i + 3)), .int (xs (i + 4)), .int (xs (i + 5))]) (st := []) ((t_cgcopy l cy bx σ wc hI (xs (i + 1)) (xs (i + 2)) (xs (i + 3)) (xs (i + 4)) (xs (i + 5))).frame (w2 := wc ++ mW cy ad iv ia la) (f := mW cy ad iv ia la) (List.Perm.refl _)) ok_X11_copy ((cInv_has hI).left) rfl rfl wd_262 rfl rfl dL_law_296 (by decide) ⟨by show n1 + 0 ≤ 600000; omega, by show n2 + 0 ≤ 7302250; omega⟩ (Nat.le_of_ble_eq_true rfl) (fun r296 u296 hp296 => ?_)
  obtain ⟨w296, ⟨hr296, hI2⟩, rfl⟩ := hp296
  obtain rfl : r296 = some (.int ((spCopy σ (xs (i + 1)) (xs (i + 2)) (xs (i + 3)) (xs (i + 4)) (xs (i + 5))).1)) := hr296
  refine gw_W.widen (k1 := n1 + 1) (k2 := n2 + 6) (by show n1 + 0 ≤ n1 + 1; omega) (by show n2 + 0 ≤ n2 + 6; omega) ?_
  refine gw_W.norm (st' := [.int ((spCopy σ (xs (i + 1)) (xs (i + 2)) (xs (i + 3)) (xs (i + 4)) (xs (i + 5))).1)]) (k1 := n1 + 1) (k2 := n2 + 6) rfl rfl rfl ?_
  refine gw_aload_n dL_law_299 rfl ?_
  refine gw_aload_n dL_law_300 rfl ?_
  refine gw_iload_n dL_law_301 rfl ?_
  refine gw_iconst (v := nI (1)) dL_law_302 (by decide) ?_
  refine gw_iaddN dL_law_303 ?_
  refine gl_sld (zL_Z b L xs) rfl (by omega) (by omega) dL_law_304 ?_
  refine gw_aload_n dL_law_305 rfl ?_
  refine gw_iload_n dL_law_306 rfl ?_
  refine gw_iconst (v := nI (2)) dL_law_307 (by decide) ?_
  refine gw_iaddN dL_law_308 ?_
  refine gl_sld (zL_Z b L xs) rfl (by omega) (by omega) dL_law_309 ?_
  refine gw_aload_n dL_law_310 rfl ?_
  refine gw_iload_n dL_law_311 rfl ?_
  refine gw_iconst (v := nI (3)) dL_law_312 (by decide) ?_
  refine gw_iaddN dL_law_313 ?_
  refine gl_sld (zL_Z b L xs) rfl (by omega) (by omega) dL_law_314 ?_
  refine gw_aload_n dL_law_315 rfl ?_
  refine gw_iload_n dL_law_316 rfl ?_
  refine gw_iconst (v := nI (4)) dL_law_317 (by decide) ?_
  refine gw_iaddN dL_law_318 ?_
  refine gl_sld (zL_Z b L xs) rfl (by omega) (by omega) dL_law_319 ?_
  refine gw_aload_n dL_law_320 rfl ?_
  refine gw_iload_n dL_law_321 rfl ?_
  refine gw_iconst (v := nI (5)) dL_law_322 (by decide) ?_
  refine gw_iaddN dL_law_323 ?_
  refine gl_sld (zL_Z b L xs) rfl (by omega) (by omega) dL_law_324 ?_
  refine gw_callH (As := [.int (xs (i + 1)), .int (xs (i + 2)), .int (xs (i + 3)), .int (xs (i + 4)), .int (xs (i + 5))]) (st := [.int ((spCopy σ (xs (i + 1)) (xs (i + 2)) (xs (i + 3)) (xs (i + 4)) (xs (i + 5))).1)]) ((t_mcopy l cy ad iv ia la σ hm (xs (i + 1)) (xs (i + 2)) (xs (i + 3)) (xs (i + 4)) (xs (i + 5))).frame (w2 := w296 ++ mW cy ad iv ia la) (f := w296) List.perm_append_comm) ok_X12_copy (gw_has.right mW_has) rfl rfl wd_917 rfl rfl dL_law_325 (by decide) ⟨by show n1 + 1 + 0 ≤ 600000; omega, by show n2 + 6 + 0 ≤ 7302250; omega⟩ (Nat.le_of_ble_eq_true rfl) (fun r325 u325 hp325 => ?_)
  obtain ⟨w325, ⟨hr325, iv2, ia2, la2, rfl, hm2⟩, rfl⟩ := hp325
  obtain rfl : r325 = some (.int ((spCopy σ (xs (i + 1)) (xs (i + 2)) (xs (i + 3)) (xs (i + 4)) (xs (i + 5))).1)) := hr325
  refine gw_W.perm (w' := w296 ++ mW cy ad iv2 ia2 la2) List.perm_append_comm ?_
  refine gw_W.norm (st' := [.int ((spCopy σ (xs (i + 1)) (xs (i + 2)) (xs (i + 3)) (xs (i + 4)) (xs (i + 5))).1), .int ((spCopy σ (xs (i + 1)) (xs (i + 2)) (xs (i + 3)) (xs (i + 4)) (xs (i + 5))).1)]) (k1 := n1 + 1) (k2 := n2 + 6) rfl rfl rfl ?_
  exact gw_icmp_eq (tgt := 1202) dL_law_328 (by decide) (fun _ => K _ _ _ _ _ hI2 hm2) (fun h => absurd rfl h)
set_option maxHeartbeats 4000000 in
set_option maxRecDepth 100000 in
theorem lcG_3 (l : Launch) (cy : Nat → ClassId) (b bx L i n1 n2 : Nat) (xs : Nat → Int32) (σ : aS) (wc : va_W) (ad : Nat → Nat) (iv : Nat → Int32) (ia : Nat → Nat → Int32) (la : Nat → Nat → Int64) (hI : cInv cy bx σ wc) (hm : mInv σ iv ia la) (hi : i + 6 ≤ L) (hL : L < 100000) (h1 : n1 + 1 ≤ 600000) (h2 : n2 + 6 ≤ 7302250) (K : ∀ (σ : aS) (wc : va_W) (iv : Nat → Int32) (ia : Nat → Nat → Int32) (la : Nat → Nat → Int64), cInv cy bx σ wc → mInv σ iv ia la → gw_W l kL_law cy (zL b L xs) (wc ++ mW cy ad iv ia la) (n1 + 1) (n2 + 6) 1202 [some (.ref b), some (.ref bx), some (.ref (ad 0)), some (.int (nI i))] []) : gw_W l kL_law cy (zL b L xs) (wc ++ mW cy ad iv ia la) n1 n2 333 [some (.ref b), some (.ref bx), some (.ref (ad 0)), some (.int (nI i))] [] := by
  refine gw_aload_n dL_law_333 rfl ?_
  refine gw_aload_n dL_law_334 rfl ?_
  refine gw_iload_n dL_law_335 rfl ?_
  refine gw_iconst (v := nI (1)) dL_law_336 (by decide) ?_
  refine gw_iaddN dL_law_337 ?_
  refine gl_sld (zL_Z b L xs) rfl (by omega) (by omega) dL_law_338 ?_
  refine gw_callH (As := [.int (xs (i + 1))]) (st := []) ((t_cdrop l cy bx σ wc hI (xs (i + 1))).frame (w2 := wc ++ mW cy ad iv ia la) (f := mW cy ad iv ia la) (List.Perm.refl _)) ok_X11_drop ((cInv_has hI).left) rfl rfl wd_269 rfl rfl dL_law_339 (by decide) ⟨by show n1 + 0 ≤ 600000; omega, by show n2 + 0 ≤ 7302250; omega⟩ (Nat.le_of_ble_eq_true rfl) (fun r339 u339 hp339 => ?_)
  obtain ⟨w339, ⟨hr339, hI2⟩, rfl⟩ := hp339
  obtain rfl : r339 = some (.int ((spDrop σ (xs (i + 1))).1)) := hr339
  refine gw_W.widen (k1 := n1 + 1) (k2 := n2 + 6) (by show n1 + 0 ≤ n1 + 1; omega) (by show n2 + 0 ≤ n2 + 6; omega) ?_
  refine gw_W.norm (st' := [.int ((spDrop σ (xs (i + 1))).1)]) (k1 := n1 + 1) (k2 := n2 + 6) rfl rfl rfl ?_
  refine gw_aload_n dL_law_342 rfl ?_
  refine gw_aload_n dL_law_343 rfl ?_
  refine gw_iload_n dL_law_344 rfl ?_
  refine gw_iconst (v := nI (1)) dL_law_345 (by decide) ?_
  refine gw_iaddN dL_law_346 ?_
  refine gl_sld (zL_Z b L xs) rfl (by omega) (by omega) dL_law_347 ?_
  refine gw_callH (As := [.int (xs (i + 1))]) (st := [.int ((spDrop σ (xs (i + 1))).1)]) ((c_mdrop l cy ad iv ia la σ hm (xs (i + 1))).frame (w2 := w339 ++ mW cy ad iv ia la) (f := w339) List.perm_append_comm) ok_X12_drop (gw_has.right mW_has) rfl rfl wd_921 rfl rfl dL_law_348 (by decide) ⟨by show n1 + 1 + 0 ≤ 600000; omega, by show n2 + 6 + 0 ≤ 7302250; omega⟩ (Nat.le_of_ble_eq_true rfl) (fun r348 u348 hp348 => ?_)
  obtain ⟨w348, ⟨hr348, iv2, ia2, la2, rfl, hm2⟩, rfl⟩ := hp348
  obtain rfl : r348 = some (.int ((spDrop σ (xs (i + 1))).1)) := hr348
  refine gw_W.perm (w' := w339 ++ mW cy ad iv2 ia2 la2) List.perm_append_comm ?_
  refine gw_W.norm (st' := [.int ((spDrop σ (xs (i + 1))).1), .int ((spDrop σ (xs (i + 1))).1)]) (k1 := n1 + 1) (k2 := n2 + 6) rfl rfl rfl ?_
  exact gw_icmp_eq (tgt := 1202) dL_law_351 (by decide) (fun _ => K _ _ _ _ _ hI2 hm2) (fun h => absurd rfl h)
set_option maxHeartbeats 4000000 in
set_option maxRecDepth 100000 in
theorem lcG_4 (l : Launch) (cy : Nat → ClassId) (b bx L i n1 n2 : Nat) (xs : Nat → Int32) (σ : aS) (wc : va_W) (ad : Nat → Nat) (iv : Nat → Int32) (ia : Nat → Nat → Int32) (la : Nat → Nat → Int64) (hI : cInv cy bx σ wc) (hm : mInv σ iv ia la) (hi : i + 6 ≤ L) (hL : L < 100000) (h1 : n1 + 1 ≤ 600000) (h2 : n2 + 6 ≤ 7302250) (K : ∀ (σ : aS) (wc : va_W) (iv : Nat → Int32) (ia : Nat → Nat → Int32) (la : Nat → Nat → Int64), cInv cy bx σ wc → mInv σ iv ia la → gw_W l kL_law cy (zL b L xs) (wc ++ mW cy ad iv ia la) (n1 + 1) (n2 + 6) 1202 [some (.ref b), some (.ref bx), some (.ref (ad 0)), some (.int (nI i))] []) : gw_W l kL_law cy (zL b L xs) (wc ++ mW cy ad iv ia la) n1 n2 356 [some (.ref b), some (.ref bx), some (.ref (ad 0)), some (.int (nI i))] [] := by
  refine gw_aload_n dL_law_356 rfl ?_
  refine gw_aload_n dL_law_357 rfl ?_
  refine gw_iload_n dL_law_358 rfl ?_
  refine gw_iconst (v := nI (1)) dL_law_359 (by decide) ?_
  refine gw_iaddN dL_law_360 ?_
  refine gl_sld (zL_Z b L xs) rfl (by omega) (by omega) dL_law_361 ?_
  refine gw_callH (As := [.int (xs (i + 1))]) (st := []) ((t_cclear l cy bx σ wc hI (xs (i + 1))).frame (w2 := wc ++ mW cy ad iv ia la) (f := mW cy ad iv ia la) (List.Perm.refl _)) ok_X11_clear ((cInv_has hI).left) rfl rfl wd_273 rfl rfl dL_law_362 (by decide) ⟨by show n1 + 0 ≤ 600000; omega, by show n2 + 0 ≤ 7302250; omega⟩ (Nat.le_of_ble_eq_true rfl) (fun r362 u362 hp362 => ?_)
  obtain ⟨w362, ⟨hr362, hI2⟩, rfl⟩ := hp362
  obtain rfl : r362 = some (.int ((spClear σ (xs (i + 1))).1)) := hr362
  refine gw_W.widen (k1 := n1 + 1) (k2 := n2 + 6) (by show n1 + 0 ≤ n1 + 1; omega) (by show n2 + 0 ≤ n2 + 6; omega) ?_
  refine gw_W.norm (st' := [.int ((spClear σ (xs (i + 1))).1)]) (k1 := n1 + 1) (k2 := n2 + 6) rfl rfl rfl ?_
  refine gw_aload_n dL_law_365 rfl ?_
  refine gw_aload_n dL_law_366 rfl ?_
  refine gw_iload_n dL_law_367 rfl ?_
  refine gw_iconst (v := nI (1)) dL_law_368 (by decide) ?_
  refine gw_iaddN dL_law_369 ?_
  refine gl_sld (zL_Z b L xs) rfl (by omega) (by omega) dL_law_370 ?_
  refine gw_callH (As := [.int (xs (i + 1))]) (st := [.int ((spClear σ (xs (i + 1))).1)]) ((t_mclear l cy ad iv ia la σ hm (xs (i + 1))).frame (w2 := w362 ++ mW cy ad iv ia la) (f := w362) List.perm_append_comm) ok_X12_clear (gw_has.right mW_has) rfl rfl wd_925 rfl rfl dL_law_371 (by decide) ⟨by show n1 + 1 + 0 ≤ 600000; omega, by show n2 + 6 + 0 ≤ 7302250; omega⟩ (Nat.le_of_ble_eq_true rfl) (fun r371 u371 hp371 => ?_)
  obtain ⟨w371, ⟨hr371, iv2, ia2, la2, rfl, hm2⟩, rfl⟩ := hp371
  obtain rfl : r371 = some (.int ((spClear σ (xs (i + 1))).1)) := hr371
  refine gw_W.perm (w' := w362 ++ mW cy ad iv2 ia2 la2) List.perm_append_comm ?_
  refine gw_W.norm (st' := [.int ((spClear σ (xs (i + 1))).1), .int ((spClear σ (xs (i + 1))).1)]) (k1 := n1 + 1) (k2 := n2 + 6) rfl rfl rfl ?_
  exact gw_icmp_eq (tgt := 1202) dL_law_374 (by decide) (fun _ => K _ _ _ _ _ hI2 hm2) (fun h => absurd rfl h)
set_option maxHeartbeats 4000000 in
set_option maxRecDepth 100000 in
theorem lcG_5 (l : Launch) (cy : Nat → ClassId) (b bx L i n1 n2 : Nat) (xs : Nat → Int32) (σ : aS) (wc : va_W) (ad : Nat → Nat) (iv : Nat → Int32) (ia : Nat → Nat → Int32) (la : Nat → Nat → Int64) (hI : cInv cy bx σ wc) (hm : mInv σ iv ia la) (hi : i + 6 ≤ L) (hL : L < 100000) (h1 : n1 + 1 ≤ 600000) (h2 : n2 + 6 ≤ 7302250) (K : ∀ (σ : aS) (wc : va_W) (iv : Nat → Int32) (ia : Nat → Nat → Int32) (la : Nat → Nat → Int64), cInv cy bx σ wc → mInv σ iv ia la → gw_W l kL_law cy (zL b L xs) (wc ++ mW cy ad iv ia la) (n1 + 1) (n2 + 6) 1202 [some (.ref b), some (.ref bx), some (.ref (ad 0)), some (.int (nI i))] []) : gw_W l kL_law cy (zL b L xs) (wc ++ mW cy ad iv ia la) n1 n2 379 [some (.ref b), some (.ref bx), some (.ref (ad 0)), some (.int (nI i))] [] := by
  refine gw_aload_n dL_law_379 rfl ?_
  refine gw_aload_n dL_law_380 rfl ?_
  refine gw_iload_n dL_law_381 rfl ?_
  refine gw_iconst (v := nI (1)) dL_law_382 (by decide) ?_
  refine gw_iaddN dL_law_383 ?_
  refine gl_sld (zL_Z b L xs) rfl (by omega) (by omega) dL_law_384 ?_
  refine gw_aload_n dL_law_385 rfl ?_
  refine gw_iload_n dL_law_386 rfl ?_
  refine gw_iconst (v := nI (2)) dL_law_387 (by decide) ?_
  refine gw_iaddN dL_law_388 ?_
  refine gl_sld (zL_Z b L xs) rfl (by omega) (by omega) dL_law_389 ?_
  refine gw_aload_n dL_law_390 rfl ?_
  refine gw_iload_n dL_law_391 rfl ?_
  refine gw_iconst (v := nI (3)) dL_law_392 (by decide) ?_
  refine gw_iaddN dL_law_393 ?_
  refine gl_sld (zL_Z b L xs) rfl (by omega) (by omega) dL_law_394 ?_
  refine gw_callH (As := [.int (xs (i + 1)), .int (xs (i + 2)), .int (xs (i + 3))]) (st := []) ((t_cadd l cy bx σ wc hI (xs (i + 1)) (xs (i + 2)) (xs (i + 3))).frame (w2 := wc ++ mW cy ad iv ia la) (f := mW cy ad iv ia la) (List.Perm.refl _)) ok_X11_add ((cInv_has hI).left) rfl rfl wd_281 rfl rfl dL_law_395 (by decide) ⟨by show n1 + 0 ≤ 600000; omega, by show n2 + 0 ≤ 7302250; omega⟩ (Nat.le_of_ble_eq_true rfl) (fun r395 u395 hp395 => ?_)
  obtain ⟨w395, ⟨hr395, hI2⟩, rfl⟩ := hp395
  obtain rfl : r395 = some (.int ((spAdd σ (xs (i + 1)) (xs (i + 2)) (xs (i + 3))).1)) := hr395
  refine gw_W.widen (k1 := n1 + 1) (k2 := n2 + 6) (by show n1 + 0 ≤ n1 + 1; omega) (by show n2 + 0 ≤ n2 + 6; omega) ?_
  refine gw_W.norm (st' := [.int ((spAdd σ (xs (i + 1)) (xs (i + 2)) (xs (i + 3))).1)]) (k1 := n1 + 1) (k2 := n2 + 6) rfl rfl rfl ?_
  refine gw_aload_n dL_law_398 rfl ?_
  refine gw_aload_n dL_law_399 rfl ?_
  refine gw_iload_n dL_law_400 rfl ?_
  refine gw_iconst (v := nI (1)) dL_law_401 (by decide) ?_
  refine gw_iaddN dL_law_402 ?_
  refine gl_sld (zL_Z b L xs) rfl (by omega) (by omega) dL_law_403 ?_
  refine gw_aload_n dL_law_404 rfl ?_
  refine gw_iload_n dL_law_405 rfl ?_
  refine gw_iconst (v := nI (2)) dL_law_406 (by decide) ?_
  refine gw_iaddN dL_law_407 ?_
  refine gl_sld (zL_Z b L xs) rfl (by omega) (by omega) dL_law_408 ?_
  refine gw_aload_n dL_law_409 rfl ?_
  refine gw_iload_n dL_law_410 rfl ?_
  refine gw_iconst (v := nI (3)) dL_law_411 (by decide) ?_
  refine gw_iaddN dL_law_412 ?_
  refine gl_sld (zL_Z b L xs) rfl (by omega) (by omega) dL_law_413 ?_
  refine gw_callH (As := [.int (xs (i + 1)), .int (xs (i + 2)), .int (xs (i + 3))]) (st := [.int ((spAdd σ (xs (i + 1)) (xs (i + 2)) (xs (i + 3))).1)]) ((t_madd l cy ad iv ia la σ hm (xs (i + 1)) (xs (i + 2)) (xs (i + 3))).frame (w2 := w395 ++ mW cy ad iv ia la) (f := w395) List.perm_append_comm) ok_X12_add (gw_has.right mW_has) rfl rfl wd_936 rfl rfl dL_law_414 (by decide) ⟨by show n1 + 1 + 0 ≤ 600000; omega, by show n2 + 6 + 0 ≤ 7302250; omega⟩ (Nat.le_of_ble_eq_true rfl) (fun r414 u414 hp414 => ?_)
  obtain ⟨w414, ⟨hr414, iv2, ia2, la2, rfl, hm2⟩, rfl⟩ := hp414
  obtain rfl : r414 = some (.int ((spAdd σ (xs (i + 1)) (xs (i + 2)) (xs (i + 3))).1)) := hr414
  refine gw_W.perm (w' := w395 ++ mW cy ad iv2 ia2 la2) List.perm_append_comm ?_
  refine gw_W.norm (st' := [.int ((spAdd σ (xs (i + 1)) (xs (i + 2)) (xs (i + 3))).1), .int ((spAdd σ (xs (i + 1)) (xs (i + 2)) (xs (i + 3))).1)]) (k1 := n1 + 1) (k2 := n2 + 6) rfl rfl rfl ?_
  exact gw_icmp_eq (tgt := 1202) dL_law_417 (by decide) (fun _ => K _ _ _ _ _ hI2 hm2) (fun h => absurd rfl h)
set_option maxHeartbeats 4000000 in
set_option maxRecDepth 100000 in
theorem lcG_6 (l : Launch) (cy : Nat → ClassId) (b bx L i n1 n2 : Nat) (xs : Nat → Int32) (σ : aS) (wc : va_W) (ad : Nat → Nat) (iv : Nat → Int32) (ia : Nat → Nat → Int32) (la : Nat → Nat → Int64) (hI : cInv cy bx σ wc) (hm : mInv σ iv ia la) (hi : i + 6 ≤ L) (hL : L < 100000) (h1 : n1 + 1 ≤ 600000) (h2 : n2 + 6 ≤ 7302250) (K : ∀ (σ : aS) (wc : va_W) (iv : Nat → Int32) (ia : Nat → Nat → Int32) (la : Nat → Nat → Int64), cInv cy bx σ wc → mInv σ iv ia la → gw_W l kL_law cy (zL b L xs) (wc ++ mW cy ad iv ia la) (n1 + 1) (n2 + 6) 1202 [some (.ref b), some (.ref bx), some (.ref (ad 0)), some (.int (nI i))] []) : gw_W l kL_law cy (zL b L xs) (wc ++ mW cy ad iv ia la) n1 n2 422 [some (.ref b), some (.ref bx), some (.ref (ad 0)), some (.int (nI i))] [] := by
  refine gw_aload_n dL_law_422 rfl ?_
  refine gw_aload_n dL_law_423 rfl ?_
  refine gw_iload_n dL_law_424 rfl ?_
  refine gw_iconst (v := nI (1)) dL_law_425 (by decide) ?_
  refine gw_iaddN dL_law_426 ?_
  refine gl_sld (zL_Z b L xs) rfl (by omega) (by omega) dL_law_427 ?_
  refine gw_aload_n dL_law_428 rfl ?_
  refine gw_iload_n dL_law_429 rfl ?_
  refine gw_iconst (v := nI (2)) dL_law_430 (by decide) ?_
  refine gw_iaddN dL_law_431 ?_
  refine gl_sld (zL_Z b L xs) rfl (by omega) (by omega) dL_law_432 ?_
  refine gw_callH (As := [.int (xs (i + 1)), .int (xs (i + 2))]) (st := []) ((t_ctake l cy bx σ wc hI (xs (i + 1)) (xs (i + 2))).frame (w2 := wc ++ mW cy ad iv ia la) (f := mW cy ad iv ia la) (List.Perm.refl _)) ok_X11_take ((cInv_has hI).left) rfl rfl wd_337 rfl rfl dL_law_433 (by decide) ⟨by show n1 + 0 ≤ 600000; omega, by show n2 + 0 ≤ 7302250; omega⟩ (Nat.le_of_ble_eq_true rfl) (fun r433 u433 hp433 => ?_)
  obtain ⟨w433, ⟨hr433, hI2⟩, rfl⟩ := hp433
  obtain rfl : r433 = some (.int ((spTake σ (xs (i + 1)) (xs (i + 2))).1)) := hr433
  refine gw_W.widen (k1 := n1 + 1) (k2 := n2 + 6) (by show n1 + 0 ≤ n1 + 1; omega) (by show n2 + 0 ≤ n2 + 6; omega) ?_
  refine gw_W.norm (st' := [.int ((spTake σ (xs (i + 1)) (xs (i + 2))).1)]) (k1 := n1 + 1) (k2 := n2 + 6) rfl rfl rfl ?_
  refine gw_aload_n dL_law_436 rfl ?_
  refine gw_aload_n dL_law_437 rfl ?_
  refine gw_iload_n dL_law_438 rfl ?_
  refine gw_iconst (v := nI (1)) dL_law_439 (by decide) ?_
  refine gw_iaddN dL_law_440 ?_
  refine gl_sld (zL_Z b L xs) rfl (by omega) (by omega) dL_law_441 ?_
  refine gw_aload_n dL_law_442 rfl ?_
  refine gw_iload_n dL_law_443 rfl ?_
  refine gw_iconst (v := nI (2)) dL_law_444 (by decide) ?_
  refine gw_iaddN dL_law_445 ?_
  refine gl_sld (zL_Z b L xs) rfl (by omega) (by omega) dL_law_446 ?_
  refine gw_callH (As := [.int (xs (i + 1)), .int (xs (i + 2))]) (st := [.int ((spTake σ (xs (i + 1)) (xs (i + 2))).1)]) ((t_mtake l cy ad iv ia la σ hm (xs (i + 1)) (xs (i + 2))).frame (w2 := w433 ++ mW cy ad iv ia la) (f := w433) List.perm_append_comm) ok_X12_take (gw_has.right mW_has) rfl rfl wd_966 rfl rfl dL_law_447 (by decide) ⟨by show n1 + 1 + 0 ≤ 600000; omega, by show n2 + 6 + 0 ≤ 7302250; omega⟩ (Nat.le_of_ble_eq_true rfl) (fun r447 u447 hp447 => ?_)
  obtain ⟨w447, ⟨hr447, iv2, ia2, la2, rfl, hm2⟩, rfl⟩ := hp447
  obtain rfl : r447 = some (.int ((spTake σ (xs (i + 1)) (xs (i + 2))).1)) := hr447
  refine gw_W.perm (w' := w433 ++ mW cy ad iv2 ia2 la2) List.perm_append_comm ?_
  refine gw_W.norm (st' := [.int ((spTake σ (xs (i + 1)) (xs (i + 2))).1), .int ((spTake σ (xs (i + 1)) (xs (i + 2))).1)]) (k1 := n1 + 1) (k2 := n2 + 6) rfl rfl rfl ?_
  exact gw_icmp_eq (tgt := 1202) dL_law_450 (by decide) (fun _ => K _ _ _ _ _ hI2 hm2) (fun h => absurd rfl h)
set_option maxHeartbeats 4000000 in
set_option maxRecDepth 100000 in
theorem lcG_7 (l : Launch) (cy : Nat → ClassId) (b bx L i n1 n2 : Nat) (xs : Nat → Int32) (σ : aS) (wc : va_W) (ad : Nat → Nat) (iv : Nat → Int32) (ia : Nat → Nat → Int32) (la : Nat → Nat → Int64) (hI : cInv cy bx σ wc) (hm : mInv σ iv ia la) (hi : i + 6 ≤ L) (hL : L < 100000) (h1 : n1 + 1 ≤ 600000) (h2 : n2 + 6 ≤ 7302250) (K : ∀ (σ : aS) (wc : va_W) (iv : Nat → Int32) (ia : Nat → Nat → Int32) (la : Nat → Nat → Int64), cInv cy bx σ wc → mInv σ iv ia la → gw_W l kL_law cy (zL b L xs) (wc ++ mW cy ad iv ia la) (n1 + 1) (n2 + 6) 1202 [some (.ref b), some (.ref bx), some (.ref (ad 0)), some (.int (nI i))] []) : gw_W l kL_law cy (zL b L xs) (wc ++ mW cy ad iv ia la) n1 n2 455 [some (.ref b), some (.ref bx), some (.ref (ad 0)), some (.int (nI i))] [] := by
  refine gw_aload_n dL_law_455 rfl ?_
  refine gw_aload_n dL_law_456 rfl ?_
  refine gw_iload_n dL_law_457 rfl ?_
  refine gw_iconst (v := nI (1)) dL_law_458 (by decide) ?_
  refine gw_iaddN dL_law_459 ?_
  refine gl_sld (zL_Z b L xs) rfl (by omega) (by omega) dL_law_460 ?_
  refine gw_aload_n dL_law_461 rfl ?_
  refine gw_iload_n dL_law_462 rfl ?_
  refine gw_iconst (v := nI (2)) dL_law_463 (by decide) ?_
  refine gw_iaddN dL_law_464 ?_
  refine gl_sld (zL_Z b L xs) rfl (by omega) (by omega) dL_law_465 ?_
  refine gw_aload_n dL_law_466 rfl ?_
  refine gw_iload_n dL_law_467 rfl ?_
  refine gw_iconst (v := nI (3)) dL_law_468 (by decide) ?_
  refine gw_iaddN dL_law_469 ?_
  refine gl_sld (zL_Z b L xs) rfl (by omega) (by omega) dL_law_470 ?_
  refine gw_callH (As := [.int (xs (i + 1)), .int (xs (i + 2)), .int (xs (i + 3))]) (st := []) ((t_cjoin l cy bx σ wc hI (xs (i + 1)) (xs (i + 2)) (xs (i + 3))).frame (w2 := wc ++ mW cy ad iv ia la) (f := mW cy ad iv ia la) (List.Perm.refl _)) ok_X11_join ((cInv_has hI).left) rfl rfl wd_346 rfl rfl dL_law_471 (by decide) ⟨by show n1 + 0 ≤ 600000; omega, by show n2 + 0 ≤ 7302250; omega⟩ (Nat.le_of_ble_eq_true rfl) (fun r471 u471 hp471 => ?_)
  obtain ⟨w471, ⟨hr471, hI2⟩, rfl⟩ := hp471
  obtain rfl : r471 = some (.int ((spJoin σ (xs (i + 1)) (xs (i + 2)) (xs (i + 3))).1)) := hr471
  refine gw_W.widen (k1 := n1 + 1) (k2 := n2 + 6) (by show n1 + 0 ≤ n1 + 1; omega) (by show n2 + 0 ≤ n2 + 6; omega) ?_
  refine gw_W.norm (st' := [.int ((spJoin σ (xs (i + 1)) (xs (i + 2)) (xs (i + 3))).1)]) (k1 := n1 + 1) (k2 := n2 + 6) rfl rfl rfl ?_
  refine gw_aload_n dL_law_474 rfl ?_
  refine gw_aload_n dL_law_475 rfl ?_
  refine gw_iload_n dL_law_476 rfl ?_
  refine gw_iconst (v := nI (1)) dL_law_477 (by decide) ?_
  refine gw_iaddN dL_law_478 ?_
  refine gl_sld (zL_Z b L xs) rfl (by omega) (by omega) dL_law_479 ?_
  refine gw_aload_n dL_law_480 rfl ?_
  refine gw_iload_n dL_law_481 rfl ?_
  refine gw_iconst (v := nI (2)) dL_law_482 (by decide) ?_
  refine gw_iaddN dL_law_483 ?_
  refine gl_sld (zL_Z b L xs) rfl (by omega) (by omega) dL_law_484 ?_
  refine gw_aload_n dL_law_485 rfl ?_
  refine gw_iload_n dL_law_486 rfl ?_
  refine gw_iconst (v := nI (3)) dL_law_487 (by decide) ?_
  refine gw_iaddN dL_law_488 ?_
  refine gl_sld (zL_Z b L xs) rfl (by omega) (by omega) dL_law_489 ?_
  refine gw_callH (As := [.int (xs (i + 1)), .int (xs (i + 2)), .int (xs (i + 3))]) (st := [.int ((spJoin σ (xs (i + 1)) (xs (i + 2)) (xs (i + 3))).1)]) ((t_mjoin l cy ad iv ia la σ hm (xs (i + 1)) (xs (i + 2)) (xs (i + 3))).frame (w2 := w471 ++ mW cy ad iv ia la) (f := w471) List.perm_append_comm) ok_X12_join (gw_has.right mW_has) rfl rfl wd_974 rfl rfl dL_law_490 (by decide) ⟨by show n1 + 1 + 0 ≤ 600000; omega, by show n2 + 6 + 0 ≤ 7302250; omega⟩ (Nat.le_of_ble_eq_true rfl) (fun r490 u490 hp490 => ?_)
  obtain ⟨w490, ⟨hr490, iv2, ia2, la2, rfl, hm2⟩, rfl⟩ := hp490
  obtain rfl : r490 = some (.int ((spJoin σ (xs (i + 1)) (xs (i + 2)) (xs (i + 3))).1)) := hr490
  refine gw_W.perm (w' := w471 ++ mW cy ad iv2 ia2 la2) List.perm_append_comm ?_
  refine gw_W.norm (st' := [.int ((spJoin σ (xs (i + 1)) (xs (i + 2)) (xs (i + 3))).1), .int ((spJoin σ (xs (i + 1)) (xs (i + 2)) (xs (i + 3))).1)]) (k1 := n1 + 1) (k2 := n2 + 6) rfl rfl rfl ?_
  exact gw_icmp_eq (tgt := 1202) dL_law_493 (by decide) (fun _ => K _ _ _ _ _ hI2 hm2) (fun h => absurd rfl h)
set_option maxHeartbeats 4000000 in
set_option maxRecDepth 100000 in
theorem lcG_8 (l : Launch) (cy : Nat → ClassId) (b bx L i n1 n2 : Nat) (xs : Nat → Int32) (σ : aS) (wc : va_W) (ad : Nat → Nat) (iv : Nat → Int32) (ia : Nat → Nat → Int32) (la : Nat → Nat → Int64) (hI : cInv cy bx σ wc) (hm : mInv σ iv ia la) (hi : i + 6 ≤ L) (hL : L < 100000) (h1 : n1 + 1 ≤ 600000) (h2 : n2 + 6 ≤ 7302250) (K : ∀ (σ : aS) (wc : va_W) (iv : Nat → Int32) (ia : Nat → Nat → Int32) (la : Nat → Nat → Int64), cInv cy bx σ wc → mInv σ iv ia la → gw_W l kL_law cy (zL b L xs) (wc ++ mW cy ad iv ia la) (n1 + 1) (n2 + 6) 1202 [some (.ref b), some (.ref bx), some (.ref (ad 0)), some (.int (nI i))] []) : gw_W l kL_law cy (zL b L xs) (wc ++ mW cy ad iv ia la) n1 n2 498 [some (.ref b), some (.ref bx), some (.ref (ad 0)), some (.int (nI i))] [] := by
  refine gw_aload_n dL_law_498 rfl ?_
  refine gw_aload_n dL_law_499 rfl ?_
  refine gw_iload_n dL_law_500 rfl ?_
  refine gw_iconst (v := nI (1)) dL_law_501 (by decide) ?_
  refine gw_iaddN dL_law_502 ?_
  refine gl_sld (zL_Z b L xs) rfl (by omega) (by omega) dL_law_503 ?_
  refine gw_aload_n dL_law_504 rfl ?_
  refine gw_iload_n dL_law_505 rfl ?_
  refine gw_iconst (v := nI (2)) dL_law_506 (by decide) ?_
  refine gw_iaddN dL_law_507 ?_
  refine gl_sld (zL_Z b L xs) rfl (by omega) (by omega) dL_law_508 ?_
  refine gw_callH (As := [.int (xs (i + 1)), .int (xs (i + 2))]) (st := []) ((t_cquarter l cy bx σ wc hI (xs (i + 1)) (xs (i + 2))).frame (w2 := wc ++ mW cy ad iv ia la) (f := mW cy ad iv ia la) (List.Perm.refl _)) ok_X11_quarter ((cInv_has hI).left) rfl rfl wd_357 rfl rfl dL_law_509 (by decide) ⟨by show n1 + 0 ≤ 600000; omega, by show n2 + 0 ≤ 7302250; omega⟩ (Nat.le_of_ble_eq_true rfl) (fun r509 u509 hp509 => ?_)
  obtain ⟨w509, ⟨hr509, hI2⟩, rfl⟩ := hp509
  obtain rfl : r509 = some (.int ((spQuarter σ (xs (i + 1)) (xs (i + 2))).1)) := hr509
  refine gw_W.widen (k1 := n1 + 1) (k2 := n2 + 6) (by show n1 + 0 ≤ n1 + 1; omega) (by show n2 + 0 ≤ n2 + 6; omega) ?_
  refine gw_W.norm (st' := [.int ((spQuarter σ (xs (i + 1)) (xs (i + 2))).1)]) (k1 := n1 + 1) (k2 := n2 + 6) rfl rfl rfl ?_
  refine gw_aload_n dL_law_512 rfl ?_
  refine gw_aload_n dL_law_513 rfl ?_
  refine gw_iload_n dL_law_514 rfl ?_
  refine gw_iconst (v := nI (1)) dL_law_515 (by decide) ?_
  refine gw_iaddN dL_law_516 ?_
  refine gl_sld (zL_Z b L xs) rfl (by omega) (by omega) dL_law_517 ?_
  refine gw_aload_n dL_law_518 rfl ?_
  refine gw_iload_n dL_law_519 rfl ?_
  refine gw_iconst (v := nI (2)) dL_law_520 (by decide) ?_
  refine gw_iaddN dL_law_521 ?_
  refine gl_sld (zL_Z b L xs) rfl (by omega) (by omega) dL_law_522 ?_
  refine gw_callH (As := [.int (xs (i + 1)), .int (xs (i + 2))]) (st := [.int ((spQuarter σ (xs (i + 1)) (xs (i + 2))).1)]) ((t_mquarter l cy ad iv ia la σ hm (xs (i + 1)) (xs (i + 2))).frame (w2 := w509 ++ mW cy ad iv ia la) (f := w509) List.perm_append_comm) ok_X12_quarter (gw_has.right mW_has) rfl rfl wd_984 rfl rfl dL_law_523 (by decide) ⟨by show n1 + 1 + 0 ≤ 600000; omega, by show n2 + 6 + 0 ≤ 7302250; omega⟩ (Nat.le_of_ble_eq_true rfl) (fun r523 u523 hp523 => ?_)
  obtain ⟨w523, ⟨hr523, iv2, ia2, la2, rfl, hm2⟩, rfl⟩ := hp523
  obtain rfl : r523 = some (.int ((spQuarter σ (xs (i + 1)) (xs (i + 2))).1)) := hr523
  refine gw_W.perm (w' := w509 ++ mW cy ad iv2 ia2 la2) List.perm_append_comm ?_
  refine gw_W.norm (st' := [.int ((spQuarter σ (xs (i + 1)) (xs (i + 2))).1), .int ((spQuarter σ (xs (i + 1)) (xs (i + 2))).1)]) (k1 := n1 + 1) (k2 := n2 + 6) rfl rfl rfl ?_
  exact gw_icmp_eq (tgt := 1202) dL_law_526 (by decide) (fun _ => K _ _ _ _ _ hI2 hm2) (fun h => absurd rfl h)
set_option maxHeartbeats 4000000 in
set_option maxRecDepth 100000 in
theorem lcG_9 (l : Launch) (cy : Nat → ClassId) (b bx L i n1 n2 : Nat) (xs : Nat → Int32) (σ : aS) (wc : va_W) (ad : Nat → Nat) (iv : Nat → Int32) (ia : Nat → Nat → Int32) (la : Nat → Nat → Int64) (hI : cInv cy bx σ wc) (hm : mInv σ iv ia la) (hi : i + 6 ≤ L) (hL : L < 100000) (h1 : n1 + 1 ≤ 600000) (h2 : n2 + 6 ≤ 7302250) (K : ∀ (σ : aS) (wc : va_W) (iv : Nat → Int32) (ia : Nat → Nat → Int32) (la : Nat → Nat → Int64), cInv cy bx σ wc → mInv σ iv ia la → gw_W l kL_law cy (zL b L xs) (wc ++ mW cy ad iv ia la) (n1 + 1) (n2 + 6) 1202 [some (.ref b), some (.ref bx), some (.ref (ad 0)), some (.int (nI i))] []) : gw_W l kL_law cy (zL b L xs) (wc ++ mW cy ad iv ia la) n1 n2 531 [some (.ref b), some (.ref bx), some (.ref (ad 0)), some (.int (nI i))] [] := by
  refine gw_aload_n dL_law_531 rfl ?_
  refine gw_aload_n dL_law_532 rfl ?_
  refine gw_iload_n dL_law_533 rfl ?_
  refine gw_iconst (v := nI (1)) dL_law_534 (by decide) ?_
  refine gw_iaddN dL_law_535 ?_
  refine gl_sld (zL_Z b L xs) rfl (by omega) (by omega) dL_law_536 ?_
  refine gw_aload_n dL_law_537 rfl ?_
  refine gw_iload_n dL_law_538 rfl ?_
  refine gw_iconst (v := nI (2)) dL_law_539 (by decide) ?_
  refine gw_iaddN dL_law_540 ?_
  refine gl_sld (zL_Z b L xs) rfl (by omega) (by omega) dL_law_541 ?_
  refine gw_aload_n dL_law_542 rfl ?_
  refine gw_iload_n dL_law_543 rfl ?_
  refine gw_iconst (v := nI (3)) dL_law_544 (by decide) ?_
  refine gw_iaddN dL_law_545 ?_
  refine gl_sld (zL_Z b L xs) rfl (by omega) (by omega) dL_law_546 ?_
  refine gw_callH (As := [.int (xs (i + 1)), .int (xs (i + 2)), .int (xs (i + 3))]) (st := []) ((t_cletter l cy bx σ wc hI (xs (i + 1)) (xs (i + 2)) (xs (i + 3))).frame (w2 := wc ++ mW cy ad iv ia la) (f := mW cy ad iv ia la) (List.Perm.refl _)) ok_X11_letter ((cInv_has hI).left) rfl rfl wd_374 rfl rfl dL_law_547 (by decide) ⟨by show n1 + 0 ≤ 600000; omega, by show n2 + 0 ≤ 7302250; omega⟩ (Nat.le_of_ble_eq_true rfl) (fun r547 u547 hp547 => ?_)
  obtain ⟨w547, ⟨hr547, hI2⟩, rfl⟩ := hp547
  obtain rfl : r547 = some (.int ((spLetter σ (xs (i + 1)) (xs (i + 2)) (xs (i + 3))).1)) := hr547
  refine gw_W.widen (k1 := n1 + 1) (k2 := n2 + 6) (by show n1 + 0 ≤ n1 + 1; omega) (by show n2 + 0 ≤ n2 + 6; omega) ?_
  refine gw_W.norm (st' := [.int ((spLetter σ (xs (i + 1)) (xs (i + 2)) (xs (i + 3))).1)]) (k1 := n1 + 1) (k2 := n2 + 6) rfl rfl rfl ?_
  refine gw_aload_n dL_law_550 rfl ?_
  refine gw_aload_n dL_law_551 rfl ?_
  refine gw_iload_n dL_law_552 rfl ?_
  refine gw_iconst (v := nI (1)) dL_law_553 (by decide) ?_
  refine gw_iaddN dL_law_554 ?_
  refine gl_sld (zL_Z b L xs) rfl (by omega) (by omega) dL_law_555 ?_
  refine gw_aload_n dL_law_556 rfl ?_
  refine gw_iload_n dL_law_557 rfl ?_
  refine gw_iconst (v := nI (2)) dL_law_558 (by decide) ?_
  refine gw_iaddN dL_law_559 ?_
  refine gl_sld (zL_Z b L xs) rfl (by omega) (by omega) dL_law_560 ?_
  refine gw_aload_n dL_law_561 rfl ?_
  refine gw_iload_n dL_law_562 rfl ?_
  refine gw_iconst (v := nI (3)) dL_law_563 (by decide) ?_
  refine gw_iaddN dL_law_564 ?_
  refine gl_sld (zL_Z b L xs) rfl (by omega) (by omega) dL_law_565 ?_
  refine gw_callH (As := [.int (xs (i + 1)), .int (xs (i + 2)), .int (xs (i + 3))]) (st := [.int ((spLetter σ (xs (i + 1)) (xs (i + 2)) (xs (i + 3))).1)]) ((t_mletter l cy ad iv ia la σ hm (xs (i + 1)) (xs (i + 2)) (xs (i + 3))).frame (w2 := w547 ++ mW cy ad iv ia la) (f := w547) List.perm_append_comm) ok_X12_letter (gw_has.right mW_has) rfl rfl wd_1004 rfl rfl dL_law_566 (by decide) ⟨by show n1 + 1 + 0 ≤ 600000; omega, by show n2 + 6 + 0 ≤ 7302250; omega⟩ (Nat.le_of_ble_eq_true rfl) (fun r566 u566 hp566 => ?_)
  obtain ⟨w566, ⟨hr566, iv2, ia2, la2, rfl, hm2⟩, rfl⟩ := hp566
  obtain rfl : r566 = some (.int ((spLetter σ (xs (i + 1)) (xs (i + 2)) (xs (i + 3))).1)) := hr566
  refine gw_W.perm (w' := w547 ++ mW cy ad iv2 ia2 la2) List.perm_append_comm ?_
  refine gw_W.norm (st' := [.int ((spLetter σ (xs (i + 1)) (xs (i + 2)) (xs (i + 3))).1), .int ((spLetter σ (xs (i + 1)) (xs (i + 2)) (xs (i + 3))).1)]) (k1 := n1 + 1) (k2 := n2 + 6) rfl rfl rfl ?_
  exact gw_icmp_eq (tgt := 1202) dL_law_569 (by decide) (fun _ => K _ _ _ _ _ hI2 hm2) (fun h => absurd rfl h)
set_option maxHeartbeats 4000000 in
set_option maxRecDepth 100000 in
theorem lcG_10 (l : Launch) (cy : Nat → ClassId) (b bx L i n1 n2 : Nat) (xs : Nat → Int32) (σ : aS) (wc : va_W) (ad : Nat → Nat) (iv : Nat → Int32) (ia : Nat → Nat → Int32) (la : Nat → Nat → Int64) (hI : cInv cy bx σ wc) (hm : mInv σ iv ia la) (hi : i + 6 ≤ L) (hL : L < 100000) (h1 : n1 + 1 ≤ 600000) (h2 : n2 + 6 ≤ 7302250) (K : ∀ (σ : aS) (wc : va_W) (iv : Nat → Int32) (ia : Nat → Nat → Int32) (la : Nat → Nat → Int64), cInv cy bx σ wc → mInv σ iv ia la → gw_W l kL_law cy (zL b L xs) (wc ++ mW cy ad iv ia la) (n1 + 1) (n2 + 6) 1202 [some (.ref b), some (.ref bx), some (.ref (ad 0)), some (.int (nI i))] []) : gw_W l kL_law cy (zL b L xs) (wc ++ mW cy ad iv ia la) n1 n2 574 [some (.ref b), some (.ref bx), some (.ref (ad 0)), some (.int (nI i))] [] := by
  refine gw_aload_n dL_law_574 rfl ?_
  refine gw_aload_n dL_law_575 rfl ?_
  refine gw_iload_n dL_law_576 rfl ?_
  refine gw_iconst (v := nI (1)) dL_law_577 (by decide) ?_
  refine gw_iaddN dL_law_578 ?_
  refine gl_sld (zL_Z b L xs) rfl (by omega) (by omega) dL_law_579 ?_
  refine gw_callH (As := [.int (xs (i + 1))]) (st := []) ((t_cterms l cy bx σ wc hI (xs (i + 1))).frame (w2 := wc ++ mW cy ad iv ia la) (f := mW cy ad iv ia la) (List.Perm.refl _)) ok_X11_terms ((cInv_has hI).left) rfl rfl wd_397 rfl rfl dL_law_580 (by decide) ⟨by show n1 + 0 ≤ 600000; omega, by show n2 + 0 ≤ 7302250; omega⟩ (Nat.le_of_ble_eq_true rfl) (fun r580 u580 hp580 => ?_)
  obtain ⟨w580, ⟨hr580, hI2⟩, rfl⟩ := hp580
  obtain rfl : r580 = some (.int ((spTerms σ (xs (i + 1))).1)) := hr580
  refine gw_W.widen (k1 := n1 + 1) (k2 := n2 + 6) (by show n1 + 0 ≤ n1 + 1; omega) (by show n2 + 0 ≤ n2 + 6; omega) ?_
  refine gw_W.norm (st' := [.int ((spTerms σ (xs (i + 1))).1)]) (k1 := n1 + 1) (k2 := n2 + 6) rfl rfl rfl ?_
  refine gw_aload_n dL_law_583 rfl ?_
  refine gw_aload_n dL_law_584 rfl ?_
  refine gw_iload_n dL_law_585 rfl ?_
  refine gw_iconst (v := nI (1)) dL_law_586 (by decide) ?_
  refine gw_iaddN dL_law_587 ?_
  refine gl_sld (zL_Z b L xs) rfl (by omega) (by omega) dL_law_588 ?_
  refine gw_callH (As := [.int (xs (i + 1))]) (st := [.int ((spTerms σ (xs (i + 1))).1)]) ((t_mterms l cy ad iv ia la σ hm (xs (i + 1))).frame (w2 := w580 ++ mW cy ad iv ia la) (f := w580) List.perm_append_comm) ok_X12_terms (gw_has.right mW_has) rfl rfl wd_1024 rfl rfl dL_law_589 (by decide) ⟨by show n1 + 1 + 0 ≤ 600000; omega, by show n2 + 6 + 0 ≤ 7302250; omega⟩ (Nat.le_of_ble_eq_true rfl) (fun r589 u589 hp589 => ?_)
  obtain ⟨w589, ⟨hr589, iv2, ia2, la2, rfl, hm2⟩, rfl⟩ := hp589
  obtain rfl : r589 = some (.int ((spTerms σ (xs (i + 1))).1)) := hr589
  refine gw_W.perm (w' := w580 ++ mW cy ad iv2 ia2 la2) List.perm_append_comm ?_
  refine gw_W.norm (st' := [.int ((spTerms σ (xs (i + 1))).1), .int ((spTerms σ (xs (i + 1))).1)]) (k1 := n1 + 1) (k2 := n2 + 6) rfl rfl rfl ?_
  exact gw_icmp_eq (tgt := 1202) dL_law_592 (by decide) (fun _ => K _ _ _ _ _ hI2 hm2) (fun h => absurd rfl h)
set_option maxHeartbeats 4000000 in
set_option maxRecDepth 100000 in
theorem lcG_11 (l : Launch) (cy : Nat → ClassId) (b bx L i n1 n2 : Nat) (xs : Nat → Int32) (σ : aS) (wc : va_W) (ad : Nat → Nat) (iv : Nat → Int32) (ia : Nat → Nat → Int32) (la : Nat → Nat → Int64) (hI : cInv cy bx σ wc) (hm : mInv σ iv ia la) (hi : i + 6 ≤ L) (hL : L < 100000) (h1 : n1 + 1 ≤ 600000) (h2 : n2 + 6 ≤ 7302250) (K : ∀ (σ : aS) (wc : va_W) (iv : Nat → Int32) (ia : Nat → Nat → Int32) (la : Nat → Nat → Int64), cInv cy bx σ wc → mInv σ iv ia la → gw_W l kL_law cy (zL b L xs) (wc ++ mW cy ad iv ia la) (n1 + 1) (n2 + 6) 1202 [some (.ref b), some (.ref bx), some (.ref (ad 0)), some (.int (nI i))] []) : gw_W l kL_law cy (zL b L xs) (wc ++ mW cy ad iv ia la) n1 n2 597 [some (.ref b), some (.ref bx), some (.ref (ad 0)), some (.int (nI i))] [] := by
  refine gw_aload_n dL_law_597 rfl ?_
  refine gw_aload_n dL_law_598 rfl ?_
  refine gw_iload_n dL_law_599 rfl ?_
  refine gw_iconst (v := nI (1)) dL_law_600 (by decide) ?_
  refine gw_iaddN dL_law_601 ?_
  refine gl_sld (zL_Z b L xs) rfl (by omega) (by omega) dL_law_602 ?_
  refine gw_aload_n dL_law_603 rfl ?_
  refine gw_iload_n dL_law_604 rfl ?_
  refine gw_iconst (v := nI (2)) dL_law_605 (by decide) ?_
  refine gw_iaddN dL_law_606 ?_
  refine gl_sld (zL_Z b L xs) rfl (by omega) (by omega) dL_law_607 ?_
  refine gw_callH (As := [.int (xs (i + 1)), .int (xs (i + 2))]) (st := []) ((t_cnumber l cy bx σ wc hI (xs (i + 1)) (xs (i + 2))).frame (w2 := wc ++ mW cy ad iv ia la) (f := mW cy ad iv ia la) (List.Perm.refl _)) ok_X11_number ((cInv_has hI).left) rfl rfl wd_401 rfl rfl dL_law_608 (by decide) ⟨by show n1 + 0 ≤ 600000; omega, by show n2 + 0 ≤ 7302250; omega⟩ (Nat.le_of_ble_eq_true rfl) (fun r608 u608 hp608 => ?_)
  obtain ⟨w608, ⟨hr608, hI2⟩, rfl⟩ := hp608
  obtain rfl : r608 = some (.long ((spNumber σ (xs (i + 1)) (xs (i + 2))).1)) := hr608
  refine gw_W.widen (k1 := n1 + 1) (k2 := n2 + 6) (by show n1 + 0 ≤ n1 + 1; omega) (by show n2 + 0 ≤ n2 + 6; omega) ?_
  refine gw_W.norm (st' := [.long ((spNumber σ (xs (i + 1)) (xs (i + 2))).1)]) (k1 := n1 + 1) (k2 := n2 + 6) rfl rfl rfl ?_
  refine gw_aload_n dL_law_611 rfl ?_
  refine gw_aload_n dL_law_612 rfl ?_
  refine gw_iload_n dL_law_613 rfl ?_
  refine gw_iconst (v := nI (1)) dL_law_614 (by decide) ?_
  refine gw_iaddN dL_law_615 ?_
  refine gl_sld (zL_Z b L xs) rfl (by omega) (by omega) dL_law_616 ?_
  refine gw_aload_n dL_law_617 rfl ?_
  refine gw_iload_n dL_law_618 rfl ?_
  refine gw_iconst (v := nI (2)) dL_law_619 (by decide) ?_
  refine gw_iaddN dL_law_620 ?_
  refine gl_sld (zL_Z b L xs) rfl (by omega) (by omega) dL_law_621 ?_
  refine gw_callH (As := [.int (xs (i + 1)), .int (xs (i + 2))]) (st := [.long ((spNumber σ (xs (i + 1)) (xs (i + 2))).1)]) ((t_mnumber l cy ad iv ia la σ hm (xs (i + 1)) (xs (i + 2))).frame (w2 := w608 ++ mW cy ad iv ia la) (f := w608) List.perm_append_comm) ok_X12_number (gw_has.right mW_has) rfl rfl wd_1028 rfl rfl dL_law_622 (by decide) ⟨by show n1 + 1 + 0 ≤ 600000; omega, by show n2 + 6 + 0 ≤ 7302250; omega⟩ (Nat.le_of_ble_eq_true rfl) (fun r622 u622 hp622 => ?_)
  obtain ⟨w622, ⟨hr622, iv2, ia2, la2, rfl, hm2⟩, rfl⟩ := hp622
  obtain rfl : r622 = some (.long ((spNumber σ (xs (i + 1)) (xs (i + 2))).1)) := hr622
  refine gw_W.perm (w' := w608 ++ mW cy ad iv2 ia2 la2) List.perm_append_comm ?_
  refine gw_W.norm (st' := [.long ((spNumber σ (xs (i + 1)) (xs (i + 2))).1), .long ((spNumber σ (xs (i + 1)) (xs (i + 2))).1)]) (k1 := n1 + 1) (k2 := n2 + 6) rfl rfl rfl ?_
  refine gw_lcmp dL_law_625 ?_
  exact gw_if_eq (tgt := 1202) dL_law_626 (by decide) (fun _ => K _ _ _ _ _ hI2 hm2) (fun h => absurd ((lg_cmp_eq _ _).mpr rfl) h)
set_option maxHeartbeats 4000000 in
set_option maxRecDepth 100000 in
theorem lcG_12 (l : Launch) (cy : Nat → ClassId) (b bx L i n1 n2 : Nat) (xs : Nat → Int32) (σ : aS) (wc : va_W) (ad : Nat → Nat) (iv : Nat → Int32) (ia : Nat → Nat → Int32) (la : Nat → Nat → Int64) (hI : cInv cy bx σ wc) (hm : mInv σ iv ia la) (hi : i + 6 ≤ L) (hL : L < 100000) (h1 : n1 + 1 ≤ 600000) (h2 : n2 + 6 ≤ 7302250) (K : ∀ (σ : aS) (wc : va_W) (iv : Nat → Int32) (ia : Nat → Nat → Int32) (la : Nat → Nat → Int64), cInv cy bx σ wc → mInv σ iv ia la → gw_W l kL_law cy (zL b L xs) (wc ++ mW cy ad iv ia la) (n1 + 1) (n2 + 6) 1202 [some (.ref b), some (.ref bx), some (.ref (ad 0)), some (.int (nI i))] []) : gw_W l kL_law cy (zL b L xs) (wc ++ mW cy ad iv ia la) n1 n2 631 [some (.ref b), some (.ref bx), some (.ref (ad 0)), some (.int (nI i))] [] := by
  refine gw_aload_n dL_law_631 rfl ?_
  refine gw_aload_n dL_law_632 rfl ?_
  refine gw_iload_n dL_law_633 rfl ?_
  refine gw_iconst (v := nI (1)) dL_law_634 (by decide) ?_
  refine gw_iaddN dL_law_635 ?_
  refine gl_sld (zL_Z b L xs) rfl (by omega) (by omega) dL_law_636 ?_
  refine gw_aload_n dL_law_637 rfl ?_
  refine gw_iload_n dL_law_638 rfl ?_
  refine gw_iconst (v := nI (2)) dL_law_639 (by decide) ?_
  refine gw_iaddN dL_law_640 ?_
  refine gl_sld (zL_Z b L xs) rfl (by omega) (by omega) dL_law_641 ?_
  refine gw_aload_n dL_law_642 rfl ?_
  refine gw_iload_n dL_law_643 rfl ?_
  refine gw_iconst (v := nI (3)) dL_law_644 (by decide) ?_
  refine gw_iaddN dL_law_645 ?_
  refine gl_sld (zL_Z b L xs) rfl (by omega) (by omega) dL_law_646 ?_
  refine gw_callH (As := [.int (xs (i + 1)), .int (xs (i + 2)), .int (xs (i + 3))]) (st := []) ((t_cpower l cy bx σ wc hI (xs (i + 1)) (xs (i + 2)) (xs (i + 3))).frame (w2 := wc ++ mW cy ad iv ia la) (f := mW cy ad iv ia la) (List.Perm.refl _)) ok_X11_power ((cInv_has hI).left) rfl rfl wd_406 rfl rfl dL_law_647 (by decide) ⟨by show n1 + 0 ≤ 600000; omega, by show n2 + 0 ≤ 7302250; omega⟩ (Nat.le_of_ble_eq_true rfl) (fun r647 u647 hp647 => ?_)
  obtain ⟨w647, ⟨hr647, hI2⟩, rfl⟩ := hp647
  obtain rfl : r647 = some (.int ((spPower σ (xs (i + 1)) (xs (i + 2)) (xs (i + 3))).1)) := hr647
  refine gw_W.widen (k1 := n1 + 1) (k2 := n2 + 6) (by show n1 + 0 ≤ n1 + 1; omega) (by show n2 + 0 ≤ n2 + 6; omega) ?_
  refine gw_W.norm (st' := [.int ((spPower σ (xs (i + 1)) (xs (i + 2)) (xs (i + 3))).1)]) (k1 := n1 + 1) (k2 := n2 + 6) rfl rfl rfl ?_
  refine gw_aload_n dL_law_650 rfl ?_
  refine gw_aload_n dL_law_651 rfl ?_
  refine gw_iload_n dL_law_652 rfl ?_
  refine gw_iconst (v := nI (1)) dL_law_653 (by decide) ?_
  refine gw_iaddN dL_law_654 ?_
  refine gl_sld (zL_Z b L xs) rfl (by omega) (by omega) dL_law_655 ?_
  refine gw_aload_n dL_law_656 rfl ?_
  refine gw_iload_n dL_law_657 rfl ?_
  refine gw_iconst (v := nI (2)) dL_law_658 (by decide) ?_
  refine gw_iaddN dL_law_659 ?_
  refine gl_sld (zL_Z b L xs) rfl (by omega) (by omega) dL_law_660 ?_
  refine gw_aload_n dL_law_661 rfl ?_
  refine gw_iload_n dL_law_662 rfl ?_
  refine gw_iconst (v := nI (3)) dL_law_663 (by decide) ?_
  refine gw_iaddN dL_law_664 ?_
  refine gl_sld (zL_Z b L xs) rfl (by omega) (by omega) dL_law_665 ?_
  refine gw_callH (As := [.int (xs (i + 1)), .int (xs (i + 2)), .int (xs (i + 3))]) (st := [.int ((spPower σ (xs (i + 1)) (xs (i + 2)) (xs (i + 3))).1)]) ((t_mpower l cy ad iv ia la σ hm (xs (i + 1)) (xs (i + 2)) (xs (i + 3))).frame (w2 := w647 ++ mW cy ad iv ia la) (f := w647) List.perm_append_comm) ok_X12_power (gw_has.right mW_has) rfl rfl wd_1037 rfl rfl dL_law_666 (by decide) ⟨by show n1 + 1 + 0 ≤ 600000; omega, by show n2 + 6 + 0 ≤ 7302250; omega⟩ (Nat.le_of_ble_eq_true rfl) (fun r666 u666 hp666 => ?_)
  obtain ⟨w666, ⟨hr666, iv2, ia2, la2, rfl, hm2⟩, rfl⟩ := hp666
  obtain rfl : r666 = some (.int ((spPower σ (xs (i + 1)) (xs (i + 2)) (xs (i + 3))).1)) := hr666
  refine gw_W.perm (w' := w647 ++ mW cy ad iv2 ia2 la2) List.perm_append_comm ?_
  refine gw_W.norm (st' := [.int ((spPower σ (xs (i + 1)) (xs (i + 2)) (xs (i + 3))).1), .int ((spPower σ (xs (i + 1)) (xs (i + 2)) (xs (i + 3))).1)]) (k1 := n1 + 1) (k2 := n2 + 6) rfl rfl rfl ?_
  exact gw_icmp_eq (tgt := 1202) dL_law_669 (by decide) (fun _ => K _ _ _ _ _ hI2 hm2) (fun h => absurd rfl h)
set_option maxHeartbeats 4000000 in
set_option maxRecDepth 100000 in
theorem lcG_13 (l : Launch) (cy : Nat → ClassId) (b bx L i n1 n2 : Nat) (xs : Nat → Int32) (σ : aS) (wc : va_W) (ad : Nat → Nat) (iv : Nat → Int32) (ia : Nat → Nat → Int32) (la : Nat → Nat → Int64) (hI : cInv cy bx σ wc) (hm : mInv σ iv ia la) (hi : i + 6 ≤ L) (hL : L < 100000) (h1 : n1 + 1 ≤ 600000) (h2 : n2 + 6 ≤ 7302250) (K : ∀ (σ : aS) (wc : va_W) (iv : Nat → Int32) (ia : Nat → Nat → Int32) (la : Nat → Nat → Int64), cInv cy bx σ wc → mInv σ iv ia la → gw_W l kL_law cy (zL b L xs) (wc ++ mW cy ad iv ia la) (n1 + 1) (n2 + 6) 1202 [some (.ref b), some (.ref bx), some (.ref (ad 0)), some (.int (nI i))] []) : gw_W l kL_law cy (zL b L xs) (wc ++ mW cy ad iv ia la) n1 n2 674 [some (.ref b), some (.ref bx), some (.ref (ad 0)), some (.int (nI i))] [] := by
  refine gw_aload_n dL_law_674 rfl ?_
  refine gw_aload_n dL_law_675 rfl ?_
  refine gw_iload_n dL_law_676 rfl ?_
  refine gw_iconst (v := nI (1)) dL_law_677 (by decide) ?_
  refine gw_iaddN dL_law_678 ?_
  refine gl_sld (zL_Z b L xs) rfl (by omega) (by omega) dL_law_679 ?_
  refine gw_aload_n dL_law_680 rfl ?_
  refine gw_iload_n dL_law_681 rfl ?_
  refine gw_iconst (v := nI (2)) dL_law_682 (by decide) ?_
  refine gw_iaddN dL_law_683 ?_
  refine gl_sld (zL_Z b L xs) rfl (by omega) (by omega) dL_law_684 ?_
  refine gw_callH (As := [.int (xs (i + 1)), .int (xs (i + 2))]) (st := []) ((t_csame l cy bx σ wc hI (xs (i + 1)) (xs (i + 2))).frame (w2 := wc ++ mW cy ad iv ia la) (f := mW cy ad iv ia la) (List.Perm.refl _)) ok_X11_same ((cInv_has hI).left) rfl rfl wd_417 rfl rfl dL_law_685 (by decide) ⟨by show n1 + 0 ≤ 600000; omega, by show n2 + 0 ≤ 7302250; omega⟩ (Nat.le_of_ble_eq_true rfl) (fun r685 u685 hp685 => ?_)
  obtain ⟨w685, ⟨hr685, hI2⟩, rfl⟩ := hp685
  obtain rfl : r685 = some (.int ((spSame σ (xs (i + 1)) (xs (i + 2))).1)) := hr685
  refine gw_W.widen (k1 := n1 + 1) (k2 := n2 + 6) (by show n1 + 0 ≤ n1 + 1; omega) (by show n2 + 0 ≤ n2 + 6; omega) ?_
  refine gw_W.norm (st' := [.int ((spSame σ (xs (i + 1)) (xs (i + 2))).1)]) (k1 := n1 + 1) (k2 := n2 + 6) rfl rfl rfl ?_
  refine gw_aload_n dL_law_688 rfl ?_
  refine gw_aload_n dL_law_689 rfl ?_
  refine gw_iload_n dL_law_690 rfl ?_
  refine gw_iconst (v := nI (1)) dL_law_691 (by decide) ?_
  refine gw_iaddN dL_law_692 ?_
  refine gl_sld (zL_Z b L xs) rfl (by omega) (by omega) dL_law_693 ?_
  refine gw_aload_n dL_law_694 rfl ?_
  refine gw_iload_n dL_law_695 rfl ?_
  refine gw_iconst (v := nI (2)) dL_law_696 (by decide) ?_
  refine gw_iaddN dL_law_697 ?_
  refine gl_sld (zL_Z b L xs) rfl (by omega) (by omega) dL_law_698 ?_
  refine gw_callH (As := [.int (xs (i + 1)), .int (xs (i + 2))]) (st := [.int ((spSame σ (xs (i + 1)) (xs (i + 2))).1)]) ((t_msame l cy ad iv ia la σ hm (xs (i + 1)) (xs (i + 2))).frame (w2 := w685 ++ mW cy ad iv ia la) (f := w685) List.perm_append_comm) ok_X12_same (gw_has.right mW_has) rfl rfl wd_1044 rfl rfl dL_law_699 (by decide) ⟨by show n1 + 1 + 0 ≤ 600000; omega, by show n2 + 6 + 0 ≤ 7302250; omega⟩ (Nat.le_of_ble_eq_true rfl) (fun r699 u699 hp699 => ?_)
  obtain ⟨w699, ⟨hr699, iv2, ia2, la2, rfl, hm2⟩, rfl⟩ := hp699
  obtain rfl : r699 = some (.int ((spSame σ (xs (i + 1)) (xs (i + 2))).1)) := hr699
  refine gw_W.perm (w' := w685 ++ mW cy ad iv2 ia2 la2) List.perm_append_comm ?_
  refine gw_W.norm (st' := [.int ((spSame σ (xs (i + 1)) (xs (i + 2))).1), .int ((spSame σ (xs (i + 1)) (xs (i + 2))).1)]) (k1 := n1 + 1) (k2 := n2 + 6) rfl rfl rfl ?_
  exact gw_icmp_eq (tgt := 1202) dL_law_702 (by decide) (fun _ => K _ _ _ _ _ hI2 hm2) (fun h => absurd rfl h)
set_option maxHeartbeats 4000000 in
set_option maxRecDepth 100000 in
theorem lcG_14 (l : Launch) (cy : Nat → ClassId) (b bx L i n1 n2 : Nat) (xs : Nat → Int32) (σ : aS) (wc : va_W) (ad : Nat → Nat) (iv : Nat → Int32) (ia : Nat → Nat → Int32) (la : Nat → Nat → Int64) (hI : cInv cy bx σ wc) (hm : mInv σ iv ia la) (hi : i + 6 ≤ L) (hL : L < 100000) (h1 : n1 + 1 ≤ 600000) (h2 : n2 + 6 ≤ 7302250) (K : ∀ (σ : aS) (wc : va_W) (iv : Nat → Int32) (ia : Nat → Nat → Int32) (la : Nat → Nat → Int64), cInv cy bx σ wc → mInv σ iv ia la → gw_W l kL_law cy (zL b L xs) (wc ++ mW cy ad iv ia la) (n1 + 1) (n2 + 6) 1202 [some (.ref b), some (.ref bx), some (.ref (ad 0)), some (.int (nI i))] []) : gw_W l kL_law cy (zL b L xs) (wc ++ mW cy ad iv ia la) n1 n2 707 [some (.ref b), some (.ref bx), some (.ref (ad 0)), some (.int (nI i))] [] := by
  refine gw_aload_n dL_law_707 rfl ?_
  refine gw_aload_n dL_law_708 rfl ?_
  refine gw_iload_n dL_law_709 rfl ?_
  refine gw_iconst (v := nI (1)) dL_law_710 (by decide) ?_
  refine gw_iaddN dL_law_711 ?_
  refine gl_sld (zL_Z b L xs) rfl (by omega) (by omega) dL_law_712 ?_
  refine gw_aload_n dL_law_713 rfl ?_
  refine gw_iload_n dL_law_714 rfl ?_
  refine gw_iconst (v := nI (2)) dL_law_715 (by decide) ?_
  refine gw_iaddN dL_law_716 ?_
  refine gl_sld (zL_Z b L xs) rfl (by omega) (by omega) dL_law_717 ?_
  refine gw_aload_n dL_law_718 rfl ?_
  refine gw_iload_n dL_law_719 rfl ?_
  refine gw_iconst (v := nI (3)) dL_law_720 (by decide) ?_
  refine gw_iaddN dL_law_721 ?_
  refine gl_sld (zL_Z b L xs) rfl (by omega) (by omega) dL_law_722 ?_
  refine gw_callH (As := [.int (xs (i + 1)), .int (xs (i + 2)), .int (xs (i + 3))]) (st := []) ((t_cproduct l cy bx σ wc hI (xs (i + 1)) (xs (i + 2)) (xs (i + 3))).frame (w2 := wc ++ mW cy ad iv ia la) (f := mW cy ad iv ia la) (List.Perm.refl _)) ok_X11_product ((cInv_has hI).left) rfl rfl wd_425 rfl rfl dL_law_723 (by decide) ⟨by show n1 + 0 ≤ 600000; omega, by show n2 + 0 ≤ 7302250; omega⟩ (Nat.le_of_ble_eq_true rfl) (fun r723 u723 hp723 => ?_)
  obtain ⟨w723, ⟨hr723, hI2⟩, rfl⟩ := hp723
  obtain rfl : r723 = some (.int ((spProduct σ (xs (i + 1)) (xs (i + 2)) (xs (i + 3))).1)) := hr723
  refine gw_W.widen (k1 := n1 + 1) (k2 := n2 + 6) (by show n1 + 0 ≤ n1 + 1; omega) (by show n2 + 0 ≤ n2 + 6; omega) ?_
  refine gw_W.norm (st' := [.int ((spProduct σ (xs (i + 1)) (xs (i + 2)) (xs (i + 3))).1)]) (k1 := n1 + 1) (k2 := n2 + 6) rfl rfl rfl ?_
  refine gw_aload_n dL_law_726 rfl ?_
  refine gw_aload_n dL_law_727 rfl ?_
  refine gw_iload_n dL_law_728 rfl ?_
  refine gw_iconst (v := nI (1)) dL_law_729 (by decide) ?_
  refine gw_iaddN dL_law_730 ?_
  refine gl_sld (zL_Z b L xs) rfl (by omega) (by omega) dL_law_731 ?_
  refine gw_aload_n dL_law_732 rfl ?_
  refine gw_iload_n dL_law_733 rfl ?_
  refine gw_iconst (v := nI (2)) dL_law_734 (by decide) ?_
  refine gw_iaddN dL_law_735 ?_
  refine gl_sld (zL_Z b L xs) rfl (by omega) (by omega) dL_law_736 ?_
  refine gw_aload_n dL_law_737 rfl ?_
  refine gw_iload_n dL_law_738 rfl ?_
  refine gw_iconst (v := nI (3)) dL_law_739 (by decide) ?_
  refine gw_iaddN dL_law_740 ?_
  refine gl_sld (zL_Z b L xs) rfl (by omega) (by omega) dL_law_741 ?_
  refine gw_callH (As := [.int (xs (i + 1)), .int (xs (i + 2)), .int (xs (i + 3))]) (st := [.int ((spProduct σ (xs (i + 1)) (xs (i + 2)) (xs (i + 3))).1)]) ((t_mproduct l cy ad iv ia la σ hm (xs (i + 1)) (xs (i + 2)) (xs (i + 3))).frame (w2 := w723 ++ mW cy ad iv ia la) (f := w723) List.perm_append_comm) ok_X12_product (gw_has.right mW_has) rfl rfl wd_1048 rfl rfl dL_law_742 (by decide) ⟨by show n1 + 1 + 0 ≤ 600000; omega, by show n2 + 6 + 0 ≤ 7302250; omega⟩ (Nat.le_of_ble_eq_true rfl) (fun r742 u742 hp742 => ?_)
  obtain ⟨w742, ⟨hr742, iv2, ia2, la2, rfl, hm2⟩, rfl⟩ := hp742
  obtain rfl : r742 = some (.int ((spProduct σ (xs (i + 1)) (xs (i + 2)) (xs (i + 3))).1)) := hr742
  refine gw_W.perm (w' := w723 ++ mW cy ad iv2 ia2 la2) List.perm_append_comm ?_
  refine gw_W.norm (st' := [.int ((spProduct σ (xs (i + 1)) (xs (i + 2)) (xs (i + 3))).1), .int ((spProduct σ (xs (i + 1)) (xs (i + 2)) (xs (i + 3))).1)]) (k1 := n1 + 1) (k2 := n2 + 6) rfl rfl rfl ?_
  exact gw_icmp_eq (tgt := 1202) dL_law_745 (by decide) (fun _ => K _ _ _ _ _ hI2 hm2) (fun h => absurd rfl h)
set_option maxHeartbeats 4000000 in
set_option maxRecDepth 100000 in
theorem lcG_15 (l : Launch) (cy : Nat → ClassId) (b bx L i n1 n2 : Nat) (xs : Nat → Int32) (σ : aS) (wc : va_W) (ad : Nat → Nat) (iv : Nat → Int32) (ia : Nat → Nat → Int32) (la : Nat → Nat → Int64) (hI : cInv cy bx σ wc) (hm : mInv σ iv ia la) (hi : i + 6 ≤ L) (hL : L < 100000) (h1 : n1 + 1 ≤ 600000) (h2 : n2 + 6 ≤ 7302250) (K : ∀ (σ : aS) (wc : va_W) (iv : Nat → Int32) (ia : Nat → Nat → Int32) (la : Nat → Nat → Int64), cInv cy bx σ wc → mInv σ iv ia la → gw_W l kL_law cy (zL b L xs) (wc ++ mW cy ad iv ia la) (n1 + 1) (n2 + 6) 1202 [some (.ref b), some (.ref bx), some (.ref (ad 0)), some (.int (nI i))] []) : gw_W l kL_law cy (zL b L xs) (wc ++ mW cy ad iv ia la) n1 n2 750 [some (.ref b), some (.ref bx), some (.ref (ad 0)), some (.int (nI i))] [] := by
  refine gw_aload_n dL_law_750 rfl ?_
  refine gw_aload_n dL_law_751 rfl ?_
  refine gw_iload_n dL_law_752 rfl ?_
  refine gw_iconst (v := nI (1)) dL_law_753 (by decide) ?_
  refine gw_iaddN dL_law_754 ?_
  refine gl_sld (zL_Z b L xs) rfl (by omega) (by omega) dL_law_755 ?_
  refine gw_callH (As := [.int (xs (i + 1))]) (st := []) ((t_cdigest l cy bx σ wc hI (xs (i + 1))).frame (w2 := wc ++ mW cy ad iv ia la) (f := mW cy ad iv ia la) (List.Perm.refl _)) ok_X11_digest ((cInv_has hI).left) rfl rfl wd_451 rfl rfl dL_law_756 (by decide) ⟨by show n1 + 0 ≤ 600000; omega, by show n2 + 0 ≤ 7302250; omega⟩ (Nat.le_of_ble_eq_true rfl) (fun r756 u756 hp756 => ?_)
  obtain ⟨w756, ⟨hr756, hI2⟩, rfl⟩ := hp756
  obtain rfl : r756 = some (.long ((spDigest σ (xs (i + 1))).1)) := hr756
  refine gw_W.widen (k1 := n1 + 1) (k2 := n2 + 6) (by show n1 + 0 ≤ n1 + 1; omega) (by show n2 + 0 ≤ n2 + 6; omega) ?_
  refine gw_W.norm (st' := [.long ((spDigest σ (xs (i + 1))).1)]) (k1 := n1 + 1) (k2 := n2 + 6) rfl rfl rfl ?_
  refine gw_aload_n dL_law_759 rfl ?_
  refine gw_aload_n dL_law_760 rfl ?_
  refine gw_iload_n dL_law_761 rfl ?_
  refine gw_iconst (v := nI (1)) dL_law_762 (by decide) ?_
  refine gw_iaddN dL_law_763 ?_
  refine gl_sld (zL_Z b L xs) rfl (by omega) (by omega) dL_law_764 ?_
  refine gw_callH (As := [.int (xs (i + 1))]) (st := [.long ((spDigest σ (xs (i + 1))).1)]) ((t_mdigest l cy ad iv ia la σ hm (xs (i + 1))).frame (w2 := w756 ++ mW cy ad iv ia la) (f := w756) List.perm_append_comm) ok_X12_digest (gw_has.right mW_has) rfl rfl wd_1056 rfl rfl dL_law_765 (by decide) ⟨by show n1 + 1 + 0 ≤ 600000; omega, by show n2 + 6 + 0 ≤ 7302250; omega⟩ (Nat.le_of_ble_eq_true rfl) (fun r765 u765 hp765 => ?_)
  obtain ⟨w765, ⟨hr765, iv2, ia2, la2, rfl, hm2⟩, rfl⟩ := hp765
  obtain rfl : r765 = some (.long ((spDigest σ (xs (i + 1))).1)) := hr765
  refine gw_W.perm (w' := w756 ++ mW cy ad iv2 ia2 la2) List.perm_append_comm ?_
  refine gw_W.norm (st' := [.long ((spDigest σ (xs (i + 1))).1), .long ((spDigest σ (xs (i + 1))).1)]) (k1 := n1 + 1) (k2 := n2 + 6) rfl rfl rfl ?_
  refine gw_lcmp dL_law_768 ?_
  exact gw_if_eq (tgt := 1202) dL_law_769 (by decide) (fun _ => K _ _ _ _ _ hI2 hm2) (fun h => absurd ((lg_cmp_eq _ _).mpr rfl) h)
set_option maxHeartbeats 4000000 in
set_option maxRecDepth 100000 in
theorem lcG_16 (l : Launch) (cy : Nat → ClassId) (b bx L i n1 n2 : Nat) (xs : Nat → Int32) (σ : aS) (wc : va_W) (ad : Nat → Nat) (iv : Nat → Int32) (ia : Nat → Nat → Int32) (la : Nat → Nat → Int64) (hI : cInv cy bx σ wc) (hm : mInv σ iv ia la) (hi : i + 6 ≤ L) (hL : L < 100000) (h1 : n1 + 1 ≤ 600000) (h2 : n2 + 6 ≤ 7302250) (K : ∀ (σ : aS) (wc : va_W) (iv : Nat → Int32) (ia : Nat → Nat → Int32) (la : Nat → Nat → Int64), cInv cy bx σ wc → mInv σ iv ia la → gw_W l kL_law cy (zL b L xs) (wc ++ mW cy ad iv ia la) (n1 + 1) (n2 + 6) 1202 [some (.ref b), some (.ref bx), some (.ref (ad 0)), some (.int (nI i))] []) : gw_W l kL_law cy (zL b L xs) (wc ++ mW cy ad iv ia la) n1 n2 774 [some (.ref b), some (.ref bx), some (.ref (ad 0)), some (.int (nI i))] [] := by
  refine gw_aload_n dL_law_774 rfl ?_
  refine gw_aload_n dL_law_775 rfl ?_
  refine gw_iload_n dL_law_776 rfl ?_
  refine gw_iconst (v := nI (1)) dL_law_777 (by decide) ?_
  refine gw_iaddN dL_law_778 ?_
  refine gl_sld (zL_Z b L xs) rfl (by omega) (by omega) dL_law_779 ?_
  refine gw_aload_n dL_law_780 rfl ?_
  refine gw_iload_n dL_law_781 rfl ?_
  refine gw_iconst (v := nI (2)) dL_law_782 (by decide) ?_
  refine gw_iaddN dL_law_783 ?_
  refine gl_sld (zL_Z b L xs) rfl (by omega) (by omega) dL_law_784 ?_
  refine gw_aload_n dL_law_785 rfl ?_
  refine gw_iload_n dL_law_786 rfl ?_
  refine gw_iconst (v := nI (3)) dL_law_787 (by decide) ?_
  refine gw_iaddN dL_law_788 ?_
  refine gl_sld (zL_Z b L xs) rfl (by omega) (by omega) dL_law_789 ?_
  refine gw_callH (As := [.int (xs (i + 1)), .int (xs (i + 2)), .int (xs (i + 3))]) (st := []) ((t_cgpulse l cy bx σ wc hI (xs (i + 1)) (xs (i + 2)) (xs (i + 3))).frame (w2 := wc ++ mW cy ad iv ia la) (f := mW cy ad iv ia la) (List.Perm.refl _)) ok_X11_pulse ((cInv_has hI).left) rfl rfl wd_457 rfl rfl dL_law_790 (by decide) ⟨by show n1 + 1 ≤ 600000; omega, by show n2 + 5 ≤ 7302250; omega⟩ (Nat.le_of_ble_eq_true rfl) (fun r790 u790 hp790 => ?_)
  obtain ⟨w790, ⟨hr790, hI2⟩, rfl⟩ := hp790
  obtain rfl : r790 = some (.int ((spPulse σ (xs (i + 1)) (xs (i + 2)) (xs (i + 3))).1)) := hr790
  refine gw_W.widen (k1 := n1 + 1) (k2 := n2 + 6) (by show n1 + 1 ≤ n1 + 1; omega) (by show n2 + 5 ≤ n2 + 6; omega) ?_
  refine gw_W.norm (st' := [.int ((spPulse σ (xs (i + 1)) (xs (i + 2)) (xs (i + 3))).1)]) (k1 := n1 + 1) (k2 := n2 + 6) rfl rfl rfl ?_
  refine gw_aload_n dL_law_793 rfl ?_
  refine gw_aload_n dL_law_794 rfl ?_
  refine gw_iload_n dL_law_795 rfl ?_
  refine gw_iconst (v := nI (1)) dL_law_796 (by decide) ?_
  refine gw_iaddN dL_law_797 ?_
  refine gl_sld (zL_Z b L xs) rfl (by omega) (by omega) dL_law_798 ?_
  refine gw_aload_n dL_law_799 rfl ?_
  refine gw_iload_n dL_law_800 rfl ?_
  refine gw_iconst (v := nI (2)) dL_law_801 (by decide) ?_
  refine gw_iaddN dL_law_802 ?_
  refine gl_sld (zL_Z b L xs) rfl (by omega) (by omega) dL_law_803 ?_
  refine gw_aload_n dL_law_804 rfl ?_
  refine gw_iload_n dL_law_805 rfl ?_
  refine gw_iconst (v := nI (3)) dL_law_806 (by decide) ?_
  refine gw_iaddN dL_law_807 ?_
  refine gl_sld (zL_Z b L xs) rfl (by omega) (by omega) dL_law_808 ?_
  refine gw_callH (As := [.int (xs (i + 1)), .int (xs (i + 2)), .int (xs (i + 3))]) (st := [.int ((spPulse σ (xs (i + 1)) (xs (i + 2)) (xs (i + 3))).1)]) ((t_mpulse l cy ad iv ia la σ hm (xs (i + 1)) (xs (i + 2)) (xs (i + 3))).frame (w2 := w790 ++ mW cy ad iv ia la) (f := w790) List.perm_append_comm) ok_X12_pulse (gw_has.right mW_has) rfl rfl wd_1062 rfl rfl dL_law_809 (by decide) ⟨by show n1 + 1 + 0 ≤ 600000; omega, by show n2 + 6 + 0 ≤ 7302250; omega⟩ (Nat.le_of_ble_eq_true rfl) (fun r809 u809 hp809 => ?_)
  obtain ⟨w809, ⟨hr809, iv2, ia2, la2, rfl, hm2⟩, rfl⟩ := hp809
  obtain rfl : r809 = some (.int ((spPulse σ (xs (i + 1)) (xs (i + 2)) (xs (i + 3))).1)) := hr809
  refine gw_W.perm (w' := w790 ++ mW cy ad iv2 ia2 la2) List.perm_append_comm ?_
  refine gw_W.norm (st' := [.int ((spPulse σ (xs (i + 1)) (xs (i + 2)) (xs (i + 3))).1), .int ((spPulse σ (xs (i + 1)) (xs (i + 2)) (xs (i + 3))).1)]) (k1 := n1 + 1) (k2 := n2 + 6) rfl rfl rfl ?_
  exact gw_icmp_eq (tgt := 1202) dL_law_812 (by decide) (fun _ => K _ _ _ _ _ hI2 hm2) (fun h => absurd rfl h)
set_option maxHeartbeats 4000000 in
set_option maxRecDepth 100000 in
theorem lcG_17 (l : Launch) (cy : Nat → ClassId) (b bx L i n1 n2 : Nat) (xs : Nat → Int32) (σ : aS) (wc : va_W) (ad : Nat → Nat) (iv : Nat → Int32) (ia : Nat → Nat → Int32) (la : Nat → Nat → Int64) (hI : cInv cy bx σ wc) (hm : mInv σ iv ia la) (hi : i + 6 ≤ L) (hL : L < 100000) (h1 : n1 + 1 ≤ 600000) (h2 : n2 + 6 ≤ 7302250) (K : ∀ (σ : aS) (wc : va_W) (iv : Nat → Int32) (ia : Nat → Nat → Int32) (la : Nat → Nat → Int64), cInv cy bx σ wc → mInv σ iv ia la → gw_W l kL_law cy (zL b L xs) (wc ++ mW cy ad iv ia la) (n1 + 1) (n2 + 6) 1202 [some (.ref b), some (.ref bx), some (.ref (ad 0)), some (.int (nI i))] []) : gw_W l kL_law cy (zL b L xs) (wc ++ mW cy ad iv ia la) n1 n2 817 [some (.ref b), some (.ref bx), some (.ref (ad 0)), some (.int (nI i))] [] := by
  refine gw_aload_n dL_law_817 rfl ?_
  refine gw_aload_n dL_law_818 rfl ?_
  refine gw_iload_n dL_law_819 rfl ?_
  refine gw_iconst (v := nI (1)) dL_law_820 (by decide) ?_
  refine gw_iaddN dL_law_821 ?_
  refine gl_sld (zL_Z b L xs) rfl (by omega) (by omega) dL_law_822 ?_
  refine gw_aload_n dL_law_823 rfl ?_
  refine gw_iload_n dL_law_824 rfl ?_
  refine gw_iconst (v := nI (2)) dL_law_825 (by decide) ?_
  refine gw_iaddN dL_law_826 ?_
  refine gl_sld (zL_Z b L xs) rfl (by omega) (by omega) dL_law_827 ?_
  refine gw_aload_n dL_law_828 rfl ?_
  refine gw_iload_n dL_law_829 rfl ?_
  refine gw_iconst (v := nI (3)) dL_law_830 (by decide) ?_
  refine gw_iaddN dL_law_831 ?_
  refine gl_sld (zL_Z b L xs) rfl (by omega) (by omega) dL_law_832 ?_
  refine gw_aload_n dL_law_833 rfl ?_
  refine gw_iload_n dL_law_834 rfl ?_
  refine gw_iconst (v := nI (4)) dL_law_835 (by decide) ?_
  refine gw_iaddN dL_law_836 ?_
  refine gl_sld (zL_Z b L xs) rfl (by omega) (by omega) dL_law_837 ?_
  refine gw_callH (As := [.int (xs (i + 1)), .int (xs (i + 2)), .int (xs (i + 3)), .int (xs (i + 4))]) (st := []) ((t_cgcycled l cy bx σ wc hI (xs (i + 1)) (xs (i + 2)) (xs (i + 3)) (xs (i + 4))).frame (w2 := wc ++ mW cy ad iv ia la) (f := mW cy ad iv ia la) (List.Perm.refl _)) ok_X11_cycled ((cInv_has hI).left) rfl rfl wd_510 rfl rfl dL_law_838 (by decide) ⟨by show n1 + 1 ≤ 600000; omega, by show n2 + 6 ≤ 7302250; omega⟩ (Nat.le_of_ble_eq_true rfl) (fun r838 u838 hp838 => ?_)
  obtain ⟨w838, ⟨hr838, hI2⟩, rfl⟩ := hp838
  obtain rfl : r838 = some (.int ((spCycled σ (xs (i + 1)) (xs (i + 2)) (xs (i + 3)) (xs (i + 4))).1)) := hr838
  refine gw_W.widen (k1 := n1 + 1) (k2 := n2 + 6) (by show n1 + 1 ≤ n1 + 1; omega) (by show n2 + 6 ≤ n2 + 6; omega) ?_
  refine gw_W.norm (st' := [.int ((spCycled σ (xs (i + 1)) (xs (i + 2)) (xs (i + 3)) (xs (i + 4))).1)]) (k1 := n1 + 1) (k2 := n2 + 6) rfl rfl rfl ?_
  refine gw_aload_n dL_law_841 rfl ?_
  refine gw_aload_n dL_law_842 rfl ?_
  refine gw_iload_n dL_law_843 rfl ?_
  refine gw_iconst (v := nI (1)) dL_law_844 (by decide) ?_
  refine gw_iaddN dL_law_845 ?_
  refine gl_sld (zL_Z b L xs) rfl (by omega) (by omega) dL_law_846 ?_
  refine gw_aload_n dL_law_847 rfl ?_
  refine gw_iload_n dL_law_848 rfl ?_
  refine gw_iconst (v := nI (2)) dL_law_849 (by decide) ?_
  refine gw_iaddN dL_law_850 ?_
  refine gl_sld (zL_Z b L xs) rfl (by omega) (by omega) dL_law_851 ?_
  refine gw_aload_n dL_law_852 rfl ?_
  refine gw_iload_n dL_law_853 rfl ?_
  refine gw_iconst (v := nI (3)) dL_law_854 (by decide) ?_
  refine gw_iaddN dL_law_855 ?_
  refine gl_sld (zL_Z b L xs) rfl (by omega) (by omega) dL_law_856 ?_
  refine gw_aload_n dL_law_857 rfl ?_
  refine gw_iload_n dL_law_858 rfl ?_
  refine gw_iconst (v := nI (4)) dL_law_859 (by decide) ?_
  refine gw_iaddN dL_law_860 ?_
  refine gl_sld (zL_Z b L xs) rfl (by omega) (by omega) dL_law_861 ?_
  refine gw_callH (As := [.int (xs (i + 1)), .int (xs (i + 2)), .int (xs (i + 3)), .int (xs (i + 4))]) (st := [.int ((spCycled σ (xs (i + 1)) (xs (i + 2)) (xs (i + 3)) (xs (i + 4))).1)]) ((t_mcycled l cy ad iv ia la σ hm (xs (i + 1)) (xs (i + 2)) (xs (i + 3)) (xs (i + 4))).frame (w2 := w838 ++ mW cy ad iv ia la) (f := w838) List.perm_append_comm) ok_X12_cycled (gw_has.right mW_has) rfl rfl wd_1074 rfl rfl dL_law_862 (by decide) ⟨by show n1 + 1 + 0 ≤ 600000; omega, by show n2 + 6 + 0 ≤ 7302250; omega⟩ (Nat.le_of_ble_eq_true rfl) (fun r862 u862 hp862 => ?_)
  obtain ⟨w862, ⟨hr862, iv2, ia2, la2, rfl, hm2⟩, rfl⟩ := hp862
  obtain rfl : r862 = some (.int ((spCycled σ (xs (i + 1)) (xs (i + 2)) (xs (i + 3)) (xs (i + 4))).1)) := hr862
  refine gw_W.perm (w' := w838 ++ mW cy ad iv2 ia2 la2) List.perm_append_comm ?_
  refine gw_W.norm (st' := [.int ((spCycled σ (xs (i + 1)) (xs (i + 2)) (xs (i + 3)) (xs (i + 4))).1), .int ((spCycled σ (xs (i + 1)) (xs (i + 2)) (xs (i + 3)) (xs (i + 4))).1)]) (k1 := n1 + 1) (k2 := n2 + 6) rfl rfl rfl ?_
  exact gw_icmp_eq (tgt := 1202) dL_law_865 (by decide) (fun _ => K _ _ _ _ _ hI2 hm2) (fun h => absurd rfl h)
set_option maxHeartbeats 4000000 in
set_option maxRecDepth 100000 in
theorem lcG_18 (l : Launch) (cy : Nat → ClassId) (b bx L i n1 n2 : Nat) (xs : Nat → Int32) (σ : aS) (wc : va_W) (ad : Nat → Nat) (iv : Nat → Int32) (ia : Nat → Nat → Int32) (la : Nat → Nat → Int64) (hI : cInv cy bx σ wc) (hm : mInv σ iv ia la) (hi : i + 6 ≤ L) (hL : L < 100000) (h1 : n1 + 1 ≤ 600000) (h2 : n2 + 6 ≤ 7302250) (K : ∀ (σ : aS) (wc : va_W) (iv : Nat → Int32) (ia : Nat → Nat → Int32) (la : Nat → Nat → Int64), cInv cy bx σ wc → mInv σ iv ia la → gw_W l kL_law cy (zL b L xs) (wc ++ mW cy ad iv ia la) (n1 + 1) (n2 + 6) 1202 [some (.ref b), some (.ref bx), some (.ref (ad 0)), some (.int (nI i))] []) : gw_W l kL_law cy (zL b L xs) (wc ++ mW cy ad iv ia la) n1 n2 870 [some (.ref b), some (.ref bx), some (.ref (ad 0)), some (.int (nI i))] [] := by
  refine gw_aload_n dL_law_870 rfl ?_
  refine gw_aload_n dL_law_871 rfl ?_
  refine gw_iload_n dL_law_872 rfl ?_
  refine gw_iconst (v := nI (1)) dL_law_873 (by decide) ?_
  refine gw_iaddN dL_law_874 ?_
  refine gl_sld (zL_Z b L xs) rfl (by omega) (by omega) dL_law_875 ?_
  refine gw_aload_n dL_law_876 rfl ?_
  refine gw_iload_n dL_law_877 rfl ?_
  refine gw_iconst (v := nI (2)) dL_law_878 (by decide) ?_
  refine gw_iaddN dL_law_879 ?_
  refine gl_sld (zL_Z b L xs) rfl (by omega) (by omega) dL_law_880 ?_
  refine gw_aload_n dL_law_881 rfl ?_
  refine gw_iload_n dL_law_882 rfl ?_
  refine gw_iconst (v := nI (3)) dL_law_883 (by decide) ?_
  refine gw_iaddN dL_law_884 ?_
  refine gl_sld (zL_Z b L xs) rfl (by omega) (by omega) dL_law_885 ?_
  refine gw_callH (As := [.int (xs (i + 1)), .int (xs (i + 2)), .int (xs (i + 3))]) (st := []) ((t_cgdelay l cy bx σ wc hI (xs (i + 1)) (xs (i + 2)) (xs (i + 3))).frame (w2 := wc ++ mW cy ad iv ia la) (f := mW cy ad iv ia la) (List.Perm.refl _)) ok_X11_delay ((cInv_has hI).left) rfl rfl wd_529 rfl rfl dL_law_886 (by decide) ⟨by show n1 + 1 ≤ 600000; omega, by show n2 + 5 ≤ 7302250; omega⟩ (Nat.le_of_ble_eq_true rfl) (fun r886 u886 hp886 => ?_)
  obtain ⟨w886, ⟨hr886, hI2⟩, rfl⟩ := hp886
  obtain rfl : r886 = some (.int ((spDelay σ (xs (i + 1)) (xs (i + 2)) (xs (i + 3))).1)) := hr886
  refine gw_W.widen (k1 := n1 + 1) (k2 := n2 + 6) (by show n1 + 1 ≤ n1 + 1; omega) (by show n2 + 5 ≤ n2 + 6; omega) ?_
  refine gw_W.norm (st' := [.int ((spDelay σ (xs (i + 1)) (xs (i + 2)) (xs (i + 3))).1)]) (k1 := n1 + 1) (k2 := n2 + 6) rfl rfl rfl ?_
  refine gw_aload_n dL_law_889 rfl ?_
  refine gw_aload_n dL_law_890 rfl ?_
  refine gw_iload_n dL_law_891 rfl ?_
  refine gw_iconst (v := nI (1)) dL_law_892 (by decide) ?_
  refine gw_iaddN dL_law_893 ?_
  refine gl_sld (zL_Z b L xs) rfl (by omega) (by omega) dL_law_894 ?_
  refine gw_aload_n dL_law_895 rfl ?_
  refine gw_iload_n dL_law_896 rfl ?_
  refine gw_iconst (v := nI (2)) dL_law_897 (by decide) ?_
  refine gw_iaddN dL_law_898 ?_
  refine gl_sld (zL_Z b L xs) rfl (by omega) (by omega) dL_law_899 ?_
  refine gw_aload_n dL_law_900 rfl ?_
  refine gw_iload_n dL_law_901 rfl ?_
  refine gw_iconst (v := nI (3)) dL_law_902 (by decide) ?_
  refine gw_iaddN dL_law_903 ?_
  refine gl_sld (zL_Z b L xs) rfl (by omega) (by omega) dL_law_904 ?_
  refine gw_callH (As := [.int (xs (i + 1)), .int (xs (i + 2)), .int (xs (i + 3))]) (st := [.int ((spDelay σ (xs (i + 1)) (xs (i + 2)) (xs (i + 3))).1)]) ((t_mdelay l cy ad iv ia la σ hm (xs (i + 1)) (xs (i + 2)) (xs (i + 3))).frame (w2 := w886 ++ mW cy ad iv ia la) (f := w886) List.perm_append_comm) ok_X12_delay (gw_has.right mW_has) rfl rfl wd_1078 rfl rfl dL_law_905 (by decide) ⟨by show n1 + 1 + 0 ≤ 600000; omega, by show n2 + 6 + 0 ≤ 7302250; omega⟩ (Nat.le_of_ble_eq_true rfl) (fun r905 u905 hp905 => ?_)
  obtain ⟨w905, ⟨hr905, iv2, ia2, la2, rfl, hm2⟩, rfl⟩ := hp905
  obtain rfl : r905 = some (.int ((spDelay σ (xs (i + 1)) (xs (i + 2)) (xs (i + 3))).1)) := hr905
  refine gw_W.perm (w' := w886 ++ mW cy ad iv2 ia2 la2) List.perm_append_comm ?_
  refine gw_W.norm (st' := [.int ((spDelay σ (xs (i + 1)) (xs (i + 2)) (xs (i + 3))).1), .int ((spDelay σ (xs (i + 1)) (xs (i + 2)) (xs (i + 3))).1)]) (k1 := n1 + 1) (k2 := n2 + 6) rfl rfl rfl ?_
  exact gw_icmp_eq (tgt := 1202) dL_law_908 (by decide) (fun _ => K _ _ _ _ _ hI2 hm2) (fun h => absurd rfl h)
set_option maxHeartbeats 4000000 in
set_option maxRecDepth 100000 in
theorem lcG_19 (l : Launch) (cy : Nat → ClassId) (b bx L i n1 n2 : Nat) (xs : Nat → Int32) (σ : aS) (wc : va_W) (ad : Nat → Nat) (iv : Nat → Int32) (ia : Nat → Nat → Int32) (la : Nat → Nat → Int64) (hI : cInv cy bx σ wc) (hm : mInv σ iv ia la) (hi : i + 6 ≤ L) (hL : L < 100000) (h1 : n1 + 1 ≤ 600000) (h2 : n2 + 6 ≤ 7302250) (K : ∀ (σ : aS) (wc : va_W) (iv : Nat → Int32) (ia : Nat → Nat → Int32) (la : Nat → Nat → Int64), cInv cy bx σ wc → mInv σ iv ia la → gw_W l kL_law cy (zL b L xs) (wc ++ mW cy ad iv ia la) (n1 + 1) (n2 + 6) 1202 [some (.ref b), some (.ref bx), some (.ref (ad 0)), some (.int (nI i))] []) : gw_W l kL_law cy (zL b L xs) (wc ++ mW cy ad iv ia la) n1 n2 913 [some (.ref b), some (.ref bx), some (.ref (ad 0)), some (.int (nI i))] [] := by
  refine gw_aload_n dL_law_913 rfl ?_
  refine gw_aload_n dL_law_914 rfl ?_
  refine gw_iload_n dL_law_915 rfl ?_
  refine gw_iconst (v := nI (1)) dL_law_916 (by decide) ?_
  refine gw_iaddN dL_law_917 ?_
  refine gl_sld (zL_Z b L xs) rfl (by omega) (by omega) dL_law_918 ?_
  refine gw_callH (As := [.int (xs (i + 1))]) (st := []) ((t_cground l cy bx σ wc hI (xs (i + 1))).frame (w2 := wc ++ mW cy ad iv ia la) (f := mW cy ad iv ia la) (List.Perm.refl _)) ok_X11_round ((cInv_has hI).left) rfl rfl wd_551 rfl rfl dL_law_919 (by decide) ⟨by show n1 + 1 ≤ 600000; omega, by show n2 + 4 ≤ 7302250; omega⟩ (Nat.le_of_ble_eq_true rfl) (fun r919 u919 hp919 => ?_)
  obtain ⟨w919, ⟨hr919, hI2⟩, rfl⟩ := hp919
  obtain rfl : r919 = some (.int ((spRound σ (xs (i + 1))).1)) := hr919
  refine gw_W.widen (k1 := n1 + 1) (k2 := n2 + 6) (by show n1 + 1 ≤ n1 + 1; omega) (by show n2 + 4 ≤ n2 + 6; omega) ?_
  refine gw_W.norm (st' := [.int ((spRound σ (xs (i + 1))).1)]) (k1 := n1 + 1) (k2 := n2 + 6) rfl rfl rfl ?_
  refine gw_aload_n dL_law_922 rfl ?_
  refine gw_aload_n dL_law_923 rfl ?_
  refine gw_iload_n dL_law_924 rfl ?_
  refine gw_iconst (v := nI (1)) dL_law_925 (by decide) ?_
  refine gw_iaddN dL_law_926 ?_
  refine gl_sld (zL_Z b L xs) rfl (by omega) (by omega) dL_law_927 ?_
  refine gw_callH (As := [.int (xs (i + 1))]) (st := [.int ((spRound σ (xs (i + 1))).1)]) ((t_mround l cy ad iv ia la σ hm (xs (i + 1))).frame (w2 := w919 ++ mW cy ad iv ia la) (f := w919) List.perm_append_comm) ok_X12_round (gw_has.right mW_has) rfl rfl wd_1082 rfl rfl dL_law_928 (by decide) ⟨by show n1 + 1 + 0 ≤ 600000; omega, by show n2 + 6 + 0 ≤ 7302250; omega⟩ (Nat.le_of_ble_eq_true rfl) (fun r928 u928 hp928 => ?_)
  obtain ⟨w928, ⟨hr928, iv2, ia2, la2, rfl, hm2⟩, rfl⟩ := hp928
  obtain rfl : r928 = some (.int ((spRound σ (xs (i + 1))).1)) := hr928
  refine gw_W.perm (w' := w919 ++ mW cy ad iv2 ia2 la2) List.perm_append_comm ?_
  refine gw_W.norm (st' := [.int ((spRound σ (xs (i + 1))).1), .int ((spRound σ (xs (i + 1))).1)]) (k1 := n1 + 1) (k2 := n2 + 6) rfl rfl rfl ?_
  exact gw_icmp_eq (tgt := 1202) dL_law_931 (by decide) (fun _ => K _ _ _ _ _ hI2 hm2) (fun h => absurd rfl h)
set_option maxHeartbeats 4000000 in
set_option maxRecDepth 100000 in
theorem lcG_20 (l : Launch) (cy : Nat → ClassId) (b bx L i n1 n2 : Nat) (xs : Nat → Int32) (σ : aS) (wc : va_W) (ad : Nat → Nat) (iv : Nat → Int32) (ia : Nat → Nat → Int32) (la : Nat → Nat → Int64) (hI : cInv cy bx σ wc) (hm : mInv σ iv ia la) (hi : i + 6 ≤ L) (hL : L < 100000) (h1 : n1 + 1 ≤ 600000) (h2 : n2 + 6 ≤ 7302250) (K : ∀ (σ : aS) (wc : va_W) (iv : Nat → Int32) (ia : Nat → Nat → Int32) (la : Nat → Nat → Int64), cInv cy bx σ wc → mInv σ iv ia la → gw_W l kL_law cy (zL b L xs) (wc ++ mW cy ad iv ia la) (n1 + 1) (n2 + 6) 1202 [some (.ref b), some (.ref bx), some (.ref (ad 0)), some (.int (nI i))] []) : gw_W l kL_law cy (zL b L xs) (wc ++ mW cy ad iv ia la) n1 n2 936 [some (.ref b), some (.ref bx), some (.ref (ad 0)), some (.int (nI i))] [] := by
  refine gw_aload_n dL_law_936 rfl ?_
  refine gw_callH (As := []) (st := []) ((t_cgend l cy bx σ wc hI ).frame (w2 := wc ++ mW cy ad iv ia la) (f := mW cy ad iv ia la) (List.Perm.refl _)) ok_X11_end ((cInv_has hI).left) rfl rfl wd_578 rfl rfl dL_law_937 (by decide) ⟨by show n1 + 1 ≤ 600000; omega, by show n2 + 2 ≤ 7302250; omega⟩ (Nat.le_of_ble_eq_true rfl) (fun r937 u937 hp937 => ?_)
  obtain ⟨w937, ⟨hr937, hI2⟩, rfl⟩ := hp937
  obtain rfl : r937 = some (.int ((spEnd σ).1)) := hr937
  refine gw_W.widen (k1 := n1 + 1) (k2 := n2 + 6) (by show n1 + 1 ≤ n1 + 1; omega) (by show n2 + 2 ≤ n2 + 6; omega) ?_
  refine gw_W.norm (st' := [.int ((spEnd σ).1)]) (k1 := n1 + 1) (k2 := n2 + 6) rfl rfl rfl ?_
  refine gw_aload_n dL_law_940 rfl ?_
  refine gw_callH (As := []) (st := [.int ((spEnd σ).1)]) ((t_mend l cy ad iv ia la σ hm ).frame (w2 := w937 ++ mW cy ad iv ia la) (f := w937) List.perm_append_comm) ok_X12_end (gw_has.right mW_has) rfl rfl wd_1088 rfl rfl dL_law_941 (by decide) ⟨by show n1 + 1 + 0 ≤ 600000; omega, by show n2 + 6 + 0 ≤ 7302250; omega⟩ (Nat.le_of_ble_eq_true rfl) (fun r941 u941 hp941 => ?_)
  obtain ⟨w941, ⟨hr941, iv2, ia2, la2, rfl, hm2⟩, rfl⟩ := hp941
  obtain rfl : r941 = some (.int ((spEnd σ).1)) := hr941
  refine gw_W.perm (w' := w937 ++ mW cy ad iv2 ia2 la2) List.perm_append_comm ?_
  refine gw_W.norm (st' := [.int ((spEnd σ).1), .int ((spEnd σ).1)]) (k1 := n1 + 1) (k2 := n2 + 6) rfl rfl rfl ?_
  exact gw_icmp_eq (tgt := 1202) dL_law_944 (by decide) (fun _ => K _ _ _ _ _ hI2 hm2) (fun h => absurd rfl h)
set_option maxHeartbeats 4000000 in
set_option maxRecDepth 100000 in
theorem lcG_21 (l : Launch) (cy : Nat → ClassId) (b bx L i n1 n2 : Nat) (xs : Nat → Int32) (σ : aS) (wc : va_W) (ad : Nat → Nat) (iv : Nat → Int32) (ia : Nat → Nat → Int32) (la : Nat → Nat → Int64) (hI : cInv cy bx σ wc) (hm : mInv σ iv ia la) (hi : i + 6 ≤ L) (hL : L < 100000) (h1 : n1 + 1 ≤ 600000) (h2 : n2 + 6 ≤ 7302250) (K : ∀ (σ : aS) (wc : va_W) (iv : Nat → Int32) (ia : Nat → Nat → Int32) (la : Nat → Nat → Int64), cInv cy bx σ wc → mInv σ iv ia la → gw_W l kL_law cy (zL b L xs) (wc ++ mW cy ad iv ia la) (n1 + 1) (n2 + 6) 1202 [some (.ref b), some (.ref bx), some (.ref (ad 0)), some (.int (nI i))] []) : gw_W l kL_law cy (zL b L xs) (wc ++ mW cy ad iv ia la) n1 n2 949 [some (.ref b), some (.ref bx), some (.ref (ad 0)), some (.int (nI i))] [] := by
  refine gw_aload_n dL_law_949 rfl ?_
  refine gw_aload_n dL_law_950 rfl ?_
  refine gw_iload_n dL_law_951 rfl ?_
  refine gw_iconst (v := nI (1)) dL_law_952 (by decide) ?_
  refine gw_iaddN dL_law_953 ?_
  refine gl_sld (zL_Z b L xs) rfl (by omega) (by omega) dL_law_954 ?_
  refine gw_aload_n dL_law_955 rfl ?_
  refine gw_iload_n dL_law_956 rfl ?_
  refine gw_iconst (v := nI (2)) dL_law_957 (by decide) ?_
  refine gw_iaddN dL_law_958 ?_
  refine gl_sld (zL_Z b L xs) rfl (by omega) (by omega) dL_law_959 ?_
  refine gw_callH (As := [.int (xs (i + 1)), .int (xs (i + 2))]) (st := []) ((t_cgstore l cy bx σ wc hI (xs (i + 1)) (xs (i + 2))).frame (w2 := wc ++ mW cy ad iv ia la) (f := mW cy ad iv ia la) (List.Perm.refl _)) ok_X11_store ((cInv_has hI).left) rfl rfl wd_591 rfl rfl dL_law_960 (by decide) ⟨by show n1 + 1 ≤ 600000; omega, by show n2 + 4 ≤ 7302250; omega⟩ (Nat.le_of_ble_eq_true rfl) (fun r960 u960 hp960 => ?_)
  obtain ⟨w960, ⟨hr960, hI2⟩, rfl⟩ := hp960
  obtain rfl : r960 = some (.int ((spStore σ (xs (i + 1)) (xs (i + 2))).1)) := hr960
  refine gw_W.widen (k1 := n1 + 1) (k2 := n2 + 6) (by show n1 + 1 ≤ n1 + 1; omega) (by show n2 + 4 ≤ n2 + 6; omega) ?_
  refine gw_W.norm (st' := [.int ((spStore σ (xs (i + 1)) (xs (i + 2))).1)]) (k1 := n1 + 1) (k2 := n2 + 6) rfl rfl rfl ?_
  refine gw_aload_n dL_law_963 rfl ?_
  refine gw_aload_n dL_law_964 rfl ?_
  refine gw_iload_n dL_law_965 rfl ?_
  refine gw_iconst (v := nI (1)) dL_law_966 (by decide) ?_
  refine gw_iaddN dL_law_967 ?_
  refine gl_sld (zL_Z b L xs) rfl (by omega) (by omega) dL_law_968 ?_
  refine gw_aload_n dL_law_969 rfl ?_
  refine gw_iload_n dL_law_970 rfl ?_
  refine gw_iconst (v := nI (2)) dL_law_971 (by decide) ?_
  refine gw_iaddN dL_law_972 ?_
  refine gl_sld (zL_Z b L xs) rfl (by omega) (by omega) dL_law_973 ?_
  refine gw_callH (As := [.int (xs (i + 1)), .int (xs (i + 2))]) (st := [.int ((spStore σ (xs (i + 1)) (xs (i + 2))).1)]) ((t_mstore l cy ad iv ia la σ hm (xs (i + 1)) (xs (i + 2))).frame (w2 := w960 ++ mW cy ad iv ia la) (f := w960) List.perm_append_comm) ok_X12_store (gw_has.right mW_has) rfl rfl wd_1092 rfl rfl dL_law_974 (by decide) ⟨by show n1 + 1 + 0 ≤ 600000; omega, by show n2 + 6 + 0 ≤ 7302250; omega⟩ (Nat.le_of_ble_eq_true rfl) (fun r974 u974 hp974 => ?_)
  obtain ⟨w974, ⟨hr974, iv2, ia2, la2, rfl, hm2⟩, rfl⟩ := hp974
  obtain rfl : r974 = some (.int ((spStore σ (xs (i + 1)) (xs (i + 2))).1)) := hr974
  refine gw_W.perm (w' := w960 ++ mW cy ad iv2 ia2 la2) List.perm_append_comm ?_
  refine gw_W.norm (st' := [.int ((spStore σ (xs (i + 1)) (xs (i + 2))).1), .int ((spStore σ (xs (i + 1)) (xs (i + 2))).1)]) (k1 := n1 + 1) (k2 := n2 + 6) rfl rfl rfl ?_
  exact gw_icmp_eq (tgt := 1202) dL_law_977 (by decide) (fun _ => K _ _ _ _ _ hI2 hm2) (fun h => absurd rfl h)
set_option maxHeartbeats 4000000 in
set_option maxRecDepth 100000 in
theorem lcG_22 (l : Launch) (cy : Nat → ClassId) (b bx L i n1 n2 : Nat) (xs : Nat → Int32) (σ : aS) (wc : va_W) (ad : Nat → Nat) (iv : Nat → Int32) (ia : Nat → Nat → Int32) (la : Nat → Nat → Int64) (hI : cInv cy bx σ wc) (hm : mInv σ iv ia la) (hi : i + 6 ≤ L) (hL : L < 100000) (h1 : n1 + 1 ≤ 600000) (h2 : n2 + 6 ≤ 7302250) (K : ∀ (σ : aS) (wc : va_W) (iv : Nat → Int32) (ia : Nat → Nat → Int32) (la : Nat → Nat → Int64), cInv cy bx σ wc → mInv σ iv ia la → gw_W l kL_law cy (zL b L xs) (wc ++ mW cy ad iv ia la) (n1 + 1) (n2 + 6) 1202 [some (.ref b), some (.ref bx), some (.ref (ad 0)), some (.int (nI i))] []) : gw_W l kL_law cy (zL b L xs) (wc ++ mW cy ad iv ia la) n1 n2 982 [some (.ref b), some (.ref bx), some (.ref (ad 0)), some (.int (nI i))] [] := by
  refine gw_aload_n dL_law_982 rfl ?_
  refine gw_callH (As := []) (st := []) ((t_cgback l cy bx σ wc hI ).frame (w2 := wc ++ mW cy ad iv ia la) (f := mW cy ad iv ia la) (List.Perm.refl _)) ok_X11_back ((cInv_has hI).left) rfl rfl wd_610 rfl rfl dL_law_983 (by decide) ⟨by show n1 + 0 ≤ 600000; omega, by show n2 + 0 ≤ 7302250; omega⟩ (Nat.le_of_ble_eq_true rfl) (fun r983 u983 hp983 => ?_)
  obtain ⟨w983, ⟨hr983, hI2⟩, rfl⟩ := hp983
  obtain rfl : r983 = some (.int ((spBack σ).1)) := hr983
  refine gw_W.widen (k1 := n1 + 1) (k2 := n2 + 6) (by show n1 + 0 ≤ n1 + 1; omega) (by show n2 + 0 ≤ n2 + 6; omega) ?_
  refine gw_W.norm (st' := [.int ((spBack σ).1)]) (k1 := n1 + 1) (k2 := n2 + 6) rfl rfl rfl ?_
  refine gw_aload_n dL_law_986 rfl ?_
  refine gw_callH (As := []) (st := [.int ((spBack σ).1)]) ((t_mback l cy ad iv ia la σ hm ).frame (w2 := w983 ++ mW cy ad iv ia la) (f := w983) List.perm_append_comm) ok_X12_back (gw_has.right mW_has) rfl rfl wd_1096 rfl rfl dL_law_987 (by decide) ⟨by show n1 + 1 + 0 ≤ 600000; omega, by show n2 + 6 + 0 ≤ 7302250; omega⟩ (Nat.le_of_ble_eq_true rfl) (fun r987 u987 hp987 => ?_)
  obtain ⟨w987, ⟨hr987, iv2, ia2, la2, rfl, hm2⟩, rfl⟩ := hp987
  obtain rfl : r987 = some (.int ((spBack σ).1)) := hr987
  refine gw_W.perm (w' := w983 ++ mW cy ad iv2 ia2 la2) List.perm_append_comm ?_
  refine gw_W.norm (st' := [.int ((spBack σ).1), .int ((spBack σ).1)]) (k1 := n1 + 1) (k2 := n2 + 6) rfl rfl rfl ?_
  exact gw_icmp_eq (tgt := 1202) dL_law_990 (by decide) (fun _ => K _ _ _ _ _ hI2 hm2) (fun h => absurd rfl h)
set_option maxHeartbeats 4000000 in
set_option maxRecDepth 100000 in
theorem lcG_23 (l : Launch) (cy : Nat → ClassId) (b bx L i n1 n2 : Nat) (xs : Nat → Int32) (σ : aS) (wc : va_W) (ad : Nat → Nat) (iv : Nat → Int32) (ia : Nat → Nat → Int32) (la : Nat → Nat → Int64) (hI : cInv cy bx σ wc) (hm : mInv σ iv ia la) (hi : i + 6 ≤ L) (hL : L < 100000) (h1 : n1 + 1 ≤ 600000) (h2 : n2 + 6 ≤ 7302250) (K : ∀ (σ : aS) (wc : va_W) (iv : Nat → Int32) (ia : Nat → Nat → Int32) (la : Nat → Nat → Int64), cInv cy bx σ wc → mInv σ iv ia la → gw_W l kL_law cy (zL b L xs) (wc ++ mW cy ad iv ia la) (n1 + 1) (n2 + 6) 1202 [some (.ref b), some (.ref bx), some (.ref (ad 0)), some (.int (nI i))] []) : gw_W l kL_law cy (zL b L xs) (wc ++ mW cy ad iv ia la) n1 n2 995 [some (.ref b), some (.ref bx), some (.ref (ad 0)), some (.int (nI i))] [] := by
  refine gw_aload_n dL_law_995 rfl ?_
  refine gw_aload_n dL_law_996 rfl ?_
  refine gw_iload_n dL_law_997 rfl ?_
  refine gw_iconst (v := nI (1)) dL_law_998 (by decide) ?_
  refine gw_iaddN dL_law_999 ?_
  refine gl_sld (zL_Z b L xs) rfl (by omega) (by omega) dL_law_1000 ?_
  refine gw_callH (As := [.int (xs (i + 1))]) (st := []) ((t_cgkind l cy bx σ wc hI (xs (i + 1))).frame (w2 := wc ++ mW cy ad iv ia la) (f := mW cy ad iv ia la) (List.Perm.refl _)) ok_X11_kind ((cInv_has hI).left) rfl rfl wd_618 rfl rfl dL_law_1001 (by decide) ⟨by show n1 + 0 ≤ 600000; omega, by show n2 + 0 ≤ 7302250; omega⟩ (Nat.le_of_ble_eq_true rfl) (fun r1001 u1001 hp1001 => ?_)
  obtain ⟨w1001, ⟨hr1001, hI2⟩, rfl⟩ := hp1001
  obtain rfl : r1001 = some (.int ((spKind σ (xs (i + 1))).1)) := hr1001
  refine gw_W.widen (k1 := n1 + 1) (k2 := n2 + 6) (by show n1 + 0 ≤ n1 + 1; omega) (by show n2 + 0 ≤ n2 + 6; omega) ?_
  refine gw_W.norm (st' := [.int ((spKind σ (xs (i + 1))).1)]) (k1 := n1 + 1) (k2 := n2 + 6) rfl rfl rfl ?_
  refine gw_aload_n dL_law_1004 rfl ?_
  refine gw_aload_n dL_law_1005 rfl ?_
  refine gw_iload_n dL_law_1006 rfl ?_
  refine gw_iconst (v := nI (1)) dL_law_1007 (by decide) ?_
  refine gw_iaddN dL_law_1008 ?_
  refine gl_sld (zL_Z b L xs) rfl (by omega) (by omega) dL_law_1009 ?_
  refine gw_callH (As := [.int (xs (i + 1))]) (st := [.int ((spKind σ (xs (i + 1))).1)]) ((t_mkind l cy ad iv ia la σ hm (xs (i + 1))).frame (w2 := w1001 ++ mW cy ad iv ia la) (f := w1001) List.perm_append_comm) ok_X12_kind (gw_has.right mW_has) rfl rfl wd_1100 rfl rfl dL_law_1010 (by decide) ⟨by show n1 + 1 + 0 ≤ 600000; omega, by show n2 + 6 + 0 ≤ 7302250; omega⟩ (Nat.le_of_ble_eq_true rfl) (fun r1010 u1010 hp1010 => ?_)
  obtain ⟨w1010, ⟨hr1010, iv2, ia2, la2, rfl, hm2⟩, rfl⟩ := hp1010
  obtain rfl : r1010 = some (.int ((spKind σ (xs (i + 1))).1)) := hr1010
  refine gw_W.perm (w' := w1001 ++ mW cy ad iv2 ia2 la2) List.perm_append_comm ?_
  refine gw_W.norm (st' := [.int ((spKind σ (xs (i + 1))).1), .int ((spKind σ (xs (i + 1))).1)]) (k1 := n1 + 1) (k2 := n2 + 6) rfl rfl rfl ?_
  exact gw_icmp_eq (tgt := 1202) dL_law_1013 (by decide) (fun _ => K _ _ _ _ _ hI2 hm2) (fun h => absurd rfl h)
set_option maxHeartbeats 4000000 in
set_option maxRecDepth 100000 in
theorem lcG_24 (l : Launch) (cy : Nat → ClassId) (b bx L i n1 n2 : Nat) (xs : Nat → Int32) (σ : aS) (wc : va_W) (ad : Nat → Nat) (iv : Nat → Int32) (ia : Nat → Nat → Int32) (la : Nat → Nat → Int64) (hI : cInv cy bx σ wc) (hm : mInv σ iv ia la) (hi : i + 6 ≤ L) (hL : L < 100000) (h1 : n1 + 1 ≤ 600000) (h2 : n2 + 6 ≤ 7302250) (K : ∀ (σ : aS) (wc : va_W) (iv : Nat → Int32) (ia : Nat → Nat → Int32) (la : Nat → Nat → Int64), cInv cy bx σ wc → mInv σ iv ia la → gw_W l kL_law cy (zL b L xs) (wc ++ mW cy ad iv ia la) (n1 + 1) (n2 + 6) 1202 [some (.ref b), some (.ref bx), some (.ref (ad 0)), some (.int (nI i))] []) : gw_W l kL_law cy (zL b L xs) (wc ++ mW cy ad iv ia la) n1 n2 1018 [some (.ref b), some (.ref bx), some (.ref (ad 0)), some (.int (nI i))] [] := by
  refine gw_aload_n dL_law_1018 rfl ?_
  refine gw_aload_n dL_law_1019 rfl ?_
  refine gw_iload_n dL_law_1020 rfl ?_
  refine gw_iconst (v := nI (1)) dL_law_1021 (by decide) ?_
  refine gw_iaddN dL_law_1022 ?_
  refine gl_sld (zL_Z b L xs) rfl (by omega) (by omega) dL_law_1023 ?_
  refine gw_aload_n dL_law_1024 rfl ?_
  refine gw_iload_n dL_law_1025 rfl ?_
  refine gw_iconst (v := nI (2)) dL_law_1026 (by decide) ?_
  refine gw_iaddN dL_law_1027 ?_
  refine gl_sld (zL_Z b L xs) rfl (by omega) (by omega) dL_law_1028 ?_
  refine gw_callH (As := [.int (xs (i + 1)), .int (xs (i + 2))]) (st := []) ((t_cgis_open l cy bx σ wc hI (xs (i + 1)) (xs (i + 2))).frame (w2 := wc ++ mW cy ad iv ia la) (f := mW cy ad iv ia la) (List.Perm.refl _)) ok_X11_is ((cInv_has hI).left) rfl rfl wd_643 rfl rfl dL_law_1029 (by decide) ⟨by show n1 + 0 ≤ 600000; omega, by show n2 + 0 ≤ 7302250; omega⟩ (Nat.le_of_ble_eq_true rfl) (fun r1029 u1029 hp1029 => ?_)
  obtain ⟨w1029, ⟨hr1029, hI2⟩, rfl⟩ := hp1029
  obtain rfl : r1029 = some (.int ((spIs σ (xs (i + 1)) (xs (i + 2))).1)) := hr1029
  refine gw_W.widen (k1 := n1 + 1) (k2 := n2 + 6) (by show n1 + 0 ≤ n1 + 1; omega) (by show n2 + 0 ≤ n2 + 6; omega) ?_
  refine gw_W.norm (st' := [.int ((spIs σ (xs (i + 1)) (xs (i + 2))).1)]) (k1 := n1 + 1) (k2 := n2 + 6) rfl rfl rfl ?_
  refine gw_aload_n dL_law_1032 rfl ?_
  refine gw_aload_n dL_law_1033 rfl ?_
  refine gw_iload_n dL_law_1034 rfl ?_
  refine gw_iconst (v := nI (1)) dL_law_1035 (by decide) ?_
  refine gw_iaddN dL_law_1036 ?_
  refine gl_sld (zL_Z b L xs) rfl (by omega) (by omega) dL_law_1037 ?_
  refine gw_aload_n dL_law_1038 rfl ?_
  refine gw_iload_n dL_law_1039 rfl ?_
  refine gw_iconst (v := nI (2)) dL_law_1040 (by decide) ?_
  refine gw_iaddN dL_law_1041 ?_
  refine gl_sld (zL_Z b L xs) rfl (by omega) (by omega) dL_law_1042 ?_
  refine gw_callH (As := [.int (xs (i + 1)), .int (xs (i + 2))]) (st := [.int ((spIs σ (xs (i + 1)) (xs (i + 2))).1)]) ((t_mis l cy ad iv ia la σ hm (xs (i + 1)) (xs (i + 2))).frame (w2 := w1029 ++ mW cy ad iv ia la) (f := w1029) List.perm_append_comm) ok_X12_is (gw_has.right mW_has) rfl rfl wd_1108 rfl rfl dL_law_1043 (by decide) ⟨by show n1 + 1 + 0 ≤ 600000; omega, by show n2 + 6 + 0 ≤ 7302250; omega⟩ (Nat.le_of_ble_eq_true rfl) (fun r1043 u1043 hp1043 => ?_)
  obtain ⟨w1043, ⟨hr1043, iv2, ia2, la2, rfl, hm2⟩, rfl⟩ := hp1043
  obtain rfl : r1043 = some (.int ((spIs σ (xs (i + 1)) (xs (i + 2))).1)) := hr1043
  refine gw_W.perm (w' := w1029 ++ mW cy ad iv2 ia2 la2) List.perm_append_comm ?_
  refine gw_W.norm (st' := [.int ((spIs σ (xs (i + 1)) (xs (i + 2))).1), .int ((spIs σ (xs (i + 1)) (xs (i + 2))).1)]) (k1 := n1 + 1) (k2 := n2 + 6) rfl rfl rfl ?_
  exact gw_icmp_eq (tgt := 1202) dL_law_1046 (by decide) (fun _ => K _ _ _ _ _ hI2 hm2) (fun h => absurd rfl h)
set_option maxHeartbeats 4000000 in
set_option maxRecDepth 100000 in
theorem lcG_25 (l : Launch) (cy : Nat → ClassId) (b bx L i n1 n2 : Nat) (xs : Nat → Int32) (σ : aS) (wc : va_W) (ad : Nat → Nat) (iv : Nat → Int32) (ia : Nat → Nat → Int32) (la : Nat → Nat → Int64) (hI : cInv cy bx σ wc) (hm : mInv σ iv ia la) (hi : i + 6 ≤ L) (hL : L < 100000) (h1 : n1 + 1 ≤ 600000) (h2 : n2 + 6 ≤ 7302250) (K : ∀ (σ : aS) (wc : va_W) (iv : Nat → Int32) (ia : Nat → Nat → Int32) (la : Nat → Nat → Int64), cInv cy bx σ wc → mInv σ iv ia la → gw_W l kL_law cy (zL b L xs) (wc ++ mW cy ad iv ia la) (n1 + 1) (n2 + 6) 1202 [some (.ref b), some (.ref bx), some (.ref (ad 0)), some (.int (nI i))] []) : gw_W l kL_law cy (zL b L xs) (wc ++ mW cy ad iv ia la) n1 n2 1051 [some (.ref b), some (.ref bx), some (.ref (ad 0)), some (.int (nI i))] [] := by
  refine gw_aload_n dL_law_1051 rfl ?_
  refine gw_aload_n dL_law_1052 rfl ?_
  refine gw_iload_n dL_law_1053 rfl ?_
  refine gw_iconst (v := nI (1)) dL_law_1054 (by decide) ?_
  refine gw_iaddN dL_law_1055 ?_
  refine gl_sld (zL_Z b L xs) rfl (by omega) (by omega) dL_law_1056 ?_
  refine gw_callH (As := [.int (xs (i + 1))]) (st := []) ((t_cgspins l cy bx σ wc hI (xs (i + 1))).frame (w2 := wc ++ mW cy ad iv ia la) (f := mW cy ad iv ia la) (List.Perm.refl _)) ok_X11_spins ((cInv_has hI).left) rfl rfl wd_664 rfl rfl dL_law_1057 (by decide) ⟨by show n1 + 0 ≤ 600000; omega, by show n2 + 0 ≤ 7302250; omega⟩ (Nat.le_of_ble_eq_true rfl) (fun r1057 u1057 hp1057 => ?_)
  obtain ⟨w1057, ⟨hr1057, hI2⟩, rfl⟩ := hp1057
  obtain rfl : r1057 = some (.int ((spSpins σ (xs (i + 1))).1)) := hr1057
  refine gw_W.widen (k1 := n1 + 1) (k2 := n2 + 6) (by show n1 + 0 ≤ n1 + 1; omega) (by show n2 + 0 ≤ n2 + 6; omega) ?_
  refine gw_W.norm (st' := [.int ((spSpins σ (xs (i + 1))).1)]) (k1 := n1 + 1) (k2 := n2 + 6) rfl rfl rfl ?_
  refine gw_aload_n dL_law_1060 rfl ?_
  refine gw_aload_n dL_law_1061 rfl ?_
  refine gw_iload_n dL_law_1062 rfl ?_
  refine gw_iconst (v := nI (1)) dL_law_1063 (by decide) ?_
  refine gw_iaddN dL_law_1064 ?_
  refine gl_sld (zL_Z b L xs) rfl (by omega) (by omega) dL_law_1065 ?_
  refine gw_callH (As := [.int (xs (i + 1))]) (st := [.int ((spSpins σ (xs (i + 1))).1)]) ((t_mspins l cy ad iv ia la σ hm (xs (i + 1))).frame (w2 := w1057 ++ mW cy ad iv ia la) (f := w1057) List.perm_append_comm) ok_X12_spins (gw_has.right mW_has) rfl rfl wd_1112 rfl rfl dL_law_1066 (by decide) ⟨by show n1 + 1 + 0 ≤ 600000; omega, by show n2 + 6 + 0 ≤ 7302250; omega⟩ (Nat.le_of_ble_eq_true rfl) (fun r1066 u1066 hp1066 => ?_)
  obtain ⟨w1066, ⟨hr1066, iv2, ia2, la2, rfl, hm2⟩, rfl⟩ := hp1066
  obtain rfl : r1066 = some (.int ((spSpins σ (xs (i + 1))).1)) := hr1066
  refine gw_W.perm (w' := w1057 ++ mW cy ad iv2 ia2 la2) List.perm_append_comm ?_
  refine gw_W.norm (st' := [.int ((spSpins σ (xs (i + 1))).1), .int ((spSpins σ (xs (i + 1))).1)]) (k1 := n1 + 1) (k2 := n2 + 6) rfl rfl rfl ?_
  exact gw_icmp_eq (tgt := 1202) dL_law_1069 (by decide) (fun _ => K _ _ _ _ _ hI2 hm2) (fun h => absurd rfl h)
set_option maxHeartbeats 4000000 in
set_option maxRecDepth 100000 in
theorem lcG_26 (l : Launch) (cy : Nat → ClassId) (b bx L i n1 n2 : Nat) (xs : Nat → Int32) (σ : aS) (wc : va_W) (ad : Nat → Nat) (iv : Nat → Int32) (ia : Nat → Nat → Int32) (la : Nat → Nat → Int64) (hI : cInv cy bx σ wc) (hm : mInv σ iv ia la) (hi : i + 6 ≤ L) (hL : L < 100000) (h1 : n1 + 1 ≤ 600000) (h2 : n2 + 6 ≤ 7302250) (K : ∀ (σ : aS) (wc : va_W) (iv : Nat → Int32) (ia : Nat → Nat → Int32) (la : Nat → Nat → Int64), cInv cy bx σ wc → mInv σ iv ia la → gw_W l kL_law cy (zL b L xs) (wc ++ mW cy ad iv ia la) (n1 + 1) (n2 + 6) 1202 [some (.ref b), some (.ref bx), some (.ref (ad 0)), some (.int (nI i))] []) : gw_W l kL_law cy (zL b L xs) (wc ++ mW cy ad iv ia la) n1 n2 1074 [some (.ref b), some (.ref bx), some (.ref (ad 0)), some (.int (nI i))] [] := by
  refine gw_aload_n dL_law_1074 rfl ?_
  refine gw_aload_n dL_law_1075 rfl ?_
  refine gw_iload_n dL_law_1076 rfl ?_
  refine gw_iconst (v := nI (1)) dL_law_1077 (by decide) ?_
  refine gw_iaddN dL_law_1078 ?_
  refine gl_sld (zL_Z b L xs) rfl (by omega) (by omega) dL_law_1079 ?_
  refine gw_aload_n dL_law_1080 rfl ?_
  refine gw_iload_n dL_law_1081 rfl ?_
  refine gw_iconst (v := nI (2)) dL_law_1082 (by decide) ?_
  refine gw_iaddN dL_law_1083 ?_
  refine gl_sld (zL_Z b L xs) rfl (by omega) (by omega) dL_law_1084 ?_
  refine gw_callH (As := [.int (xs (i + 1)), .int (xs (i + 2))]) (st := []) ((t_cgask_open l cy bx σ wc hI (xs (i + 1)) (xs (i + 2))).frame (w2 := wc ++ mW cy ad iv ia la) (f := mW cy ad iv ia la) (List.Perm.refl _)) ok_X11_ask ((cInv_has hI).left) rfl rfl wd_668 rfl rfl dL_law_1085 (by decide) ⟨by show n1 + 0 ≤ 600000; omega, by show n2 + 0 ≤ 7302250; omega⟩ (Nat.le_of_ble_eq_true rfl) (fun r1085 u1085 hp1085 => ?_)
  obtain ⟨w1085, ⟨hr1085, hI2⟩, rfl⟩ := hp1085
  obtain rfl : r1085 = some (.int ((spAsk σ (xs (i + 1)) (xs (i + 2))).1)) := hr1085
  refine gw_W.widen (k1 := n1 + 1) (k2 := n2 + 6) (by show n1 + 0 ≤ n1 + 1; omega) (by show n2 + 0 ≤ n2 + 6; omega) ?_
  refine gw_W.norm (st' := [.int ((spAsk σ (xs (i + 1)) (xs (i + 2))).1)]) (k1 := n1 + 1) (k2 := n2 + 6) rfl rfl rfl ?_
  refine gw_aload_n dL_law_1088 rfl ?_
  refine gw_aload_n dL_law_1089 rfl ?_
  refine gw_iload_n dL_law_1090 rfl ?_
  refine gw_iconst (v := nI (1)) dL_law_1091 (by decide) ?_
  refine gw_iaddN dL_law_1092 ?_
  refine gl_sld (zL_Z b L xs) rfl (by omega) (by omega) dL_law_1093 ?_
  refine gw_aload_n dL_law_1094 rfl ?_
  refine gw_iload_n dL_law_1095 rfl ?_
  refine gw_iconst (v := nI (2)) dL_law_1096 (by decide) ?_
  refine gw_iaddN dL_law_1097 ?_
  refine gl_sld (zL_Z b L xs) rfl (by omega) (by omega) dL_law_1098 ?_
  refine gw_callH (As := [.int (xs (i + 1)), .int (xs (i + 2))]) (st := [.int ((spAsk σ (xs (i + 1)) (xs (i + 2))).1)]) ((t_mask l cy ad iv ia la σ hm (xs (i + 1)) (xs (i + 2))).frame (w2 := w1085 ++ mW cy ad iv ia la) (f := w1085) List.perm_append_comm) ok_X12_ask (gw_has.right mW_has) rfl rfl wd_1116 rfl rfl dL_law_1099 (by decide) ⟨by show n1 + 1 + 0 ≤ 600000; omega, by show n2 + 6 + 0 ≤ 7302250; omega⟩ (Nat.le_of_ble_eq_true rfl) (fun r1099 u1099 hp1099 => ?_)
  obtain ⟨w1099, ⟨hr1099, iv2, ia2, la2, rfl, hm2⟩, rfl⟩ := hp1099
  obtain rfl : r1099 = some (.int ((spAsk σ (xs (i + 1)) (xs (i + 2))).1)) := hr1099
  refine gw_W.perm (w' := w1085 ++ mW cy ad iv2 ia2 la2) List.perm_append_comm ?_
  refine gw_W.norm (st' := [.int ((spAsk σ (xs (i + 1)) (xs (i + 2))).1), .int ((spAsk σ (xs (i + 1)) (xs (i + 2))).1)]) (k1 := n1 + 1) (k2 := n2 + 6) rfl rfl rfl ?_
  exact gw_icmp_eq (tgt := 1202) dL_law_1102 (by decide) (fun _ => K _ _ _ _ _ hI2 hm2) (fun h => absurd rfl h)
set_option maxHeartbeats 4000000 in
set_option maxRecDepth 100000 in
theorem lcG_27 (l : Launch) (cy : Nat → ClassId) (b bx L i n1 n2 : Nat) (xs : Nat → Int32) (σ : aS) (wc : va_W) (ad : Nat → Nat) (iv : Nat → Int32) (ia : Nat → Nat → Int32) (la : Nat → Nat → Int64) (hI : cInv cy bx σ wc) (hm : mInv σ iv ia la) (hi : i + 6 ≤ L) (hL : L < 100000) (h1 : n1 + 1 ≤ 600000) (h2 : n2 + 6 ≤ 7302250) (K : ∀ (σ : aS) (wc : va_W) (iv : Nat → Int32) (ia : Nat → Nat → Int32) (la : Nat → Nat → Int64), cInv cy bx σ wc → mInv σ iv ia la → gw_W l kL_law cy (zL b L xs) (wc ++ mW cy ad iv ia la) (n1 + 1) (n2 + 6) 1202 [some (.ref b), some (.ref bx), some (.ref (ad 0)), some (.int (nI i))] []) : gw_W l kL_law cy (zL b L xs) (wc ++ mW cy ad iv ia la) n1 n2 1107 [some (.ref b), some (.ref bx), some (.ref (ad 0)), some (.int (nI i))] [] := by
  refine gw_aload_n dL_law_1107 rfl ?_
  refine gw_aload_n dL_law_1108 rfl ?_
  refine gw_iload_n dL_law_1109 rfl ?_
  refine gw_iconst (v := nI (1)) dL_law_1110 (by decide) ?_
  refine gw_iaddN dL_law_1111 ?_
  refine gl_sld (zL_Z b L xs) rfl (by omega) (by omega) dL_law_1112 ?_
  refine gw_callH (As := [.int (xs (i + 1))]) (st := []) ((t_ctrace l cy bx σ wc hI (xs (i + 1))).frame (w2 := wc ++ mW cy ad iv ia la) (f := mW cy ad iv ia la) (List.Perm.refl _)) ok_X11_trace ((cInv_has hI).left) rfl rfl wd_728 rfl rfl dL_law_1113 (by decide) ⟨by show n1 + 0 ≤ 600000; omega, by show n2 + 0 ≤ 7302250; omega⟩ (Nat.le_of_ble_eq_true rfl) (fun r1113 u1113 hp1113 => ?_)
  obtain ⟨w1113, ⟨hr1113, hI2⟩, rfl⟩ := hp1113
  obtain rfl : r1113 = some (.int ((spTrace σ (xs (i + 1))).1)) := hr1113
  refine gw_W.widen (k1 := n1 + 1) (k2 := n2 + 6) (by show n1 + 0 ≤ n1 + 1; omega) (by show n2 + 0 ≤ n2 + 6; omega) ?_
  refine gw_W.norm (st' := [.int ((spTrace σ (xs (i + 1))).1)]) (k1 := n1 + 1) (k2 := n2 + 6) rfl rfl rfl ?_
  refine gw_aload_n dL_law_1116 rfl ?_
  refine gw_aload_n dL_law_1117 rfl ?_
  refine gw_iload_n dL_law_1118 rfl ?_
  refine gw_iconst (v := nI (1)) dL_law_1119 (by decide) ?_
  refine gw_iaddN dL_law_1120 ?_
  refine gl_sld (zL_Z b L xs) rfl (by omega) (by omega) dL_law_1121 ?_
  refine gw_callH (As := [.int (xs (i + 1))]) (st := [.int ((spTrace σ (xs (i + 1))).1)]) ((t_mtrace l cy ad iv ia la σ hm (xs (i + 1))).frame (w2 := w1113 ++ mW cy ad iv ia la) (f := w1113) List.perm_append_comm) ok_X12_trace (gw_has.right mW_has) rfl rfl wd_1136 rfl rfl dL_law_1122 (by decide) ⟨by show n1 + 1 + 0 ≤ 600000; omega, by show n2 + 6 + 0 ≤ 7302250; omega⟩ (Nat.le_of_ble_eq_true rfl) (fun r1122 u1122 hp1122 => ?_)
  obtain ⟨w1122, ⟨hr1122, iv2, ia2, la2, rfl, hm2⟩, rfl⟩ := hp1122
  obtain rfl : r1122 = some (.int ((spTrace σ (xs (i + 1))).1)) := hr1122
  refine gw_W.perm (w' := w1113 ++ mW cy ad iv2 ia2 la2) List.perm_append_comm ?_
  refine gw_W.norm (st' := [.int ((spTrace σ (xs (i + 1))).1), .int ((spTrace σ (xs (i + 1))).1)]) (k1 := n1 + 1) (k2 := n2 + 6) rfl rfl rfl ?_
  exact gw_icmp_eq (tgt := 1202) dL_law_1125 (by decide) (fun _ => K _ _ _ _ _ hI2 hm2) (fun h => absurd rfl h)
set_option maxHeartbeats 4000000 in
set_option maxRecDepth 100000 in
theorem lcG_28 (l : Launch) (cy : Nat → ClassId) (b bx L i n1 n2 : Nat) (xs : Nat → Int32) (σ : aS) (wc : va_W) (ad : Nat → Nat) (iv : Nat → Int32) (ia : Nat → Nat → Int32) (la : Nat → Nat → Int64) (hI : cInv cy bx σ wc) (hm : mInv σ iv ia la) (hi : i + 6 ≤ L) (hL : L < 100000) (h1 : n1 + 1 ≤ 600000) (h2 : n2 + 6 ≤ 7302250) (K : ∀ (σ : aS) (wc : va_W) (iv : Nat → Int32) (ia : Nat → Nat → Int32) (la : Nat → Nat → Int64), cInv cy bx σ wc → mInv σ iv ia la → gw_W l kL_law cy (zL b L xs) (wc ++ mW cy ad iv ia la) (n1 + 1) (n2 + 6) 1202 [some (.ref b), some (.ref bx), some (.ref (ad 0)), some (.int (nI i))] []) : gw_W l kL_law cy (zL b L xs) (wc ++ mW cy ad iv ia la) n1 n2 1130 [some (.ref b), some (.ref bx), some (.ref (ad 0)), some (.int (nI i))] [] := by
  refine gw_aload_n dL_law_1130 rfl ?_
  refine gw_callH (As := []) (st := []) ((t_cgrun l cy bx σ wc hI ).frame (w2 := wc ++ mW cy ad iv ia la) (f := mW cy ad iv ia la) (List.Perm.refl _)) ok_X11_run ((cInv_has hI).left) rfl rfl wd_732 rfl rfl dL_law_1131 (by decide) ⟨by show n1 + 0 ≤ 600000; omega, by show n2 + 0 ≤ 7302250; omega⟩ (Nat.le_of_ble_eq_true rfl) (fun r1131 u1131 hp1131 => ?_)
  obtain ⟨w1131, ⟨hr1131, hI2⟩, rfl⟩ := hp1131
  obtain rfl : r1131 = some (.int ((spRun σ).1)) := hr1131
  refine gw_W.widen (k1 := n1 + 1) (k2 := n2 + 6) (by show n1 + 0 ≤ n1 + 1; omega) (by show n2 + 0 ≤ n2 + 6; omega) ?_
  refine gw_W.norm (st' := [.int ((spRun σ).1)]) (k1 := n1 + 1) (k2 := n2 + 6) rfl rfl rfl ?_
  refine gw_aload_n dL_law_1134 rfl ?_
  refine gw_callH (As := []) (st := [.int ((spRun σ).1)]) ((t_mrun l cy ad iv ia la σ hm ).frame (w2 := w1131 ++ mW cy ad iv ia la) (f := w1131) List.perm_append_comm) ok_X12_run (gw_has.right mW_has) rfl rfl wd_1140 rfl rfl dL_law_1135 (by decide) ⟨by show n1 + 1 + 0 ≤ 600000; omega, by show n2 + 6 + 0 ≤ 7302250; omega⟩ (Nat.le_of_ble_eq_true rfl) (fun r1135 u1135 hp1135 => ?_)
  obtain ⟨w1135, ⟨hr1135, iv2, ia2, la2, rfl, hm2⟩, rfl⟩ := hp1135
  obtain rfl : r1135 = some (.int ((spRun σ).1)) := hr1135
  refine gw_W.perm (w' := w1131 ++ mW cy ad iv2 ia2 la2) List.perm_append_comm ?_
  refine gw_W.norm (st' := [.int ((spRun σ).1), .int ((spRun σ).1)]) (k1 := n1 + 1) (k2 := n2 + 6) rfl rfl rfl ?_
  exact gw_icmp_eq (tgt := 1202) dL_law_1138 (by decide) (fun _ => K _ _ _ _ _ hI2 hm2) (fun h => absurd rfl h)
set_option maxHeartbeats 4000000 in
set_option maxRecDepth 100000 in
theorem lcG_29 (l : Launch) (cy : Nat → ClassId) (b bx L i n1 n2 : Nat) (xs : Nat → Int32) (σ : aS) (wc : va_W) (ad : Nat → Nat) (iv : Nat → Int32) (ia : Nat → Nat → Int32) (la : Nat → Nat → Int64) (hI : cInv cy bx σ wc) (hm : mInv σ iv ia la) (hi : i + 6 ≤ L) (hL : L < 100000) (h1 : n1 + 1 ≤ 600000) (h2 : n2 + 6 ≤ 7302250) (K : ∀ (σ : aS) (wc : va_W) (iv : Nat → Int32) (ia : Nat → Nat → Int32) (la : Nat → Nat → Int64), cInv cy bx σ wc → mInv σ iv ia la → gw_W l kL_law cy (zL b L xs) (wc ++ mW cy ad iv ia la) (n1 + 1) (n2 + 6) 1202 [some (.ref b), some (.ref bx), some (.ref (ad 0)), some (.int (nI i))] []) : gw_W l kL_law cy (zL b L xs) (wc ++ mW cy ad iv ia la) n1 n2 1143 [some (.ref b), some (.ref bx), some (.ref (ad 0)), some (.int (nI i))] [] := by
  refine gw_aload_n dL_law_1143 rfl ?_
  refine gw_aload_n dL_law_1144 rfl ?_
  refine gw_iload_n dL_law_1145 rfl ?_
  refine gw_iconst (v := nI (1)) dL_law_1146 (by decide) ?_
  refine gw_iaddN dL_law_1147 ?_
  refine gl_sld (zL_Z b L xs) rfl (by omega) (by omega) dL_law_1148 ?_
  refine gw_callH (As := [.int (xs (i + 1))]) (st := []) ((t_ctold l cy bx σ wc hI (xs (i + 1))).frame (w2 := wc ++ mW cy ad iv ia la) (f := mW cy ad iv ia la) (List.Perm.refl _)) ok_X11_told ((cInv_has hI).left) rfl rfl wd_776 rfl rfl dL_law_1149 (by decide) ⟨by show n1 + 0 ≤ 600000; omega, by show n2 + 0 ≤ 7302250; omega⟩ (Nat.le_of_ble_eq_true rfl) (fun r1149 u1149 hp1149 => ?_)
  obtain ⟨w1149, ⟨hr1149, hI2⟩, rfl⟩ := hp1149
  obtain rfl : r1149 = some (.int ((spTold σ (xs (i + 1))).1)) := hr1149
  refine gw_W.widen (k1 := n1 + 1) (k2 := n2 + 6) (by show n1 + 0 ≤ n1 + 1; omega) (by show n2 + 0 ≤ n2 + 6; omega) ?_
  refine gw_W.norm (st' := [.int ((spTold σ (xs (i + 1))).1)]) (k1 := n1 + 1) (k2 := n2 + 6) rfl rfl rfl ?_
  refine gw_aload_n dL_law_1152 rfl ?_
  refine gw_aload_n dL_law_1153 rfl ?_
  refine gw_iload_n dL_law_1154 rfl ?_
  refine gw_iconst (v := nI (1)) dL_law_1155 (by decide) ?_
  refine gw_iaddN dL_law_1156 ?_
  refine gl_sld (zL_Z b L xs) rfl (by omega) (by omega) dL_law_1157 ?_
  refine gw_callH (As := [.int (xs (i + 1))]) (st := [.int ((spTold σ (xs (i + 1))).1)]) ((t_mtold l cy ad iv ia la σ hm (xs (i + 1))).frame (w2 := w1149 ++ mW cy ad iv ia la) (f := w1149) List.perm_append_comm) ok_X12_told (gw_has.right mW_has) rfl rfl wd_1152 rfl rfl dL_law_1158 (by decide) ⟨by show n1 + 1 + 0 ≤ 600000; omega, by show n2 + 6 + 0 ≤ 7302250; omega⟩ (Nat.le_of_ble_eq_true rfl) (fun r1158 u1158 hp1158 => ?_)
  obtain ⟨w1158, ⟨hr1158, iv2, ia2, la2, rfl, hm2⟩, rfl⟩ := hp1158
  obtain rfl : r1158 = some (.int ((spTold σ (xs (i + 1))).1)) := hr1158
  refine gw_W.perm (w' := w1149 ++ mW cy ad iv2 ia2 la2) List.perm_append_comm ?_
  refine gw_W.norm (st' := [.int ((spTold σ (xs (i + 1))).1), .int ((spTold σ (xs (i + 1))).1)]) (k1 := n1 + 1) (k2 := n2 + 6) rfl rfl rfl ?_
  exact gw_icmp_eq (tgt := 1202) dL_law_1161 (by decide) (fun _ => K _ _ _ _ _ hI2 hm2) (fun h => absurd rfl h)
set_option maxHeartbeats 4000000 in
set_option maxRecDepth 100000 in
theorem lcG_30 (l : Launch) (cy : Nat → ClassId) (b bx L i n1 n2 : Nat) (xs : Nat → Int32) (σ : aS) (wc : va_W) (ad : Nat → Nat) (iv : Nat → Int32) (ia : Nat → Nat → Int32) (la : Nat → Nat → Int64) (hI : cInv cy bx σ wc) (hm : mInv σ iv ia la) (hi : i + 6 ≤ L) (hL : L < 100000) (h1 : n1 + 1 ≤ 600000) (h2 : n2 + 6 ≤ 7302250) (K : ∀ (σ : aS) (wc : va_W) (iv : Nat → Int32) (ia : Nat → Nat → Int32) (la : Nat → Nat → Int64), cInv cy bx σ wc → mInv σ iv ia la → gw_W l kL_law cy (zL b L xs) (wc ++ mW cy ad iv ia la) (n1 + 1) (n2 + 6) 1202 [some (.ref b), some (.ref bx), some (.ref (ad 0)), some (.int (nI i))] []) : gw_W l kL_law cy (zL b L xs) (wc ++ mW cy ad iv ia la) n1 n2 1166 [some (.ref b), some (.ref bx), some (.ref (ad 0)), some (.int (nI i))] [] := by
  refine gw_aload_n dL_law_1166 rfl ?_
  refine gw_aload_n dL_law_1167 rfl ?_
  refine gw_iload_n dL_law_1168 rfl ?_
  refine gw_iconst (v := nI (1)) dL_law_1169 (by decide) ?_
  refine gw_iaddN dL_law_1170 ?_
  refine gl_sld (zL_Z b L xs) rfl (by omega) (by omega) dL_law_1171 ?_
  refine gw_callH (As := [.int (xs (i + 1))]) (st := []) ((t_cgcount l cy bx σ wc hI (xs (i + 1))).frame (w2 := wc ++ mW cy ad iv ia la) (f := mW cy ad iv ia la) (List.Perm.refl _)) ok_X11_count ((cInv_has hI).left) rfl rfl wd_780 rfl rfl dL_law_1172 (by decide) ⟨by show n1 + 0 ≤ 600000; omega, by show n2 + 0 ≤ 7302250; omega⟩ (Nat.le_of_ble_eq_true rfl) (fun r1172 u1172 hp1172 => ?_)
  obtain ⟨w1172, ⟨hr1172, hI2⟩, rfl⟩ := hp1172
  obtain rfl : r1172 = some (.int ((spCount σ (xs (i + 1))).1)) := hr1172
  refine gw_W.widen (k1 := n1 + 1) (k2 := n2 + 6) (by show n1 + 0 ≤ n1 + 1; omega) (by show n2 + 0 ≤ n2 + 6; omega) ?_
  refine gw_W.norm (st' := [.int ((spCount σ (xs (i + 1))).1)]) (k1 := n1 + 1) (k2 := n2 + 6) rfl rfl rfl ?_
  refine gw_aload_n dL_law_1175 rfl ?_
  refine gw_aload_n dL_law_1176 rfl ?_
  refine gw_iload_n dL_law_1177 rfl ?_
  refine gw_iconst (v := nI (1)) dL_law_1178 (by decide) ?_
  refine gw_iaddN dL_law_1179 ?_
  refine gl_sld (zL_Z b L xs) rfl (by omega) (by omega) dL_law_1180 ?_
  refine gw_callH (As := [.int (xs (i + 1))]) (st := [.int ((spCount σ (xs (i + 1))).1)]) ((t_mcount l cy ad iv ia la σ hm (xs (i + 1))).frame (w2 := w1172 ++ mW cy ad iv ia la) (f := w1172) List.perm_append_comm) ok_X12_count (gw_has.right mW_has) rfl rfl wd_1156 rfl rfl dL_law_1181 (by decide) ⟨by show n1 + 1 + 0 ≤ 600000; omega, by show n2 + 6 + 0 ≤ 7302250; omega⟩ (Nat.le_of_ble_eq_true rfl) (fun r1181 u1181 hp1181 => ?_)
  obtain ⟨w1181, ⟨hr1181, iv2, ia2, la2, rfl, hm2⟩, rfl⟩ := hp1181
  obtain rfl : r1181 = some (.int ((spCount σ (xs (i + 1))).1)) := hr1181
  refine gw_W.perm (w' := w1172 ++ mW cy ad iv2 ia2 la2) List.perm_append_comm ?_
  refine gw_W.norm (st' := [.int ((spCount σ (xs (i + 1))).1), .int ((spCount σ (xs (i + 1))).1)]) (k1 := n1 + 1) (k2 := n2 + 6) rfl rfl rfl ?_
  exact gw_icmp_eq (tgt := 1202) dL_law_1184 (by decide) (fun _ => K _ _ _ _ _ hI2 hm2) (fun h => absurd rfl h)
set_option maxHeartbeats 4000000 in
set_option maxRecDepth 100000 in
theorem lcG_31 (l : Launch) (cy : Nat → ClassId) (b bx L i n1 n2 : Nat) (xs : Nat → Int32) (σ : aS) (wc : va_W) (ad : Nat → Nat) (iv : Nat → Int32) (ia : Nat → Nat → Int32) (la : Nat → Nat → Int64) (hI : cInv cy bx σ wc) (hm : mInv σ iv ia la) (hi : i + 6 ≤ L) (hL : L < 100000) (h1 : n1 + 1 ≤ 600000) (h2 : n2 + 6 ≤ 7302250) (K : ∀ (σ : aS) (wc : va_W) (iv : Nat → Int32) (ia : Nat → Nat → Int32) (la : Nat → Nat → Int64), cInv cy bx σ wc → mInv σ iv ia la → gw_W l kL_law cy (zL b L xs) (wc ++ mW cy ad iv ia la) (n1 + 1) (n2 + 6) 1202 [some (.ref b), some (.ref bx), some (.ref (ad 0)), some (.int (nI i))] []) : gw_W l kL_law cy (zL b L xs) (wc ++ mW cy ad iv ia la) n1 n2 1189 [some (.ref b), some (.ref bx), some (.ref (ad 0)), some (.int (nI i))] [] := by
  refine gw_aload_n dL_law_1189 rfl ?_
  refine gw_callH (As := []) (st := []) ((t_cstatus l cy bx σ wc hI ).frame (w2 := wc ++ mW cy ad iv ia la) (f := mW cy ad iv ia la) (List.Perm.refl _)) ok_X11_status ((cInv_has hI).left) rfl rfl wd_792 rfl rfl dL_law_1190 (by decide) ⟨by show n1 + 0 ≤ 600000; omega, by show n2 + 0 ≤ 7302250; omega⟩ (Nat.le_of_ble_eq_true rfl) (fun r1190 u1190 hp1190 => ?_)
  obtain ⟨w1190, ⟨hr1190, hI2⟩, rfl⟩ := hp1190
  obtain rfl : r1190 = some (.int ((spStatus σ).1)) := hr1190
  refine gw_W.widen (k1 := n1 + 1) (k2 := n2 + 6) (by show n1 + 0 ≤ n1 + 1; omega) (by show n2 + 0 ≤ n2 + 6; omega) ?_
  refine gw_W.norm (st' := [.int ((spStatus σ).1)]) (k1 := n1 + 1) (k2 := n2 + 6) rfl rfl rfl ?_
  refine gw_aload_n dL_law_1193 rfl ?_
  refine gw_callH (As := []) (st := [.int ((spStatus σ).1)]) ((t_mstatus l cy ad iv ia la σ hm ).frame (w2 := w1190 ++ mW cy ad iv ia la) (f := w1190) List.perm_append_comm) ok_X12_status (gw_has.right mW_has) rfl rfl wd_1160 rfl rfl dL_law_1194 (by decide) ⟨by show n1 + 1 + 0 ≤ 600000; omega, by show n2 + 6 + 0 ≤ 7302250; omega⟩ (Nat.le_of_ble_eq_true rfl) (fun r1194 u1194 hp1194 => ?_)
  obtain ⟨w1194, ⟨hr1194, iv2, ia2, la2, rfl, hm2⟩, rfl⟩ := hp1194
  obtain rfl : r1194 = some (.int ((spStatus σ).1)) := hr1194
  refine gw_W.perm (w' := w1190 ++ mW cy ad iv2 ia2 la2) List.perm_append_comm ?_
  refine gw_W.norm (st' := [.int ((spStatus σ).1), .int ((spStatus σ).1)]) (k1 := n1 + 1) (k2 := n2 + 6) rfl rfl rfl ?_
  exact gw_icmp_eq (tgt := 1202) dL_law_1197 (by decide) (fun _ => K _ _ _ _ _ hI2 hm2) (fun h => absurd rfl h)

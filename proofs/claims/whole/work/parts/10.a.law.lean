/-! the law's loop -/
theorem XS_mv {G : mj_G} {h h' : mj_H} {σ : Nat → Nat → Int32} (hX : XS G h σ) (a : ∀ j, j < 220 → h'.2 j = h.2 j) : XS G h' σ := by
  obtain ⟨x0, x1, xt, xn, xf, xa, x188, x189, xr, xi⟩ := hX
  exact ⟨(a _ (by omega)).trans x0, (a _ (by omega)).trans x1, ⟨(a _ (by omega)).trans xt.1, (a _ (by omega)).trans xt.2⟩, St_mv xn (fun j _ _ => a j (by omega)), St_mv xf (fun j _ _ => a j (by omega)), Ac_mv xa (fun j _ _ => a j (by omega)), (a _ (by omega)).trans x188, (a _ (by omega)).trans x189, fun r hr => Rw_mv (xr r hr) (fun j _ _ => a j (by omega)), fun k hk => St_mv (xi k hk) (fun j _ _ => a j (by omega))⟩
theorem YS_mv {G : mj_G} {h h' : mj_H} {τ : Nat → Nat → Int32} (hY : YS G h τ) (a : ∀ j, 220 ≤ j → h'.2 j = h.2 j) : YS G h' τ := by
  obtain ⟨y0, y1, y2, y3, y4, y5, y6, y7, y8, y9, y10, y11, y12⟩ := hY
  exact ⟨(a _ (by omega)).trans y0, (a _ (by omega)).trans y1, (a _ (by omega)).trans y2, (a _ (by omega)).trans y3, (a _ (by omega)).trans y4, (a _ (by omega)).trans y5, (a _ (by omega)).trans y6, (a _ (by omega)).trans y7, (a _ (by omega)).trans y8, (a _ (by omega)).trans y9, (a _ (by omega)).trans y10, (a _ (by omega)).trans y11, (a _ (by omega)).trans y12⟩
abbrev lwS (G : mj_G) (i : Nat) : List (Option Value) := [some (.ref (G.2.2.2.1 0)), some (.ref (G.1 + 0)), some (.ref (G.1 + 220)), some (.int (nI i))]
abbrev lwQ : Option Value → mj_H → Prop := fun v _ => v = some (.int 1)
/-- at the end of a call: all is coupled again -/
def lwK (G : mj_G) (d i : Nat) : Prop := ∀ (h : mj_H) (σ τ : Nat → Nat → Int32), XS G h σ → YS G h τ → CR σ τ → mj_wp G ML_law d 233 3976 1404 (lwS G i) [] h 233 3976 lwQ
set_option maxRecDepth 100000 in
set_option maxHeartbeats 4000000 in
theorem lw_row {G : mj_G} {d i : Nat} {h : mj_H} {σ τ : Nat → Nat → Int32} (hd : 20 ≤ d) (hL : G.2.2.2.2.1 ≤ 448) (hi : i + 7 ≤ G.2.2.2.2.1) (hX : XS G h σ) (hY : YS G h τ) (hC : CR σ τ) (K : lwK G d i) : mj_wp G ML_law d 233 3976 204 (lwS G i) [] h 233 3976 lwQ := by
  refine s_aload_n (n := 205) (i := 1) dL_law_204 rfl rfl rfl ?_
  refine s_aload_n (n := 206) (i := 0) dL_law_205 rfl rfl rfl ?_
  refine s_iload_n (n := 207) (i := 3) dL_law_206 rfl rfl rfl ?_
  refine s_iconst (n := 208) (v := 1) dL_law_207 rfl (by decide) ?_
  refine s_iadd (n := 209) dL_law_208 rfl ?_
  refine s_sld (n := 210) dL_law_209 rfl (mj_ixs (i := i) (m := 1) (by omega)) ?_
  refine s_aload_n (n := 211) (i := 0) dL_law_210 rfl rfl rfl ?_
  refine s_iload_n (n := 212) (i := 3) dL_law_211 rfl rfl rfl ?_
  refine s_iconst (n := 213) (v := 2) dL_law_212 rfl (by decide) ?_
  refine s_iadd (n := 214) dL_law_213 rfl ?_
  refine s_sld (n := 215) dL_law_214 rfl (mj_ixs (i := i) (m := 2) (by omega)) ?_
  refine s_aload_n (n := 216) (i := 0) dL_law_215 rfl rfl rfl ?_
  refine s_iload_n (n := 217) (i := 3) dL_law_216 rfl rfl rfl ?_
  refine s_iconst (n := 218) (v := 3) dL_law_217 rfl (by decide) ?_
  refine s_iadd (n := 219) dL_law_218 rfl ?_
  refine s_sld (n := 220) dL_law_219 rfl (mj_ixs (i := i) (m := 3) (by omega)) ?_
  obtain ⟨v, P, R, hx, hy, hc⟩ := cp_row (G := G) hC (G.2.2.2.2.2 (i + 1)) (G.2.2.2.2.2 (i + 2)) (G.2.2.2.2.2 (i + 3))
  obtain ⟨Qx, kx, qx⟩ := hx h hX
  refine s_v3 (M' := MX4_row) (n := 223) (ci := 4) dL_law_220 rfl wd_L_13 okX4_row rfl rfl (show 12 + 1 ≤ d by omega) ⟨Nat.le_refl _, Nat.le_refl _⟩ hX.1 kx ?_
  intro w1 h1 q1
  obtain ⟨rfl, σ1, hX1, hF1, hP⟩ := qx _ _ q1
  have hY1 := YS_mv hY (fun j hj => hF1.2 j (by omega))
  obtain ⟨Qy, ky, qy⟩ := hy h1 hY1
  refine s_aload_n (n := 224) (i := 2) dL_law_223 rfl rfl rfl ?_
  refine s_aload_n (n := 225) (i := 0) dL_law_224 rfl rfl rfl ?_
  refine s_iload_n (n := 226) (i := 3) dL_law_225 rfl rfl rfl ?_
  refine s_iconst (n := 227) (v := 1) dL_law_226 rfl (by decide) ?_
  refine s_iadd (n := 228) dL_law_227 rfl ?_
  refine s_sld (n := 229) dL_law_228 rfl (mj_ixs (i := i) (m := 1) (by omega)) ?_
  refine s_aload_n (n := 230) (i := 0) dL_law_229 rfl rfl rfl ?_
  refine s_iload_n (n := 231) (i := 3) dL_law_230 rfl rfl rfl ?_
  refine s_iconst (n := 232) (v := 2) dL_law_231 rfl (by decide) ?_
  refine s_iadd (n := 233) dL_law_232 rfl ?_
  refine s_sld (n := 234) dL_law_233 rfl (mj_ixs (i := i) (m := 2) (by omega)) ?_
  refine s_aload_n (n := 235) (i := 0) dL_law_234 rfl rfl rfl ?_
  refine s_iload_n (n := 236) (i := 3) dL_law_235 rfl rfl rfl ?_
  refine s_iconst (n := 237) (v := 3) dL_law_236 rfl (by decide) ?_
  refine s_iadd (n := 238) dL_law_237 rfl ?_
  refine s_sld (n := 239) dL_law_238 rfl (mj_ixs (i := i) (m := 3) (by omega)) ?_
  refine s_v3 (M' := MX5_row) (n := 242) (ci := 5) dL_law_239 rfl wd_L_17 okX5_row rfl rfl (show 12 + 1 ≤ d by omega) ⟨Nat.le_refl _, Nat.le_refl _⟩ hY1.1 ky ?_
  intro w2 h2 q2
  obtain ⟨rfl, τ1, hY2, hF2, hR⟩ := qy _ _ q2
  have hX2 := XS_mv hX1 (fun j hj => hF2.2 j (by omega))
  refine s_icmp_eq (n := 245) (tgt := 1404) dL_law_242 rfl rfl (fun b => ?_) (fun b => absurd rfl b)
  exact K h2 σ1 τ1 hX2 hY2 (hc σ1 τ1 hP hR)
set_option maxRecDepth 100000 in
set_option maxHeartbeats 4000000 in
theorem lw_set {G : mj_G} {d i : Nat} {h : mj_H} {σ τ : Nat → Nat → Int32} (hd : 20 ≤ d) (hL : G.2.2.2.2.1 ≤ 448) (hi : i + 7 ≤ G.2.2.2.2.1) (hX : XS G h σ) (hY : YS G h τ) (hC : CR σ τ) (K : lwK G d i) : mj_wp G ML_law d 233 3976 247 (lwS G i) [] h 233 3976 lwQ := by
  refine s_aload_n (n := 248) (i := 1) dL_law_247 rfl rfl rfl ?_
  refine s_aload_n (n := 249) (i := 0) dL_law_248 rfl rfl rfl ?_
  refine s_iload_n (n := 250) (i := 3) dL_law_249 rfl rfl rfl ?_
  refine s_iconst (n := 251) (v := 1) dL_law_250 rfl (by decide) ?_
  refine s_iadd (n := 252) dL_law_251 rfl ?_
  refine s_sld (n := 253) dL_law_252 rfl (mj_ixs (i := i) (m := 1) (by omega)) ?_
  refine s_aload_n (n := 254) (i := 0) dL_law_253 rfl rfl rfl ?_
  refine s_iload_n (n := 255) (i := 3) dL_law_254 rfl rfl rfl ?_
  refine s_iconst (n := 256) (v := 2) dL_law_255 rfl (by decide) ?_
  refine s_iadd (n := 257) dL_law_256 rfl ?_
  refine s_sld (n := 258) dL_law_257 rfl (mj_ixs (i := i) (m := 2) (by omega)) ?_
  refine s_aload_n (n := 259) (i := 0) dL_law_258 rfl rfl rfl ?_
  refine s_iload_n (n := 260) (i := 3) dL_law_259 rfl rfl rfl ?_
  refine s_iconst (n := 261) (v := 3) dL_law_260 rfl (by decide) ?_
  refine s_iadd (n := 262) dL_law_261 rfl ?_
  refine s_sld (n := 263) dL_law_262 rfl (mj_ixs (i := i) (m := 3) (by omega)) ?_
  obtain ⟨v, P, R, hx, hy, hc⟩ := cp_set (G := G) hC (G.2.2.2.2.2 (i + 1)) (G.2.2.2.2.2 (i + 2)) (G.2.2.2.2.2 (i + 3))
  obtain ⟨Qx, kx, qx⟩ := hx h hX
  refine s_v3 (M' := MX4_set) (n := 266) (ci := 4) dL_law_263 rfl wd_L_18 okX4_set rfl rfl (show 12 + 1 ≤ d by omega) ⟨Nat.le_refl _, Nat.le_refl _⟩ hX.1 kx ?_
  intro w1 h1 q1
  obtain ⟨rfl, σ1, hX1, hF1, hP⟩ := qx _ _ q1
  have hY1 := YS_mv hY (fun j hj => hF1.2 j (by omega))
  obtain ⟨Qy, ky, qy⟩ := hy h1 hY1
  refine s_aload_n (n := 267) (i := 2) dL_law_266 rfl rfl rfl ?_
  refine s_aload_n (n := 268) (i := 0) dL_law_267 rfl rfl rfl ?_
  refine s_iload_n (n := 269) (i := 3) dL_law_268 rfl rfl rfl ?_
  refine s_iconst (n := 270) (v := 1) dL_law_269 rfl (by decide) ?_
  refine s_iadd (n := 271) dL_law_270 rfl ?_
  refine s_sld (n := 272) dL_law_271 rfl (mj_ixs (i := i) (m := 1) (by omega)) ?_
  refine s_aload_n (n := 273) (i := 0) dL_law_272 rfl rfl rfl ?_
  refine s_iload_n (n := 274) (i := 3) dL_law_273 rfl rfl rfl ?_
  refine s_iconst (n := 275) (v := 2) dL_law_274 rfl (by decide) ?_
  refine s_iadd (n := 276) dL_law_275 rfl ?_
  refine s_sld (n := 277) dL_law_276 rfl (mj_ixs (i := i) (m := 2) (by omega)) ?_
  refine s_aload_n (n := 278) (i := 0) dL_law_277 rfl rfl rfl ?_
  refine s_iload_n (n := 279) (i := 3) dL_law_278 rfl rfl rfl ?_
  refine s_iconst (n := 280) (v := 3) dL_law_279 rfl (by decide) ?_
  refine s_iadd (n := 281) dL_law_280 rfl ?_
  refine s_sld (n := 282) dL_law_281 rfl (mj_ixs (i := i) (m := 3) (by omega)) ?_
  refine s_v3 (M' := MX5_set) (n := 285) (ci := 5) dL_law_282 rfl wd_L_21 okX5_set rfl rfl (show 12 + 1 ≤ d by omega) ⟨Nat.le_refl _, Nat.le_refl _⟩ hY1.1 ky ?_
  intro w2 h2 q2
  obtain ⟨rfl, τ1, hY2, hF2, hR⟩ := qy _ _ q2
  have hX2 := XS_mv hX1 (fun j hj => hF2.2 j (by omega))
  refine s_icmp_eq (n := 288) (tgt := 1404) dL_law_285 rfl rfl (fun b => ?_) (fun b => absurd rfl b)
  exact K h2 σ1 τ1 hX2 hY2 (hc σ1 τ1 hP hR)
set_option maxRecDepth 100000 in
set_option maxHeartbeats 4000000 in
theorem lw_copy {G : mj_G} {d i : Nat} {h : mj_H} {σ τ : Nat → Nat → Int32} (hd : 20 ≤ d) (hL : G.2.2.2.2.1 ≤ 448) (hi : i + 7 ≤ G.2.2.2.2.1) (hX : XS G h σ) (hY : YS G h τ) (hC : CR σ τ) (K : lwK G d i) : mj_wp G ML_law d 233 3976 290 (lwS G i) [] h 233 3976 lwQ := by
  refine s_aload_n (n := 291) (i := 1) dL_law_290 rfl rfl rfl ?_
  refine s_aload_n (n := 292) (i := 0) dL_law_291 rfl rfl rfl ?_
  refine s_iload_n (n := 293) (i := 3) dL_law_292 rfl rfl rfl ?_
  refine s_iconst (n := 294) (v := 1) dL_law_293 rfl (by decide) ?_
  refine s_iadd (n := 295) dL_law_294 rfl ?_
  refine s_sld (n := 296) dL_law_295 rfl (mj_ixs (i := i) (m := 1) (by omega)) ?_
  refine s_aload_n (n := 297) (i := 0) dL_law_296 rfl rfl rfl ?_
  refine s_iload_n (n := 298) (i := 3) dL_law_297 rfl rfl rfl ?_
  refine s_iconst (n := 299) (v := 2) dL_law_298 rfl (by decide) ?_
  refine s_iadd (n := 300) dL_law_299 rfl ?_
  refine s_sld (n := 301) dL_law_300 rfl (mj_ixs (i := i) (m := 2) (by omega)) ?_
  refine s_aload_n (n := 302) (i := 0) dL_law_301 rfl rfl rfl ?_
  refine s_iload_n (n := 303) (i := 3) dL_law_302 rfl rfl rfl ?_
  refine s_iconst (n := 304) (v := 3) dL_law_303 rfl (by decide) ?_
  refine s_iadd (n := 305) dL_law_304 rfl ?_
  refine s_sld (n := 306) dL_law_305 rfl (mj_ixs (i := i) (m := 3) (by omega)) ?_
  refine s_aload_n (n := 307) (i := 0) dL_law_306 rfl rfl rfl ?_
  refine s_iload_n (n := 308) (i := 3) dL_law_307 rfl rfl rfl ?_
  refine s_iconst (n := 309) (v := 4) dL_law_308 rfl (by decide) ?_
  refine s_iadd (n := 310) dL_law_309 rfl ?_
  refine s_sld (n := 311) dL_law_310 rfl (mj_ixs (i := i) (m := 4) (by omega)) ?_
  refine s_aload_n (n := 312) (i := 0) dL_law_311 rfl rfl rfl ?_
  refine s_iload_n (n := 313) (i := 3) dL_law_312 rfl rfl rfl ?_
  refine s_iconst (n := 314) (v := 5) dL_law_313 rfl (by decide) ?_
  refine s_iadd (n := 315) dL_law_314 rfl ?_
  refine s_sld (n := 316) dL_law_315 rfl (mj_ixs (i := i) (m := 5) (by omega)) ?_
  obtain ⟨v, P, R, hx, hy, hc⟩ := cp_copy (G := G) hC (G.2.2.2.2.2 (i + 1)) (G.2.2.2.2.2 (i + 2)) (G.2.2.2.2.2 (i + 3)) (G.2.2.2.2.2 (i + 4)) (G.2.2.2.2.2 (i + 5))
  obtain ⟨Qx, kx, qx⟩ := hx h hX
  refine s_v5 (M' := MX4_copy) (n := 319) (ci := 4) dL_law_316 rfl wd_L_22 okX4_copy rfl rfl (show 12 + 1 ≤ d by omega) ⟨Nat.le_refl _, Nat.le_refl _⟩ hX.1 kx ?_
  intro w1 h1 q1
  obtain ⟨rfl, σ1, hX1, hF1, hP⟩ := qx _ _ q1
  have hY1 := YS_mv hY (fun j hj => hF1.2 j (by omega))
  obtain ⟨Qy, ky, qy⟩ := hy h1 hY1
  refine s_aload_n (n := 320) (i := 2) dL_law_319 rfl rfl rfl ?_
  refine s_aload_n (n := 321) (i := 0) dL_law_320 rfl rfl rfl ?_
  refine s_iload_n (n := 322) (i := 3) dL_law_321 rfl rfl rfl ?_
  refine s_iconst (n := 323) (v := 1) dL_law_322 rfl (by decide) ?_
  refine s_iadd (n := 324) dL_law_323 rfl ?_
  refine s_sld (n := 325) dL_law_324 rfl (mj_ixs (i := i) (m := 1) (by omega)) ?_
  refine s_aload_n (n := 326) (i := 0) dL_law_325 rfl rfl rfl ?_
  refine s_iload_n (n := 327) (i := 3) dL_law_326 rfl rfl rfl ?_
  refine s_iconst (n := 328) (v := 2) dL_law_327 rfl (by decide) ?_
  refine s_iadd (n := 329) dL_law_328 rfl ?_
  refine s_sld (n := 330) dL_law_329 rfl (mj_ixs (i := i) (m := 2) (by omega)) ?_
  refine s_aload_n (n := 331) (i := 0) dL_law_330 rfl rfl rfl ?_
  refine s_iload_n (n := 332) (i := 3) dL_law_331 rfl rfl rfl ?_
  refine s_iconst (n := 333) (v := 3) dL_law_332 rfl (by decide) ?_
  refine s_iadd (n := 334) dL_law_333 rfl ?_
  refine s_sld (n := 335) dL_law_334 rfl (mj_ixs (i := i) (m := 3) (by omega)) ?_
  refine s_aload_n (n := 336) (i := 0) dL_law_335 rfl rfl rfl ?_
  refine s_iload_n (n := 337) (i := 3) dL_law_336 rfl rfl rfl ?_
  refine s_iconst (n := 338) (v := 4) dL_law_337 rfl (by decide) ?_
  refine s_iadd (n := 339) dL_law_338 rfl ?_
  refine s_sld (n := 340) dL_law_339 rfl (mj_ixs (i := i) (m := 4) (by omega)) ?_
  refine s_aload_n (n := 341) (i := 0) dL_law_340 rfl rfl rfl ?_
  refine s_iload_n (n := 342) (i := 3) dL_law_341 rfl rfl rfl ?_
  refine s_iconst (n := 343) (v := 5) dL_law_342 rfl (by decide) ?_
  refine s_iadd (n := 344) dL_law_343 rfl ?_
  refine s_sld (n := 345) dL_law_344 rfl (mj_ixs (i := i) (m := 5) (by omega)) ?_
  refine s_v5 (M' := MX5_copy) (n := 348) (ci := 5) dL_law_345 rfl wd_L_26 okX5_copy rfl rfl (show 12 + 1 ≤ d by omega) ⟨Nat.le_refl _, Nat.le_refl _⟩ hY1.1 ky ?_
  intro w2 h2 q2
  obtain ⟨rfl, τ1, hY2, hF2, hR⟩ := qy _ _ q2
  have hX2 := XS_mv hX1 (fun j hj => hF2.2 j (by omega))
  refine s_icmp_eq (n := 351) (tgt := 1404) dL_law_348 rfl rfl (fun b => ?_) (fun b => absurd rfl b)
  exact K h2 σ1 τ1 hX2 hY2 (hc σ1 τ1 hP hR)
set_option maxRecDepth 100000 in
set_option maxHeartbeats 4000000 in
theorem lw_drop {G : mj_G} {d i : Nat} {h : mj_H} {σ τ : Nat → Nat → Int32} (hd : 20 ≤ d) (hL : G.2.2.2.2.1 ≤ 448) (hi : i + 7 ≤ G.2.2.2.2.1) (hX : XS G h σ) (hY : YS G h τ) (hC : CR σ τ) (K : lwK G d i) : mj_wp G ML_law d 233 3976 353 (lwS G i) [] h 233 3976 lwQ := by
  refine s_aload_n (n := 354) (i := 1) dL_law_353 rfl rfl rfl ?_
  refine s_aload_n (n := 355) (i := 0) dL_law_354 rfl rfl rfl ?_
  refine s_iload_n (n := 356) (i := 3) dL_law_355 rfl rfl rfl ?_
  refine s_iconst (n := 357) (v := 1) dL_law_356 rfl (by decide) ?_
  refine s_iadd (n := 358) dL_law_357 rfl ?_
  refine s_sld (n := 359) dL_law_358 rfl (mj_ixs (i := i) (m := 1) (by omega)) ?_
  obtain ⟨v, P, R, hx, hy, hc⟩ := cp_drop (G := G) hC (G.2.2.2.2.2 (i + 1))
  obtain ⟨Qx, kx, qx⟩ := hx h hX
  refine s_v1 (M' := MX4_drop) (n := 362) (ci := 4) dL_law_359 rfl wd_L_27 okX4_drop rfl rfl (show 12 + 1 ≤ d by omega) ⟨Nat.le_refl _, Nat.le_refl _⟩ hX.1 kx ?_
  intro w1 h1 q1
  obtain ⟨rfl, σ1, hX1, hF1, hP⟩ := qx _ _ q1
  have hY1 := YS_mv hY (fun j hj => hF1.2 j (by omega))
  obtain ⟨Qy, ky, qy⟩ := hy h1 hY1
  refine s_aload_n (n := 363) (i := 2) dL_law_362 rfl rfl rfl ?_
  refine s_aload_n (n := 364) (i := 0) dL_law_363 rfl rfl rfl ?_
  refine s_iload_n (n := 365) (i := 3) dL_law_364 rfl rfl rfl ?_
  refine s_iconst (n := 366) (v := 1) dL_law_365 rfl (by decide) ?_
  refine s_iadd (n := 367) dL_law_366 rfl ?_
  refine s_sld (n := 368) dL_law_367 rfl (mj_ixs (i := i) (m := 1) (by omega)) ?_
  refine s_v1 (M' := MX5_drop) (n := 371) (ci := 5) dL_law_368 rfl wd_L_31 okX5_drop rfl rfl (show 12 + 1 ≤ d by omega) ⟨Nat.le_refl _, Nat.le_refl _⟩ hY1.1 ky ?_
  intro w2 h2 q2
  obtain ⟨rfl, τ1, hY2, hF2, hR⟩ := qy _ _ q2
  have hX2 := XS_mv hX1 (fun j hj => hF2.2 j (by omega))
  refine s_icmp_eq (n := 374) (tgt := 1404) dL_law_371 rfl rfl (fun b => ?_) (fun b => absurd rfl b)
  exact K h2 σ1 τ1 hX2 hY2 (hc σ1 τ1 hP hR)
set_option maxRecDepth 100000 in
set_option maxHeartbeats 4000000 in
theorem lw_feed {G : mj_G} {d i : Nat} {h : mj_H} {σ τ : Nat → Nat → Int32} (hd : 20 ≤ d) (hL : G.2.2.2.2.1 ≤ 448) (hi : i + 7 ≤ G.2.2.2.2.1) (hX : XS G h σ) (hY : YS G h τ) (hC : CR σ τ) (K : lwK G d i) : mj_wp G ML_law d 233 3976 376 (lwS G i) [] h 233 3976 lwQ := by
  refine s_aload_n (n := 377) (i := 1) dL_law_376 rfl rfl rfl ?_
  refine s_aload_n (n := 378) (i := 0) dL_law_377 rfl rfl rfl ?_
  refine s_iload_n (n := 379) (i := 3) dL_law_378 rfl rfl rfl ?_
  refine s_iconst (n := 380) (v := 1) dL_law_379 rfl (by decide) ?_
  refine s_iadd (n := 381) dL_law_380 rfl ?_
  refine s_sld (n := 382) dL_law_381 rfl (mj_ixs (i := i) (m := 1) (by omega)) ?_
  obtain ⟨v, P, R, hx, hy, hc⟩ := cp_feed (G := G) hC (G.2.2.2.2.2 (i + 1))
  obtain ⟨Qx, kx, qx⟩ := hx h hX
  refine s_v1 (M' := MX4_feed) (n := 385) (ci := 4) dL_law_382 rfl wd_L_32 okX4_feed rfl rfl (show 12 + 1 ≤ d by omega) ⟨Nat.le_refl _, Nat.le_refl _⟩ hX.1 kx ?_
  intro w1 h1 q1
  obtain ⟨rfl, σ1, hX1, hF1, hP⟩ := qx _ _ q1
  have hY1 := YS_mv hY (fun j hj => hF1.2 j (by omega))
  obtain ⟨Qy, ky, qy⟩ := hy h1 hY1
  refine s_aload_n (n := 386) (i := 2) dL_law_385 rfl rfl rfl ?_
  refine s_aload_n (n := 387) (i := 0) dL_law_386 rfl rfl rfl ?_
  refine s_iload_n (n := 388) (i := 3) dL_law_387 rfl rfl rfl ?_
  refine s_iconst (n := 389) (v := 1) dL_law_388 rfl (by decide) ?_
  refine s_iadd (n := 390) dL_law_389 rfl ?_
  refine s_sld (n := 391) dL_law_390 rfl (mj_ixs (i := i) (m := 1) (by omega)) ?_
  refine s_v1 (M' := MX5_feed) (n := 394) (ci := 5) dL_law_391 rfl wd_L_35 okX5_feed rfl rfl (show 12 + 1 ≤ d by omega) ⟨Nat.le_refl _, Nat.le_refl _⟩ hY1.1 ky ?_
  intro w2 h2 q2
  obtain ⟨rfl, τ1, hY2, hF2, hR⟩ := qy _ _ q2
  have hX2 := XS_mv hX1 (fun j hj => hF2.2 j (by omega))
  refine s_icmp_eq (n := 397) (tgt := 1404) dL_law_394 rfl rfl (fun b => ?_) (fun b => absurd rfl b)
  exact K h2 σ1 τ1 hX2 hY2 (hc σ1 τ1 hP hR)
set_option maxRecDepth 100000 in
set_option maxHeartbeats 4000000 in
theorem lw_street {G : mj_G} {d i : Nat} {h : mj_H} {σ τ : Nat → Nat → Int32} (hd : 20 ≤ d) (hL : G.2.2.2.2.1 ≤ 448) (hi : i + 7 ≤ G.2.2.2.2.1) (hX : XS G h σ) (hY : YS G h τ) (hC : CR σ τ) (K : lwK G d i) : mj_wp G ML_law d 233 3976 399 (lwS G i) [] h 233 3976 lwQ := by
  refine s_aload_n (n := 400) (i := 1) dL_law_399 rfl rfl rfl ?_
  obtain ⟨v, P, R, hx, hy, hc⟩ := cp_street (G := G) hC
  obtain ⟨Qx, kx, qx⟩ := hx h hX
  refine s_v0 (M' := MX4_street) (n := 403) (ci := 4) dL_law_400 rfl wd_L_36 okX4_street rfl rfl (show 12 + 1 ≤ d by omega) ⟨Nat.le_refl _, Nat.le_refl _⟩ hX.1 kx ?_
  intro w1 h1 q1
  obtain ⟨rfl, σ1, hX1, hF1, hP⟩ := qx _ _ q1
  have hY1 := YS_mv hY (fun j hj => hF1.2 j (by omega))
  obtain ⟨Qy, ky, qy⟩ := hy h1 hY1
  refine s_aload_n (n := 404) (i := 2) dL_law_403 rfl rfl rfl ?_
  refine s_v0 (M' := MX5_street) (n := 407) (ci := 5) dL_law_404 rfl wd_L_40 okX5_street rfl rfl (show 12 + 1 ≤ d by omega) ⟨Nat.le_refl _, Nat.le_refl _⟩ hY1.1 ky ?_
  intro w2 h2 q2
  obtain ⟨rfl, τ1, hY2, hF2, hR⟩ := qy _ _ q2
  have hX2 := XS_mv hX1 (fun j hj => hF2.2 j (by omega))
  refine s_icmp_eq (n := 410) (tgt := 1404) dL_law_407 rfl rfl (fun b => ?_) (fun b => absurd rfl b)
  exact K h2 σ1 τ1 hX2 hY2 (hc σ1 τ1 hP hR)
set_option maxRecDepth 100000 in
set_option maxHeartbeats 4000000 in
theorem lw_fault {G : mj_G} {d i : Nat} {h : mj_H} {σ τ : Nat → Nat → Int32} (hd : 20 ≤ d) (hL : G.2.2.2.2.1 ≤ 448) (hi : i + 7 ≤ G.2.2.2.2.1) (hX : XS G h σ) (hY : YS G h τ) (hC : CR σ τ) (K : lwK G d i) : mj_wp G ML_law d 233 3976 412 (lwS G i) [] h 233 3976 lwQ := by
  refine s_aload_n (n := 413) (i := 1) dL_law_412 rfl rfl rfl ?_
  obtain ⟨v, P, R, hx, hy, hc⟩ := cp_fault (G := G) hC
  obtain ⟨Qx, kx, qx⟩ := hx h hX
  refine s_v0 (M' := MX4_fault) (n := 416) (ci := 4) dL_law_413 rfl wd_L_41 okX4_fault rfl rfl (show 12 + 1 ≤ d by omega) ⟨Nat.le_refl _, Nat.le_refl _⟩ hX.1 kx ?_
  intro w1 h1 q1
  obtain ⟨rfl, σ1, hX1, hF1, hP⟩ := qx _ _ q1
  have hY1 := YS_mv hY (fun j hj => hF1.2 j (by omega))
  obtain ⟨Qy, ky, qy⟩ := hy h1 hY1
  refine s_aload_n (n := 417) (i := 2) dL_law_416 rfl rfl rfl ?_
  refine s_v0 (M' := MX5_fault) (n := 420) (ci := 5) dL_law_417 rfl wd_L_44 okX5_fault rfl rfl (show 12 + 1 ≤ d by omega) ⟨Nat.le_refl _, Nat.le_refl _⟩ hY1.1 ky ?_
  intro w2 h2 q2
  obtain ⟨rfl, τ1, hY2, hF2, hR⟩ := qy _ _ q2
  have hX2 := XS_mv hX1 (fun j hj => hF2.2 j (by omega))
  refine s_icmp_eq (n := 423) (tgt := 1404) dL_law_420 rfl rfl (fun b => ?_) (fun b => absurd rfl b)
  exact K h2 σ1 τ1 hX2 hY2 (hc σ1 τ1 hP hR)
set_option maxRecDepth 100000 in
set_option maxHeartbeats 4000000 in
theorem lw_undo {G : mj_G} {d i : Nat} {h : mj_H} {σ τ : Nat → Nat → Int32} (hd : 20 ≤ d) (hL : G.2.2.2.2.1 ≤ 448) (hi : i + 7 ≤ G.2.2.2.2.1) (hX : XS G h σ) (hY : YS G h τ) (hC : CR σ τ) (K : lwK G d i) : mj_wp G ML_law d 233 3976 425 (lwS G i) [] h 233 3976 lwQ := by
  refine s_aload_n (n := 426) (i := 1) dL_law_425 rfl rfl rfl ?_
  obtain ⟨v, P, R, hx, hy, hc⟩ := cp_undo (G := G) hC
  obtain ⟨Qx, kx, qx⟩ := hx h hX
  refine s_v0 (M' := MX4_undo) (n := 429) (ci := 4) dL_law_426 rfl wd_L_45 okX4_undo rfl rfl (show 12 + 1 ≤ d by omega) ⟨Nat.le_refl _, Nat.le_refl _⟩ hX.1 kx ?_
  intro w1 h1 q1
  obtain ⟨rfl, σ1, hX1, hF1, hP⟩ := qx _ _ q1
  have hY1 := YS_mv hY (fun j hj => hF1.2 j (by omega))
  obtain ⟨Qy, ky, qy⟩ := hy h1 hY1
  refine s_aload_n (n := 430) (i := 2) dL_law_429 rfl rfl rfl ?_
  refine s_v0 (M' := MX5_undo) (n := 433) (ci := 5) dL_law_430 rfl wd_L_48 okX5_undo rfl rfl (show 12 + 1 ≤ d by omega) ⟨Nat.le_refl _, Nat.le_refl _⟩ hY1.1 ky ?_
  intro w2 h2 q2
  obtain ⟨rfl, τ1, hY2, hF2, hR⟩ := qy _ _ q2
  have hX2 := XS_mv hX1 (fun j hj => hF2.2 j (by omega))
  refine s_icmp_eq (n := 436) (tgt := 1404) dL_law_433 rfl rfl (fun b => ?_) (fun b => absurd rfl b)
  exact K h2 σ1 τ1 hX2 hY2 (hc σ1 τ1 hP hR)
set_option maxRecDepth 100000 in
set_option maxHeartbeats 4000000 in
theorem lw_minutes {G : mj_G} {d i : Nat} {h : mj_H} {σ τ : Nat → Nat → Int32} (hd : 20 ≤ d) (hL : G.2.2.2.2.1 ≤ 448) (hi : i + 7 ≤ G.2.2.2.2.1) (hX : XS G h σ) (hY : YS G h τ) (hC : CR σ τ) (K : lwK G d i) : mj_wp G ML_law d 233 3976 438 (lwS G i) [] h 233 3976 lwQ := by
  refine s_aload_n (n := 439) (i := 1) dL_law_438 rfl rfl rfl ?_
  refine s_aload_n (n := 440) (i := 0) dL_law_439 rfl rfl rfl ?_
  refine s_iload_n (n := 441) (i := 3) dL_law_440 rfl rfl rfl ?_
  refine s_iconst (n := 442) (v := 1) dL_law_441 rfl (by decide) ?_
  refine s_iadd (n := 443) dL_law_442 rfl ?_
  refine s_sld (n := 444) dL_law_443 rfl (mj_ixs (i := i) (m := 1) (by omega)) ?_
  obtain ⟨v, P, R, hx, hy, hc⟩ := cp_minutes (G := G) hC (G.2.2.2.2.2 (i + 1))
  obtain ⟨Qx, kx, qx⟩ := hx h hX
  refine s_v1 (M' := MX4_minutes) (n := 447) (ci := 4) dL_law_444 rfl wd_L_49 okX4_minutes rfl rfl (show 12 + 1 ≤ d by omega) ⟨Nat.le_refl _, Nat.le_refl _⟩ hX.1 kx ?_
  intro w1 h1 q1
  obtain ⟨rfl, σ1, hX1, hF1, hP⟩ := qx _ _ q1
  have hY1 := YS_mv hY (fun j hj => hF1.2 j (by omega))
  obtain ⟨Qy, ky, qy⟩ := hy h1 hY1
  refine s_aload_n (n := 448) (i := 2) dL_law_447 rfl rfl rfl ?_
  refine s_aload_n (n := 449) (i := 0) dL_law_448 rfl rfl rfl ?_
  refine s_iload_n (n := 450) (i := 3) dL_law_449 rfl rfl rfl ?_
  refine s_iconst (n := 451) (v := 1) dL_law_450 rfl (by decide) ?_
  refine s_iadd (n := 452) dL_law_451 rfl ?_
  refine s_sld (n := 453) dL_law_452 rfl (mj_ixs (i := i) (m := 1) (by omega)) ?_
  refine s_v1 (M' := MX5_minutes) (n := 456) (ci := 5) dL_law_453 rfl wd_L_52 okX5_minutes rfl rfl (show 12 + 1 ≤ d by omega) ⟨Nat.le_refl _, Nat.le_refl _⟩ hY1.1 ky ?_
  intro w2 h2 q2
  obtain ⟨rfl, τ1, hY2, hF2, hR⟩ := qy _ _ q2
  have hX2 := XS_mv hX1 (fun j hj => hF2.2 j (by omega))
  refine s_icmp_eq (n := 459) (tgt := 1404) dL_law_456 rfl rfl (fun b => ?_) (fun b => absurd rfl b)
  exact K h2 σ1 τ1 hX2 hY2 (hc σ1 τ1 hP hR)
set_option maxRecDepth 100000 in
set_option maxHeartbeats 4000000 in
theorem lw_talk {G : mj_G} {d i : Nat} {h : mj_H} {σ τ : Nat → Nat → Int32} (hd : 20 ≤ d) (hL : G.2.2.2.2.1 ≤ 448) (hi : i + 7 ≤ G.2.2.2.2.1) (hX : XS G h σ) (hY : YS G h τ) (hC : CR σ τ) (K : lwK G d i) : mj_wp G ML_law d 233 3976 461 (lwS G i) [] h 233 3976 lwQ := by
  refine s_aload_n (n := 462) (i := 1) dL_law_461 rfl rfl rfl ?_
  refine s_aload_n (n := 463) (i := 0) dL_law_462 rfl rfl rfl ?_
  refine s_iload_n (n := 464) (i := 3) dL_law_463 rfl rfl rfl ?_
  refine s_iconst (n := 465) (v := 1) dL_law_464 rfl (by decide) ?_
  refine s_iadd (n := 466) dL_law_465 rfl ?_
  refine s_sld (n := 467) dL_law_466 rfl (mj_ixs (i := i) (m := 1) (by omega)) ?_
  refine s_aload_n (n := 468) (i := 0) dL_law_467 rfl rfl rfl ?_
  refine s_iload_n (n := 469) (i := 3) dL_law_468 rfl rfl rfl ?_
  refine s_iconst (n := 470) (v := 2) dL_law_469 rfl (by decide) ?_
  refine s_iadd (n := 471) dL_law_470 rfl ?_
  refine s_sld (n := 472) dL_law_471 rfl (mj_ixs (i := i) (m := 2) (by omega)) ?_
  obtain ⟨v, P, R, hx, hy, hc⟩ := cp_talk (G := G) hC (G.2.2.2.2.2 (i + 1)) (G.2.2.2.2.2 (i + 2))
  obtain ⟨Qx, kx, qx⟩ := hx h hX
  refine s_v2 (M' := MX4_talk) (n := 475) (ci := 4) dL_law_472 rfl wd_L_53 okX4_talk rfl rfl (show 12 + 1 ≤ d by omega) ⟨Nat.le_refl _, Nat.le_refl _⟩ hX.1 kx ?_
  intro w1 h1 q1
  obtain ⟨rfl, σ1, hX1, hF1, hP⟩ := qx _ _ q1
  have hY1 := YS_mv hY (fun j hj => hF1.2 j (by omega))
  obtain ⟨Qy, ky, qy⟩ := hy h1 hY1
  refine s_aload_n (n := 476) (i := 2) dL_law_475 rfl rfl rfl ?_
  refine s_aload_n (n := 477) (i := 0) dL_law_476 rfl rfl rfl ?_
  refine s_iload_n (n := 478) (i := 3) dL_law_477 rfl rfl rfl ?_
  refine s_iconst (n := 479) (v := 1) dL_law_478 rfl (by decide) ?_
  refine s_iadd (n := 480) dL_law_479 rfl ?_
  refine s_sld (n := 481) dL_law_480 rfl (mj_ixs (i := i) (m := 1) (by omega)) ?_
  refine s_aload_n (n := 482) (i := 0) dL_law_481 rfl rfl rfl ?_
  refine s_iload_n (n := 483) (i := 3) dL_law_482 rfl rfl rfl ?_
  refine s_iconst (n := 484) (v := 2) dL_law_483 rfl (by decide) ?_
  refine s_iadd (n := 485) dL_law_484 rfl ?_
  refine s_sld (n := 486) dL_law_485 rfl (mj_ixs (i := i) (m := 2) (by omega)) ?_
  refine s_v2 (M' := MX5_talk) (n := 489) (ci := 5) dL_law_486 rfl wd_L_57 okX5_talk rfl rfl (show 12 + 1 ≤ d by omega) ⟨Nat.le_refl _, Nat.le_refl _⟩ hY1.1 ky ?_
  intro w2 h2 q2
  obtain ⟨rfl, τ1, hY2, hF2, hR⟩ := qy _ _ q2
  have hX2 := XS_mv hX1 (fun j hj => hF2.2 j (by omega))
  refine s_icmp_eq (n := 492) (tgt := 1404) dL_law_489 rfl rfl (fun b => ?_) (fun b => absurd rfl b)
  exact K h2 σ1 τ1 hX2 hY2 (hc σ1 τ1 hP hR)
set_option maxRecDepth 100000 in
set_option maxHeartbeats 4000000 in
theorem lw_hush {G : mj_G} {d i : Nat} {h : mj_H} {σ τ : Nat → Nat → Int32} (hd : 20 ≤ d) (hL : G.2.2.2.2.1 ≤ 448) (hi : i + 7 ≤ G.2.2.2.2.1) (hX : XS G h σ) (hY : YS G h τ) (hC : CR σ τ) (K : lwK G d i) : mj_wp G ML_law d 233 3976 494 (lwS G i) [] h 233 3976 lwQ := by
  refine s_aload_n (n := 495) (i := 1) dL_law_494 rfl rfl rfl ?_
  refine s_aload_n (n := 496) (i := 0) dL_law_495 rfl rfl rfl ?_
  refine s_iload_n (n := 497) (i := 3) dL_law_496 rfl rfl rfl ?_
  refine s_iconst (n := 498) (v := 1) dL_law_497 rfl (by decide) ?_
  refine s_iadd (n := 499) dL_law_498 rfl ?_
  refine s_sld (n := 500) dL_law_499 rfl (mj_ixs (i := i) (m := 1) (by omega)) ?_
  refine s_aload_n (n := 501) (i := 0) dL_law_500 rfl rfl rfl ?_
  refine s_iload_n (n := 502) (i := 3) dL_law_501 rfl rfl rfl ?_
  refine s_iconst (n := 503) (v := 2) dL_law_502 rfl (by decide) ?_
  refine s_iadd (n := 504) dL_law_503 rfl ?_
  refine s_sld (n := 505) dL_law_504 rfl (mj_ixs (i := i) (m := 2) (by omega)) ?_
  obtain ⟨v, P, R, hx, hy, hc⟩ := cp_hush (G := G) hC (G.2.2.2.2.2 (i + 1)) (G.2.2.2.2.2 (i + 2))
  obtain ⟨Qx, kx, qx⟩ := hx h hX
  refine s_v2 (M' := MX4_hush) (n := 508) (ci := 4) dL_law_505 rfl wd_L_58 okX4_hush rfl rfl (show 12 + 1 ≤ d by omega) ⟨Nat.le_refl _, Nat.le_refl _⟩ hX.1 kx ?_
  intro w1 h1 q1
  obtain ⟨rfl, σ1, hX1, hF1, hP⟩ := qx _ _ q1
  have hY1 := YS_mv hY (fun j hj => hF1.2 j (by omega))
  obtain ⟨Qy, ky, qy⟩ := hy h1 hY1
  refine s_aload_n (n := 509) (i := 2) dL_law_508 rfl rfl rfl ?_
  refine s_aload_n (n := 510) (i := 0) dL_law_509 rfl rfl rfl ?_
  refine s_iload_n (n := 511) (i := 3) dL_law_510 rfl rfl rfl ?_
  refine s_iconst (n := 512) (v := 1) dL_law_511 rfl (by decide) ?_
  refine s_iadd (n := 513) dL_law_512 rfl ?_
  refine s_sld (n := 514) dL_law_513 rfl (mj_ixs (i := i) (m := 1) (by omega)) ?_
  refine s_aload_n (n := 515) (i := 0) dL_law_514 rfl rfl rfl ?_
  refine s_iload_n (n := 516) (i := 3) dL_law_515 rfl rfl rfl ?_
  refine s_iconst (n := 517) (v := 2) dL_law_516 rfl (by decide) ?_
  refine s_iadd (n := 518) dL_law_517 rfl ?_
  refine s_sld (n := 519) dL_law_518 rfl (mj_ixs (i := i) (m := 2) (by omega)) ?_
  refine s_v2 (M' := MX5_hush) (n := 522) (ci := 5) dL_law_519 rfl wd_L_61 okX5_hush rfl rfl (show 12 + 1 ≤ d by omega) ⟨Nat.le_refl _, Nat.le_refl _⟩ hY1.1 ky ?_
  intro w2 h2 q2
  obtain ⟨rfl, τ1, hY2, hF2, hR⟩ := qy _ _ q2
  have hX2 := XS_mv hX1 (fun j hj => hF2.2 j (by omega))
  refine s_icmp_eq (n := 525) (tgt := 1404) dL_law_522 rfl rfl (fun b => ?_) (fun b => absurd rfl b)
  exact K h2 σ1 τ1 hX2 hY2 (hc σ1 τ1 hP hR)
set_option maxRecDepth 100000 in
set_option maxHeartbeats 4000000 in
theorem lw_bars {G : mj_G} {d i : Nat} {h : mj_H} {σ τ : Nat → Nat → Int32} (hd : 20 ≤ d) (hL : G.2.2.2.2.1 ≤ 448) (hi : i + 7 ≤ G.2.2.2.2.1) (hX : XS G h σ) (hY : YS G h τ) (hC : CR σ τ) (K : lwK G d i) : mj_wp G ML_law d 233 3976 527 (lwS G i) [] h 233 3976 lwQ := by
  refine s_aload_n (n := 528) (i := 1) dL_law_527 rfl rfl rfl ?_
  refine s_aload_n (n := 529) (i := 0) dL_law_528 rfl rfl rfl ?_
  refine s_iload_n (n := 530) (i := 3) dL_law_529 rfl rfl rfl ?_
  refine s_iconst (n := 531) (v := 1) dL_law_530 rfl (by decide) ?_
  refine s_iadd (n := 532) dL_law_531 rfl ?_
  refine s_sld (n := 533) dL_law_532 rfl (mj_ixs (i := i) (m := 1) (by omega)) ?_
  refine s_aload_n (n := 534) (i := 0) dL_law_533 rfl rfl rfl ?_
  refine s_iload_n (n := 535) (i := 3) dL_law_534 rfl rfl rfl ?_
  refine s_iconst (n := 536) (v := 2) dL_law_535 rfl (by decide) ?_
  refine s_iadd (n := 537) dL_law_536 rfl ?_
  refine s_sld (n := 538) dL_law_537 rfl (mj_ixs (i := i) (m := 2) (by omega)) ?_
  obtain ⟨v, P, R, hx, hy, hc⟩ := cp_bars (G := G) hC (G.2.2.2.2.2 (i + 1)) (G.2.2.2.2.2 (i + 2))
  obtain ⟨Qx, kx, qx⟩ := hx h hX
  refine s_v2 (M' := MX4_bars) (n := 541) (ci := 4) dL_law_538 rfl wd_L_62 okX4_bars rfl rfl (show 12 + 1 ≤ d by omega) ⟨Nat.le_refl _, Nat.le_refl _⟩ hX.1 kx ?_
  intro w1 h1 q1
  obtain ⟨rfl, σ1, hX1, hF1, hP⟩ := qx _ _ q1
  have hY1 := YS_mv hY (fun j hj => hF1.2 j (by omega))
  obtain ⟨Qy, ky, qy⟩ := hy h1 hY1
  refine s_aload_n (n := 542) (i := 2) dL_law_541 rfl rfl rfl ?_
  refine s_aload_n (n := 543) (i := 0) dL_law_542 rfl rfl rfl ?_
  refine s_iload_n (n := 544) (i := 3) dL_law_543 rfl rfl rfl ?_
  refine s_iconst (n := 545) (v := 1) dL_law_544 rfl (by decide) ?_
  refine s_iadd (n := 546) dL_law_545 rfl ?_
  refine s_sld (n := 547) dL_law_546 rfl (mj_ixs (i := i) (m := 1) (by omega)) ?_
  refine s_aload_n (n := 548) (i := 0) dL_law_547 rfl rfl rfl ?_
  refine s_iload_n (n := 549) (i := 3) dL_law_548 rfl rfl rfl ?_
  refine s_iconst (n := 550) (v := 2) dL_law_549 rfl (by decide) ?_
  refine s_iadd (n := 551) dL_law_550 rfl ?_
  refine s_sld (n := 552) dL_law_551 rfl (mj_ixs (i := i) (m := 2) (by omega)) ?_
  refine s_v2 (M' := MX5_bars) (n := 555) (ci := 5) dL_law_552 rfl wd_L_65 okX5_bars rfl rfl (show 12 + 1 ≤ d by omega) ⟨Nat.le_refl _, Nat.le_refl _⟩ hY1.1 ky ?_
  intro w2 h2 q2
  obtain ⟨rfl, τ1, hY2, hF2, hR⟩ := qy _ _ q2
  have hX2 := XS_mv hX1 (fun j hj => hF2.2 j (by omega))
  refine s_icmp_eq (n := 558) (tgt := 1404) dL_law_555 rfl rfl (fun b => ?_) (fun b => absurd rfl b)
  exact K h2 σ1 τ1 hX2 hY2 (hc σ1 τ1 hP hR)
set_option maxRecDepth 100000 in
set_option maxHeartbeats 4000000 in
theorem lw_letDown {G : mj_G} {d i : Nat} {h : mj_H} {σ τ : Nat → Nat → Int32} (hd : 20 ≤ d) (hL : G.2.2.2.2.1 ≤ 448) (hi : i + 7 ≤ G.2.2.2.2.1) (hX : XS G h σ) (hY : YS G h τ) (hC : CR σ τ) (K : lwK G d i) : mj_wp G ML_law d 233 3976 560 (lwS G i) [] h 233 3976 lwQ := by
  refine s_aload_n (n := 561) (i := 1) dL_law_560 rfl rfl rfl ?_
  refine s_aload_n (n := 562) (i := 0) dL_law_561 rfl rfl rfl ?_
  refine s_iload_n (n := 563) (i := 3) dL_law_562 rfl rfl rfl ?_
  refine s_iconst (n := 564) (v := 1) dL_law_563 rfl (by decide) ?_
  refine s_iadd (n := 565) dL_law_564 rfl ?_
  refine s_sld (n := 566) dL_law_565 rfl (mj_ixs (i := i) (m := 1) (by omega)) ?_
  obtain ⟨v, P, R, hx, hy, hc⟩ := cp_letDown (G := G) hC (G.2.2.2.2.2 (i + 1))
  obtain ⟨Qx, kx, qx⟩ := hx h hX
  refine s_v1 (M' := MX4_letDown) (n := 569) (ci := 4) dL_law_566 rfl wd_L_66 okX4_letDown rfl rfl (show 12 + 1 ≤ d by omega) ⟨Nat.le_refl _, Nat.le_refl _⟩ hX.1 kx ?_
  intro w1 h1 q1
  obtain ⟨rfl, σ1, hX1, hF1, hP⟩ := qx _ _ q1
  have hY1 := YS_mv hY (fun j hj => hF1.2 j (by omega))
  obtain ⟨Qy, ky, qy⟩ := hy h1 hY1
  refine s_aload_n (n := 570) (i := 2) dL_law_569 rfl rfl rfl ?_
  refine s_aload_n (n := 571) (i := 0) dL_law_570 rfl rfl rfl ?_
  refine s_iload_n (n := 572) (i := 3) dL_law_571 rfl rfl rfl ?_
  refine s_iconst (n := 573) (v := 1) dL_law_572 rfl (by decide) ?_
  refine s_iadd (n := 574) dL_law_573 rfl ?_
  refine s_sld (n := 575) dL_law_574 rfl (mj_ixs (i := i) (m := 1) (by omega)) ?_
  refine s_v1 (M' := MX5_letDown) (n := 578) (ci := 5) dL_law_575 rfl wd_L_69 okX5_letDown rfl rfl (show 12 + 1 ≤ d by omega) ⟨Nat.le_refl _, Nat.le_refl _⟩ hY1.1 ky ?_
  intro w2 h2 q2
  obtain ⟨rfl, τ1, hY2, hF2, hR⟩ := qy _ _ q2
  have hX2 := XS_mv hX1 (fun j hj => hF2.2 j (by omega))
  refine s_icmp_eq (n := 581) (tgt := 1404) dL_law_578 rfl rfl (fun b => ?_) (fun b => absurd rfl b)
  exact K h2 σ1 τ1 hX2 hY2 (hc σ1 τ1 hP hR)
set_option maxRecDepth 100000 in
set_option maxHeartbeats 4000000 in
theorem lw_house {G : mj_G} {d i : Nat} {h : mj_H} {σ τ : Nat → Nat → Int32} (hd : 20 ≤ d) (hL : G.2.2.2.2.1 ≤ 448) (hi : i + 7 ≤ G.2.2.2.2.1) (hX : XS G h σ) (hY : YS G h τ) (hC : CR σ τ) (K : lwK G d i) : mj_wp G ML_law d 233 3976 583 (lwS G i) [] h 233 3976 lwQ := by
  refine s_aload_n (n := 584) (i := 1) dL_law_583 rfl rfl rfl ?_
  refine s_aload_n (n := 585) (i := 0) dL_law_584 rfl rfl rfl ?_
  refine s_iload_n (n := 586) (i := 3) dL_law_585 rfl rfl rfl ?_
  refine s_iconst (n := 587) (v := 1) dL_law_586 rfl (by decide) ?_
  refine s_iadd (n := 588) dL_law_587 rfl ?_
  refine s_sld (n := 589) dL_law_588 rfl (mj_ixs (i := i) (m := 1) (by omega)) ?_
  refine s_aload_n (n := 590) (i := 0) dL_law_589 rfl rfl rfl ?_
  refine s_iload_n (n := 591) (i := 3) dL_law_590 rfl rfl rfl ?_
  refine s_iconst (n := 592) (v := 2) dL_law_591 rfl (by decide) ?_
  refine s_iadd (n := 593) dL_law_592 rfl ?_
  refine s_sld (n := 594) dL_law_593 rfl (mj_ixs (i := i) (m := 2) (by omega)) ?_
  obtain ⟨v, P, R, hx, hy, hc⟩ := cp_house (G := G) hC (G.2.2.2.2.2 (i + 1)) (G.2.2.2.2.2 (i + 2))
  obtain ⟨Qx, kx, qx⟩ := hx h hX
  refine s_v2 (M' := MX4_house) (n := 597) (ci := 4) dL_law_594 rfl wd_L_70 okX4_house rfl rfl (show 12 + 1 ≤ d by omega) ⟨Nat.le_refl _, Nat.le_refl _⟩ hX.1 kx ?_
  intro w1 h1 q1
  obtain ⟨rfl, σ1, hX1, hF1, hP⟩ := qx _ _ q1
  have hY1 := YS_mv hY (fun j hj => hF1.2 j (by omega))
  obtain ⟨Qy, ky, qy⟩ := hy h1 hY1
  refine s_aload_n (n := 598) (i := 2) dL_law_597 rfl rfl rfl ?_
  refine s_aload_n (n := 599) (i := 0) dL_law_598 rfl rfl rfl ?_
  refine s_iload_n (n := 600) (i := 3) dL_law_599 rfl rfl rfl ?_
  refine s_iconst (n := 601) (v := 1) dL_law_600 rfl (by decide) ?_
  refine s_iadd (n := 602) dL_law_601 rfl ?_
  refine s_sld (n := 603) dL_law_602 rfl (mj_ixs (i := i) (m := 1) (by omega)) ?_
  refine s_aload_n (n := 604) (i := 0) dL_law_603 rfl rfl rfl ?_
  refine s_iload_n (n := 605) (i := 3) dL_law_604 rfl rfl rfl ?_
  refine s_iconst (n := 606) (v := 2) dL_law_605 rfl (by decide) ?_
  refine s_iadd (n := 607) dL_law_606 rfl ?_
  refine s_sld (n := 608) dL_law_607 rfl (mj_ixs (i := i) (m := 2) (by omega)) ?_
  refine s_v2 (M' := MX5_house) (n := 611) (ci := 5) dL_law_608 rfl wd_L_73 okX5_house rfl rfl (show 12 + 1 ≤ d by omega) ⟨Nat.le_refl _, Nat.le_refl _⟩ hY1.1 ky ?_
  intro w2 h2 q2
  obtain ⟨rfl, τ1, hY2, hF2, hR⟩ := qy _ _ q2
  have hX2 := XS_mv hX1 (fun j hj => hF2.2 j (by omega))
  refine s_icmp_eq (n := 614) (tgt := 1404) dL_law_611 rfl rfl (fun b => ?_) (fun b => absurd rfl b)
  exact K h2 σ1 τ1 hX2 hY2 (hc σ1 τ1 hP hR)
set_option maxRecDepth 100000 in
set_option maxHeartbeats 4000000 in
theorem lw_stand {G : mj_G} {d i : Nat} {h : mj_H} {σ τ : Nat → Nat → Int32} (hd : 20 ≤ d) (hL : G.2.2.2.2.1 ≤ 448) (hi : i + 7 ≤ G.2.2.2.2.1) (hX : XS G h σ) (hY : YS G h τ) (hC : CR σ τ) (K : lwK G d i) : mj_wp G ML_law d 233 3976 616 (lwS G i) [] h 233 3976 lwQ := by
  refine s_aload_n (n := 617) (i := 1) dL_law_616 rfl rfl rfl ?_
  refine s_aload_n (n := 618) (i := 0) dL_law_617 rfl rfl rfl ?_
  refine s_iload_n (n := 619) (i := 3) dL_law_618 rfl rfl rfl ?_
  refine s_iconst (n := 620) (v := 1) dL_law_619 rfl (by decide) ?_
  refine s_iadd (n := 621) dL_law_620 rfl ?_
  refine s_sld (n := 622) dL_law_621 rfl (mj_ixs (i := i) (m := 1) (by omega)) ?_
  obtain ⟨v, P, R, hx, hy, hc⟩ := cp_stand (G := G) hC (G.2.2.2.2.2 (i + 1))
  obtain ⟨Qx, kx, qx⟩ := hx h hX
  refine s_v1 (M' := MX4_stand) (n := 625) (ci := 4) dL_law_622 rfl wd_L_74 okX4_stand rfl rfl (show 12 + 1 ≤ d by omega) ⟨Nat.le_refl _, Nat.le_refl _⟩ hX.1 kx ?_
  intro w1 h1 q1
  obtain ⟨rfl, σ1, hX1, hF1, hP⟩ := qx _ _ q1
  have hY1 := YS_mv hY (fun j hj => hF1.2 j (by omega))
  obtain ⟨Qy, ky, qy⟩ := hy h1 hY1
  refine s_aload_n (n := 626) (i := 2) dL_law_625 rfl rfl rfl ?_
  refine s_aload_n (n := 627) (i := 0) dL_law_626 rfl rfl rfl ?_
  refine s_iload_n (n := 628) (i := 3) dL_law_627 rfl rfl rfl ?_
  refine s_iconst (n := 629) (v := 1) dL_law_628 rfl (by decide) ?_
  refine s_iadd (n := 630) dL_law_629 rfl ?_
  refine s_sld (n := 631) dL_law_630 rfl (mj_ixs (i := i) (m := 1) (by omega)) ?_
  refine s_v1 (M' := MX5_stand) (n := 634) (ci := 5) dL_law_631 rfl wd_L_77 okX5_stand rfl rfl (show 12 + 1 ≤ d by omega) ⟨Nat.le_refl _, Nat.le_refl _⟩ hY1.1 ky ?_
  intro w2 h2 q2
  obtain ⟨rfl, τ1, hY2, hF2, hR⟩ := qy _ _ q2
  have hX2 := XS_mv hX1 (fun j hj => hF2.2 j (by omega))
  refine s_icmp_eq (n := 637) (tgt := 1404) dL_law_634 rfl rfl (fun b => ?_) (fun b => absurd rfl b)
  exact K h2 σ1 τ1 hX2 hY2 (hc σ1 τ1 hP hR)
set_option maxRecDepth 100000 in
set_option maxHeartbeats 4000000 in
theorem lw_ahead {G : mj_G} {d i : Nat} {h : mj_H} {σ τ : Nat → Nat → Int32} (hd : 20 ≤ d) (hL : G.2.2.2.2.1 ≤ 448) (hi : i + 7 ≤ G.2.2.2.2.1) (hX : XS G h σ) (hY : YS G h τ) (hC : CR σ τ) (K : lwK G d i) : mj_wp G ML_law d 233 3976 639 (lwS G i) [] h 233 3976 lwQ := by
  refine s_aload_n (n := 640) (i := 1) dL_law_639 rfl rfl rfl ?_
  refine s_aload_n (n := 641) (i := 0) dL_law_640 rfl rfl rfl ?_
  refine s_iload_n (n := 642) (i := 3) dL_law_641 rfl rfl rfl ?_
  refine s_iconst (n := 643) (v := 1) dL_law_642 rfl (by decide) ?_
  refine s_iadd (n := 644) dL_law_643 rfl ?_
  refine s_sld (n := 645) dL_law_644 rfl (mj_ixs (i := i) (m := 1) (by omega)) ?_
  refine s_aload_n (n := 646) (i := 0) dL_law_645 rfl rfl rfl ?_
  refine s_iload_n (n := 647) (i := 3) dL_law_646 rfl rfl rfl ?_
  refine s_iconst (n := 648) (v := 2) dL_law_647 rfl (by decide) ?_
  refine s_iadd (n := 649) dL_law_648 rfl ?_
  refine s_sld (n := 650) dL_law_649 rfl (mj_ixs (i := i) (m := 2) (by omega)) ?_
  obtain ⟨v, P, R, hx, hy, hc⟩ := cp_ahead (G := G) hC (G.2.2.2.2.2 (i + 1)) (G.2.2.2.2.2 (i + 2))
  obtain ⟨Qx, kx, qx⟩ := hx h hX
  refine s_v2 (M' := MX4_ahead) (n := 653) (ci := 4) dL_law_650 rfl wd_L_78 okX4_ahead rfl rfl (show 12 + 1 ≤ d by omega) ⟨Nat.le_refl _, Nat.le_refl _⟩ hX.1 kx ?_
  intro w1 h1 q1
  obtain ⟨rfl, σ1, hX1, hF1, hP⟩ := qx _ _ q1
  have hY1 := YS_mv hY (fun j hj => hF1.2 j (by omega))
  obtain ⟨Qy, ky, qy⟩ := hy h1 hY1
  refine s_aload_n (n := 654) (i := 2) dL_law_653 rfl rfl rfl ?_
  refine s_aload_n (n := 655) (i := 0) dL_law_654 rfl rfl rfl ?_
  refine s_iload_n (n := 656) (i := 3) dL_law_655 rfl rfl rfl ?_
  refine s_iconst (n := 657) (v := 1) dL_law_656 rfl (by decide) ?_
  refine s_iadd (n := 658) dL_law_657 rfl ?_
  refine s_sld (n := 659) dL_law_658 rfl (mj_ixs (i := i) (m := 1) (by omega)) ?_
  refine s_aload_n (n := 660) (i := 0) dL_law_659 rfl rfl rfl ?_
  refine s_iload_n (n := 661) (i := 3) dL_law_660 rfl rfl rfl ?_
  refine s_iconst (n := 662) (v := 2) dL_law_661 rfl (by decide) ?_
  refine s_iadd (n := 663) dL_law_662 rfl ?_
  refine s_sld (n := 664) dL_law_663 rfl (mj_ixs (i := i) (m := 2) (by omega)) ?_
  refine s_v2 (M' := MX5_ahead) (n := 667) (ci := 5) dL_law_664 rfl wd_L_81 okX5_ahead rfl rfl (show 12 + 1 ≤ d by omega) ⟨Nat.le_refl _, Nat.le_refl _⟩ hY1.1 ky ?_
  intro w2 h2 q2
  obtain ⟨rfl, τ1, hY2, hF2, hR⟩ := qy _ _ q2
  have hX2 := XS_mv hX1 (fun j hj => hF2.2 j (by omega))
  refine s_icmp_eq (n := 670) (tgt := 1404) dL_law_667 rfl rfl (fun b => ?_) (fun b => absurd rfl b)
  exact K h2 σ1 τ1 hX2 hY2 (hc σ1 τ1 hP hR)
set_option maxRecDepth 100000 in
set_option maxHeartbeats 4000000 in
theorem lw_pond {G : mj_G} {d i : Nat} {h : mj_H} {σ τ : Nat → Nat → Int32} (hd : 20 ≤ d) (hL : G.2.2.2.2.1 ≤ 448) (hi : i + 7 ≤ G.2.2.2.2.1) (hX : XS G h σ) (hY : YS G h τ) (hC : CR σ τ) (K : lwK G d i) : mj_wp G ML_law d 233 3976 672 (lwS G i) [] h 233 3976 lwQ := by
  refine s_aload_n (n := 673) (i := 1) dL_law_672 rfl rfl rfl ?_
  refine s_aload_n (n := 674) (i := 0) dL_law_673 rfl rfl rfl ?_
  refine s_iload_n (n := 675) (i := 3) dL_law_674 rfl rfl rfl ?_
  refine s_iconst (n := 676) (v := 1) dL_law_675 rfl (by decide) ?_
  refine s_iadd (n := 677) dL_law_676 rfl ?_
  refine s_sld (n := 678) dL_law_677 rfl (mj_ixs (i := i) (m := 1) (by omega)) ?_
  refine s_aload_n (n := 679) (i := 0) dL_law_678 rfl rfl rfl ?_
  refine s_iload_n (n := 680) (i := 3) dL_law_679 rfl rfl rfl ?_
  refine s_iconst (n := 681) (v := 2) dL_law_680 rfl (by decide) ?_
  refine s_iadd (n := 682) dL_law_681 rfl ?_
  refine s_sld (n := 683) dL_law_682 rfl (mj_ixs (i := i) (m := 2) (by omega)) ?_
  obtain ⟨v, P, R, hx, hy, hc⟩ := cp_pond (G := G) hC (G.2.2.2.2.2 (i + 1)) (G.2.2.2.2.2 (i + 2))
  obtain ⟨Qx, kx, qx⟩ := hx h hX
  refine s_v2 (M' := MX4_pond) (n := 686) (ci := 4) dL_law_683 rfl wd_L_82 okX4_pond rfl rfl (show 12 + 1 ≤ d by omega) ⟨Nat.le_refl _, Nat.le_refl _⟩ hX.1 kx ?_
  intro w1 h1 q1
  obtain ⟨rfl, σ1, hX1, hF1, hP⟩ := qx _ _ q1
  have hY1 := YS_mv hY (fun j hj => hF1.2 j (by omega))
  obtain ⟨Qy, ky, qy⟩ := hy h1 hY1
  refine s_aload_n (n := 687) (i := 2) dL_law_686 rfl rfl rfl ?_
  refine s_aload_n (n := 688) (i := 0) dL_law_687 rfl rfl rfl ?_
  refine s_iload_n (n := 689) (i := 3) dL_law_688 rfl rfl rfl ?_
  refine s_iconst (n := 690) (v := 1) dL_law_689 rfl (by decide) ?_
  refine s_iadd (n := 691) dL_law_690 rfl ?_
  refine s_sld (n := 692) dL_law_691 rfl (mj_ixs (i := i) (m := 1) (by omega)) ?_
  refine s_aload_n (n := 693) (i := 0) dL_law_692 rfl rfl rfl ?_
  refine s_iload_n (n := 694) (i := 3) dL_law_693 rfl rfl rfl ?_
  refine s_iconst (n := 695) (v := 2) dL_law_694 rfl (by decide) ?_
  refine s_iadd (n := 696) dL_law_695 rfl ?_
  refine s_sld (n := 697) dL_law_696 rfl (mj_ixs (i := i) (m := 2) (by omega)) ?_
  refine s_v2 (M' := MX5_pond) (n := 700) (ci := 5) dL_law_697 rfl wd_L_85 okX5_pond rfl rfl (show 12 + 1 ≤ d by omega) ⟨Nat.le_refl _, Nat.le_refl _⟩ hY1.1 ky ?_
  intro w2 h2 q2
  obtain ⟨rfl, τ1, hY2, hF2, hR⟩ := qy _ _ q2
  have hX2 := XS_mv hX1 (fun j hj => hF2.2 j (by omega))
  refine s_icmp_eq (n := 703) (tgt := 1404) dL_law_700 rfl rfl (fun b => ?_) (fun b => absurd rfl b)
  exact K h2 σ1 τ1 hX2 hY2 (hc σ1 τ1 hP hR)
set_option maxRecDepth 100000 in
set_option maxHeartbeats 4000000 in
theorem lw_over {G : mj_G} {d i : Nat} {h : mj_H} {σ τ : Nat → Nat → Int32} (hd : 20 ≤ d) (hL : G.2.2.2.2.1 ≤ 448) (hi : i + 7 ≤ G.2.2.2.2.1) (hX : XS G h σ) (hY : YS G h τ) (hC : CR σ τ) (K : lwK G d i) : mj_wp G ML_law d 233 3976 705 (lwS G i) [] h 233 3976 lwQ := by
  refine s_aload_n (n := 706) (i := 1) dL_law_705 rfl rfl rfl ?_
  obtain ⟨v, P, R, hx, hy, hc⟩ := cp_over (G := G) hC
  obtain ⟨Qx, kx, qx⟩ := hx h hX
  refine s_v0 (M' := MX4_over) (n := 709) (ci := 4) dL_law_706 rfl wd_L_86 okX4_over rfl rfl (show 12 + 1 ≤ d by omega) ⟨Nat.le_refl _, Nat.le_refl _⟩ hX.1 kx ?_
  intro w1 h1 q1
  obtain ⟨rfl, σ1, hX1, hF1, hP⟩ := qx _ _ q1
  have hY1 := YS_mv hY (fun j hj => hF1.2 j (by omega))
  obtain ⟨Qy, ky, qy⟩ := hy h1 hY1
  refine s_aload_n (n := 710) (i := 2) dL_law_709 rfl rfl rfl ?_
  refine s_v0 (M' := MX5_over) (n := 713) (ci := 5) dL_law_710 rfl wd_L_89 okX5_over rfl rfl (show 12 + 1 ≤ d by omega) ⟨Nat.le_refl _, Nat.le_refl _⟩ hY1.1 ky ?_
  intro w2 h2 q2
  obtain ⟨rfl, τ1, hY2, hF2, hR⟩ := qy _ _ q2
  have hX2 := XS_mv hX1 (fun j hj => hF2.2 j (by omega))
  refine s_icmp_eq (n := 716) (tgt := 1404) dL_law_713 rfl rfl (fun b => ?_) (fun b => absurd rfl b)
  exact K h2 σ1 τ1 hX2 hY2 (hc σ1 τ1 hP hR)
set_option maxRecDepth 100000 in
set_option maxHeartbeats 4000000 in
theorem lw_full {G : mj_G} {d i : Nat} {h : mj_H} {σ τ : Nat → Nat → Int32} (hd : 20 ≤ d) (hL : G.2.2.2.2.1 ≤ 448) (hi : i + 7 ≤ G.2.2.2.2.1) (hX : XS G h σ) (hY : YS G h τ) (hC : CR σ τ) (K : lwK G d i) : mj_wp G ML_law d 233 3976 718 (lwS G i) [] h 233 3976 lwQ := by
  refine s_aload_n (n := 719) (i := 1) dL_law_718 rfl rfl rfl ?_
  refine s_aload_n (n := 720) (i := 0) dL_law_719 rfl rfl rfl ?_
  refine s_iload_n (n := 721) (i := 3) dL_law_720 rfl rfl rfl ?_
  refine s_iconst (n := 722) (v := 1) dL_law_721 rfl (by decide) ?_
  refine s_iadd (n := 723) dL_law_722 rfl ?_
  refine s_sld (n := 724) dL_law_723 rfl (mj_ixs (i := i) (m := 1) (by omega)) ?_
  obtain ⟨v, P, R, hx, hy, hc⟩ := cp_full (G := G) hC (G.2.2.2.2.2 (i + 1))
  obtain ⟨Qx, kx, qx⟩ := hx h hX
  refine s_v1 (M' := MX4_full) (n := 727) (ci := 4) dL_law_724 rfl wd_L_90 okX4_full rfl rfl (show 12 + 1 ≤ d by omega) ⟨Nat.le_refl _, Nat.le_refl _⟩ hX.1 kx ?_
  intro w1 h1 q1
  obtain ⟨rfl, σ1, hX1, hF1, hP⟩ := qx _ _ q1
  have hY1 := YS_mv hY (fun j hj => hF1.2 j (by omega))
  obtain ⟨Qy, ky, qy⟩ := hy h1 hY1
  refine s_aload_n (n := 728) (i := 2) dL_law_727 rfl rfl rfl ?_
  refine s_aload_n (n := 729) (i := 0) dL_law_728 rfl rfl rfl ?_
  refine s_iload_n (n := 730) (i := 3) dL_law_729 rfl rfl rfl ?_
  refine s_iconst (n := 731) (v := 1) dL_law_730 rfl (by decide) ?_
  refine s_iadd (n := 732) dL_law_731 rfl ?_
  refine s_sld (n := 733) dL_law_732 rfl (mj_ixs (i := i) (m := 1) (by omega)) ?_
  refine s_v1 (M' := MX5_full) (n := 736) (ci := 5) dL_law_733 rfl wd_L_93 okX5_full rfl rfl (show 12 + 1 ≤ d by omega) ⟨Nat.le_refl _, Nat.le_refl _⟩ hY1.1 ky ?_
  intro w2 h2 q2
  obtain ⟨rfl, τ1, hY2, hF2, hR⟩ := qy _ _ q2
  have hX2 := XS_mv hX1 (fun j hj => hF2.2 j (by omega))
  refine s_icmp_eq (n := 739) (tgt := 1404) dL_law_736 rfl rfl (fun b => ?_) (fun b => absurd rfl b)
  exact K h2 σ1 τ1 hX2 hY2 (hc σ1 τ1 hP hR)
set_option maxRecDepth 100000 in
set_option maxHeartbeats 4000000 in
theorem lw_most {G : mj_G} {d i : Nat} {h : mj_H} {σ τ : Nat → Nat → Int32} (hd : 20 ≤ d) (hL : G.2.2.2.2.1 ≤ 448) (hi : i + 7 ≤ G.2.2.2.2.1) (hX : XS G h σ) (hY : YS G h τ) (hC : CR σ τ) (K : lwK G d i) : mj_wp G ML_law d 233 3976 741 (lwS G i) [] h 233 3976 lwQ := by
  refine s_aload_n (n := 742) (i := 1) dL_law_741 rfl rfl rfl ?_
  refine s_aload_n (n := 743) (i := 0) dL_law_742 rfl rfl rfl ?_
  refine s_iload_n (n := 744) (i := 3) dL_law_743 rfl rfl rfl ?_
  refine s_iconst (n := 745) (v := 1) dL_law_744 rfl (by decide) ?_
  refine s_iadd (n := 746) dL_law_745 rfl ?_
  refine s_sld (n := 747) dL_law_746 rfl (mj_ixs (i := i) (m := 1) (by omega)) ?_
  refine s_aload_n (n := 748) (i := 0) dL_law_747 rfl rfl rfl ?_
  refine s_iload_n (n := 749) (i := 3) dL_law_748 rfl rfl rfl ?_
  refine s_iconst (n := 750) (v := 2) dL_law_749 rfl (by decide) ?_
  refine s_iadd (n := 751) dL_law_750 rfl ?_
  refine s_sld (n := 752) dL_law_751 rfl (mj_ixs (i := i) (m := 2) (by omega)) ?_
  refine s_aload_n (n := 753) (i := 0) dL_law_752 rfl rfl rfl ?_
  refine s_iload_n (n := 754) (i := 3) dL_law_753 rfl rfl rfl ?_
  refine s_iconst (n := 755) (v := 3) dL_law_754 rfl (by decide) ?_
  refine s_iadd (n := 756) dL_law_755 rfl ?_
  refine s_sld (n := 757) dL_law_756 rfl (mj_ixs (i := i) (m := 3) (by omega)) ?_
  obtain ⟨v, P, R, hx, hy, hc⟩ := cp_most (G := G) hC (G.2.2.2.2.2 (i + 1)) (G.2.2.2.2.2 (i + 2)) (G.2.2.2.2.2 (i + 3))
  obtain ⟨Qx, kx, qx⟩ := hx h hX
  refine s_v3 (M' := MX4_most) (n := 760) (ci := 4) dL_law_757 rfl wd_L_94 okX4_most rfl rfl (show 12 + 1 ≤ d by omega) ⟨Nat.le_refl _, Nat.le_refl _⟩ hX.1 kx ?_
  intro w1 h1 q1
  obtain ⟨rfl, σ1, hX1, hF1, hP⟩ := qx _ _ q1
  have hY1 := YS_mv hY (fun j hj => hF1.2 j (by omega))
  obtain ⟨Qy, ky, qy⟩ := hy h1 hY1
  refine s_aload_n (n := 761) (i := 2) dL_law_760 rfl rfl rfl ?_
  refine s_aload_n (n := 762) (i := 0) dL_law_761 rfl rfl rfl ?_
  refine s_iload_n (n := 763) (i := 3) dL_law_762 rfl rfl rfl ?_
  refine s_iconst (n := 764) (v := 1) dL_law_763 rfl (by decide) ?_
  refine s_iadd (n := 765) dL_law_764 rfl ?_
  refine s_sld (n := 766) dL_law_765 rfl (mj_ixs (i := i) (m := 1) (by omega)) ?_
  refine s_aload_n (n := 767) (i := 0) dL_law_766 rfl rfl rfl ?_
  refine s_iload_n (n := 768) (i := 3) dL_law_767 rfl rfl rfl ?_
  refine s_iconst (n := 769) (v := 2) dL_law_768 rfl (by decide) ?_
  refine s_iadd (n := 770) dL_law_769 rfl ?_
  refine s_sld (n := 771) dL_law_770 rfl (mj_ixs (i := i) (m := 2) (by omega)) ?_
  refine s_aload_n (n := 772) (i := 0) dL_law_771 rfl rfl rfl ?_
  refine s_iload_n (n := 773) (i := 3) dL_law_772 rfl rfl rfl ?_
  refine s_iconst (n := 774) (v := 3) dL_law_773 rfl (by decide) ?_
  refine s_iadd (n := 775) dL_law_774 rfl ?_
  refine s_sld (n := 776) dL_law_775 rfl (mj_ixs (i := i) (m := 3) (by omega)) ?_
  refine s_v3 (M' := MX5_most) (n := 779) (ci := 5) dL_law_776 rfl wd_L_97 okX5_most rfl rfl (show 12 + 1 ≤ d by omega) ⟨Nat.le_refl _, Nat.le_refl _⟩ hY1.1 ky ?_
  intro w2 h2 q2
  obtain ⟨rfl, τ1, hY2, hF2, hR⟩ := qy _ _ q2
  have hX2 := XS_mv hX1 (fun j hj => hF2.2 j (by omega))
  refine s_icmp_eq (n := 782) (tgt := 1404) dL_law_779 rfl rfl (fun b => ?_) (fun b => absurd rfl b)
  exact K h2 σ1 τ1 hX2 hY2 (hc σ1 τ1 hP hR)
set_option maxRecDepth 100000 in
set_option maxHeartbeats 4000000 in
theorem lw_hushes {G : mj_G} {d i : Nat} {h : mj_H} {σ τ : Nat → Nat → Int32} (hd : 20 ≤ d) (hL : G.2.2.2.2.1 ≤ 448) (hi : i + 7 ≤ G.2.2.2.2.1) (hX : XS G h σ) (hY : YS G h τ) (hC : CR σ τ) (K : lwK G d i) : mj_wp G ML_law d 233 3976 784 (lwS G i) [] h 233 3976 lwQ := by
  refine s_aload_n (n := 785) (i := 1) dL_law_784 rfl rfl rfl ?_
  refine s_aload_n (n := 786) (i := 0) dL_law_785 rfl rfl rfl ?_
  refine s_iload_n (n := 787) (i := 3) dL_law_786 rfl rfl rfl ?_
  refine s_iconst (n := 788) (v := 1) dL_law_787 rfl (by decide) ?_
  refine s_iadd (n := 789) dL_law_788 rfl ?_
  refine s_sld (n := 790) dL_law_789 rfl (mj_ixs (i := i) (m := 1) (by omega)) ?_
  refine s_aload_n (n := 791) (i := 0) dL_law_790 rfl rfl rfl ?_
  refine s_iload_n (n := 792) (i := 3) dL_law_791 rfl rfl rfl ?_
  refine s_iconst (n := 793) (v := 2) dL_law_792 rfl (by decide) ?_
  refine s_iadd (n := 794) dL_law_793 rfl ?_
  refine s_sld (n := 795) dL_law_794 rfl (mj_ixs (i := i) (m := 2) (by omega)) ?_
  refine s_aload_n (n := 796) (i := 0) dL_law_795 rfl rfl rfl ?_
  refine s_iload_n (n := 797) (i := 3) dL_law_796 rfl rfl rfl ?_
  refine s_iconst (n := 798) (v := 3) dL_law_797 rfl (by decide) ?_
  refine s_iadd (n := 799) dL_law_798 rfl ?_
  refine s_sld (n := 800) dL_law_799 rfl (mj_ixs (i := i) (m := 3) (by omega)) ?_
  obtain ⟨v, P, R, hx, hy, hc⟩ := cp_hushes (G := G) hC (G.2.2.2.2.2 (i + 1)) (G.2.2.2.2.2 (i + 2)) (G.2.2.2.2.2 (i + 3))
  obtain ⟨Qx, kx, qx⟩ := hx h hX
  refine s_v3 (M' := MX4_hushes) (n := 803) (ci := 4) dL_law_800 rfl wd_L_98 okX4_hushes rfl rfl (show 12 + 1 ≤ d by omega) ⟨Nat.le_refl _, Nat.le_refl _⟩ hX.1 kx ?_
  intro w1 h1 q1
  obtain ⟨rfl, σ1, hX1, hF1, hP⟩ := qx _ _ q1
  have hY1 := YS_mv hY (fun j hj => hF1.2 j (by omega))
  obtain ⟨Qy, ky, qy⟩ := hy h1 hY1
  refine s_aload_n (n := 804) (i := 2) dL_law_803 rfl rfl rfl ?_
  refine s_aload_n (n := 805) (i := 0) dL_law_804 rfl rfl rfl ?_
  refine s_iload_n (n := 806) (i := 3) dL_law_805 rfl rfl rfl ?_
  refine s_iconst (n := 807) (v := 1) dL_law_806 rfl (by decide) ?_
  refine s_iadd (n := 808) dL_law_807 rfl ?_
  refine s_sld (n := 809) dL_law_808 rfl (mj_ixs (i := i) (m := 1) (by omega)) ?_
  refine s_aload_n (n := 810) (i := 0) dL_law_809 rfl rfl rfl ?_
  refine s_iload_n (n := 811) (i := 3) dL_law_810 rfl rfl rfl ?_
  refine s_iconst (n := 812) (v := 2) dL_law_811 rfl (by decide) ?_
  refine s_iadd (n := 813) dL_law_812 rfl ?_
  refine s_sld (n := 814) dL_law_813 rfl (mj_ixs (i := i) (m := 2) (by omega)) ?_
  refine s_aload_n (n := 815) (i := 0) dL_law_814 rfl rfl rfl ?_
  refine s_iload_n (n := 816) (i := 3) dL_law_815 rfl rfl rfl ?_
  refine s_iconst (n := 817) (v := 3) dL_law_816 rfl (by decide) ?_
  refine s_iadd (n := 818) dL_law_817 rfl ?_
  refine s_sld (n := 819) dL_law_818 rfl (mj_ixs (i := i) (m := 3) (by omega)) ?_
  refine s_v3 (M' := MX5_hushes) (n := 822) (ci := 5) dL_law_819 rfl wd_L_101 okX5_hushes rfl rfl (show 12 + 1 ≤ d by omega) ⟨Nat.le_refl _, Nat.le_refl _⟩ hY1.1 ky ?_
  intro w2 h2 q2
  obtain ⟨rfl, τ1, hY2, hF2, hR⟩ := qy _ _ q2
  have hX2 := XS_mv hX1 (fun j hj => hF2.2 j (by omega))
  refine s_icmp_eq (n := 825) (tgt := 1404) dL_law_822 rfl rfl (fun b => ?_) (fun b => absurd rfl b)
  exact K h2 σ1 τ1 hX2 hY2 (hc σ1 τ1 hP hR)
set_option maxRecDepth 100000 in
set_option maxHeartbeats 4000000 in
theorem lw_spares {G : mj_G} {d i : Nat} {h : mj_H} {σ τ : Nat → Nat → Int32} (hd : 20 ≤ d) (hL : G.2.2.2.2.1 ≤ 448) (hi : i + 7 ≤ G.2.2.2.2.1) (hX : XS G h σ) (hY : YS G h τ) (hC : CR σ τ) (K : lwK G d i) : mj_wp G ML_law d 233 3976 827 (lwS G i) [] h 233 3976 lwQ := by
  refine s_aload_n (n := 828) (i := 1) dL_law_827 rfl rfl rfl ?_
  refine s_aload_n (n := 829) (i := 0) dL_law_828 rfl rfl rfl ?_
  refine s_iload_n (n := 830) (i := 3) dL_law_829 rfl rfl rfl ?_
  refine s_iconst (n := 831) (v := 1) dL_law_830 rfl (by decide) ?_
  refine s_iadd (n := 832) dL_law_831 rfl ?_
  refine s_sld (n := 833) dL_law_832 rfl (mj_ixs (i := i) (m := 1) (by omega)) ?_
  refine s_aload_n (n := 834) (i := 0) dL_law_833 rfl rfl rfl ?_
  refine s_iload_n (n := 835) (i := 3) dL_law_834 rfl rfl rfl ?_
  refine s_iconst (n := 836) (v := 2) dL_law_835 rfl (by decide) ?_
  refine s_iadd (n := 837) dL_law_836 rfl ?_
  refine s_sld (n := 838) dL_law_837 rfl (mj_ixs (i := i) (m := 2) (by omega)) ?_
  obtain ⟨v, P, R, hx, hy, hc⟩ := cp_spares (G := G) hC (G.2.2.2.2.2 (i + 1)) (G.2.2.2.2.2 (i + 2))
  obtain ⟨Qx, kx, qx⟩ := hx h hX
  refine s_v2 (M' := MX4_spares) (n := 841) (ci := 4) dL_law_838 rfl wd_L_102 okX4_spares rfl rfl (show 12 + 1 ≤ d by omega) ⟨Nat.le_refl _, Nat.le_refl _⟩ hX.1 kx ?_
  intro w1 h1 q1
  obtain ⟨rfl, σ1, hX1, hF1, hP⟩ := qx _ _ q1
  have hY1 := YS_mv hY (fun j hj => hF1.2 j (by omega))
  obtain ⟨Qy, ky, qy⟩ := hy h1 hY1
  refine s_aload_n (n := 842) (i := 2) dL_law_841 rfl rfl rfl ?_
  refine s_aload_n (n := 843) (i := 0) dL_law_842 rfl rfl rfl ?_
  refine s_iload_n (n := 844) (i := 3) dL_law_843 rfl rfl rfl ?_
  refine s_iconst (n := 845) (v := 1) dL_law_844 rfl (by decide) ?_
  refine s_iadd (n := 846) dL_law_845 rfl ?_
  refine s_sld (n := 847) dL_law_846 rfl (mj_ixs (i := i) (m := 1) (by omega)) ?_
  refine s_aload_n (n := 848) (i := 0) dL_law_847 rfl rfl rfl ?_
  refine s_iload_n (n := 849) (i := 3) dL_law_848 rfl rfl rfl ?_
  refine s_iconst (n := 850) (v := 2) dL_law_849 rfl (by decide) ?_
  refine s_iadd (n := 851) dL_law_850 rfl ?_
  refine s_sld (n := 852) dL_law_851 rfl (mj_ixs (i := i) (m := 2) (by omega)) ?_
  refine s_v2 (M' := MX5_spares) (n := 855) (ci := 5) dL_law_852 rfl wd_L_105 okX5_spares rfl rfl (show 12 + 1 ≤ d by omega) ⟨Nat.le_refl _, Nat.le_refl _⟩ hY1.1 ky ?_
  intro w2 h2 q2
  obtain ⟨rfl, τ1, hY2, hF2, hR⟩ := qy _ _ q2
  have hX2 := XS_mv hX1 (fun j hj => hF2.2 j (by omega))
  refine s_icmp_eq (n := 858) (tgt := 1404) dL_law_855 rfl rfl (fun b => ?_) (fun b => absurd rfl b)
  exact K h2 σ1 τ1 hX2 hY2 (hc σ1 τ1 hP hR)
set_option maxRecDepth 100000 in
set_option maxHeartbeats 4000000 in
theorem lw_catches {G : mj_G} {d i : Nat} {h : mj_H} {σ τ : Nat → Nat → Int32} (hd : 20 ≤ d) (hL : G.2.2.2.2.1 ≤ 448) (hi : i + 7 ≤ G.2.2.2.2.1) (hX : XS G h σ) (hY : YS G h τ) (hC : CR σ τ) (K : lwK G d i) : mj_wp G ML_law d 233 3976 860 (lwS G i) [] h 233 3976 lwQ := by
  refine s_aload_n (n := 861) (i := 1) dL_law_860 rfl rfl rfl ?_
  refine s_aload_n (n := 862) (i := 0) dL_law_861 rfl rfl rfl ?_
  refine s_iload_n (n := 863) (i := 3) dL_law_862 rfl rfl rfl ?_
  refine s_iconst (n := 864) (v := 1) dL_law_863 rfl (by decide) ?_
  refine s_iadd (n := 865) dL_law_864 rfl ?_
  refine s_sld (n := 866) dL_law_865 rfl (mj_ixs (i := i) (m := 1) (by omega)) ?_
  refine s_aload_n (n := 867) (i := 0) dL_law_866 rfl rfl rfl ?_
  refine s_iload_n (n := 868) (i := 3) dL_law_867 rfl rfl rfl ?_
  refine s_iconst (n := 869) (v := 2) dL_law_868 rfl (by decide) ?_
  refine s_iadd (n := 870) dL_law_869 rfl ?_
  refine s_sld (n := 871) dL_law_870 rfl (mj_ixs (i := i) (m := 2) (by omega)) ?_
  obtain ⟨v, P, R, hx, hy, hc⟩ := cp_catches (G := G) hC (G.2.2.2.2.2 (i + 1)) (G.2.2.2.2.2 (i + 2))
  obtain ⟨Qx, kx, qx⟩ := hx h hX
  refine s_v2 (M' := MX4_catches) (n := 874) (ci := 4) dL_law_871 rfl wd_L_106 okX4_catches rfl rfl (show 12 + 1 ≤ d by omega) ⟨Nat.le_refl _, Nat.le_refl _⟩ hX.1 kx ?_
  intro w1 h1 q1
  obtain ⟨rfl, σ1, hX1, hF1, hP⟩ := qx _ _ q1
  have hY1 := YS_mv hY (fun j hj => hF1.2 j (by omega))
  obtain ⟨Qy, ky, qy⟩ := hy h1 hY1
  refine s_aload_n (n := 875) (i := 2) dL_law_874 rfl rfl rfl ?_
  refine s_aload_n (n := 876) (i := 0) dL_law_875 rfl rfl rfl ?_
  refine s_iload_n (n := 877) (i := 3) dL_law_876 rfl rfl rfl ?_
  refine s_iconst (n := 878) (v := 1) dL_law_877 rfl (by decide) ?_
  refine s_iadd (n := 879) dL_law_878 rfl ?_
  refine s_sld (n := 880) dL_law_879 rfl (mj_ixs (i := i) (m := 1) (by omega)) ?_
  refine s_aload_n (n := 881) (i := 0) dL_law_880 rfl rfl rfl ?_
  refine s_iload_n (n := 882) (i := 3) dL_law_881 rfl rfl rfl ?_
  refine s_iconst (n := 883) (v := 2) dL_law_882 rfl (by decide) ?_
  refine s_iadd (n := 884) dL_law_883 rfl ?_
  refine s_sld (n := 885) dL_law_884 rfl (mj_ixs (i := i) (m := 2) (by omega)) ?_
  refine s_v2 (M' := MX5_catches) (n := 888) (ci := 5) dL_law_885 rfl wd_L_109 okX5_catches rfl rfl (show 12 + 1 ≤ d by omega) ⟨Nat.le_refl _, Nat.le_refl _⟩ hY1.1 ky ?_
  intro w2 h2 q2
  obtain ⟨rfl, τ1, hY2, hF2, hR⟩ := qy _ _ q2
  have hX2 := XS_mv hX1 (fun j hj => hF2.2 j (by omega))
  refine s_icmp_eq (n := 891) (tgt := 1404) dL_law_888 rfl rfl (fun b => ?_) (fun b => absurd rfl b)
  exact K h2 σ1 τ1 hX2 hY2 (hc σ1 τ1 hP hR)
set_option maxRecDepth 100000 in
set_option maxHeartbeats 4000000 in
theorem lw_from {G : mj_G} {d i : Nat} {h : mj_H} {σ τ : Nat → Nat → Int32} (hd : 20 ≤ d) (hL : G.2.2.2.2.1 ≤ 448) (hi : i + 7 ≤ G.2.2.2.2.1) (hX : XS G h σ) (hY : YS G h τ) (hC : CR σ τ) (K : lwK G d i) : mj_wp G ML_law d 233 3976 893 (lwS G i) [] h 233 3976 lwQ := by
  refine s_aload_n (n := 894) (i := 1) dL_law_893 rfl rfl rfl ?_
  refine s_aload_n (n := 895) (i := 0) dL_law_894 rfl rfl rfl ?_
  refine s_iload_n (n := 896) (i := 3) dL_law_895 rfl rfl rfl ?_
  refine s_iconst (n := 897) (v := 1) dL_law_896 rfl (by decide) ?_
  refine s_iadd (n := 898) dL_law_897 rfl ?_
  refine s_sld (n := 899) dL_law_898 rfl (mj_ixs (i := i) (m := 1) (by omega)) ?_
  refine s_aload_n (n := 900) (i := 0) dL_law_899 rfl rfl rfl ?_
  refine s_iload_n (n := 901) (i := 3) dL_law_900 rfl rfl rfl ?_
  refine s_iconst (n := 902) (v := 2) dL_law_901 rfl (by decide) ?_
  refine s_iadd (n := 903) dL_law_902 rfl ?_
  refine s_sld (n := 904) dL_law_903 rfl (mj_ixs (i := i) (m := 2) (by omega)) ?_
  obtain ⟨v, P, R, hx, hy, hc⟩ := cp_from (G := G) hC (G.2.2.2.2.2 (i + 1)) (G.2.2.2.2.2 (i + 2))
  obtain ⟨Qx, kx, qx⟩ := hx h hX
  refine s_v2 (M' := MX4_from) (n := 907) (ci := 4) dL_law_904 rfl wd_L_110 okX4_from rfl rfl (show 12 + 1 ≤ d by omega) ⟨Nat.le_refl _, Nat.le_refl _⟩ hX.1 kx ?_
  intro w1 h1 q1
  obtain ⟨rfl, σ1, hX1, hF1, hP⟩ := qx _ _ q1
  have hY1 := YS_mv hY (fun j hj => hF1.2 j (by omega))
  obtain ⟨Qy, ky, qy⟩ := hy h1 hY1
  refine s_aload_n (n := 908) (i := 2) dL_law_907 rfl rfl rfl ?_
  refine s_aload_n (n := 909) (i := 0) dL_law_908 rfl rfl rfl ?_
  refine s_iload_n (n := 910) (i := 3) dL_law_909 rfl rfl rfl ?_
  refine s_iconst (n := 911) (v := 1) dL_law_910 rfl (by decide) ?_
  refine s_iadd (n := 912) dL_law_911 rfl ?_
  refine s_sld (n := 913) dL_law_912 rfl (mj_ixs (i := i) (m := 1) (by omega)) ?_
  refine s_aload_n (n := 914) (i := 0) dL_law_913 rfl rfl rfl ?_
  refine s_iload_n (n := 915) (i := 3) dL_law_914 rfl rfl rfl ?_
  refine s_iconst (n := 916) (v := 2) dL_law_915 rfl (by decide) ?_
  refine s_iadd (n := 917) dL_law_916 rfl ?_
  refine s_sld (n := 918) dL_law_917 rfl (mj_ixs (i := i) (m := 2) (by omega)) ?_
  refine s_v2 (M' := MX5_from) (n := 921) (ci := 5) dL_law_918 rfl wd_L_113 okX5_from rfl rfl (show 12 + 1 ≤ d by omega) ⟨Nat.le_refl _, Nat.le_refl _⟩ hY1.1 ky ?_
  intro w2 h2 q2
  obtain ⟨rfl, τ1, hY2, hF2, hR⟩ := qy _ _ q2
  have hX2 := XS_mv hX1 (fun j hj => hF2.2 j (by omega))
  refine s_icmp_eq (n := 924) (tgt := 1404) dL_law_921 rfl rfl (fun b => ?_) (fun b => absurd rfl b)
  exact K h2 σ1 τ1 hX2 hY2 (hc σ1 τ1 hP hR)
set_option maxRecDepth 100000 in
set_option maxHeartbeats 4000000 in
theorem lw_loud {G : mj_G} {d i : Nat} {h : mj_H} {σ τ : Nat → Nat → Int32} (hd : 20 ≤ d) (hL : G.2.2.2.2.1 ≤ 448) (hi : i + 7 ≤ G.2.2.2.2.1) (hX : XS G h σ) (hY : YS G h τ) (hC : CR σ τ) (K : lwK G d i) : mj_wp G ML_law d 233 3976 926 (lwS G i) [] h 233 3976 lwQ := by
  refine s_aload_n (n := 927) (i := 1) dL_law_926 rfl rfl rfl ?_
  refine s_aload_n (n := 928) (i := 0) dL_law_927 rfl rfl rfl ?_
  refine s_iload_n (n := 929) (i := 3) dL_law_928 rfl rfl rfl ?_
  refine s_iconst (n := 930) (v := 1) dL_law_929 rfl (by decide) ?_
  refine s_iadd (n := 931) dL_law_930 rfl ?_
  refine s_sld (n := 932) dL_law_931 rfl (mj_ixs (i := i) (m := 1) (by omega)) ?_
  refine s_aload_n (n := 933) (i := 0) dL_law_932 rfl rfl rfl ?_
  refine s_iload_n (n := 934) (i := 3) dL_law_933 rfl rfl rfl ?_
  refine s_iconst (n := 935) (v := 2) dL_law_934 rfl (by decide) ?_
  refine s_iadd (n := 936) dL_law_935 rfl ?_
  refine s_sld (n := 937) dL_law_936 rfl (mj_ixs (i := i) (m := 2) (by omega)) ?_
  obtain ⟨v, P, R, hx, hy, hc⟩ := cp_loud (G := G) hC (G.2.2.2.2.2 (i + 1)) (G.2.2.2.2.2 (i + 2))
  obtain ⟨Qx, kx, qx⟩ := hx h hX
  refine s_v2 (M' := MX4_loud) (n := 940) (ci := 4) dL_law_937 rfl wd_L_114 okX4_loud rfl rfl (show 12 + 1 ≤ d by omega) ⟨Nat.le_refl _, Nat.le_refl _⟩ hX.1 kx ?_
  intro w1 h1 q1
  obtain ⟨rfl, σ1, hX1, hF1, hP⟩ := qx _ _ q1
  have hY1 := YS_mv hY (fun j hj => hF1.2 j (by omega))
  obtain ⟨Qy, ky, qy⟩ := hy h1 hY1
  refine s_aload_n (n := 941) (i := 2) dL_law_940 rfl rfl rfl ?_
  refine s_aload_n (n := 942) (i := 0) dL_law_941 rfl rfl rfl ?_
  refine s_iload_n (n := 943) (i := 3) dL_law_942 rfl rfl rfl ?_
  refine s_iconst (n := 944) (v := 1) dL_law_943 rfl (by decide) ?_
  refine s_iadd (n := 945) dL_law_944 rfl ?_
  refine s_sld (n := 946) dL_law_945 rfl (mj_ixs (i := i) (m := 1) (by omega)) ?_
  refine s_aload_n (n := 947) (i := 0) dL_law_946 rfl rfl rfl ?_
  refine s_iload_n (n := 948) (i := 3) dL_law_947 rfl rfl rfl ?_
  refine s_iconst (n := 949) (v := 2) dL_law_948 rfl (by decide) ?_
  refine s_iadd (n := 950) dL_law_949 rfl ?_
  refine s_sld (n := 951) dL_law_950 rfl (mj_ixs (i := i) (m := 2) (by omega)) ?_
  refine s_v2 (M' := MX5_loud) (n := 954) (ci := 5) dL_law_951 rfl wd_L_117 okX5_loud rfl rfl (show 12 + 1 ≤ d by omega) ⟨Nat.le_refl _, Nat.le_refl _⟩ hY1.1 ky ?_
  intro w2 h2 q2
  obtain ⟨rfl, τ1, hY2, hF2, hR⟩ := qy _ _ q2
  have hX2 := XS_mv hX1 (fun j hj => hF2.2 j (by omega))
  refine s_icmp_eq (n := 957) (tgt := 1404) dL_law_954 rfl rfl (fun b => ?_) (fun b => absurd rfl b)
  exact K h2 σ1 τ1 hX2 hY2 (hc σ1 τ1 hP hR)
set_option maxRecDepth 100000 in
set_option maxHeartbeats 4000000 in
theorem lw_dry {G : mj_G} {d i : Nat} {h : mj_H} {σ τ : Nat → Nat → Int32} (hd : 20 ≤ d) (hL : G.2.2.2.2.1 ≤ 448) (hi : i + 7 ≤ G.2.2.2.2.1) (hX : XS G h σ) (hY : YS G h τ) (hC : CR σ τ) (K : lwK G d i) : mj_wp G ML_law d 233 3976 959 (lwS G i) [] h 233 3976 lwQ := by
  refine s_aload_n (n := 960) (i := 1) dL_law_959 rfl rfl rfl ?_
  obtain ⟨v, P, R, hx, hy, hc⟩ := cp_dry (G := G) hC
  obtain ⟨Qx, kx, qx⟩ := hx h hX
  refine s_v0 (M' := MX4_dry) (n := 963) (ci := 4) dL_law_960 rfl wd_L_118 okX4_dry rfl rfl (show 12 + 1 ≤ d by omega) ⟨Nat.le_refl _, Nat.le_refl _⟩ hX.1 kx ?_
  intro w1 h1 q1
  obtain ⟨rfl, σ1, hX1, hF1, hP⟩ := qx _ _ q1
  have hY1 := YS_mv hY (fun j hj => hF1.2 j (by omega))
  obtain ⟨Qy, ky, qy⟩ := hy h1 hY1
  refine s_aload_n (n := 964) (i := 2) dL_law_963 rfl rfl rfl ?_
  refine s_v0 (M' := MX5_dry) (n := 967) (ci := 5) dL_law_964 rfl wd_L_121 okX5_dry rfl rfl (show 12 + 1 ≤ d by omega) ⟨Nat.le_refl _, Nat.le_refl _⟩ hY1.1 ky ?_
  intro w2 h2 q2
  obtain ⟨rfl, τ1, hY2, hF2, hR⟩ := qy _ _ q2
  have hX2 := XS_mv hX1 (fun j hj => hF2.2 j (by omega))
  refine s_icmp_eq (n := 970) (tgt := 1404) dL_law_967 rfl rfl (fun b => ?_) (fun b => absurd rfl b)
  exact K h2 σ1 τ1 hX2 hY2 (hc σ1 τ1 hP hR)
set_option maxRecDepth 100000 in
set_option maxHeartbeats 4000000 in
theorem lw_lag {G : mj_G} {d i : Nat} {h : mj_H} {σ τ : Nat → Nat → Int32} (hd : 20 ≤ d) (hL : G.2.2.2.2.1 ≤ 448) (hi : i + 7 ≤ G.2.2.2.2.1) (hX : XS G h σ) (hY : YS G h τ) (hC : CR σ τ) (K : lwK G d i) : mj_wp G ML_law d 233 3976 972 (lwS G i) [] h 233 3976 lwQ := by
  refine s_aload_n (n := 973) (i := 1) dL_law_972 rfl rfl rfl ?_
  refine s_aload_n (n := 974) (i := 0) dL_law_973 rfl rfl rfl ?_
  refine s_iload_n (n := 975) (i := 3) dL_law_974 rfl rfl rfl ?_
  refine s_iconst (n := 976) (v := 1) dL_law_975 rfl (by decide) ?_
  refine s_iadd (n := 977) dL_law_976 rfl ?_
  refine s_sld (n := 978) dL_law_977 rfl (mj_ixs (i := i) (m := 1) (by omega)) ?_
  obtain ⟨v, P, R, hx, hy, hc⟩ := cp_lag (G := G) hC (G.2.2.2.2.2 (i + 1))
  obtain ⟨Qx, kx, qx⟩ := hx h hX
  refine s_v1 (M' := MX4_lag) (n := 981) (ci := 4) dL_law_978 rfl wd_L_122 okX4_lag rfl rfl (show 12 + 1 ≤ d by omega) ⟨Nat.le_refl _, Nat.le_refl _⟩ hX.1 kx ?_
  intro w1 h1 q1
  obtain ⟨rfl, σ1, hX1, hF1, hP⟩ := qx _ _ q1
  have hY1 := YS_mv hY (fun j hj => hF1.2 j (by omega))
  obtain ⟨Qy, ky, qy⟩ := hy h1 hY1
  refine s_aload_n (n := 982) (i := 2) dL_law_981 rfl rfl rfl ?_
  refine s_aload_n (n := 983) (i := 0) dL_law_982 rfl rfl rfl ?_
  refine s_iload_n (n := 984) (i := 3) dL_law_983 rfl rfl rfl ?_
  refine s_iconst (n := 985) (v := 1) dL_law_984 rfl (by decide) ?_
  refine s_iadd (n := 986) dL_law_985 rfl ?_
  refine s_sld (n := 987) dL_law_986 rfl (mj_ixs (i := i) (m := 1) (by omega)) ?_
  refine s_v1 (M' := MX5_lag) (n := 990) (ci := 5) dL_law_987 rfl wd_L_125 okX5_lag rfl rfl (show 12 + 1 ≤ d by omega) ⟨Nat.le_refl _, Nat.le_refl _⟩ hY1.1 ky ?_
  intro w2 h2 q2
  obtain ⟨rfl, τ1, hY2, hF2, hR⟩ := qy _ _ q2
  have hX2 := XS_mv hX1 (fun j hj => hF2.2 j (by omega))
  refine s_icmp_eq (n := 993) (tgt := 1404) dL_law_990 rfl rfl (fun b => ?_) (fun b => absurd rfl b)
  exact K h2 σ1 τ1 hX2 hY2 (hc σ1 τ1 hP hR)
set_option maxRecDepth 100000 in
set_option maxHeartbeats 4000000 in
theorem lw_who {G : mj_G} {d i : Nat} {h : mj_H} {σ τ : Nat → Nat → Int32} (hd : 20 ≤ d) (hL : G.2.2.2.2.1 ≤ 448) (hi : i + 7 ≤ G.2.2.2.2.1) (hX : XS G h σ) (hY : YS G h τ) (hC : CR σ τ) (K : lwK G d i) : mj_wp G ML_law d 233 3976 995 (lwS G i) [] h 233 3976 lwQ := by
  refine s_aload_n (n := 996) (i := 1) dL_law_995 rfl rfl rfl ?_
  refine s_aload_n (n := 997) (i := 0) dL_law_996 rfl rfl rfl ?_
  refine s_iload_n (n := 998) (i := 3) dL_law_997 rfl rfl rfl ?_
  refine s_iconst (n := 999) (v := 1) dL_law_998 rfl (by decide) ?_
  refine s_iadd (n := 1000) dL_law_999 rfl ?_
  refine s_sld (n := 1001) dL_law_1000 rfl (mj_ixs (i := i) (m := 1) (by omega)) ?_
  refine s_aload_n (n := 1002) (i := 0) dL_law_1001 rfl rfl rfl ?_
  refine s_iload_n (n := 1003) (i := 3) dL_law_1002 rfl rfl rfl ?_
  refine s_iconst (n := 1004) (v := 2) dL_law_1003 rfl (by decide) ?_
  refine s_iadd (n := 1005) dL_law_1004 rfl ?_
  refine s_sld (n := 1006) dL_law_1005 rfl (mj_ixs (i := i) (m := 2) (by omega)) ?_
  refine s_aload_n (n := 1007) (i := 0) dL_law_1006 rfl rfl rfl ?_
  refine s_iload_n (n := 1008) (i := 3) dL_law_1007 rfl rfl rfl ?_
  refine s_iconst (n := 1009) (v := 3) dL_law_1008 rfl (by decide) ?_
  refine s_iadd (n := 1010) dL_law_1009 rfl ?_
  refine s_sld (n := 1011) dL_law_1010 rfl (mj_ixs (i := i) (m := 3) (by omega)) ?_
  refine s_aload_n (n := 1012) (i := 0) dL_law_1011 rfl rfl rfl ?_
  refine s_iload_n (n := 1013) (i := 3) dL_law_1012 rfl rfl rfl ?_
  refine s_iconst (n := 1014) (v := 4) dL_law_1013 rfl (by decide) ?_
  refine s_iadd (n := 1015) dL_law_1014 rfl ?_
  refine s_sld (n := 1016) dL_law_1015 rfl (mj_ixs (i := i) (m := 4) (by omega)) ?_
  refine s_aload_n (n := 1017) (i := 0) dL_law_1016 rfl rfl rfl ?_
  refine s_iload_n (n := 1018) (i := 3) dL_law_1017 rfl rfl rfl ?_
  refine s_iconst (n := 1019) (v := 5) dL_law_1018 rfl (by decide) ?_
  refine s_iadd (n := 1020) dL_law_1019 rfl ?_
  refine s_sld (n := 1021) dL_law_1020 rfl (mj_ixs (i := i) (m := 5) (by omega)) ?_
  refine s_aload_n (n := 1022) (i := 0) dL_law_1021 rfl rfl rfl ?_
  refine s_iload_n (n := 1023) (i := 3) dL_law_1022 rfl rfl rfl ?_
  refine s_bipush (n := 1025) (v := 6) dL_law_1023 rfl (by decide) ?_
  refine s_iadd (n := 1026) dL_law_1025 rfl ?_
  refine s_sld (n := 1027) dL_law_1026 rfl (mj_ixs (i := i) (m := 6) (by omega)) ?_
  obtain ⟨v, P, R, hx, hy, hc⟩ := cp_who (G := G) hC (G.2.2.2.2.2 (i + 1)) (G.2.2.2.2.2 (i + 2)) (G.2.2.2.2.2 (i + 3)) (G.2.2.2.2.2 (i + 4)) (G.2.2.2.2.2 (i + 5)) (G.2.2.2.2.2 (i + 6))
  obtain ⟨Qx, kx, qx⟩ := hx h hX
  refine s_v6 (M' := MX4_who) (n := 1030) (ci := 4) dL_law_1027 rfl wd_L_126 okX4_who rfl rfl (show 12 + 1 ≤ d by omega) ⟨Nat.le_refl _, Nat.le_refl _⟩ hX.1 kx ?_
  intro w1 h1 q1
  obtain ⟨rfl, σ1, hX1, hF1, hP⟩ := qx _ _ q1
  have hY1 := YS_mv hY (fun j hj => hF1.2 j (by omega))
  obtain ⟨Qy, ky, qy⟩ := hy h1 hY1
  refine s_aload_n (n := 1031) (i := 2) dL_law_1030 rfl rfl rfl ?_
  refine s_aload_n (n := 1032) (i := 0) dL_law_1031 rfl rfl rfl ?_
  refine s_iload_n (n := 1033) (i := 3) dL_law_1032 rfl rfl rfl ?_
  refine s_iconst (n := 1034) (v := 1) dL_law_1033 rfl (by decide) ?_
  refine s_iadd (n := 1035) dL_law_1034 rfl ?_
  refine s_sld (n := 1036) dL_law_1035 rfl (mj_ixs (i := i) (m := 1) (by omega)) ?_
  refine s_aload_n (n := 1037) (i := 0) dL_law_1036 rfl rfl rfl ?_
  refine s_iload_n (n := 1038) (i := 3) dL_law_1037 rfl rfl rfl ?_
  refine s_iconst (n := 1039) (v := 2) dL_law_1038 rfl (by decide) ?_
  refine s_iadd (n := 1040) dL_law_1039 rfl ?_
  refine s_sld (n := 1041) dL_law_1040 rfl (mj_ixs (i := i) (m := 2) (by omega)) ?_
  refine s_aload_n (n := 1042) (i := 0) dL_law_1041 rfl rfl rfl ?_
  refine s_iload_n (n := 1043) (i := 3) dL_law_1042 rfl rfl rfl ?_
  refine s_iconst (n := 1044) (v := 3) dL_law_1043 rfl (by decide) ?_
  refine s_iadd (n := 1045) dL_law_1044 rfl ?_
  refine s_sld (n := 1046) dL_law_1045 rfl (mj_ixs (i := i) (m := 3) (by omega)) ?_
  refine s_aload_n (n := 1047) (i := 0) dL_law_1046 rfl rfl rfl ?_
  refine s_iload_n (n := 1048) (i := 3) dL_law_1047 rfl rfl rfl ?_
  refine s_iconst (n := 1049) (v := 4) dL_law_1048 rfl (by decide) ?_
  refine s_iadd (n := 1050) dL_law_1049 rfl ?_
  refine s_sld (n := 1051) dL_law_1050 rfl (mj_ixs (i := i) (m := 4) (by omega)) ?_
  refine s_aload_n (n := 1052) (i := 0) dL_law_1051 rfl rfl rfl ?_
  refine s_iload_n (n := 1053) (i := 3) dL_law_1052 rfl rfl rfl ?_
  refine s_iconst (n := 1054) (v := 5) dL_law_1053 rfl (by decide) ?_
  refine s_iadd (n := 1055) dL_law_1054 rfl ?_
  refine s_sld (n := 1056) dL_law_1055 rfl (mj_ixs (i := i) (m := 5) (by omega)) ?_
  refine s_aload_n (n := 1057) (i := 0) dL_law_1056 rfl rfl rfl ?_
  refine s_iload_n (n := 1058) (i := 3) dL_law_1057 rfl rfl rfl ?_
  refine s_bipush (n := 1060) (v := 6) dL_law_1058 rfl (by decide) ?_
  refine s_iadd (n := 1061) dL_law_1060 rfl ?_
  refine s_sld (n := 1062) dL_law_1061 rfl (mj_ixs (i := i) (m := 6) (by omega)) ?_
  refine s_v6 (M' := MX5_who) (n := 1065) (ci := 5) dL_law_1062 rfl wd_L_130 okX5_who rfl rfl (show 12 + 1 ≤ d by omega) ⟨Nat.le_refl _, Nat.le_refl _⟩ hY1.1 ky ?_
  intro w2 h2 q2
  obtain ⟨rfl, τ1, hY2, hF2, hR⟩ := qy _ _ q2
  have hX2 := XS_mv hX1 (fun j hj => hF2.2 j (by omega))
  refine s_icmp_eq (n := 1068) (tgt := 1404) dL_law_1065 rfl rfl (fun b => ?_) (fun b => absurd rfl b)
  exact K h2 σ1 τ1 hX2 hY2 (hc σ1 τ1 hP hR)
set_option maxRecDepth 100000 in
set_option maxHeartbeats 4000000 in
theorem lw_silent {G : mj_G} {d i : Nat} {h : mj_H} {σ τ : Nat → Nat → Int32} (hd : 20 ≤ d) (hL : G.2.2.2.2.1 ≤ 448) (hi : i + 7 ≤ G.2.2.2.2.1) (hX : XS G h σ) (hY : YS G h τ) (hC : CR σ τ) (K : lwK G d i) : mj_wp G ML_law d 233 3976 1070 (lwS G i) [] h 233 3976 lwQ := by
  refine s_aload_n (n := 1071) (i := 1) dL_law_1070 rfl rfl rfl ?_
  refine s_aload_n (n := 1072) (i := 0) dL_law_1071 rfl rfl rfl ?_
  refine s_iload_n (n := 1073) (i := 3) dL_law_1072 rfl rfl rfl ?_
  refine s_iconst (n := 1074) (v := 1) dL_law_1073 rfl (by decide) ?_
  refine s_iadd (n := 1075) dL_law_1074 rfl ?_
  refine s_sld (n := 1076) dL_law_1075 rfl (mj_ixs (i := i) (m := 1) (by omega)) ?_
  refine s_aload_n (n := 1077) (i := 0) dL_law_1076 rfl rfl rfl ?_
  refine s_iload_n (n := 1078) (i := 3) dL_law_1077 rfl rfl rfl ?_
  refine s_iconst (n := 1079) (v := 2) dL_law_1078 rfl (by decide) ?_
  refine s_iadd (n := 1080) dL_law_1079 rfl ?_
  refine s_sld (n := 1081) dL_law_1080 rfl (mj_ixs (i := i) (m := 2) (by omega)) ?_
  refine s_aload_n (n := 1082) (i := 0) dL_law_1081 rfl rfl rfl ?_
  refine s_iload_n (n := 1083) (i := 3) dL_law_1082 rfl rfl rfl ?_
  refine s_iconst (n := 1084) (v := 3) dL_law_1083 rfl (by decide) ?_
  refine s_iadd (n := 1085) dL_law_1084 rfl ?_
  refine s_sld (n := 1086) dL_law_1085 rfl (mj_ixs (i := i) (m := 3) (by omega)) ?_
  refine s_aload_n (n := 1087) (i := 0) dL_law_1086 rfl rfl rfl ?_
  refine s_iload_n (n := 1088) (i := 3) dL_law_1087 rfl rfl rfl ?_
  refine s_iconst (n := 1089) (v := 4) dL_law_1088 rfl (by decide) ?_
  refine s_iadd (n := 1090) dL_law_1089 rfl ?_
  refine s_sld (n := 1091) dL_law_1090 rfl (mj_ixs (i := i) (m := 4) (by omega)) ?_
  obtain ⟨v, P, R, hx, hy, hc⟩ := cp_silent (G := G) hC (G.2.2.2.2.2 (i + 1)) (G.2.2.2.2.2 (i + 2)) (G.2.2.2.2.2 (i + 3)) (G.2.2.2.2.2 (i + 4))
  obtain ⟨Qx, kx, qx⟩ := hx h hX
  refine s_v4 (M' := MX4_silent) (n := 1094) (ci := 4) dL_law_1091 rfl wd_L_131 okX4_silent rfl rfl (show 12 + 1 ≤ d by omega) ⟨Nat.le_refl _, Nat.le_refl _⟩ hX.1 kx ?_
  intro w1 h1 q1
  obtain ⟨rfl, σ1, hX1, hF1, hP⟩ := qx _ _ q1
  have hY1 := YS_mv hY (fun j hj => hF1.2 j (by omega))
  obtain ⟨Qy, ky, qy⟩ := hy h1 hY1
  refine s_aload_n (n := 1095) (i := 2) dL_law_1094 rfl rfl rfl ?_
  refine s_aload_n (n := 1096) (i := 0) dL_law_1095 rfl rfl rfl ?_
  refine s_iload_n (n := 1097) (i := 3) dL_law_1096 rfl rfl rfl ?_
  refine s_iconst (n := 1098) (v := 1) dL_law_1097 rfl (by decide) ?_
  refine s_iadd (n := 1099) dL_law_1098 rfl ?_
  refine s_sld (n := 1100) dL_law_1099 rfl (mj_ixs (i := i) (m := 1) (by omega)) ?_
  refine s_aload_n (n := 1101) (i := 0) dL_law_1100 rfl rfl rfl ?_
  refine s_iload_n (n := 1102) (i := 3) dL_law_1101 rfl rfl rfl ?_
  refine s_iconst (n := 1103) (v := 2) dL_law_1102 rfl (by decide) ?_
  refine s_iadd (n := 1104) dL_law_1103 rfl ?_
  refine s_sld (n := 1105) dL_law_1104 rfl (mj_ixs (i := i) (m := 2) (by omega)) ?_
  refine s_aload_n (n := 1106) (i := 0) dL_law_1105 rfl rfl rfl ?_
  refine s_iload_n (n := 1107) (i := 3) dL_law_1106 rfl rfl rfl ?_
  refine s_iconst (n := 1108) (v := 3) dL_law_1107 rfl (by decide) ?_
  refine s_iadd (n := 1109) dL_law_1108 rfl ?_
  refine s_sld (n := 1110) dL_law_1109 rfl (mj_ixs (i := i) (m := 3) (by omega)) ?_
  refine s_aload_n (n := 1111) (i := 0) dL_law_1110 rfl rfl rfl ?_
  refine s_iload_n (n := 1112) (i := 3) dL_law_1111 rfl rfl rfl ?_
  refine s_iconst (n := 1113) (v := 4) dL_law_1112 rfl (by decide) ?_
  refine s_iadd (n := 1114) dL_law_1113 rfl ?_
  refine s_sld (n := 1115) dL_law_1114 rfl (mj_ixs (i := i) (m := 4) (by omega)) ?_
  refine s_v4 (M' := MX5_silent) (n := 1118) (ci := 5) dL_law_1115 rfl wd_L_135 okX5_silent rfl rfl (show 12 + 1 ≤ d by omega) ⟨Nat.le_refl _, Nat.le_refl _⟩ hY1.1 ky ?_
  intro w2 h2 q2
  obtain ⟨rfl, τ1, hY2, hF2, hR⟩ := qy _ _ q2
  have hX2 := XS_mv hX1 (fun j hj => hF2.2 j (by omega))
  refine s_icmp_eq (n := 1121) (tgt := 1404) dL_law_1118 rfl rfl (fun b => ?_) (fun b => absurd rfl b)
  exact K h2 σ1 τ1 hX2 hY2 (hc σ1 τ1 hP hR)
set_option maxRecDepth 100000 in
set_option maxHeartbeats 4000000 in
theorem lw_hushed {G : mj_G} {d i : Nat} {h : mj_H} {σ τ : Nat → Nat → Int32} (hd : 20 ≤ d) (hL : G.2.2.2.2.1 ≤ 448) (hi : i + 7 ≤ G.2.2.2.2.1) (hX : XS G h σ) (hY : YS G h τ) (hC : CR σ τ) (K : lwK G d i) : mj_wp G ML_law d 233 3976 1123 (lwS G i) [] h 233 3976 lwQ := by
  refine s_aload_n (n := 1124) (i := 1) dL_law_1123 rfl rfl rfl ?_
  refine s_aload_n (n := 1125) (i := 0) dL_law_1124 rfl rfl rfl ?_
  refine s_iload_n (n := 1126) (i := 3) dL_law_1125 rfl rfl rfl ?_
  refine s_iconst (n := 1127) (v := 1) dL_law_1126 rfl (by decide) ?_
  refine s_iadd (n := 1128) dL_law_1127 rfl ?_
  refine s_sld (n := 1129) dL_law_1128 rfl (mj_ixs (i := i) (m := 1) (by omega)) ?_
  refine s_aload_n (n := 1130) (i := 0) dL_law_1129 rfl rfl rfl ?_
  refine s_iload_n (n := 1131) (i := 3) dL_law_1130 rfl rfl rfl ?_
  refine s_iconst (n := 1132) (v := 2) dL_law_1131 rfl (by decide) ?_
  refine s_iadd (n := 1133) dL_law_1132 rfl ?_
  refine s_sld (n := 1134) dL_law_1133 rfl (mj_ixs (i := i) (m := 2) (by omega)) ?_
  refine s_aload_n (n := 1135) (i := 0) dL_law_1134 rfl rfl rfl ?_
  refine s_iload_n (n := 1136) (i := 3) dL_law_1135 rfl rfl rfl ?_
  refine s_iconst (n := 1137) (v := 3) dL_law_1136 rfl (by decide) ?_
  refine s_iadd (n := 1138) dL_law_1137 rfl ?_
  refine s_sld (n := 1139) dL_law_1138 rfl (mj_ixs (i := i) (m := 3) (by omega)) ?_
  obtain ⟨v, P, R, hx, hy, hc⟩ := cp_hushed (G := G) hC (G.2.2.2.2.2 (i + 1)) (G.2.2.2.2.2 (i + 2)) (G.2.2.2.2.2 (i + 3))
  obtain ⟨Qx, kx, qx⟩ := hx h hX
  refine s_v3 (M' := MX4_hushed) (n := 1142) (ci := 4) dL_law_1139 rfl wd_L_136 okX4_hushed rfl rfl (show 12 + 1 ≤ d by omega) ⟨Nat.le_refl _, Nat.le_refl _⟩ hX.1 kx ?_
  intro w1 h1 q1
  obtain ⟨rfl, σ1, hX1, hF1, hP⟩ := qx _ _ q1
  have hY1 := YS_mv hY (fun j hj => hF1.2 j (by omega))
  obtain ⟨Qy, ky, qy⟩ := hy h1 hY1
  refine s_aload_n (n := 1143) (i := 2) dL_law_1142 rfl rfl rfl ?_
  refine s_aload_n (n := 1144) (i := 0) dL_law_1143 rfl rfl rfl ?_
  refine s_iload_n (n := 1145) (i := 3) dL_law_1144 rfl rfl rfl ?_
  refine s_iconst (n := 1146) (v := 1) dL_law_1145 rfl (by decide) ?_
  refine s_iadd (n := 1147) dL_law_1146 rfl ?_
  refine s_sld (n := 1148) dL_law_1147 rfl (mj_ixs (i := i) (m := 1) (by omega)) ?_
  refine s_aload_n (n := 1149) (i := 0) dL_law_1148 rfl rfl rfl ?_
  refine s_iload_n (n := 1150) (i := 3) dL_law_1149 rfl rfl rfl ?_
  refine s_iconst (n := 1151) (v := 2) dL_law_1150 rfl (by decide) ?_
  refine s_iadd (n := 1152) dL_law_1151 rfl ?_
  refine s_sld (n := 1153) dL_law_1152 rfl (mj_ixs (i := i) (m := 2) (by omega)) ?_
  refine s_aload_n (n := 1154) (i := 0) dL_law_1153 rfl rfl rfl ?_
  refine s_iload_n (n := 1155) (i := 3) dL_law_1154 rfl rfl rfl ?_
  refine s_iconst (n := 1156) (v := 3) dL_law_1155 rfl (by decide) ?_
  refine s_iadd (n := 1157) dL_law_1156 rfl ?_
  refine s_sld (n := 1158) dL_law_1157 rfl (mj_ixs (i := i) (m := 3) (by omega)) ?_
  refine s_v3 (M' := MX5_hushed) (n := 1161) (ci := 5) dL_law_1158 rfl wd_L_140 okX5_hushed rfl rfl (show 12 + 1 ≤ d by omega) ⟨Nat.le_refl _, Nat.le_refl _⟩ hY1.1 ky ?_
  intro w2 h2 q2
  obtain ⟨rfl, τ1, hY2, hF2, hR⟩ := qy _ _ q2
  have hX2 := XS_mv hX1 (fun j hj => hF2.2 j (by omega))
  refine s_lcmp (n := 1162) dL_law_1161 rfl ?_
  refine s_if_eq (n := 1165) (tgt := 1404) dL_law_1162 rfl rfl (fun b => ?_) (fun b => absurd (lc0.mpr rfl) b)
  exact K h2 σ1 τ1 hX2 hY2 (hc σ1 τ1 hP hR)
set_option maxRecDepth 100000 in
set_option maxHeartbeats 4000000 in
theorem lw_drawn {G : mj_G} {d i : Nat} {h : mj_H} {σ τ : Nat → Nat → Int32} (hd : 20 ≤ d) (hL : G.2.2.2.2.1 ≤ 448) (hi : i + 7 ≤ G.2.2.2.2.1) (hX : XS G h σ) (hY : YS G h τ) (hC : CR σ τ) (K : lwK G d i) : mj_wp G ML_law d 233 3976 1167 (lwS G i) [] h 233 3976 lwQ := by
  refine s_aload_n (n := 1168) (i := 1) dL_law_1167 rfl rfl rfl ?_
  refine s_aload_n (n := 1169) (i := 0) dL_law_1168 rfl rfl rfl ?_
  refine s_iload_n (n := 1170) (i := 3) dL_law_1169 rfl rfl rfl ?_
  refine s_iconst (n := 1171) (v := 1) dL_law_1170 rfl (by decide) ?_
  refine s_iadd (n := 1172) dL_law_1171 rfl ?_
  refine s_sld (n := 1173) dL_law_1172 rfl (mj_ixs (i := i) (m := 1) (by omega)) ?_
  refine s_aload_n (n := 1174) (i := 0) dL_law_1173 rfl rfl rfl ?_
  refine s_iload_n (n := 1175) (i := 3) dL_law_1174 rfl rfl rfl ?_
  refine s_iconst (n := 1176) (v := 2) dL_law_1175 rfl (by decide) ?_
  refine s_iadd (n := 1177) dL_law_1176 rfl ?_
  refine s_sld (n := 1178) dL_law_1177 rfl (mj_ixs (i := i) (m := 2) (by omega)) ?_
  refine s_aload_n (n := 1179) (i := 0) dL_law_1178 rfl rfl rfl ?_
  refine s_iload_n (n := 1180) (i := 3) dL_law_1179 rfl rfl rfl ?_
  refine s_iconst (n := 1181) (v := 3) dL_law_1180 rfl (by decide) ?_
  refine s_iadd (n := 1182) dL_law_1181 rfl ?_
  refine s_sld (n := 1183) dL_law_1182 rfl (mj_ixs (i := i) (m := 3) (by omega)) ?_
  obtain ⟨v, P, R, hx, hy, hc⟩ := cp_drawn (G := G) hC (G.2.2.2.2.2 (i + 1)) (G.2.2.2.2.2 (i + 2)) (G.2.2.2.2.2 (i + 3))
  obtain ⟨Qx, kx, qx⟩ := hx h hX
  refine s_v3 (M' := MX4_drawn) (n := 1186) (ci := 4) dL_law_1183 rfl wd_L_141 okX4_drawn rfl rfl (show 12 + 1 ≤ d by omega) ⟨Nat.le_refl _, Nat.le_refl _⟩ hX.1 kx ?_
  intro w1 h1 q1
  obtain ⟨rfl, σ1, hX1, hF1, hP⟩ := qx _ _ q1
  have hY1 := YS_mv hY (fun j hj => hF1.2 j (by omega))
  obtain ⟨Qy, ky, qy⟩ := hy h1 hY1
  refine s_aload_n (n := 1187) (i := 2) dL_law_1186 rfl rfl rfl ?_
  refine s_aload_n (n := 1188) (i := 0) dL_law_1187 rfl rfl rfl ?_
  refine s_iload_n (n := 1189) (i := 3) dL_law_1188 rfl rfl rfl ?_
  refine s_iconst (n := 1190) (v := 1) dL_law_1189 rfl (by decide) ?_
  refine s_iadd (n := 1191) dL_law_1190 rfl ?_
  refine s_sld (n := 1192) dL_law_1191 rfl (mj_ixs (i := i) (m := 1) (by omega)) ?_
  refine s_aload_n (n := 1193) (i := 0) dL_law_1192 rfl rfl rfl ?_
  refine s_iload_n (n := 1194) (i := 3) dL_law_1193 rfl rfl rfl ?_
  refine s_iconst (n := 1195) (v := 2) dL_law_1194 rfl (by decide) ?_
  refine s_iadd (n := 1196) dL_law_1195 rfl ?_
  refine s_sld (n := 1197) dL_law_1196 rfl (mj_ixs (i := i) (m := 2) (by omega)) ?_
  refine s_aload_n (n := 1198) (i := 0) dL_law_1197 rfl rfl rfl ?_
  refine s_iload_n (n := 1199) (i := 3) dL_law_1198 rfl rfl rfl ?_
  refine s_iconst (n := 1200) (v := 3) dL_law_1199 rfl (by decide) ?_
  refine s_iadd (n := 1201) dL_law_1200 rfl ?_
  refine s_sld (n := 1202) dL_law_1201 rfl (mj_ixs (i := i) (m := 3) (by omega)) ?_
  refine s_v3 (M' := MX5_drawn) (n := 1205) (ci := 5) dL_law_1202 rfl wd_L_144 okX5_drawn rfl rfl (show 12 + 1 ≤ d by omega) ⟨Nat.le_refl _, Nat.le_refl _⟩ hY1.1 ky ?_
  intro w2 h2 q2
  obtain ⟨rfl, τ1, hY2, hF2, hR⟩ := qy _ _ q2
  have hX2 := XS_mv hX1 (fun j hj => hF2.2 j (by omega))
  refine s_icmp_eq (n := 1208) (tgt := 1404) dL_law_1205 rfl rfl (fun b => ?_) (fun b => absurd rfl b)
  exact K h2 σ1 τ1 hX2 hY2 (hc σ1 τ1 hP hR)
set_option maxRecDepth 100000 in
set_option maxHeartbeats 4000000 in
theorem lw_image {G : mj_G} {d i : Nat} {h : mj_H} {σ τ : Nat → Nat → Int32} (hd : 20 ≤ d) (hL : G.2.2.2.2.1 ≤ 448) (hi : i + 7 ≤ G.2.2.2.2.1) (hX : XS G h σ) (hY : YS G h τ) (hC : CR σ τ) (K : lwK G d i) : mj_wp G ML_law d 233 3976 1210 (lwS G i) [] h 233 3976 lwQ := by
  refine s_aload_n (n := 1211) (i := 1) dL_law_1210 rfl rfl rfl ?_
  refine s_aload_n (n := 1212) (i := 0) dL_law_1211 rfl rfl rfl ?_
  refine s_iload_n (n := 1213) (i := 3) dL_law_1212 rfl rfl rfl ?_
  refine s_iconst (n := 1214) (v := 1) dL_law_1213 rfl (by decide) ?_
  refine s_iadd (n := 1215) dL_law_1214 rfl ?_
  refine s_sld (n := 1216) dL_law_1215 rfl (mj_ixs (i := i) (m := 1) (by omega)) ?_
  obtain ⟨v, P, R, hx, hy, hc⟩ := cp_image (G := G) hC (G.2.2.2.2.2 (i + 1))
  obtain ⟨Qx, kx, qx⟩ := hx h hX
  refine s_v1 (M' := MX4_image) (n := 1219) (ci := 4) dL_law_1216 rfl wd_L_145 okX4_image rfl rfl (show 12 + 1 ≤ d by omega) ⟨Nat.le_refl _, Nat.le_refl _⟩ hX.1 kx ?_
  intro w1 h1 q1
  obtain ⟨rfl, σ1, hX1, hF1, hP⟩ := qx _ _ q1
  have hY1 := YS_mv hY (fun j hj => hF1.2 j (by omega))
  obtain ⟨Qy, ky, qy⟩ := hy h1 hY1
  refine s_aload_n (n := 1220) (i := 2) dL_law_1219 rfl rfl rfl ?_
  refine s_aload_n (n := 1221) (i := 0) dL_law_1220 rfl rfl rfl ?_
  refine s_iload_n (n := 1222) (i := 3) dL_law_1221 rfl rfl rfl ?_
  refine s_iconst (n := 1223) (v := 1) dL_law_1222 rfl (by decide) ?_
  refine s_iadd (n := 1224) dL_law_1223 rfl ?_
  refine s_sld (n := 1225) dL_law_1224 rfl (mj_ixs (i := i) (m := 1) (by omega)) ?_
  refine s_v1 (M' := MX5_image) (n := 1228) (ci := 5) dL_law_1225 rfl wd_L_148 okX5_image rfl rfl (show 12 + 1 ≤ d by omega) ⟨Nat.le_refl _, Nat.le_refl _⟩ hY1.1 ky ?_
  intro w2 h2 q2
  obtain ⟨rfl, τ1, hY2, hF2, hR⟩ := qy _ _ q2
  have hX2 := XS_mv hX1 (fun j hj => hF2.2 j (by omega))
  refine s_icmp_eq (n := 1231) (tgt := 1404) dL_law_1228 rfl rfl (fun b => ?_) (fun b => absurd rfl b)
  exact K h2 σ1 τ1 hX2 hY2 (hc σ1 τ1 hP hR)
set_option maxRecDepth 100000 in
set_option maxHeartbeats 4000000 in
theorem lw_restore {G : mj_G} {d i : Nat} {h : mj_H} {σ τ : Nat → Nat → Int32} (hd : 20 ≤ d) (hL : G.2.2.2.2.1 ≤ 448) (hi : i + 7 ≤ G.2.2.2.2.1) (hX : XS G h σ) (hY : YS G h τ) (hC : CR σ τ) (K : lwK G d i) : mj_wp G ML_law d 233 3976 1233 (lwS G i) [] h 233 3976 lwQ := by
  refine s_aload_n (n := 1234) (i := 1) dL_law_1233 rfl rfl rfl ?_
  refine s_aload_n (n := 1235) (i := 0) dL_law_1234 rfl rfl rfl ?_
  refine s_iload_n (n := 1236) (i := 3) dL_law_1235 rfl rfl rfl ?_
  refine s_iconst (n := 1237) (v := 1) dL_law_1236 rfl (by decide) ?_
  refine s_iadd (n := 1238) dL_law_1237 rfl ?_
  refine s_sld (n := 1239) dL_law_1238 rfl (mj_ixs (i := i) (m := 1) (by omega)) ?_
  obtain ⟨v, P, R, hx, hy, hc⟩ := cp_restore (G := G) hC (G.2.2.2.2.2 (i + 1))
  obtain ⟨Qx, kx, qx⟩ := hx h hX
  refine s_v1 (M' := MX4_restore) (n := 1242) (ci := 4) dL_law_1239 rfl wd_L_149 okX4_restore rfl rfl (show 12 + 1 ≤ d by omega) ⟨Nat.le_refl _, Nat.le_refl _⟩ hX.1 kx ?_
  intro w1 h1 q1
  obtain ⟨rfl, σ1, hX1, hF1, hP⟩ := qx _ _ q1
  have hY1 := YS_mv hY (fun j hj => hF1.2 j (by omega))
  obtain ⟨Qy, ky, qy⟩ := hy h1 hY1
  refine s_aload_n (n := 1243) (i := 2) dL_law_1242 rfl rfl rfl ?_
  refine s_aload_n (n := 1244) (i := 0) dL_law_1243 rfl rfl rfl ?_
  refine s_iload_n (n := 1245) (i := 3) dL_law_1244 rfl rfl rfl ?_
  refine s_iconst (n := 1246) (v := 1) dL_law_1245 rfl (by decide) ?_
  refine s_iadd (n := 1247) dL_law_1246 rfl ?_
  refine s_sld (n := 1248) dL_law_1247 rfl (mj_ixs (i := i) (m := 1) (by omega)) ?_
  refine s_v1 (M' := MX5_restore) (n := 1251) (ci := 5) dL_law_1248 rfl wd_L_152 okX5_restore rfl rfl (show 12 + 1 ≤ d by omega) ⟨Nat.le_refl _, Nat.le_refl _⟩ hY1.1 ky ?_
  intro w2 h2 q2
  obtain ⟨rfl, τ1, hY2, hF2, hR⟩ := qy _ _ q2
  have hX2 := XS_mv hX1 (fun j hj => hF2.2 j (by omega))
  refine s_icmp_eq (n := 1254) (tgt := 1404) dL_law_1251 rfl rfl (fun b => ?_) (fun b => absurd rfl b)
  exact K h2 σ1 τ1 hX2 hY2 (hc σ1 τ1 hP hR)
set_option maxRecDepth 100000 in
set_option maxHeartbeats 4000000 in
theorem lw_kind {G : mj_G} {d i : Nat} {h : mj_H} {σ τ : Nat → Nat → Int32} (hd : 20 ≤ d) (hL : G.2.2.2.2.1 ≤ 448) (hi : i + 7 ≤ G.2.2.2.2.1) (hX : XS G h σ) (hY : YS G h τ) (hC : CR σ τ) (K : lwK G d i) : mj_wp G ML_law d 233 3976 1256 (lwS G i) [] h 233 3976 lwQ := by
  refine s_aload_n (n := 1257) (i := 1) dL_law_1256 rfl rfl rfl ?_
  refine s_aload_n (n := 1258) (i := 0) dL_law_1257 rfl rfl rfl ?_
  refine s_iload_n (n := 1259) (i := 3) dL_law_1258 rfl rfl rfl ?_
  refine s_iconst (n := 1260) (v := 1) dL_law_1259 rfl (by decide) ?_
  refine s_iadd (n := 1261) dL_law_1260 rfl ?_
  refine s_sld (n := 1262) dL_law_1261 rfl (mj_ixs (i := i) (m := 1) (by omega)) ?_
  obtain ⟨v, P, R, hx, hy, hc⟩ := cp_kind (G := G) hC (G.2.2.2.2.2 (i + 1))
  obtain ⟨Qx, kx, qx⟩ := hx h hX
  refine s_v1 (M' := MX4_kind) (n := 1265) (ci := 4) dL_law_1262 rfl wd_L_153 okX4_kind rfl rfl (show 12 + 1 ≤ d by omega) ⟨Nat.le_refl _, Nat.le_refl _⟩ hX.1 kx ?_
  intro w1 h1 q1
  obtain ⟨rfl, σ1, hX1, hF1, hP⟩ := qx _ _ q1
  have hY1 := YS_mv hY (fun j hj => hF1.2 j (by omega))
  obtain ⟨Qy, ky, qy⟩ := hy h1 hY1
  refine s_aload_n (n := 1266) (i := 2) dL_law_1265 rfl rfl rfl ?_
  refine s_aload_n (n := 1267) (i := 0) dL_law_1266 rfl rfl rfl ?_
  refine s_iload_n (n := 1268) (i := 3) dL_law_1267 rfl rfl rfl ?_
  refine s_iconst (n := 1269) (v := 1) dL_law_1268 rfl (by decide) ?_
  refine s_iadd (n := 1270) dL_law_1269 rfl ?_
  refine s_sld (n := 1271) dL_law_1270 rfl (mj_ixs (i := i) (m := 1) (by omega)) ?_
  refine s_v1 (M' := MX5_kind) (n := 1274) (ci := 5) dL_law_1271 rfl wd_L_156 okX5_kind rfl rfl (show 12 + 1 ≤ d by omega) ⟨Nat.le_refl _, Nat.le_refl _⟩ hY1.1 ky ?_
  intro w2 h2 q2
  obtain ⟨rfl, τ1, hY2, hF2, hR⟩ := qy _ _ q2
  have hX2 := XS_mv hX1 (fun j hj => hF2.2 j (by omega))
  refine s_icmp_eq (n := 1277) (tgt := 1404) dL_law_1274 rfl rfl (fun b => ?_) (fun b => absurd rfl b)
  exact K h2 σ1 τ1 hX2 hY2 (hc σ1 τ1 hP hR)
set_option maxRecDepth 100000 in
set_option maxHeartbeats 4000000 in
theorem lw_as {G : mj_G} {d i : Nat} {h : mj_H} {σ τ : Nat → Nat → Int32} (hd : 20 ≤ d) (hL : G.2.2.2.2.1 ≤ 448) (hi : i + 7 ≤ G.2.2.2.2.1) (hX : XS G h σ) (hY : YS G h τ) (hC : CR σ τ) (K : lwK G d i) : mj_wp G ML_law d 233 3976 1279 (lwS G i) [] h 233 3976 lwQ := by
  refine s_aload_n (n := 1280) (i := 1) dL_law_1279 rfl rfl rfl ?_
  refine s_aload_n (n := 1281) (i := 0) dL_law_1280 rfl rfl rfl ?_
  refine s_iload_n (n := 1282) (i := 3) dL_law_1281 rfl rfl rfl ?_
  refine s_iconst (n := 1283) (v := 1) dL_law_1282 rfl (by decide) ?_
  refine s_iadd (n := 1284) dL_law_1283 rfl ?_
  refine s_sld (n := 1285) dL_law_1284 rfl (mj_ixs (i := i) (m := 1) (by omega)) ?_
  refine s_aload_n (n := 1286) (i := 0) dL_law_1285 rfl rfl rfl ?_
  refine s_iload_n (n := 1287) (i := 3) dL_law_1286 rfl rfl rfl ?_
  refine s_iconst (n := 1288) (v := 2) dL_law_1287 rfl (by decide) ?_
  refine s_iadd (n := 1289) dL_law_1288 rfl ?_
  refine s_sld (n := 1290) dL_law_1289 rfl (mj_ixs (i := i) (m := 2) (by omega)) ?_
  obtain ⟨v, P, R, hx, hy, hc⟩ := cp_as (G := G) hC (G.2.2.2.2.2 (i + 1)) (G.2.2.2.2.2 (i + 2))
  obtain ⟨Qx, kx, qx⟩ := hx h hX
  refine s_v2 (M' := MX4_as) (n := 1293) (ci := 4) dL_law_1290 rfl wd_L_157 okX4_as rfl rfl (show 12 + 1 ≤ d by omega) ⟨Nat.le_refl _, Nat.le_refl _⟩ hX.1 kx ?_
  intro w1 h1 q1
  obtain ⟨rfl, σ1, hX1, hF1, hP⟩ := qx _ _ q1
  have hY1 := YS_mv hY (fun j hj => hF1.2 j (by omega))
  obtain ⟨Qy, ky, qy⟩ := hy h1 hY1
  refine s_aload_n (n := 1294) (i := 2) dL_law_1293 rfl rfl rfl ?_
  refine s_aload_n (n := 1295) (i := 0) dL_law_1294 rfl rfl rfl ?_
  refine s_iload_n (n := 1296) (i := 3) dL_law_1295 rfl rfl rfl ?_
  refine s_iconst (n := 1297) (v := 1) dL_law_1296 rfl (by decide) ?_
  refine s_iadd (n := 1298) dL_law_1297 rfl ?_
  refine s_sld (n := 1299) dL_law_1298 rfl (mj_ixs (i := i) (m := 1) (by omega)) ?_
  refine s_aload_n (n := 1300) (i := 0) dL_law_1299 rfl rfl rfl ?_
  refine s_iload_n (n := 1301) (i := 3) dL_law_1300 rfl rfl rfl ?_
  refine s_iconst (n := 1302) (v := 2) dL_law_1301 rfl (by decide) ?_
  refine s_iadd (n := 1303) dL_law_1302 rfl ?_
  refine s_sld (n := 1304) dL_law_1303 rfl (mj_ixs (i := i) (m := 2) (by omega)) ?_
  refine s_v2 (M' := MX5_as) (n := 1307) (ci := 5) dL_law_1304 rfl wd_L_160 okX5_as rfl rfl (show 12 + 1 ≤ d by omega) ⟨Nat.le_refl _, Nat.le_refl _⟩ hY1.1 ky ?_
  intro w2 h2 q2
  obtain ⟨rfl, τ1, hY2, hF2, hR⟩ := qy _ _ q2
  have hX2 := XS_mv hX1 (fun j hj => hF2.2 j (by omega))
  refine s_icmp_eq (n := 1310) (tgt := 1404) dL_law_1307 rfl rfl (fun b => ?_) (fun b => absurd rfl b)
  exact K h2 σ1 τ1 hX2 hY2 (hc σ1 τ1 hP hR)
set_option maxRecDepth 100000 in
set_option maxHeartbeats 4000000 in
theorem lw_ask {G : mj_G} {d i : Nat} {h : mj_H} {σ τ : Nat → Nat → Int32} (hd : 20 ≤ d) (hL : G.2.2.2.2.1 ≤ 448) (hi : i + 7 ≤ G.2.2.2.2.1) (hX : XS G h σ) (hY : YS G h τ) (hC : CR σ τ) (K : lwK G d i) : mj_wp G ML_law d 233 3976 1312 (lwS G i) [] h 233 3976 lwQ := by
  refine s_aload_n (n := 1313) (i := 1) dL_law_1312 rfl rfl rfl ?_
  refine s_aload_n (n := 1314) (i := 0) dL_law_1313 rfl rfl rfl ?_
  refine s_iload_n (n := 1315) (i := 3) dL_law_1314 rfl rfl rfl ?_
  refine s_iconst (n := 1316) (v := 1) dL_law_1315 rfl (by decide) ?_
  refine s_iadd (n := 1317) dL_law_1316 rfl ?_
  refine s_sld (n := 1318) dL_law_1317 rfl (mj_ixs (i := i) (m := 1) (by omega)) ?_
  refine s_aload_n (n := 1319) (i := 0) dL_law_1318 rfl rfl rfl ?_
  refine s_iload_n (n := 1320) (i := 3) dL_law_1319 rfl rfl rfl ?_
  refine s_iconst (n := 1321) (v := 2) dL_law_1320 rfl (by decide) ?_
  refine s_iadd (n := 1322) dL_law_1321 rfl ?_
  refine s_sld (n := 1323) dL_law_1322 rfl (mj_ixs (i := i) (m := 2) (by omega)) ?_
  obtain ⟨v, P, R, hx, hy, hc⟩ := cp_ask (G := G) hC (G.2.2.2.2.2 (i + 1)) (G.2.2.2.2.2 (i + 2))
  obtain ⟨Qx, kx, qx⟩ := hx h hX
  refine s_v2 (M' := MX4_ask) (n := 1326) (ci := 4) dL_law_1323 rfl wd_L_161 okX4_ask rfl rfl (show 12 + 1 ≤ d by omega) ⟨Nat.le_refl _, Nat.le_refl _⟩ hX.1 kx ?_
  intro w1 h1 q1
  obtain ⟨rfl, σ1, hX1, hF1, hP⟩ := qx _ _ q1
  have hY1 := YS_mv hY (fun j hj => hF1.2 j (by omega))
  obtain ⟨Qy, ky, qy⟩ := hy h1 hY1
  refine s_aload_n (n := 1327) (i := 2) dL_law_1326 rfl rfl rfl ?_
  refine s_aload_n (n := 1328) (i := 0) dL_law_1327 rfl rfl rfl ?_
  refine s_iload_n (n := 1329) (i := 3) dL_law_1328 rfl rfl rfl ?_
  refine s_iconst (n := 1330) (v := 1) dL_law_1329 rfl (by decide) ?_
  refine s_iadd (n := 1331) dL_law_1330 rfl ?_
  refine s_sld (n := 1332) dL_law_1331 rfl (mj_ixs (i := i) (m := 1) (by omega)) ?_
  refine s_aload_n (n := 1333) (i := 0) dL_law_1332 rfl rfl rfl ?_
  refine s_iload_n (n := 1334) (i := 3) dL_law_1333 rfl rfl rfl ?_
  refine s_iconst (n := 1335) (v := 2) dL_law_1334 rfl (by decide) ?_
  refine s_iadd (n := 1336) dL_law_1335 rfl ?_
  refine s_sld (n := 1337) dL_law_1336 rfl (mj_ixs (i := i) (m := 2) (by omega)) ?_
  refine s_v2 (M' := MX5_ask) (n := 1340) (ci := 5) dL_law_1337 rfl wd_L_164 okX5_ask rfl rfl (show 12 + 1 ≤ d by omega) ⟨Nat.le_refl _, Nat.le_refl _⟩ hY1.1 ky ?_
  intro w2 h2 q2
  obtain ⟨rfl, τ1, hY2, hF2, hR⟩ := qy _ _ q2
  have hX2 := XS_mv hX1 (fun j hj => hF2.2 j (by omega))
  refine s_icmp_eq (n := 1343) (tgt := 1404) dL_law_1340 rfl rfl (fun b => ?_) (fun b => absurd rfl b)
  exact K h2 σ1 τ1 hX2 hY2 (hc σ1 τ1 hP hR)
set_option maxRecDepth 100000 in
set_option maxHeartbeats 4000000 in
theorem lw_trace {G : mj_G} {d i : Nat} {h : mj_H} {σ τ : Nat → Nat → Int32} (hd : 20 ≤ d) (hL : G.2.2.2.2.1 ≤ 448) (hi : i + 7 ≤ G.2.2.2.2.1) (hX : XS G h σ) (hY : YS G h τ) (hC : CR σ τ) (K : lwK G d i) : mj_wp G ML_law d 233 3976 1345 (lwS G i) [] h 233 3976 lwQ := by
  refine s_aload_n (n := 1346) (i := 1) dL_law_1345 rfl rfl rfl ?_
  refine s_aload_n (n := 1347) (i := 0) dL_law_1346 rfl rfl rfl ?_
  refine s_iload_n (n := 1348) (i := 3) dL_law_1347 rfl rfl rfl ?_
  refine s_iconst (n := 1349) (v := 1) dL_law_1348 rfl (by decide) ?_
  refine s_iadd (n := 1350) dL_law_1349 rfl ?_
  refine s_sld (n := 1351) dL_law_1350 rfl (mj_ixs (i := i) (m := 1) (by omega)) ?_
  obtain ⟨v, P, R, hx, hy, hc⟩ := cp_trace (G := G) hC (G.2.2.2.2.2 (i + 1))
  obtain ⟨Qx, kx, qx⟩ := hx h hX
  refine s_v1 (M' := MX4_trace) (n := 1354) (ci := 4) dL_law_1351 rfl wd_L_165 okX4_trace rfl rfl (show 12 + 1 ≤ d by omega) ⟨Nat.le_refl _, Nat.le_refl _⟩ hX.1 kx ?_
  intro w1 h1 q1
  obtain ⟨rfl, σ1, hX1, hF1, hP⟩ := qx _ _ q1
  have hY1 := YS_mv hY (fun j hj => hF1.2 j (by omega))
  obtain ⟨Qy, ky, qy⟩ := hy h1 hY1
  refine s_aload_n (n := 1355) (i := 2) dL_law_1354 rfl rfl rfl ?_
  refine s_aload_n (n := 1356) (i := 0) dL_law_1355 rfl rfl rfl ?_
  refine s_iload_n (n := 1357) (i := 3) dL_law_1356 rfl rfl rfl ?_
  refine s_iconst (n := 1358) (v := 1) dL_law_1357 rfl (by decide) ?_
  refine s_iadd (n := 1359) dL_law_1358 rfl ?_
  refine s_sld (n := 1360) dL_law_1359 rfl (mj_ixs (i := i) (m := 1) (by omega)) ?_
  refine s_v1 (M' := MX5_trace) (n := 1363) (ci := 5) dL_law_1360 rfl wd_L_168 okX5_trace rfl rfl (show 12 + 1 ≤ d by omega) ⟨Nat.le_refl _, Nat.le_refl _⟩ hY1.1 ky ?_
  intro w2 h2 q2
  obtain ⟨rfl, τ1, hY2, hF2, hR⟩ := qy _ _ q2
  have hX2 := XS_mv hX1 (fun j hj => hF2.2 j (by omega))
  refine s_icmp_eq (n := 1366) (tgt := 1404) dL_law_1363 rfl rfl (fun b => ?_) (fun b => absurd rfl b)
  exact K h2 σ1 τ1 hX2 hY2 (hc σ1 τ1 hP hR)
set_option maxRecDepth 100000 in
set_option maxHeartbeats 4000000 in
theorem lw_count {G : mj_G} {d i : Nat} {h : mj_H} {σ τ : Nat → Nat → Int32} (hd : 20 ≤ d) (hL : G.2.2.2.2.1 ≤ 448) (hi : i + 7 ≤ G.2.2.2.2.1) (hX : XS G h σ) (hY : YS G h τ) (hC : CR σ τ) (K : lwK G d i) : mj_wp G ML_law d 233 3976 1368 (lwS G i) [] h 233 3976 lwQ := by
  refine s_aload_n (n := 1369) (i := 1) dL_law_1368 rfl rfl rfl ?_
  refine s_aload_n (n := 1370) (i := 0) dL_law_1369 rfl rfl rfl ?_
  refine s_iload_n (n := 1371) (i := 3) dL_law_1370 rfl rfl rfl ?_
  refine s_iconst (n := 1372) (v := 1) dL_law_1371 rfl (by decide) ?_
  refine s_iadd (n := 1373) dL_law_1372 rfl ?_
  refine s_sld (n := 1374) dL_law_1373 rfl (mj_ixs (i := i) (m := 1) (by omega)) ?_
  obtain ⟨v, P, R, hx, hy, hc⟩ := cp_count (G := G) hC (G.2.2.2.2.2 (i + 1))
  obtain ⟨Qx, kx, qx⟩ := hx h hX
  refine s_v1 (M' := MX4_count) (n := 1377) (ci := 4) dL_law_1374 rfl wd_L_169 okX4_count rfl rfl (show 12 + 1 ≤ d by omega) ⟨Nat.le_refl _, Nat.le_refl _⟩ hX.1 kx ?_
  intro w1 h1 q1
  obtain ⟨rfl, σ1, hX1, hF1, hP⟩ := qx _ _ q1
  have hY1 := YS_mv hY (fun j hj => hF1.2 j (by omega))
  obtain ⟨Qy, ky, qy⟩ := hy h1 hY1
  refine s_aload_n (n := 1378) (i := 2) dL_law_1377 rfl rfl rfl ?_
  refine s_aload_n (n := 1379) (i := 0) dL_law_1378 rfl rfl rfl ?_
  refine s_iload_n (n := 1380) (i := 3) dL_law_1379 rfl rfl rfl ?_
  refine s_iconst (n := 1381) (v := 1) dL_law_1380 rfl (by decide) ?_
  refine s_iadd (n := 1382) dL_law_1381 rfl ?_
  refine s_sld (n := 1383) dL_law_1382 rfl (mj_ixs (i := i) (m := 1) (by omega)) ?_
  refine s_v1 (M' := MX5_count) (n := 1386) (ci := 5) dL_law_1383 rfl wd_L_172 okX5_count rfl rfl (show 12 + 1 ≤ d by omega) ⟨Nat.le_refl _, Nat.le_refl _⟩ hY1.1 ky ?_
  intro w2 h2 q2
  obtain ⟨rfl, τ1, hY2, hF2, hR⟩ := qy _ _ q2
  have hX2 := XS_mv hX1 (fun j hj => hF2.2 j (by omega))
  refine s_icmp_eq (n := 1389) (tgt := 1404) dL_law_1386 rfl rfl (fun b => ?_) (fun b => absurd rfl b)
  exact K h2 σ1 τ1 hX2 hY2 (hc σ1 τ1 hP hR)
set_option maxRecDepth 100000 in
set_option maxHeartbeats 4000000 in
theorem lw_status {G : mj_G} {d i : Nat} {h : mj_H} {σ τ : Nat → Nat → Int32} (hd : 20 ≤ d) (hL : G.2.2.2.2.1 ≤ 448) (hi : i + 7 ≤ G.2.2.2.2.1) (hX : XS G h σ) (hY : YS G h τ) (hC : CR σ τ) (K : lwK G d i) : mj_wp G ML_law d 233 3976 1391 (lwS G i) [] h 233 3976 lwQ := by
  refine s_aload_n (n := 1392) (i := 1) dL_law_1391 rfl rfl rfl ?_
  obtain ⟨v, P, R, hx, hy, hc⟩ := cp_status (G := G) hC
  obtain ⟨Qx, kx, qx⟩ := hx h hX
  refine s_v0 (M' := MX4_status) (n := 1395) (ci := 4) dL_law_1392 rfl wd_L_173 okX4_status rfl rfl (show 12 + 1 ≤ d by omega) ⟨Nat.le_refl _, Nat.le_refl _⟩ hX.1 kx ?_
  intro w1 h1 q1
  obtain ⟨rfl, σ1, hX1, hF1, hP⟩ := qx _ _ q1
  have hY1 := YS_mv hY (fun j hj => hF1.2 j (by omega))
  obtain ⟨Qy, ky, qy⟩ := hy h1 hY1
  refine s_aload_n (n := 1396) (i := 2) dL_law_1395 rfl rfl rfl ?_
  refine s_v0 (M' := MX5_status) (n := 1399) (ci := 5) dL_law_1396 rfl wd_L_176 okX5_status rfl rfl (show 12 + 1 ≤ d by omega) ⟨Nat.le_refl _, Nat.le_refl _⟩ hY1.1 ky ?_
  intro w2 h2 q2
  obtain ⟨rfl, τ1, hY2, hF2, hR⟩ := qy _ _ q2
  have hX2 := XS_mv hX1 (fun j hj => hF2.2 j (by omega))
  refine s_icmp_eq (n := 1402) (tgt := 1404) dL_law_1399 rfl rfl (fun b => ?_) (fun b => absurd rfl b)
  exact K h2 σ1 τ1 hX2 hY2 (hc σ1 τ1 hP hR)
set_option maxRecDepth 100000 in
set_option maxHeartbeats 4000000 in
theorem lw_loop {G : mj_G} {d : Nat} (hd : 20 ≤ d) (hL : G.2.2.2.2.1 ≤ 448) : ∀ (r i : Nat), G.2.2.2.2.1 ≤ i + 7 * r → i ≤ 448 → ∀ (h : mj_H) (σ τ : Nat → Nat → Int32), XS G h σ → YS G h τ → CR σ τ → mj_wp G ML_law d 233 3976 18 (lwS G i) [] h 233 3976 lwQ := by
  have c7 : (7 : Int32).toInt = 7 := by decide
  have eL : (nI G.2.2.2.2.1 - 7).toInt = (G.2.2.2.2.1 : Int) - 7 := by
    have e1 : (nI G.2.2.2.2.1).toInt = (G.2.2.2.2.1 : Int) := nI_toInt (by omega)
    rw [isb (by omega) (by omega), e1, c7]
  intro r
  induction r with
  | zero =>
    intro i hi h8 h σ τ hX hY hC
    refine s_iload_n (n := 19) (i := 3) dL_law_18 rfl rfl rfl ?_
    refine s_aload_n (n := 20) (i := 0) dL_law_19 rfl rfl rfl ?_
    refine s_slen (n := 21) (v := nI G.2.2.2.2.1) dL_law_20 rfl rfl ?_
    refine s_bipush (n := 23) (v := 7) dL_law_21 rfl (by decide) ?_
    refine s_isub (n := 24) dL_law_23 rfl ?_
    refine s_icmp_gt (n := 27) (tgt := 1410) dL_law_24 rfl rfl (fun b => ?_) (fun b => ?_)
    · refine s_iconst (n := 1411) (v := 1) dL_law_1410 rfl (by decide) ?_
      refine s_ireturn dL_law_1411 rfl rfl (Nat.le_refl _) (Nat.le_refl _) ?_
      rfl
    · exfalso
      refine b ?_
      rw [i_lt, eL, nI_toInt (by omega)]
      omega
  | succ r ih =>
    intro i hi h8 h σ τ hX hY hC
    refine s_iload_n (n := 19) (i := 3) dL_law_18 rfl rfl rfl ?_
    refine s_aload_n (n := 20) (i := 0) dL_law_19 rfl rfl rfl ?_
    refine s_slen (n := 21) (v := nI G.2.2.2.2.1) dL_law_20 rfl rfl ?_
    refine s_bipush (n := 23) (v := 7) dL_law_21 rfl (by decide) ?_
    refine s_isub (n := 24) dL_law_23 rfl ?_
    refine s_icmp_gt (n := 27) (tgt := 1410) dL_law_24 rfl rfl (fun b => ?_) (fun b => ?_)
    · refine s_iconst (n := 1411) (v := 1) dL_law_1410 rfl (by decide) ?_
      refine s_ireturn dL_law_1411 rfl rfl (Nat.le_refl _) (Nat.le_refl _) ?_
      rfl
    · have hi7 : i + 7 ≤ G.2.2.2.2.1 := by
        rw [i_lt, eL, nI_toInt (by omega)] at b
        omega
      have K : lwK G d i := by
        intro h1 σ1 τ1 hX1 hY1 hC1
        refine s_iinc (n := 1407) (v := _ + (7)) (ls' := [_, _, _, _]) dL_law_1404 rfl rfl rfl rfl rfl ?_
        refine s_goto (tgt := 18) dL_law_1407 rfl ?_
        rw [show nI i + 7 = nI (i + 7) from nI_add i 7]
        exact ih (i + 7) (by omega) (by omega) h1 σ1 τ1 hX1 hY1 hC1
      refine s_aload_n (n := 28) (i := 0) dL_law_27 rfl rfl rfl ?_
      refine s_iload_n (n := 29) (i := 3) dL_law_28 rfl rfl rfl ?_
      refine s_sld (n := 30) (j := i) dL_law_29 rfl (mj_ixn (by omega)) ?_
      refine s_bipush (n := 32) (v := 63) dL_law_30 rfl (by decide) ?_
      refine s_iand (n := 33) dL_law_32 rfl ?_
      refine t_L_law_33 dL_law_33 (fun _ => ?_) (fun _ => ?_) (fun _ => ?_) (fun _ => ?_) (fun _ => ?_) (fun _ => ?_) (fun _ => ?_) (fun _ => ?_) (fun _ => ?_) (fun _ => ?_) (fun _ => ?_) (fun _ => ?_) (fun _ => ?_) (fun _ => ?_) (fun _ => ?_) (fun _ => ?_) (fun _ => ?_) (fun _ => ?_) (fun _ => ?_) (fun _ => ?_) (fun _ => ?_) (fun _ => ?_) (fun _ => ?_) (fun _ => ?_) (fun _ => ?_) (fun _ => ?_) (fun _ => ?_) (fun _ => ?_) (fun _ => ?_) (fun _ => ?_) (fun _ => ?_) (fun _ => ?_) (fun _ => ?_) (fun _ => ?_) (fun _ => ?_) (fun _ => ?_) (fun _ => ?_) (fun _ => ?_) (fun _ => ?_) (fun _ _ _ _ _ _ _ _ _ _ _ _ _ _ _ _ _ _ _ _ _ _ _ _ _ _ _ _ _ _ _ _ _ _ _ _ _ _ _ => ?_)
      · exact lw_row hd hL hi7 hX hY hC K
      · exact lw_set hd hL hi7 hX hY hC K
      · exact lw_copy hd hL hi7 hX hY hC K
      · exact lw_drop hd hL hi7 hX hY hC K
      · exact lw_feed hd hL hi7 hX hY hC K
      · exact lw_street hd hL hi7 hX hY hC K
      · exact lw_fault hd hL hi7 hX hY hC K
      · exact lw_undo hd hL hi7 hX hY hC K
      · exact lw_minutes hd hL hi7 hX hY hC K
      · exact lw_talk hd hL hi7 hX hY hC K
      · exact lw_hush hd hL hi7 hX hY hC K
      · exact lw_bars hd hL hi7 hX hY hC K
      · exact lw_letDown hd hL hi7 hX hY hC K
      · exact lw_house hd hL hi7 hX hY hC K
      · exact lw_stand hd hL hi7 hX hY hC K
      · exact lw_ahead hd hL hi7 hX hY hC K
      · exact lw_pond hd hL hi7 hX hY hC K
      · exact lw_over hd hL hi7 hX hY hC K
      · exact lw_full hd hL hi7 hX hY hC K
      · exact lw_most hd hL hi7 hX hY hC K
      · exact lw_hushes hd hL hi7 hX hY hC K
      · exact lw_spares hd hL hi7 hX hY hC K
      · exact lw_catches hd hL hi7 hX hY hC K
      · exact lw_from hd hL hi7 hX hY hC K
      · exact lw_loud hd hL hi7 hX hY hC K
      · exact lw_dry hd hL hi7 hX hY hC K
      · exact lw_lag hd hL hi7 hX hY hC K
      · exact lw_who hd hL hi7 hX hY hC K
      · exact lw_silent hd hL hi7 hX hY hC K
      · exact lw_hushed hd hL hi7 hX hY hC K
      · exact lw_drawn hd hL hi7 hX hY hC K
      · exact lw_image hd hL hi7 hX hY hC K
      · exact lw_restore hd hL hi7 hX hY hC K
      · exact lw_kind hd hL hi7 hX hY hC K
      · exact lw_as hd hL hi7 hX hY hC K
      · exact lw_ask hd hL hi7 hX hY hC K
      · exact lw_trace hd hL hi7 hX hY hC K
      · exact lw_count hd hL hi7 hX hY hC K
      · exact lw_status hd hL hi7 hX hY hC K
      · exact K h σ τ hX hY hC
theorem CR_0 : CR sg0 ta0 := by
  refine ⟨⟨0, by omega, rfl, fun k _ => ?_, Or.inl ⟨rfl, rfl⟩⟩, ⟨0, 0, rfl, by omega, rfl, by omega, rfl, fun z => absurd z (by omega), fun j hj => absurd hj (by omega)⟩, fun k hk => Or.inl ⟨?_, rfl⟩, fun r hr => Or.inl ⟨rfl, ?_⟩, ⟨0, rfl, rfl, by omega, fun k hk => absurd hk (by omega), rfl⟩, ⟨0, by omega, rfl, rfl, rfl⟩, rfl, rfl⟩
  · rfl
  · show ¬ 0 < sg0 (26 + k) 2
    have e : sg0 (26 + k) = zf := if_neg (by omega)
    rw [e]
    decide
  · show fillF zf 8 (-1) r < 0
    unfold fillF
    rw [if_pos hr]
    decide
set_option maxRecDepth 100000 in
set_option maxHeartbeats 4000000 in
theorem lw_law {G : mj_G} {d : Nat} {h0 : mj_H} (hd : 20 ≤ d) (hL : G.2.2.2.2.1 ≤ 448) (z0 : h0.1 = 0) : mj_wp G ML_law d 233 3976 0 [some (.ref (G.2.2.2.1 0)), none, none, none] [] h0 0 0 lwQ := by
  refine s_new (ci := 4) (N := 10) (fs := [.null, .null, .null, .null, .null, .null, .null, .int 0, .int 0, .int 0]) tyX4 (n := 3) dL_law_0 rfl wd_L_7 wIn_X4 wNi_X4 rfl inT_X4 tyX4_ok dfX4 (by omega) (by omega) ?_
  rw [z0]
  refine push_w z0 (fun h1 z1 o1 f1 => ?_)
  refine s_dup (n := 4) dL_law_3 rfl rfl ?_
  refine s_i0 (M' := MX4_init) (n := 7) dL_law_4 rfl wd_L_9 okX4_init rfl rfl (show 12 + 1 ≤ d by omega) (by omega) (by omega) (c_init4 z1 o1 (by omega)) ?_
  rintro v4 h2 ⟨rfl, z2, hX⟩
  refine s_astore_n (n := 8) (i := 1) (ls' := [_, _, _, _]) dL_law_7 rfl rfl rfl rfl rfl ?_
  refine s_new (ci := 5) (N := 23) (fs := [.null, .null, .null, .int 0, .int 0, .null, .null, .null, .int 0, .int 0, .int 0, .int 0, .int 0, .int 0, .int 0, .null, .null, .int 0, .null, .null, .null, .null, .int 0]) tyX5 (n := 11) dL_law_8 rfl wd_L_10 wIn_X5 wNi_X5 rfl inT_X5 tyX5_ok dfX5 (by omega) (by omega) ?_
  rw [z2]
  refine push_w z2 (fun h3 z3 o3 f3 => ?_)
  refine s_dup (n := 12) dL_law_11 rfl rfl ?_
  refine s_i0 (M' := MX5_init) (n := 15) dL_law_12 rfl wd_L_12 okX5_init rfl rfl (show 12 + 1 ≤ d by omega) (by omega) (by omega) (c_init5 z3 o3 (by omega)) ?_
  rintro v12 h4 ⟨rfl, z4, hY, f4⟩
  refine s_astore_n (n := 16) (i := 2) (ls' := [_, _, _, _]) dL_law_15 rfl rfl rfl rfl rfl ?_
  refine s_iconst (n := 17) (v := 0) dL_law_16 rfl (by decide) ?_
  refine s_istore_n (n := 18) (i := 3) (ls' := [_, _, _, _]) dL_law_17 rfl rfl rfl rfl rfl ?_
  have hX2 := XS_mv hX (fun j hj => (f4 j hj).trans (f3 j (by omega)))
  exact wp_uc (by omega) (by omega) (lw_loop hd hL 64 0 (by omega) (by omega) h4 sg0 ta0 hX2 hY CR_0)

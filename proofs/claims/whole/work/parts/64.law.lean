/-! the law's cases -/
theorem zsc {l : List Int32} {d M pc i j : Nat} {ls : zL} {st : List Value} {S : zS} {h : zH} {Q : Option Value → zH → Prop} {e : zM} {x : Int32} (he : z_M[M]? = some e) (hf : e.2.2.2.2.2.lookup pc = some (.iaload, 1)) (hl : l.length ≤ 448) (hij : i + j < l.length) (hx : x = nI (i + j)) (k : zP (some l) d M (pc + 1) ls (.int (l.getD (i + j) 0) :: st) S h Q) : zP (some l) d M pc ls (.int x :: .ref 100000 :: st) S h Q := by
  subst hx
  refine zro (l := l) he hf (by decide) rfl (vp_in_nI hij (by omega)) ?_
  rw [nI_clamp (by omega)]
  exact k
theorem lg_cmp0 (x : Int64) : lg_cmp x x = 0 := by
  unfold lg_cmp
  rw [if_neg (Int64.lt_irrefl), if_pos rfl]
theorem kl20_13 : z_cal 20 13 = some (76, 0, 1) := by decide +kernel
theorem kl20_17 : z_cal 20 17 = some (129, 0, 1) := by decide +kernel
theorem kl20_18 : z_cal 20 18 = some (77, 0, 6) := by decide +kernel
theorem kl20_22 : z_cal 20 22 = some (135, 0, 6) := by decide +kernel
theorem kl20_23 : z_cal 20 23 = some (78, 0, 2) := by decide +kernel
theorem kl20_27 : z_cal 20 27 = some (139, 0, 2) := by decide +kernel
theorem kl20_28 : z_cal 20 28 = some (79, 0, 2) := by decide +kernel
theorem kl20_31 : z_cal 20 31 = some (140, 0, 2) := by decide +kernel
theorem kl20_32 : z_cal 20 32 = some (81, 0, 2) := by decide +kernel
theorem kl20_35 : z_cal 20 35 = some (141, 0, 2) := by decide +kernel
theorem kl20_36 : z_cal 20 36 = some (82, 0, 1) := by decide +kernel
theorem kl20_39 : z_cal 20 39 = some (142, 0, 1) := by decide +kernel
theorem kl20_40 : z_cal 20 40 = some (83, 0, 1) := by decide +kernel
theorem kl20_43 : z_cal 20 43 = some (143, 0, 1) := by decide +kernel
theorem kl20_44 : z_cal 20 44 = some (84, 0, 2) := by decide +kernel
theorem kl20_47 : z_cal 20 47 = some (144, 0, 2) := by decide +kernel
theorem kl20_48 : z_cal 20 48 = some (85, 0, 3) := by decide +kernel
theorem kl20_52 : z_cal 20 52 = some (145, 0, 3) := by decide +kernel
theorem kl20_53 : z_cal 20 53 = some (86, 0, 3) := by decide +kernel
theorem kl20_56 : z_cal 20 56 = some (147, 0, 3) := by decide +kernel
theorem kc20_57 : z_con 20 57 = some (.long (4294967295)) := by decide +kernel
theorem kl20_59 : z_cal 20 59 = some (87, 0, 2) := by decide +kernel
theorem kl20_63 : z_cal 20 63 = some (148, 0, 2) := by decide +kernel
theorem kl20_64 : z_cal 20 64 = some (88, 0, 0) := by decide +kernel
theorem kl20_68 : z_cal 20 68 = some (165, 0, 0) := by decide +kernel
theorem kl20_69 : z_cal 20 69 = some (89, 0, 3) := by decide +kernel
theorem kl20_72 : z_cal 20 72 = some (170, 0, 3) := by decide +kernel
theorem kl20_73 : z_cal 20 73 = some (90, 0, 2) := by decide +kernel
theorem kl20_76 : z_cal 20 76 = some (172, 0, 2) := by decide +kernel
theorem kl20_77 : z_cal 20 77 = some (91, 0, 2) := by decide +kernel
theorem kl20_81 : z_cal 20 81 = some (173, 0, 2) := by decide +kernel
theorem kl20_82 : z_cal 20 82 = some (93, 0, 3) := by decide +kernel
theorem kl20_86 : z_cal 20 86 = some (176, 0, 3) := by decide +kernel
theorem kl20_87 : z_cal 20 87 = some (94, 0, 3) := by decide +kernel
theorem kl20_90 : z_cal 20 90 = some (177, 0, 3) := by decide +kernel
theorem kl20_91 : z_cal 20 91 = some (95, 0, 1) := by decide +kernel
theorem kl20_94 : z_cal 20 94 = some (179, 0, 1) := by decide +kernel
theorem kl20_95 : z_cal 20 95 = some (97, 0, 1) := by decide +kernel
theorem kl20_99 : z_cal 20 99 = some (180, 0, 1) := by decide +kernel
theorem kl20_100 : z_cal 20 100 = some (99, 0, 4) := by decide +kernel
theorem kl20_104 : z_cal 20 104 = some (181, 0, 4) := by decide +kernel
theorem kl20_105 : z_cal 20 105 = some (100, 0, 1) := by decide +kernel
theorem kl20_108 : z_cal 20 108 = some (183, 0, 1) := by decide +kernel
theorem kl20_109 : z_cal 20 109 = some (101, 0, 3) := by decide +kernel
theorem kl20_112 : z_cal 20 112 = some (187, 0, 3) := by decide +kernel
theorem kl20_113 : z_cal 20 113 = some (102, 0, 2) := by decide +kernel
theorem kl20_116 : z_cal 20 116 = some (188, 0, 2) := by decide +kernel
theorem kl20_117 : z_cal 20 117 = some (103, 0, 4) := by decide +kernel
theorem kl20_121 : z_cal 20 121 = some (190, 0, 4) := by decide +kernel
theorem kl20_122 : z_cal 20 122 = some (105, 0, 3) := by decide +kernel
theorem kl20_125 : z_cal 20 125 = some (191, 0, 3) := by decide +kernel
theorem kl20_126 : z_cal 20 126 = some (106, 0, 2) := by decide +kernel
theorem kl20_129 : z_cal 20 129 = some (194, 0, 2) := by decide +kernel
theorem kl20_130 : z_cal 20 130 = some (107, 0, 2) := by decide +kernel
theorem kl20_133 : z_cal 20 133 = some (195, 0, 2) := by decide +kernel
theorem kl20_134 : z_cal 20 134 = some (108, 0, 2) := by decide +kernel
theorem kl20_137 : z_cal 20 137 = some (198, 0, 2) := by decide +kernel
theorem kl20_138 : z_cal 20 138 = some (109, 0, 2) := by decide +kernel
theorem kl20_141 : z_cal 20 141 = some (199, 0, 2) := by decide +kernel
theorem kl20_142 : z_cal 20 142 = some (110, 0, 2) := by decide +kernel
theorem kl20_145 : z_cal 20 145 = some (200, 0, 2) := by decide +kernel
theorem kl20_146 : z_cal 20 146 = some (111, 0, 1) := by decide +kernel
theorem kl20_149 : z_cal 20 149 = some (203, 0, 1) := by decide +kernel
theorem kl20_150 : z_cal 20 150 = some (112, 0, 1) := by decide +kernel
theorem kl20_153 : z_cal 20 153 = some (204, 0, 1) := by decide +kernel
theorem kl20_154 : z_cal 20 154 = some (113, 0, 3) := by decide +kernel
theorem kl20_157 : z_cal 20 157 = some (206, 0, 3) := by decide +kernel
theorem kl20_158 : z_cal 20 158 = some (114, 0, 3) := by decide +kernel
theorem kl20_161 : z_cal 20 161 = some (208, 0, 3) := by decide +kernel
theorem kl20_162 : z_cal 20 162 = some (115, 0, 5) := by decide +kernel
theorem kl20_166 : z_cal 20 166 = some (209, 0, 5) := by decide +kernel
theorem kl20_167 : z_cal 20 167 = some (116, 0, 6) := by decide +kernel
theorem kl20_170 : z_cal 20 170 = some (210, 0, 6) := by decide +kernel
theorem kl20_171 : z_cal 20 171 = some (118, 0, 2) := by decide +kernel
theorem kl20_174 : z_cal 20 174 = some (211, 0, 2) := by decide +kernel
theorem lw0 {l : List Int32} {d i : Nat} {h : zH} {A : Int32 → zH → Prop} (hl : l.length ≤ 448) (hi : i + 7 ≤ l.length) (R : zR h) (K : ∀ h', zR h' → zP (some l) (d + 61) 0 1596 [some (.ref 100000), some (.ref 0), some (.ref 82), some (.int (nI i))] [] z_S0 h' (zI A)) : zP (some l) (d + 61) 0 196 [some (.ref 100000), some (.ref 0), some (.ref 82), some (.int (nI i))] [] z_S0 h (zI A) := by
  refine zl zM0 q0_196 rfl ?_
  refine zl zM0 q0_197 rfl ?_
  refine zl zM0 q0_198 rfl ?_
  refine zkI zM0 q0_199 kI1 ?_
  refine zl zM0 q0_200 (pc' := 201) (st' := .int (nI i + 1) :: _) rfl ?_
  refine zsc zM0 q0_201 hl (show i + 1 < l.length by omega) (nI_add i 1) ?_
  refine zcV zM0 q0_202 kl20_13 rfl rfl (Nat.le_of_ble_eq_true rfl) rfl zM76 (Nat.le_of_ble_eq_true rfl) ((q_pass R).mono (fun r0 h1 hr => ?_))
  obtain ⟨v, rfl, k1⟩ := hr
  show zP (some l) (d + 61) 0 205 [some (.ref 100000), some (.ref 0), some (.ref 82), some (.int (nI i))] [.int v] z_S0 h1 (zI A)
  refine zl zM0 q0_205 rfl ?_
  refine zl zM0 q0_206 rfl ?_
  refine zl zM0 q0_207 rfl ?_
  refine zkI zM0 q0_208 kI1 ?_
  refine zl zM0 q0_209 (pc' := 210) (st' := .int (nI i + 1) :: _) rfl ?_
  refine zsc zM0 q0_210 hl (show i + 1 < l.length by omega) (nI_add i 1) ?_
  refine zcV zM0 q0_211 kl20_17 rfl rfl (Nat.le_of_ble_eq_true rfl) rfl zM129 (Nat.le_of_ble_eq_true rfl) (k1.mono (fun r1 h2 hr => ?_))
  obtain ⟨w, rfl, e, R2⟩ := hr
  show zP (some l) (d + 61) 0 214 [some (.ref 100000), some (.ref 0), some (.ref 82), some (.int (nI i))] [.int w, .int v] z_S0 h2 (zI A)
  exact zb2_eq zM0 q0_214 (tgt := 1596) rfl (fun _ => K h2 R2) (fun hc => absurd e hc)
theorem lw1 {l : List Int32} {d i : Nat} {h : zH} {A : Int32 → zH → Prop} (hl : l.length ≤ 448) (hi : i + 7 ≤ l.length) (R : zR h) (K : ∀ h', zR h' → zP (some l) (d + 61) 0 1596 [some (.ref 100000), some (.ref 0), some (.ref 82), some (.int (nI i))] [] z_S0 h' (zI A)) : zP (some l) (d + 61) 0 219 [some (.ref 100000), some (.ref 0), some (.ref 82), some (.int (nI i))] [] z_S0 h (zI A) := by
  refine zl zM0 q0_219 rfl ?_
  refine zl zM0 q0_220 rfl ?_
  refine zl zM0 q0_221 rfl ?_
  refine zkI zM0 q0_222 kI1 ?_
  refine zl zM0 q0_223 (pc' := 224) (st' := .int (nI i + 1) :: _) rfl ?_
  refine zsc zM0 q0_224 hl (show i + 1 < l.length by omega) (nI_add i 1) ?_
  refine zl zM0 q0_225 rfl ?_
  refine zl zM0 q0_226 rfl ?_
  refine zkI zM0 q0_227 kI2 ?_
  refine zl zM0 q0_228 (pc' := 229) (st' := .int (nI i + 2) :: _) rfl ?_
  refine zsc zM0 q0_229 hl (show i + 2 < l.length by omega) (nI_add i 2) ?_
  refine zl zM0 q0_230 rfl ?_
  refine zl zM0 q0_231 rfl ?_
  refine zkI zM0 q0_232 kI3 ?_
  refine zl zM0 q0_233 (pc' := 234) (st' := .int (nI i + 3) :: _) rfl ?_
  refine zsc zM0 q0_234 hl (show i + 3 < l.length by omega) (nI_add i 3) ?_
  refine zl zM0 q0_235 rfl ?_
  refine zl zM0 q0_236 rfl ?_
  refine zkI zM0 q0_237 kI4 ?_
  refine zl zM0 q0_238 (pc' := 239) (st' := .int (nI i + 4) :: _) rfl ?_
  refine zsc zM0 q0_239 hl (show i + 4 < l.length by omega) (nI_add i 4) ?_
  refine zl zM0 q0_240 rfl ?_
  refine zl zM0 q0_241 rfl ?_
  refine zkI zM0 q0_242 kI5 ?_
  refine zl zM0 q0_243 (pc' := 244) (st' := .int (nI i + 5) :: _) rfl ?_
  refine zsc zM0 q0_244 hl (show i + 5 < l.length by omega) (nI_add i 5) ?_
  refine zl zM0 q0_245 rfl ?_
  refine zl zM0 q0_246 rfl ?_
  refine zkB zM0 q0_247 kB6 ?_
  refine zl zM0 q0_249 (pc' := 250) (st' := .int (nI i + 6) :: _) rfl ?_
  refine zsc zM0 q0_250 hl (show i + 6 < l.length by omega) (nI_add i 6) ?_
  refine zcV zM0 q0_251 kl20_18 rfl rfl (Nat.le_of_ble_eq_true rfl) rfl zM77 (Nat.le_of_ble_eq_true rfl) ((q_cart R).mono (fun r0 h1 hr => ?_))
  obtain ⟨v, rfl, k1⟩ := hr
  show zP (some l) (d + 61) 0 254 [some (.ref 100000), some (.ref 0), some (.ref 82), some (.int (nI i))] [.int v] z_S0 h1 (zI A)
  refine zl zM0 q0_254 rfl ?_
  refine zl zM0 q0_255 rfl ?_
  refine zl zM0 q0_256 rfl ?_
  refine zkI zM0 q0_257 kI1 ?_
  refine zl zM0 q0_258 (pc' := 259) (st' := .int (nI i + 1) :: _) rfl ?_
  refine zsc zM0 q0_259 hl (show i + 1 < l.length by omega) (nI_add i 1) ?_
  refine zl zM0 q0_260 rfl ?_
  refine zl zM0 q0_261 rfl ?_
  refine zkI zM0 q0_262 kI2 ?_
  refine zl zM0 q0_263 (pc' := 264) (st' := .int (nI i + 2) :: _) rfl ?_
  refine zsc zM0 q0_264 hl (show i + 2 < l.length by omega) (nI_add i 2) ?_
  refine zl zM0 q0_265 rfl ?_
  refine zl zM0 q0_266 rfl ?_
  refine zkI zM0 q0_267 kI3 ?_
  refine zl zM0 q0_268 (pc' := 269) (st' := .int (nI i + 3) :: _) rfl ?_
  refine zsc zM0 q0_269 hl (show i + 3 < l.length by omega) (nI_add i 3) ?_
  refine zl zM0 q0_270 rfl ?_
  refine zl zM0 q0_271 rfl ?_
  refine zkI zM0 q0_272 kI4 ?_
  refine zl zM0 q0_273 (pc' := 274) (st' := .int (nI i + 4) :: _) rfl ?_
  refine zsc zM0 q0_274 hl (show i + 4 < l.length by omega) (nI_add i 4) ?_
  refine zl zM0 q0_275 rfl ?_
  refine zl zM0 q0_276 rfl ?_
  refine zkI zM0 q0_277 kI5 ?_
  refine zl zM0 q0_278 (pc' := 279) (st' := .int (nI i + 5) :: _) rfl ?_
  refine zsc zM0 q0_279 hl (show i + 5 < l.length by omega) (nI_add i 5) ?_
  refine zl zM0 q0_280 rfl ?_
  refine zl zM0 q0_281 rfl ?_
  refine zkB zM0 q0_282 kB6 ?_
  refine zl zM0 q0_284 (pc' := 285) (st' := .int (nI i + 6) :: _) rfl ?_
  refine zsc zM0 q0_285 hl (show i + 6 < l.length by omega) (nI_add i 6) ?_
  refine zcV zM0 q0_286 kl20_22 rfl rfl (Nat.le_of_ble_eq_true rfl) rfl zM135 (Nat.le_of_ble_eq_true rfl) (k1.mono (fun r1 h2 hr => ?_))
  obtain ⟨w, rfl, e, R2⟩ := hr
  show zP (some l) (d + 61) 0 289 [some (.ref 100000), some (.ref 0), some (.ref 82), some (.int (nI i))] [.int w, .int v] z_S0 h2 (zI A)
  exact zb2_eq zM0 q0_289 (tgt := 1596) rfl (fun _ => K h2 R2) (fun hc => absurd e hc)
theorem lw2 {l : List Int32} {d i : Nat} {h : zH} {A : Int32 → zH → Prop} (hl : l.length ≤ 448) (hi : i + 7 ≤ l.length) (R : zR h) (K : ∀ h', zR h' → zP (some l) (d + 61) 0 1596 [some (.ref 100000), some (.ref 0), some (.ref 82), some (.int (nI i))] [] z_S0 h' (zI A)) : zP (some l) (d + 61) 0 294 [some (.ref 100000), some (.ref 0), some (.ref 82), some (.int (nI i))] [] z_S0 h (zI A) := by
  refine zl zM0 q0_294 rfl ?_
  refine zl zM0 q0_295 rfl ?_
  refine zl zM0 q0_296 rfl ?_
  refine zkI zM0 q0_297 kI1 ?_
  refine zl zM0 q0_298 (pc' := 299) (st' := .int (nI i + 1) :: _) rfl ?_
  refine zsc zM0 q0_299 hl (show i + 1 < l.length by omega) (nI_add i 1) ?_
  refine zl zM0 q0_300 rfl ?_
  refine zl zM0 q0_301 rfl ?_
  refine zkI zM0 q0_302 kI2 ?_
  refine zl zM0 q0_303 (pc' := 304) (st' := .int (nI i + 2) :: _) rfl ?_
  refine zsc zM0 q0_304 hl (show i + 2 < l.length by omega) (nI_add i 2) ?_
  refine zcV zM0 q0_305 kl20_23 rfl rfl (Nat.le_of_ble_eq_true rfl) rfl zM78 (Nat.le_of_ble_eq_true rfl) ((q_cartTold R).mono (fun r0 h1 hr => ?_))
  obtain ⟨v, rfl, k1⟩ := hr
  show zP (some l) (d + 61) 0 308 [some (.ref 100000), some (.ref 0), some (.ref 82), some (.int (nI i))] [.int v] z_S0 h1 (zI A)
  refine zl zM0 q0_308 rfl ?_
  refine zl zM0 q0_309 rfl ?_
  refine zl zM0 q0_310 rfl ?_
  refine zkI zM0 q0_311 kI1 ?_
  refine zl zM0 q0_312 (pc' := 313) (st' := .int (nI i + 1) :: _) rfl ?_
  refine zsc zM0 q0_313 hl (show i + 1 < l.length by omega) (nI_add i 1) ?_
  refine zl zM0 q0_314 rfl ?_
  refine zl zM0 q0_315 rfl ?_
  refine zkI zM0 q0_316 kI2 ?_
  refine zl zM0 q0_317 (pc' := 318) (st' := .int (nI i + 2) :: _) rfl ?_
  refine zsc zM0 q0_318 hl (show i + 2 < l.length by omega) (nI_add i 2) ?_
  refine zcV zM0 q0_319 kl20_27 rfl rfl (Nat.le_of_ble_eq_true rfl) rfl zM139 (Nat.le_of_ble_eq_true rfl) (k1.mono (fun r1 h2 hr => ?_))
  obtain ⟨w, rfl, e, R2⟩ := hr
  show zP (some l) (d + 61) 0 322 [some (.ref 100000), some (.ref 0), some (.ref 82), some (.int (nI i))] [.int w, .int v] z_S0 h2 (zI A)
  exact zb2_eq zM0 q0_322 (tgt := 1596) rfl (fun _ => K h2 R2) (fun hc => absurd e hc)
theorem lw3 {l : List Int32} {d i : Nat} {h : zH} {A : Int32 → zH → Prop} (hl : l.length ≤ 448) (hi : i + 7 ≤ l.length) (R : zR h) (K : ∀ h', zR h' → zP (some l) (d + 61) 0 1596 [some (.ref 100000), some (.ref 0), some (.ref 82), some (.int (nI i))] [] z_S0 h' (zI A)) : zP (some l) (d + 61) 0 327 [some (.ref 100000), some (.ref 0), some (.ref 82), some (.int (nI i))] [] z_S0 h (zI A) := by
  refine zl zM0 q0_327 rfl ?_
  refine zl zM0 q0_328 rfl ?_
  refine zl zM0 q0_329 rfl ?_
  refine zkI zM0 q0_330 kI1 ?_
  refine zl zM0 q0_331 (pc' := 332) (st' := .int (nI i + 1) :: _) rfl ?_
  refine zsc zM0 q0_332 hl (show i + 1 < l.length by omega) (nI_add i 1) ?_
  refine zl zM0 q0_333 rfl ?_
  refine zl zM0 q0_334 rfl ?_
  refine zkI zM0 q0_335 kI2 ?_
  refine zl zM0 q0_336 (pc' := 337) (st' := .int (nI i + 2) :: _) rfl ?_
  refine zsc zM0 q0_337 hl (show i + 2 < l.length by omega) (nI_add i 2) ?_
  refine zcV zM0 q0_338 kl20_28 rfl rfl (Nat.le_of_ble_eq_true rfl) rfl zM79 (Nat.le_of_ble_eq_true rfl) ((q_sift R).mono (fun r0 h1 hr => ?_))
  obtain ⟨v, rfl, k1⟩ := hr
  show zP (some l) (d + 61) 0 341 [some (.ref 100000), some (.ref 0), some (.ref 82), some (.int (nI i))] [.int v] z_S0 h1 (zI A)
  refine zl zM0 q0_341 rfl ?_
  refine zl zM0 q0_342 rfl ?_
  refine zl zM0 q0_343 rfl ?_
  refine zkI zM0 q0_344 kI1 ?_
  refine zl zM0 q0_345 (pc' := 346) (st' := .int (nI i + 1) :: _) rfl ?_
  refine zsc zM0 q0_346 hl (show i + 1 < l.length by omega) (nI_add i 1) ?_
  refine zl zM0 q0_347 rfl ?_
  refine zl zM0 q0_348 rfl ?_
  refine zkI zM0 q0_349 kI2 ?_
  refine zl zM0 q0_350 (pc' := 351) (st' := .int (nI i + 2) :: _) rfl ?_
  refine zsc zM0 q0_351 hl (show i + 2 < l.length by omega) (nI_add i 2) ?_
  refine zcV zM0 q0_352 kl20_31 rfl rfl (Nat.le_of_ble_eq_true rfl) rfl zM140 (Nat.le_of_ble_eq_true rfl) (k1.mono (fun r1 h2 hr => ?_))
  obtain ⟨w, rfl, e, R2⟩ := hr
  show zP (some l) (d + 61) 0 355 [some (.ref 100000), some (.ref 0), some (.ref 82), some (.int (nI i))] [.int w, .int v] z_S0 h2 (zI A)
  exact zb2_eq zM0 q0_355 (tgt := 1596) rfl (fun _ => K h2 R2) (fun hc => absurd e hc)
theorem lw4 {l : List Int32} {d i : Nat} {h : zH} {A : Int32 → zH → Prop} (hl : l.length ≤ 448) (hi : i + 7 ≤ l.length) (R : zR h) (K : ∀ h', zR h' → zP (some l) (d + 61) 0 1596 [some (.ref 100000), some (.ref 0), some (.ref 82), some (.int (nI i))] [] z_S0 h' (zI A)) : zP (some l) (d + 61) 0 360 [some (.ref 100000), some (.ref 0), some (.ref 82), some (.int (nI i))] [] z_S0 h (zI A) := by
  refine zl zM0 q0_360 rfl ?_
  refine zl zM0 q0_361 rfl ?_
  refine zl zM0 q0_362 rfl ?_
  refine zkI zM0 q0_363 kI1 ?_
  refine zl zM0 q0_364 (pc' := 365) (st' := .int (nI i + 1) :: _) rfl ?_
  refine zsc zM0 q0_365 hl (show i + 1 < l.length by omega) (nI_add i 1) ?_
  refine zl zM0 q0_366 rfl ?_
  refine zl zM0 q0_367 rfl ?_
  refine zkI zM0 q0_368 kI2 ?_
  refine zl zM0 q0_369 (pc' := 370) (st' := .int (nI i + 2) :: _) rfl ?_
  refine zsc zM0 q0_370 hl (show i + 2 < l.length by omega) (nI_add i 2) ?_
  refine zcV zM0 q0_371 kl20_32 rfl rfl (Nat.le_of_ble_eq_true rfl) rfl zM81 (Nat.le_of_ble_eq_true rfl) ((q_fire R).mono (fun r0 h1 hr => ?_))
  obtain ⟨v, rfl, k1⟩ := hr
  show zP (some l) (d + 61) 0 374 [some (.ref 100000), some (.ref 0), some (.ref 82), some (.int (nI i))] [.int v] z_S0 h1 (zI A)
  refine zl zM0 q0_374 rfl ?_
  refine zl zM0 q0_375 rfl ?_
  refine zl zM0 q0_376 rfl ?_
  refine zkI zM0 q0_377 kI1 ?_
  refine zl zM0 q0_378 (pc' := 379) (st' := .int (nI i + 1) :: _) rfl ?_
  refine zsc zM0 q0_379 hl (show i + 1 < l.length by omega) (nI_add i 1) ?_
  refine zl zM0 q0_380 rfl ?_
  refine zl zM0 q0_381 rfl ?_
  refine zkI zM0 q0_382 kI2 ?_
  refine zl zM0 q0_383 (pc' := 384) (st' := .int (nI i + 2) :: _) rfl ?_
  refine zsc zM0 q0_384 hl (show i + 2 < l.length by omega) (nI_add i 2) ?_
  refine zcV zM0 q0_385 kl20_35 rfl rfl (Nat.le_of_ble_eq_true rfl) rfl zM141 (Nat.le_of_ble_eq_true rfl) (k1.mono (fun r1 h2 hr => ?_))
  obtain ⟨w, rfl, e, R2⟩ := hr
  show zP (some l) (d + 61) 0 388 [some (.ref 100000), some (.ref 0), some (.ref 82), some (.int (nI i))] [.int w, .int v] z_S0 h2 (zI A)
  exact zb2_eq zM0 q0_388 (tgt := 1596) rfl (fun _ => K h2 R2) (fun hc => absurd e hc)
theorem lw5 {l : List Int32} {d i : Nat} {h : zH} {A : Int32 → zH → Prop} (hl : l.length ≤ 448) (hi : i + 7 ≤ l.length) (R : zR h) (K : ∀ h', zR h' → zP (some l) (d + 61) 0 1596 [some (.ref 100000), some (.ref 0), some (.ref 82), some (.int (nI i))] [] z_S0 h' (zI A)) : zP (some l) (d + 61) 0 393 [some (.ref 100000), some (.ref 0), some (.ref 82), some (.int (nI i))] [] z_S0 h (zI A) := by
  refine zl zM0 q0_393 rfl ?_
  refine zl zM0 q0_394 rfl ?_
  refine zl zM0 q0_395 rfl ?_
  refine zkI zM0 q0_396 kI1 ?_
  refine zl zM0 q0_397 (pc' := 398) (st' := .int (nI i + 1) :: _) rfl ?_
  refine zsc zM0 q0_398 hl (show i + 1 < l.length by omega) (nI_add i 1) ?_
  refine zcV zM0 q0_399 kl20_36 rfl rfl (Nat.le_of_ble_eq_true rfl) rfl zM82 (Nat.le_of_ble_eq_true rfl) ((q_lies R).mono (fun r0 h1 hr => ?_))
  obtain ⟨v, rfl, k1⟩ := hr
  show zP (some l) (d + 61) 0 402 [some (.ref 100000), some (.ref 0), some (.ref 82), some (.int (nI i))] [.int v] z_S0 h1 (zI A)
  refine zl zM0 q0_402 rfl ?_
  refine zl zM0 q0_403 rfl ?_
  refine zl zM0 q0_404 rfl ?_
  refine zkI zM0 q0_405 kI1 ?_
  refine zl zM0 q0_406 (pc' := 407) (st' := .int (nI i + 1) :: _) rfl ?_
  refine zsc zM0 q0_407 hl (show i + 1 < l.length by omega) (nI_add i 1) ?_
  refine zcV zM0 q0_408 kl20_39 rfl rfl (Nat.le_of_ble_eq_true rfl) rfl zM142 (Nat.le_of_ble_eq_true rfl) (k1.mono (fun r1 h2 hr => ?_))
  obtain ⟨w, rfl, e, R2⟩ := hr
  show zP (some l) (d + 61) 0 411 [some (.ref 100000), some (.ref 0), some (.ref 82), some (.int (nI i))] [.int w, .int v] z_S0 h2 (zI A)
  exact zb2_eq zM0 q0_411 (tgt := 1596) rfl (fun _ => K h2 R2) (fun hc => absurd e hc)
theorem lw6 {l : List Int32} {d i : Nat} {h : zH} {A : Int32 → zH → Prop} (hl : l.length ≤ 448) (hi : i + 7 ≤ l.length) (R : zR h) (K : ∀ h', zR h' → zP (some l) (d + 61) 0 1596 [some (.ref 100000), some (.ref 0), some (.ref 82), some (.int (nI i))] [] z_S0 h' (zI A)) : zP (some l) (d + 61) 0 416 [some (.ref 100000), some (.ref 0), some (.ref 82), some (.int (nI i))] [] z_S0 h (zI A) := by
  refine zl zM0 q0_416 rfl ?_
  refine zl zM0 q0_417 rfl ?_
  refine zl zM0 q0_418 rfl ?_
  refine zkI zM0 q0_419 kI1 ?_
  refine zl zM0 q0_420 (pc' := 421) (st' := .int (nI i + 1) :: _) rfl ?_
  refine zsc zM0 q0_421 hl (show i + 1 < l.length by omega) (nI_add i 1) ?_
  refine zcV zM0 q0_422 kl20_40 rfl rfl (Nat.le_of_ble_eq_true rfl) rfl zM83 (Nat.le_of_ble_eq_true rfl) ((q_stock R).mono (fun r0 h1 hr => ?_))
  obtain ⟨v, rfl, k1⟩ := hr
  show zP (some l) (d + 61) 0 425 [some (.ref 100000), some (.ref 0), some (.ref 82), some (.int (nI i))] [.int v] z_S0 h1 (zI A)
  refine zl zM0 q0_425 rfl ?_
  refine zl zM0 q0_426 rfl ?_
  refine zl zM0 q0_427 rfl ?_
  refine zkI zM0 q0_428 kI1 ?_
  refine zl zM0 q0_429 (pc' := 430) (st' := .int (nI i + 1) :: _) rfl ?_
  refine zsc zM0 q0_430 hl (show i + 1 < l.length by omega) (nI_add i 1) ?_
  refine zcV zM0 q0_431 kl20_43 rfl rfl (Nat.le_of_ble_eq_true rfl) rfl zM143 (Nat.le_of_ble_eq_true rfl) (k1.mono (fun r1 h2 hr => ?_))
  obtain ⟨w, rfl, e, R2⟩ := hr
  show zP (some l) (d + 61) 0 434 [some (.ref 100000), some (.ref 0), some (.ref 82), some (.int (nI i))] [.int w, .int v] z_S0 h2 (zI A)
  exact zb2_eq zM0 q0_434 (tgt := 1596) rfl (fun _ => K h2 R2) (fun hc => absurd e hc)
theorem lw7 {l : List Int32} {d i : Nat} {h : zH} {A : Int32 → zH → Prop} (hl : l.length ≤ 448) (hi : i + 7 ≤ l.length) (R : zR h) (K : ∀ h', zR h' → zP (some l) (d + 61) 0 1596 [some (.ref 100000), some (.ref 0), some (.ref 82), some (.int (nI i))] [] z_S0 h' (zI A)) : zP (some l) (d + 61) 0 439 [some (.ref 100000), some (.ref 0), some (.ref 82), some (.int (nI i))] [] z_S0 h (zI A) := by
  refine zl zM0 q0_439 rfl ?_
  refine zl zM0 q0_440 rfl ?_
  refine zl zM0 q0_441 rfl ?_
  refine zkI zM0 q0_442 kI1 ?_
  refine zl zM0 q0_443 (pc' := 444) (st' := .int (nI i + 1) :: _) rfl ?_
  refine zsc zM0 q0_444 hl (show i + 1 < l.length by omega) (nI_add i 1) ?_
  refine zl zM0 q0_445 rfl ?_
  refine zl zM0 q0_446 rfl ?_
  refine zkI zM0 q0_447 kI2 ?_
  refine zl zM0 q0_448 (pc' := 449) (st' := .int (nI i + 2) :: _) rfl ?_
  refine zsc zM0 q0_449 hl (show i + 2 < l.length by omega) (nI_add i 2) ?_
  refine zcV zM0 q0_450 kl20_44 rfl rfl (Nat.le_of_ble_eq_true rfl) rfl zM84 (Nat.le_of_ble_eq_true rfl) ((q_sell R).mono (fun r0 h1 hr => ?_))
  obtain ⟨v, rfl, k1⟩ := hr
  show zP (some l) (d + 61) 0 453 [some (.ref 100000), some (.ref 0), some (.ref 82), some (.int (nI i))] [.int v] z_S0 h1 (zI A)
  refine zl zM0 q0_453 rfl ?_
  refine zl zM0 q0_454 rfl ?_
  refine zl zM0 q0_455 rfl ?_
  refine zkI zM0 q0_456 kI1 ?_
  refine zl zM0 q0_457 (pc' := 458) (st' := .int (nI i + 1) :: _) rfl ?_
  refine zsc zM0 q0_458 hl (show i + 1 < l.length by omega) (nI_add i 1) ?_
  refine zl zM0 q0_459 rfl ?_
  refine zl zM0 q0_460 rfl ?_
  refine zkI zM0 q0_461 kI2 ?_
  refine zl zM0 q0_462 (pc' := 463) (st' := .int (nI i + 2) :: _) rfl ?_
  refine zsc zM0 q0_463 hl (show i + 2 < l.length by omega) (nI_add i 2) ?_
  refine zcV zM0 q0_464 kl20_47 rfl rfl (Nat.le_of_ble_eq_true rfl) rfl zM144 (Nat.le_of_ble_eq_true rfl) (k1.mono (fun r1 h2 hr => ?_))
  obtain ⟨w, rfl, e, R2⟩ := hr
  show zP (some l) (d + 61) 0 467 [some (.ref 100000), some (.ref 0), some (.ref 82), some (.int (nI i))] [.int w, .int v] z_S0 h2 (zI A)
  exact zb2_eq zM0 q0_467 (tgt := 1596) rfl (fun _ => K h2 R2) (fun hc => absurd e hc)
theorem lw8 {l : List Int32} {d i : Nat} {h : zH} {A : Int32 → zH → Prop} (hl : l.length ≤ 448) (hi : i + 7 ≤ l.length) (R : zR h) (K : ∀ h', zR h' → zP (some l) (d + 61) 0 1596 [some (.ref 100000), some (.ref 0), some (.ref 82), some (.int (nI i))] [] z_S0 h' (zI A)) : zP (some l) (d + 61) 0 472 [some (.ref 100000), some (.ref 0), some (.ref 82), some (.int (nI i))] [] z_S0 h (zI A) := by
  refine zl zM0 q0_472 rfl ?_
  refine zl zM0 q0_473 rfl ?_
  refine zl zM0 q0_474 rfl ?_
  refine zkI zM0 q0_475 kI1 ?_
  refine zl zM0 q0_476 (pc' := 477) (st' := .int (nI i + 1) :: _) rfl ?_
  refine zsc zM0 q0_477 hl (show i + 1 < l.length by omega) (nI_add i 1) ?_
  refine zl zM0 q0_478 rfl ?_
  refine zl zM0 q0_479 rfl ?_
  refine zkI zM0 q0_480 kI2 ?_
  refine zl zM0 q0_481 (pc' := 482) (st' := .int (nI i + 2) :: _) rfl ?_
  refine zsc zM0 q0_482 hl (show i + 2 < l.length by omega) (nI_add i 2) ?_
  refine zl zM0 q0_483 rfl ?_
  refine zl zM0 q0_484 rfl ?_
  refine zkI zM0 q0_485 kI3 ?_
  refine zl zM0 q0_486 (pc' := 487) (st' := .int (nI i + 3) :: _) rfl ?_
  refine zsc zM0 q0_487 hl (show i + 3 < l.length by omega) (nI_add i 3) ?_
  refine zcV zM0 q0_488 kl20_48 rfl rfl (Nat.le_of_ble_eq_true rfl) rfl zM85 (Nat.le_of_ble_eq_true rfl) ((q_price R).mono (fun r0 h1 hr => ?_))
  obtain ⟨v, rfl, k1⟩ := hr
  show zP (some l) (d + 61) 0 491 [some (.ref 100000), some (.ref 0), some (.ref 82), some (.int (nI i))] [.int v] z_S0 h1 (zI A)
  refine zl zM0 q0_491 rfl ?_
  refine zl zM0 q0_492 rfl ?_
  refine zl zM0 q0_493 rfl ?_
  refine zkI zM0 q0_494 kI1 ?_
  refine zl zM0 q0_495 (pc' := 496) (st' := .int (nI i + 1) :: _) rfl ?_
  refine zsc zM0 q0_496 hl (show i + 1 < l.length by omega) (nI_add i 1) ?_
  refine zl zM0 q0_497 rfl ?_
  refine zl zM0 q0_498 rfl ?_
  refine zkI zM0 q0_499 kI2 ?_
  refine zl zM0 q0_500 (pc' := 501) (st' := .int (nI i + 2) :: _) rfl ?_
  refine zsc zM0 q0_501 hl (show i + 2 < l.length by omega) (nI_add i 2) ?_
  refine zl zM0 q0_502 rfl ?_
  refine zl zM0 q0_503 rfl ?_
  refine zkI zM0 q0_504 kI3 ?_
  refine zl zM0 q0_505 (pc' := 506) (st' := .int (nI i + 3) :: _) rfl ?_
  refine zsc zM0 q0_506 hl (show i + 3 < l.length by omega) (nI_add i 3) ?_
  refine zcV zM0 q0_507 kl20_52 rfl rfl (Nat.le_of_ble_eq_true rfl) rfl zM145 (Nat.le_of_ble_eq_true rfl) (k1.mono (fun r1 h2 hr => ?_))
  obtain ⟨w, rfl, e, R2⟩ := hr
  show zP (some l) (d + 61) 0 510 [some (.ref 100000), some (.ref 0), some (.ref 82), some (.int (nI i))] [.int w, .int v] z_S0 h2 (zI A)
  exact zb2_eq zM0 q0_510 (tgt := 1596) rfl (fun _ => K h2 R2) (fun hc => absurd e hc)
theorem lw9 {l : List Int32} {d i : Nat} {h : zH} {A : Int32 → zH → Prop} (hl : l.length ≤ 448) (hi : i + 7 ≤ l.length) (R : zR h) (K : ∀ h', zR h' → zP (some l) (d + 61) 0 1596 [some (.ref 100000), some (.ref 0), some (.ref 82), some (.int (nI i))] [] z_S0 h' (zI A)) : zP (some l) (d + 61) 0 515 [some (.ref 100000), some (.ref 0), some (.ref 82), some (.int (nI i))] [] z_S0 h (zI A) := by
  refine zl zM0 q0_515 rfl ?_
  refine zl zM0 q0_516 rfl ?_
  refine zl zM0 q0_517 rfl ?_
  refine zkI zM0 q0_518 kI1 ?_
  refine zl zM0 q0_519 (pc' := 520) (st' := .int (nI i + 1) :: _) rfl ?_
  refine zsc zM0 q0_520 hl (show i + 1 < l.length by omega) (nI_add i 1) ?_
  refine zl zM0 q0_521 rfl ?_
  refine zl zM0 q0_522 rfl ?_
  refine zkI zM0 q0_523 kI2 ?_
  refine zl zM0 q0_524 (pc' := 525) (st' := .int (nI i + 2) :: _) rfl ?_
  refine zsc zM0 q0_525 hl (show i + 2 < l.length by omega) (nI_add i 2) ?_
  refine zl zM0 q0_526 rfl ?_
  refine zl zM0 q0_527 rfl ?_
  refine zkI zM0 q0_528 kI3 ?_
  refine zl zM0 q0_529 (pc' := 530) (st' := .int (nI i + 3) :: _) rfl ?_
  refine zsc zM0 q0_530 hl (show i + 3 < l.length by omega) (nI_add i 3) ?_
  refine zcV zM0 q0_531 kl20_53 rfl rfl (Nat.le_of_ble_eq_true rfl) rfl zM86 (Nat.le_of_ble_eq_true rfl) ((q_priceOf R).mono (fun r0 h1 hr => ?_))
  obtain ⟨v, rfl, k1⟩ := hr
  show zP (some l) (d + 61) 0 534 [some (.ref 100000), some (.ref 0), some (.ref 82), some (.int (nI i))] [.int v] z_S0 h1 (zI A)
  refine zl zM0 q0_534 rfl ?_
  refine zl zM0 q0_535 rfl ?_
  refine zl zM0 q0_536 rfl ?_
  refine zkI zM0 q0_537 kI1 ?_
  refine zl zM0 q0_538 (pc' := 539) (st' := .int (nI i + 1) :: _) rfl ?_
  refine zsc zM0 q0_539 hl (show i + 1 < l.length by omega) (nI_add i 1) ?_
  refine zl zM0 q0_540 rfl ?_
  refine zl zM0 q0_541 rfl ?_
  refine zkI zM0 q0_542 kI2 ?_
  refine zl zM0 q0_543 (pc' := 544) (st' := .int (nI i + 2) :: _) rfl ?_
  refine zsc zM0 q0_544 hl (show i + 2 < l.length by omega) (nI_add i 2) ?_
  refine zl zM0 q0_545 rfl ?_
  refine zl zM0 q0_546 rfl ?_
  refine zkI zM0 q0_547 kI3 ?_
  refine zl zM0 q0_548 (pc' := 549) (st' := .int (nI i + 3) :: _) rfl ?_
  refine zsc zM0 q0_549 hl (show i + 3 < l.length by omega) (nI_add i 3) ?_
  refine zcV zM0 q0_550 kl20_56 rfl rfl (Nat.le_of_ble_eq_true rfl) rfl zM147 (Nat.le_of_ble_eq_true rfl) (k1.mono (fun r1 h2 hr => ?_))
  obtain ⟨w, rfl, e, R2⟩ := hr
  show zP (some l) (d + 61) 0 553 [some (.ref 100000), some (.ref 0), some (.ref 82), some (.int (nI i))] [.int w, .int v] z_S0 h2 (zI A)
  exact zb2_eq zM0 q0_553 (tgt := 1596) rfl (fun _ => K h2 R2) (fun hc => absurd e hc)
theorem lw10 {l : List Int32} {d i : Nat} {h : zH} {A : Int32 → zH → Prop} (hl : l.length ≤ 448) (hi : i + 7 ≤ l.length) (R : zR h) (K : ∀ h', zR h' → zP (some l) (d + 61) 0 1596 [some (.ref 100000), some (.ref 0), some (.ref 82), some (.int (nI i))] [] z_S0 h' (zI A)) : zP (some l) (d + 61) 0 558 [some (.ref 100000), some (.ref 0), some (.ref 82), some (.int (nI i))] [] z_S0 h (zI A) := by
  refine zl zM0 q0_558 rfl ?_
  refine zl zM0 q0_559 rfl ?_
  refine zl zM0 q0_560 rfl ?_
  refine zkI zM0 q0_561 kI1 ?_
  refine zl zM0 q0_562 (pc' := 563) (st' := .int (nI i + 1) :: _) rfl ?_
  refine zsc zM0 q0_563 hl (show i + 1 < l.length by omega) (nI_add i 1) ?_
  refine zl zM0 q0_564 rfl ?_
  refine zl zM0 q0_565 rfl ?_
  refine zkI zM0 q0_566 kI2 ?_
  refine zl zM0 q0_567 (pc' := 568) (st' := .int (nI i + 2) :: _) rfl ?_
  refine zsc zM0 q0_568 hl (show i + 2 < l.length by omega) (nI_add i 2) ?_
  refine zl zM0 q0_569 rfl ?_
  refine zkB zM0 q0_570 kB32 ?_
  refine zl zM0 q0_572 rfl ?_
  refine zl zM0 q0_573 rfl ?_
  refine zl zM0 q0_574 rfl ?_
  refine zkI zM0 q0_575 kI3 ?_
  refine zl zM0 q0_576 (pc' := 577) (st' := .int (nI i + 3) :: _) rfl ?_
  refine zsc zM0 q0_577 hl (show i + 3 < l.length by omega) (nI_add i 3) ?_
  refine zl zM0 q0_578 rfl ?_
  refine zkJ zM0 q0_579 kc20_57 ?_
  refine zl zM0 q0_582 rfl ?_
  refine zl zM0 q0_583 rfl ?_
  refine zcV zM0 q0_584 kl20_59 rfl rfl (Nat.le_of_ble_eq_true rfl) rfl zM87 (Nat.le_of_ble_eq_true rfl) ((q_feed R).mono (fun r0 h1 hr => ?_))
  obtain ⟨v, rfl, k1⟩ := hr
  show zP (some l) (d + 61) 0 587 [some (.ref 100000), some (.ref 0), some (.ref 82), some (.int (nI i))] [.int v] z_S0 h1 (zI A)
  refine zl zM0 q0_587 rfl ?_
  refine zl zM0 q0_588 rfl ?_
  refine zl zM0 q0_589 rfl ?_
  refine zkI zM0 q0_590 kI1 ?_
  refine zl zM0 q0_591 (pc' := 592) (st' := .int (nI i + 1) :: _) rfl ?_
  refine zsc zM0 q0_592 hl (show i + 1 < l.length by omega) (nI_add i 1) ?_
  refine zl zM0 q0_593 rfl ?_
  refine zl zM0 q0_594 rfl ?_
  refine zkI zM0 q0_595 kI2 ?_
  refine zl zM0 q0_596 (pc' := 597) (st' := .int (nI i + 2) :: _) rfl ?_
  refine zsc zM0 q0_597 hl (show i + 2 < l.length by omega) (nI_add i 2) ?_
  refine zl zM0 q0_598 rfl ?_
  refine zkB zM0 q0_599 kB32 ?_
  refine zl zM0 q0_601 rfl ?_
  refine zl zM0 q0_602 rfl ?_
  refine zl zM0 q0_603 rfl ?_
  refine zkI zM0 q0_604 kI3 ?_
  refine zl zM0 q0_605 (pc' := 606) (st' := .int (nI i + 3) :: _) rfl ?_
  refine zsc zM0 q0_606 hl (show i + 3 < l.length by omega) (nI_add i 3) ?_
  refine zl zM0 q0_607 rfl ?_
  refine zkJ zM0 q0_608 kc20_57 ?_
  refine zl zM0 q0_611 rfl ?_
  refine zl zM0 q0_612 rfl ?_
  refine zcV zM0 q0_613 kl20_63 rfl rfl (Nat.le_of_ble_eq_true rfl) rfl zM148 (Nat.le_of_ble_eq_true rfl) (k1.mono (fun r1 h2 hr => ?_))
  obtain ⟨w, rfl, e, R2⟩ := hr
  show zP (some l) (d + 61) 0 616 [some (.ref 100000), some (.ref 0), some (.ref 82), some (.int (nI i))] [.int w, .int v] z_S0 h2 (zI A)
  exact zb2_eq zM0 q0_616 (tgt := 1596) rfl (fun _ => K h2 R2) (fun hc => absurd e hc)
theorem lw11 {l : List Int32} {d i : Nat} {h : zH} {A : Int32 → zH → Prop} (hl : l.length ≤ 448) (hi : i + 7 ≤ l.length) (R : zR h) (K : ∀ h', zR h' → zP (some l) (d + 61) 0 1596 [some (.ref 100000), some (.ref 0), some (.ref 82), some (.int (nI i))] [] z_S0 h' (zI A)) : zP (some l) (d + 61) 0 621 [some (.ref 100000), some (.ref 0), some (.ref 82), some (.int (nI i))] [] z_S0 h (zI A) := by
  refine zl zM0 q0_621 rfl ?_
  refine zcV zM0 q0_622 kl20_64 rfl rfl (Nat.le_of_ble_eq_true rfl) rfl zM88 (Nat.le_of_ble_eq_true rfl) ((q_text R).mono (fun r0 h1 hr => ?_))
  obtain ⟨v, rfl, k1⟩ := hr
  show zP (some l) (d + 61) 0 625 [some (.ref 100000), some (.ref 0), some (.ref 82), some (.int (nI i))] [.int v] z_S0 h1 (zI A)
  refine zl zM0 q0_625 rfl ?_
  refine zcV zM0 q0_626 kl20_68 rfl rfl (Nat.le_of_ble_eq_true rfl) rfl zM165 (Nat.le_of_ble_eq_true rfl) (k1.mono (fun r1 h2 hr => ?_))
  obtain ⟨w, rfl, e, R2⟩ := hr
  show zP (some l) (d + 61) 0 629 [some (.ref 100000), some (.ref 0), some (.ref 82), some (.int (nI i))] [.int w, .int v] z_S0 h2 (zI A)
  exact zb2_eq zM0 q0_629 (tgt := 1596) rfl (fun _ => K h2 R2) (fun hc => absurd e hc)
theorem lw12 {l : List Int32} {d i : Nat} {h : zH} {A : Int32 → zH → Prop} (hl : l.length ≤ 448) (hi : i + 7 ≤ l.length) (R : zR h) (K : ∀ h', zR h' → zP (some l) (d + 61) 0 1596 [some (.ref 100000), some (.ref 0), some (.ref 82), some (.int (nI i))] [] z_S0 h' (zI A)) : zP (some l) (d + 61) 0 634 [some (.ref 100000), some (.ref 0), some (.ref 82), some (.int (nI i))] [] z_S0 h (zI A) := by
  refine zl zM0 q0_634 rfl ?_
  refine zl zM0 q0_635 rfl ?_
  refine zl zM0 q0_636 rfl ?_
  refine zkI zM0 q0_637 kI1 ?_
  refine zl zM0 q0_638 (pc' := 639) (st' := .int (nI i + 1) :: _) rfl ?_
  refine zsc zM0 q0_639 hl (show i + 1 < l.length by omega) (nI_add i 1) ?_
  refine zl zM0 q0_640 rfl ?_
  refine zl zM0 q0_641 rfl ?_
  refine zkI zM0 q0_642 kI2 ?_
  refine zl zM0 q0_643 (pc' := 644) (st' := .int (nI i + 2) :: _) rfl ?_
  refine zsc zM0 q0_644 hl (show i + 2 < l.length by omega) (nI_add i 2) ?_
  refine zl zM0 q0_645 rfl ?_
  refine zl zM0 q0_646 rfl ?_
  refine zkI zM0 q0_647 kI3 ?_
  refine zl zM0 q0_648 (pc' := 649) (st' := .int (nI i + 3) :: _) rfl ?_
  refine zsc zM0 q0_649 hl (show i + 3 < l.length by omega) (nI_add i 3) ?_
  refine zcV zM0 q0_650 kl20_69 rfl rfl (Nat.le_of_ble_eq_true rfl) rfl zM89 (Nat.le_of_ble_eq_true rfl) ((q_contract R).mono (fun r0 h1 hr => ?_))
  obtain ⟨v, rfl, k1⟩ := hr
  show zP (some l) (d + 61) 0 653 [some (.ref 100000), some (.ref 0), some (.ref 82), some (.int (nI i))] [.int v] z_S0 h1 (zI A)
  refine zl zM0 q0_653 rfl ?_
  refine zl zM0 q0_654 rfl ?_
  refine zl zM0 q0_655 rfl ?_
  refine zkI zM0 q0_656 kI1 ?_
  refine zl zM0 q0_657 (pc' := 658) (st' := .int (nI i + 1) :: _) rfl ?_
  refine zsc zM0 q0_658 hl (show i + 1 < l.length by omega) (nI_add i 1) ?_
  refine zl zM0 q0_659 rfl ?_
  refine zl zM0 q0_660 rfl ?_
  refine zkI zM0 q0_661 kI2 ?_
  refine zl zM0 q0_662 (pc' := 663) (st' := .int (nI i + 2) :: _) rfl ?_
  refine zsc zM0 q0_663 hl (show i + 2 < l.length by omega) (nI_add i 2) ?_
  refine zl zM0 q0_664 rfl ?_
  refine zl zM0 q0_665 rfl ?_
  refine zkI zM0 q0_666 kI3 ?_
  refine zl zM0 q0_667 (pc' := 668) (st' := .int (nI i + 3) :: _) rfl ?_
  refine zsc zM0 q0_668 hl (show i + 3 < l.length by omega) (nI_add i 3) ?_
  refine zcV zM0 q0_669 kl20_72 rfl rfl (Nat.le_of_ble_eq_true rfl) rfl zM170 (Nat.le_of_ble_eq_true rfl) (k1.mono (fun r1 h2 hr => ?_))
  obtain ⟨w, rfl, e, R2⟩ := hr
  show zP (some l) (d + 61) 0 672 [some (.ref 100000), some (.ref 0), some (.ref 82), some (.int (nI i))] [.int w, .int v] z_S0 h2 (zI A)
  exact zb2_eq zM0 q0_672 (tgt := 1596) rfl (fun _ => K h2 R2) (fun hc => absurd e hc)
theorem lw13 {l : List Int32} {d i : Nat} {h : zH} {A : Int32 → zH → Prop} (hl : l.length ≤ 448) (hi : i + 7 ≤ l.length) (R : zR h) (K : ∀ h', zR h' → zP (some l) (d + 61) 0 1596 [some (.ref 100000), some (.ref 0), some (.ref 82), some (.int (nI i))] [] z_S0 h' (zI A)) : zP (some l) (d + 61) 0 677 [some (.ref 100000), some (.ref 0), some (.ref 82), some (.int (nI i))] [] z_S0 h (zI A) := by
  refine zl zM0 q0_677 rfl ?_
  refine zl zM0 q0_678 rfl ?_
  refine zl zM0 q0_679 rfl ?_
  refine zkI zM0 q0_680 kI1 ?_
  refine zl zM0 q0_681 (pc' := 682) (st' := .int (nI i + 1) :: _) rfl ?_
  refine zsc zM0 q0_682 hl (show i + 1 < l.length by omega) (nI_add i 1) ?_
  refine zl zM0 q0_683 rfl ?_
  refine zl zM0 q0_684 rfl ?_
  refine zkI zM0 q0_685 kI2 ?_
  refine zl zM0 q0_686 (pc' := 687) (st' := .int (nI i + 2) :: _) rfl ?_
  refine zsc zM0 q0_687 hl (show i + 2 < l.length by omega) (nI_add i 2) ?_
  refine zcV zM0 q0_688 kl20_73 rfl rfl (Nat.le_of_ble_eq_true rfl) rfl zM90 (Nat.le_of_ble_eq_true rfl) ((q_contractOf R).mono (fun r0 h1 hr => ?_))
  obtain ⟨v, rfl, k1⟩ := hr
  show zP (some l) (d + 61) 0 691 [some (.ref 100000), some (.ref 0), some (.ref 82), some (.int (nI i))] [.int v] z_S0 h1 (zI A)
  refine zl zM0 q0_691 rfl ?_
  refine zl zM0 q0_692 rfl ?_
  refine zl zM0 q0_693 rfl ?_
  refine zkI zM0 q0_694 kI1 ?_
  refine zl zM0 q0_695 (pc' := 696) (st' := .int (nI i + 1) :: _) rfl ?_
  refine zsc zM0 q0_696 hl (show i + 1 < l.length by omega) (nI_add i 1) ?_
  refine zl zM0 q0_697 rfl ?_
  refine zl zM0 q0_698 rfl ?_
  refine zkI zM0 q0_699 kI2 ?_
  refine zl zM0 q0_700 (pc' := 701) (st' := .int (nI i + 2) :: _) rfl ?_
  refine zsc zM0 q0_701 hl (show i + 2 < l.length by omega) (nI_add i 2) ?_
  refine zcV zM0 q0_702 kl20_76 rfl rfl (Nat.le_of_ble_eq_true rfl) rfl zM172 (Nat.le_of_ble_eq_true rfl) (k1.mono (fun r1 h2 hr => ?_))
  obtain ⟨w, rfl, e, R2⟩ := hr
  show zP (some l) (d + 61) 0 705 [some (.ref 100000), some (.ref 0), some (.ref 82), some (.int (nI i))] [.int w, .int v] z_S0 h2 (zI A)
  exact zb2_eq zM0 q0_705 (tgt := 1596) rfl (fun _ => K h2 R2) (fun hc => absurd e hc)
theorem lw14 {l : List Int32} {d i : Nat} {h : zH} {A : Int32 → zH → Prop} (hl : l.length ≤ 448) (hi : i + 7 ≤ l.length) (R : zR h) (K : ∀ h', zR h' → zP (some l) (d + 61) 0 1596 [some (.ref 100000), some (.ref 0), some (.ref 82), some (.int (nI i))] [] z_S0 h' (zI A)) : zP (some l) (d + 61) 0 710 [some (.ref 100000), some (.ref 0), some (.ref 82), some (.int (nI i))] [] z_S0 h (zI A) := by
  refine zl zM0 q0_710 rfl ?_
  refine zl zM0 q0_711 rfl ?_
  refine zl zM0 q0_712 rfl ?_
  refine zkI zM0 q0_713 kI1 ?_
  refine zl zM0 q0_714 (pc' := 715) (st' := .int (nI i + 1) :: _) rfl ?_
  refine zsc zM0 q0_715 hl (show i + 1 < l.length by omega) (nI_add i 1) ?_
  refine zl zM0 q0_716 rfl ?_
  refine zl zM0 q0_717 rfl ?_
  refine zkI zM0 q0_718 kI2 ?_
  refine zl zM0 q0_719 (pc' := 720) (st' := .int (nI i + 2) :: _) rfl ?_
  refine zsc zM0 q0_720 hl (show i + 2 < l.length by omega) (nI_add i 2) ?_
  refine zcV zM0 q0_721 kl20_77 rfl rfl (Nat.le_of_ble_eq_true rfl) rfl zM91 (Nat.le_of_ble_eq_true rfl) ((q_says R).mono (fun r0 h1 hr => ?_))
  obtain ⟨v, rfl, k1⟩ := hr
  show zP (some l) (d + 61) 0 724 [some (.ref 100000), some (.ref 0), some (.ref 82), some (.int (nI i))] [.long v] z_S0 h1 (zI A)
  refine zl zM0 q0_724 rfl ?_
  refine zl zM0 q0_725 rfl ?_
  refine zl zM0 q0_726 rfl ?_
  refine zkI zM0 q0_727 kI1 ?_
  refine zl zM0 q0_728 (pc' := 729) (st' := .int (nI i + 1) :: _) rfl ?_
  refine zsc zM0 q0_729 hl (show i + 1 < l.length by omega) (nI_add i 1) ?_
  refine zl zM0 q0_730 rfl ?_
  refine zl zM0 q0_731 rfl ?_
  refine zkI zM0 q0_732 kI2 ?_
  refine zl zM0 q0_733 (pc' := 734) (st' := .int (nI i + 2) :: _) rfl ?_
  refine zsc zM0 q0_734 hl (show i + 2 < l.length by omega) (nI_add i 2) ?_
  refine zcV zM0 q0_735 kl20_81 rfl rfl (Nat.le_of_ble_eq_true rfl) rfl zM173 (Nat.le_of_ble_eq_true rfl) (k1.mono (fun r1 h2 hr => ?_))
  obtain ⟨w, rfl, e, R2⟩ := hr
  show zP (some l) (d + 61) 0 738 [some (.ref 100000), some (.ref 0), some (.ref 82), some (.int (nI i))] [.long w, .long v] z_S0 h2 (zI A)
  refine zl zM0 q0_738 (pc' := 739) (st' := .int (lg_cmp v w) :: []) rfl ?_
  exact zb1_eq zM0 q0_739 (tgt := 1596) rfl (fun _ => K h2 R2) (fun hc => absurd (by rw [e]; exact lg_cmp0 w) hc)
theorem lw15 {l : List Int32} {d i : Nat} {h : zH} {A : Int32 → zH → Prop} (hl : l.length ≤ 448) (hi : i + 7 ≤ l.length) (R : zR h) (K : ∀ h', zR h' → zP (some l) (d + 61) 0 1596 [some (.ref 100000), some (.ref 0), some (.ref 82), some (.int (nI i))] [] z_S0 h' (zI A)) : zP (some l) (d + 61) 0 744 [some (.ref 100000), some (.ref 0), some (.ref 82), some (.int (nI i))] [] z_S0 h (zI A) := by
  refine zl zM0 q0_744 rfl ?_
  refine zl zM0 q0_745 rfl ?_
  refine zl zM0 q0_746 rfl ?_
  refine zkI zM0 q0_747 kI1 ?_
  refine zl zM0 q0_748 (pc' := 749) (st' := .int (nI i + 1) :: _) rfl ?_
  refine zsc zM0 q0_749 hl (show i + 1 < l.length by omega) (nI_add i 1) ?_
  refine zl zM0 q0_750 rfl ?_
  refine zl zM0 q0_751 rfl ?_
  refine zkI zM0 q0_752 kI2 ?_
  refine zl zM0 q0_753 (pc' := 754) (st' := .int (nI i + 2) :: _) rfl ?_
  refine zsc zM0 q0_754 hl (show i + 2 < l.length by omega) (nI_add i 2) ?_
  refine zl zM0 q0_755 rfl ?_
  refine zl zM0 q0_756 rfl ?_
  refine zkI zM0 q0_757 kI3 ?_
  refine zl zM0 q0_758 (pc' := 759) (st' := .int (nI i + 3) :: _) rfl ?_
  refine zsc zM0 q0_759 hl (show i + 3 < l.length by omega) (nI_add i 3) ?_
  refine zcV zM0 q0_760 kl20_82 rfl rfl (Nat.le_of_ble_eq_true rfl) rfl zM93 (Nat.le_of_ble_eq_true rfl) ((q_owed R).mono (fun r0 h1 hr => ?_))
  obtain ⟨v, rfl, k1⟩ := hr
  show zP (some l) (d + 61) 0 763 [some (.ref 100000), some (.ref 0), some (.ref 82), some (.int (nI i))] [.long v] z_S0 h1 (zI A)
  refine zl zM0 q0_763 rfl ?_
  refine zl zM0 q0_764 rfl ?_
  refine zl zM0 q0_765 rfl ?_
  refine zkI zM0 q0_766 kI1 ?_
  refine zl zM0 q0_767 (pc' := 768) (st' := .int (nI i + 1) :: _) rfl ?_
  refine zsc zM0 q0_768 hl (show i + 1 < l.length by omega) (nI_add i 1) ?_
  refine zl zM0 q0_769 rfl ?_
  refine zl zM0 q0_770 rfl ?_
  refine zkI zM0 q0_771 kI2 ?_
  refine zl zM0 q0_772 (pc' := 773) (st' := .int (nI i + 2) :: _) rfl ?_
  refine zsc zM0 q0_773 hl (show i + 2 < l.length by omega) (nI_add i 2) ?_
  refine zl zM0 q0_774 rfl ?_
  refine zl zM0 q0_775 rfl ?_
  refine zkI zM0 q0_776 kI3 ?_
  refine zl zM0 q0_777 (pc' := 778) (st' := .int (nI i + 3) :: _) rfl ?_
  refine zsc zM0 q0_778 hl (show i + 3 < l.length by omega) (nI_add i 3) ?_
  refine zcV zM0 q0_779 kl20_86 rfl rfl (Nat.le_of_ble_eq_true rfl) rfl zM176 (Nat.le_of_ble_eq_true rfl) (k1.mono (fun r1 h2 hr => ?_))
  obtain ⟨w, rfl, e, R2⟩ := hr
  show zP (some l) (d + 61) 0 782 [some (.ref 100000), some (.ref 0), some (.ref 82), some (.int (nI i))] [.long w, .long v] z_S0 h2 (zI A)
  refine zl zM0 q0_782 (pc' := 783) (st' := .int (lg_cmp v w) :: []) rfl ?_
  exact zb1_eq zM0 q0_783 (tgt := 1596) rfl (fun _ => K h2 R2) (fun hc => absurd (by rw [e]; exact lg_cmp0 w) hc)
theorem lw16 {l : List Int32} {d i : Nat} {h : zH} {A : Int32 → zH → Prop} (hl : l.length ≤ 448) (hi : i + 7 ≤ l.length) (R : zR h) (K : ∀ h', zR h' → zP (some l) (d + 61) 0 1596 [some (.ref 100000), some (.ref 0), some (.ref 82), some (.int (nI i))] [] z_S0 h' (zI A)) : zP (some l) (d + 61) 0 788 [some (.ref 100000), some (.ref 0), some (.ref 82), some (.int (nI i))] [] z_S0 h (zI A) := by
  refine zl zM0 q0_788 rfl ?_
  refine zl zM0 q0_789 rfl ?_
  refine zl zM0 q0_790 rfl ?_
  refine zkI zM0 q0_791 kI1 ?_
  refine zl zM0 q0_792 (pc' := 793) (st' := .int (nI i + 1) :: _) rfl ?_
  refine zsc zM0 q0_793 hl (show i + 1 < l.length by omega) (nI_add i 1) ?_
  refine zl zM0 q0_794 rfl ?_
  refine zl zM0 q0_795 rfl ?_
  refine zkI zM0 q0_796 kI2 ?_
  refine zl zM0 q0_797 (pc' := 798) (st' := .int (nI i + 2) :: _) rfl ?_
  refine zsc zM0 q0_798 hl (show i + 2 < l.length by omega) (nI_add i 2) ?_
  refine zl zM0 q0_799 rfl ?_
  refine zl zM0 q0_800 rfl ?_
  refine zkI zM0 q0_801 kI3 ?_
  refine zl zM0 q0_802 (pc' := 803) (st' := .int (nI i + 3) :: _) rfl ?_
  refine zsc zM0 q0_803 hl (show i + 3 < l.length by omega) (nI_add i 3) ?_
  refine zcV zM0 q0_804 kl20_87 rfl rfl (Nat.le_of_ble_eq_true rfl) rfl zM94 (Nat.le_of_ble_eq_true rfl) ((q_find R).mono (fun r0 h1 hr => ?_))
  obtain ⟨v, rfl, k1⟩ := hr
  show zP (some l) (d + 61) 0 807 [some (.ref 100000), some (.ref 0), some (.ref 82), some (.int (nI i))] [.int v] z_S0 h1 (zI A)
  refine zl zM0 q0_807 rfl ?_
  refine zl zM0 q0_808 rfl ?_
  refine zl zM0 q0_809 rfl ?_
  refine zkI zM0 q0_810 kI1 ?_
  refine zl zM0 q0_811 (pc' := 812) (st' := .int (nI i + 1) :: _) rfl ?_
  refine zsc zM0 q0_812 hl (show i + 1 < l.length by omega) (nI_add i 1) ?_
  refine zl zM0 q0_813 rfl ?_
  refine zl zM0 q0_814 rfl ?_
  refine zkI zM0 q0_815 kI2 ?_
  refine zl zM0 q0_816 (pc' := 817) (st' := .int (nI i + 2) :: _) rfl ?_
  refine zsc zM0 q0_817 hl (show i + 2 < l.length by omega) (nI_add i 2) ?_
  refine zl zM0 q0_818 rfl ?_
  refine zl zM0 q0_819 rfl ?_
  refine zkI zM0 q0_820 kI3 ?_
  refine zl zM0 q0_821 (pc' := 822) (st' := .int (nI i + 3) :: _) rfl ?_
  refine zsc zM0 q0_822 hl (show i + 3 < l.length by omega) (nI_add i 3) ?_
  refine zcV zM0 q0_823 kl20_90 rfl rfl (Nat.le_of_ble_eq_true rfl) rfl zM177 (Nat.le_of_ble_eq_true rfl) (k1.mono (fun r1 h2 hr => ?_))
  obtain ⟨w, rfl, e, R2⟩ := hr
  show zP (some l) (d + 61) 0 826 [some (.ref 100000), some (.ref 0), some (.ref 82), some (.int (nI i))] [.int w, .int v] z_S0 h2 (zI A)
  exact zb2_eq zM0 q0_826 (tgt := 1596) rfl (fun _ => K h2 R2) (fun hc => absurd e hc)
theorem lw17 {l : List Int32} {d i : Nat} {h : zH} {A : Int32 → zH → Prop} (hl : l.length ≤ 448) (hi : i + 7 ≤ l.length) (R : zR h) (K : ∀ h', zR h' → zP (some l) (d + 61) 0 1596 [some (.ref 100000), some (.ref 0), some (.ref 82), some (.int (nI i))] [] z_S0 h' (zI A)) : zP (some l) (d + 61) 0 831 [some (.ref 100000), some (.ref 0), some (.ref 82), some (.int (nI i))] [] z_S0 h (zI A) := by
  refine zl zM0 q0_831 rfl ?_
  refine zl zM0 q0_832 rfl ?_
  refine zl zM0 q0_833 rfl ?_
  refine zkI zM0 q0_834 kI1 ?_
  refine zl zM0 q0_835 (pc' := 836) (st' := .int (nI i + 1) :: _) rfl ?_
  refine zsc zM0 q0_836 hl (show i + 1 < l.length by omega) (nI_add i 1) ?_
  refine zcV zM0 q0_837 kl20_91 rfl rfl (Nat.le_of_ble_eq_true rfl) rfl zM95 (Nat.le_of_ble_eq_true rfl) ((q_whose R).mono (fun r0 h1 hr => ?_))
  obtain ⟨v, rfl, k1⟩ := hr
  show zP (some l) (d + 61) 0 840 [some (.ref 100000), some (.ref 0), some (.ref 82), some (.int (nI i))] [.int v] z_S0 h1 (zI A)
  refine zl zM0 q0_840 rfl ?_
  refine zl zM0 q0_841 rfl ?_
  refine zl zM0 q0_842 rfl ?_
  refine zkI zM0 q0_843 kI1 ?_
  refine zl zM0 q0_844 (pc' := 845) (st' := .int (nI i + 1) :: _) rfl ?_
  refine zsc zM0 q0_845 hl (show i + 1 < l.length by omega) (nI_add i 1) ?_
  refine zcV zM0 q0_846 kl20_94 rfl rfl (Nat.le_of_ble_eq_true rfl) rfl zM179 (Nat.le_of_ble_eq_true rfl) (k1.mono (fun r1 h2 hr => ?_))
  obtain ⟨w, rfl, e, R2⟩ := hr
  show zP (some l) (d + 61) 0 849 [some (.ref 100000), some (.ref 0), some (.ref 82), some (.int (nI i))] [.int w, .int v] z_S0 h2 (zI A)
  exact zb2_eq zM0 q0_849 (tgt := 1596) rfl (fun _ => K h2 R2) (fun hc => absurd e hc)
theorem lw18 {l : List Int32} {d i : Nat} {h : zH} {A : Int32 → zH → Prop} (hl : l.length ≤ 448) (hi : i + 7 ≤ l.length) (R : zR h) (K : ∀ h', zR h' → zP (some l) (d + 61) 0 1596 [some (.ref 100000), some (.ref 0), some (.ref 82), some (.int (nI i))] [] z_S0 h' (zI A)) : zP (some l) (d + 61) 0 854 [some (.ref 100000), some (.ref 0), some (.ref 82), some (.int (nI i))] [] z_S0 h (zI A) := by
  refine zl zM0 q0_854 rfl ?_
  refine zl zM0 q0_855 rfl ?_
  refine zl zM0 q0_856 rfl ?_
  refine zkI zM0 q0_857 kI1 ?_
  refine zl zM0 q0_858 (pc' := 859) (st' := .int (nI i + 1) :: _) rfl ?_
  refine zsc zM0 q0_859 hl (show i + 1 < l.length by omega) (nI_add i 1) ?_
  refine zcV zM0 q0_860 kl20_95 rfl rfl (Nat.le_of_ble_eq_true rfl) rfl zM97 (Nat.le_of_ble_eq_true rfl) ((q_finds R).mono (fun r0 h1 hr => ?_))
  obtain ⟨v, rfl, k1⟩ := hr
  show zP (some l) (d + 61) 0 863 [some (.ref 100000), some (.ref 0), some (.ref 82), some (.int (nI i))] [.long v] z_S0 h1 (zI A)
  refine zl zM0 q0_863 rfl ?_
  refine zl zM0 q0_864 rfl ?_
  refine zl zM0 q0_865 rfl ?_
  refine zkI zM0 q0_866 kI1 ?_
  refine zl zM0 q0_867 (pc' := 868) (st' := .int (nI i + 1) :: _) rfl ?_
  refine zsc zM0 q0_868 hl (show i + 1 < l.length by omega) (nI_add i 1) ?_
  refine zcV zM0 q0_869 kl20_99 rfl rfl (Nat.le_of_ble_eq_true rfl) rfl zM180 (Nat.le_of_ble_eq_true rfl) (k1.mono (fun r1 h2 hr => ?_))
  obtain ⟨w, rfl, e, R2⟩ := hr
  show zP (some l) (d + 61) 0 872 [some (.ref 100000), some (.ref 0), some (.ref 82), some (.int (nI i))] [.long w, .long v] z_S0 h2 (zI A)
  refine zl zM0 q0_872 (pc' := 873) (st' := .int (lg_cmp v w) :: []) rfl ?_
  exact zb1_eq zM0 q0_873 (tgt := 1596) rfl (fun _ => K h2 R2) (fun hc => absurd (by rw [e]; exact lg_cmp0 w) hc)
theorem lw19 {l : List Int32} {d i : Nat} {h : zH} {A : Int32 → zH → Prop} (hl : l.length ≤ 448) (hi : i + 7 ≤ l.length) (R : zR h) (K : ∀ h', zR h' → zP (some l) (d + 61) 0 1596 [some (.ref 100000), some (.ref 0), some (.ref 82), some (.int (nI i))] [] z_S0 h' (zI A)) : zP (some l) (d + 61) 0 878 [some (.ref 100000), some (.ref 0), some (.ref 82), some (.int (nI i))] [] z_S0 h (zI A) := by
  refine zl zM0 q0_878 rfl ?_
  refine zl zM0 q0_879 rfl ?_
  refine zl zM0 q0_880 rfl ?_
  refine zkI zM0 q0_881 kI1 ?_
  refine zl zM0 q0_882 (pc' := 883) (st' := .int (nI i + 1) :: _) rfl ?_
  refine zsc zM0 q0_883 hl (show i + 1 < l.length by omega) (nI_add i 1) ?_
  refine zl zM0 q0_884 rfl ?_
  refine zl zM0 q0_885 rfl ?_
  refine zkI zM0 q0_886 kI2 ?_
  refine zl zM0 q0_887 (pc' := 888) (st' := .int (nI i + 2) :: _) rfl ?_
  refine zsc zM0 q0_888 hl (show i + 2 < l.length by omega) (nI_add i 2) ?_
  refine zl zM0 q0_889 rfl ?_
  refine zl zM0 q0_890 rfl ?_
  refine zkI zM0 q0_891 kI3 ?_
  refine zl zM0 q0_892 (pc' := 893) (st' := .int (nI i + 3) :: _) rfl ?_
  refine zsc zM0 q0_893 hl (show i + 3 < l.length by omega) (nI_add i 3) ?_
  refine zl zM0 q0_894 rfl ?_
  refine zl zM0 q0_895 rfl ?_
  refine zkI zM0 q0_896 kI4 ?_
  refine zl zM0 q0_897 (pc' := 898) (st' := .int (nI i + 4) :: _) rfl ?_
  refine zsc zM0 q0_898 hl (show i + 4 < l.length by omega) (nI_add i 4) ?_
  refine zcV zM0 q0_899 kl20_100 rfl rfl (Nat.le_of_ble_eq_true rfl) rfl zM99 (Nat.le_of_ble_eq_true rfl) ((q_door R).mono (fun r0 h1 hr => ?_))
  obtain ⟨v, rfl, k1⟩ := hr
  show zP (some l) (d + 61) 0 902 [some (.ref 100000), some (.ref 0), some (.ref 82), some (.int (nI i))] [.int v] z_S0 h1 (zI A)
  refine zl zM0 q0_902 rfl ?_
  refine zl zM0 q0_903 rfl ?_
  refine zl zM0 q0_904 rfl ?_
  refine zkI zM0 q0_905 kI1 ?_
  refine zl zM0 q0_906 (pc' := 907) (st' := .int (nI i + 1) :: _) rfl ?_
  refine zsc zM0 q0_907 hl (show i + 1 < l.length by omega) (nI_add i 1) ?_
  refine zl zM0 q0_908 rfl ?_
  refine zl zM0 q0_909 rfl ?_
  refine zkI zM0 q0_910 kI2 ?_
  refine zl zM0 q0_911 (pc' := 912) (st' := .int (nI i + 2) :: _) rfl ?_
  refine zsc zM0 q0_912 hl (show i + 2 < l.length by omega) (nI_add i 2) ?_
  refine zl zM0 q0_913 rfl ?_
  refine zl zM0 q0_914 rfl ?_
  refine zkI zM0 q0_915 kI3 ?_
  refine zl zM0 q0_916 (pc' := 917) (st' := .int (nI i + 3) :: _) rfl ?_
  refine zsc zM0 q0_917 hl (show i + 3 < l.length by omega) (nI_add i 3) ?_
  refine zl zM0 q0_918 rfl ?_
  refine zl zM0 q0_919 rfl ?_
  refine zkI zM0 q0_920 kI4 ?_
  refine zl zM0 q0_921 (pc' := 922) (st' := .int (nI i + 4) :: _) rfl ?_
  refine zsc zM0 q0_922 hl (show i + 4 < l.length by omega) (nI_add i 4) ?_
  refine zcV zM0 q0_923 kl20_104 rfl rfl (Nat.le_of_ble_eq_true rfl) rfl zM181 (Nat.le_of_ble_eq_true rfl) (k1.mono (fun r1 h2 hr => ?_))
  obtain ⟨w, rfl, e, R2⟩ := hr
  show zP (some l) (d + 61) 0 926 [some (.ref 100000), some (.ref 0), some (.ref 82), some (.int (nI i))] [.int w, .int v] z_S0 h2 (zI A)
  exact zb2_eq zM0 q0_926 (tgt := 1596) rfl (fun _ => K h2 R2) (fun hc => absurd e hc)
theorem lw20 {l : List Int32} {d i : Nat} {h : zH} {A : Int32 → zH → Prop} (hl : l.length ≤ 448) (hi : i + 7 ≤ l.length) (R : zR h) (K : ∀ h', zR h' → zP (some l) (d + 61) 0 1596 [some (.ref 100000), some (.ref 0), some (.ref 82), some (.int (nI i))] [] z_S0 h' (zI A)) : zP (some l) (d + 61) 0 931 [some (.ref 100000), some (.ref 0), some (.ref 82), some (.int (nI i))] [] z_S0 h (zI A) := by
  refine zl zM0 q0_931 rfl ?_
  refine zl zM0 q0_932 rfl ?_
  refine zl zM0 q0_933 rfl ?_
  refine zkI zM0 q0_934 kI1 ?_
  refine zl zM0 q0_935 (pc' := 936) (st' := .int (nI i + 1) :: _) rfl ?_
  refine zsc zM0 q0_936 hl (show i + 1 < l.length by omega) (nI_add i 1) ?_
  refine zcV zM0 q0_937 kl20_105 rfl rfl (Nat.le_of_ble_eq_true rfl) rfl zM100 (Nat.le_of_ble_eq_true rfl) ((q_miss R).mono (fun r0 h1 hr => ?_))
  obtain ⟨v, rfl, k1⟩ := hr
  show zP (some l) (d + 61) 0 940 [some (.ref 100000), some (.ref 0), some (.ref 82), some (.int (nI i))] [.int v] z_S0 h1 (zI A)
  refine zl zM0 q0_940 rfl ?_
  refine zl zM0 q0_941 rfl ?_
  refine zl zM0 q0_942 rfl ?_
  refine zkI zM0 q0_943 kI1 ?_
  refine zl zM0 q0_944 (pc' := 945) (st' := .int (nI i + 1) :: _) rfl ?_
  refine zsc zM0 q0_945 hl (show i + 1 < l.length by omega) (nI_add i 1) ?_
  refine zcV zM0 q0_946 kl20_108 rfl rfl (Nat.le_of_ble_eq_true rfl) rfl zM183 (Nat.le_of_ble_eq_true rfl) (k1.mono (fun r1 h2 hr => ?_))
  obtain ⟨w, rfl, e, R2⟩ := hr
  show zP (some l) (d + 61) 0 949 [some (.ref 100000), some (.ref 0), some (.ref 82), some (.int (nI i))] [.int w, .int v] z_S0 h2 (zI A)
  exact zb2_eq zM0 q0_949 (tgt := 1596) rfl (fun _ => K h2 R2) (fun hc => absurd e hc)
theorem lw21 {l : List Int32} {d i : Nat} {h : zH} {A : Int32 → zH → Prop} (hl : l.length ≤ 448) (hi : i + 7 ≤ l.length) (R : zR h) (K : ∀ h', zR h' → zP (some l) (d + 61) 0 1596 [some (.ref 100000), some (.ref 0), some (.ref 82), some (.int (nI i))] [] z_S0 h' (zI A)) : zP (some l) (d + 61) 0 954 [some (.ref 100000), some (.ref 0), some (.ref 82), some (.int (nI i))] [] z_S0 h (zI A) := by
  refine zl zM0 q0_954 rfl ?_
  refine zl zM0 q0_955 rfl ?_
  refine zl zM0 q0_956 rfl ?_
  refine zkI zM0 q0_957 kI1 ?_
  refine zl zM0 q0_958 (pc' := 959) (st' := .int (nI i + 1) :: _) rfl ?_
  refine zsc zM0 q0_959 hl (show i + 1 < l.length by omega) (nI_add i 1) ?_
  refine zl zM0 q0_960 rfl ?_
  refine zl zM0 q0_961 rfl ?_
  refine zkI zM0 q0_962 kI2 ?_
  refine zl zM0 q0_963 (pc' := 964) (st' := .int (nI i + 2) :: _) rfl ?_
  refine zsc zM0 q0_964 hl (show i + 2 < l.length by omega) (nI_add i 2) ?_
  refine zl zM0 q0_965 rfl ?_
  refine zl zM0 q0_966 rfl ?_
  refine zkI zM0 q0_967 kI3 ?_
  refine zl zM0 q0_968 (pc' := 969) (st' := .int (nI i + 3) :: _) rfl ?_
  refine zsc zM0 q0_969 hl (show i + 3 < l.length by omega) (nI_add i 3) ?_
  refine zcV zM0 q0_970 kl20_109 rfl rfl (Nat.le_of_ble_eq_true rfl) rfl zM101 (Nat.le_of_ble_eq_true rfl) ((q_rounds R).mono (fun r0 h1 hr => ?_))
  obtain ⟨v, rfl, k1⟩ := hr
  show zP (some l) (d + 61) 0 973 [some (.ref 100000), some (.ref 0), some (.ref 82), some (.int (nI i))] [.int v] z_S0 h1 (zI A)
  refine zl zM0 q0_973 rfl ?_
  refine zl zM0 q0_974 rfl ?_
  refine zl zM0 q0_975 rfl ?_
  refine zkI zM0 q0_976 kI1 ?_
  refine zl zM0 q0_977 (pc' := 978) (st' := .int (nI i + 1) :: _) rfl ?_
  refine zsc zM0 q0_978 hl (show i + 1 < l.length by omega) (nI_add i 1) ?_
  refine zl zM0 q0_979 rfl ?_
  refine zl zM0 q0_980 rfl ?_
  refine zkI zM0 q0_981 kI2 ?_
  refine zl zM0 q0_982 (pc' := 983) (st' := .int (nI i + 2) :: _) rfl ?_
  refine zsc zM0 q0_983 hl (show i + 2 < l.length by omega) (nI_add i 2) ?_
  refine zl zM0 q0_984 rfl ?_
  refine zl zM0 q0_985 rfl ?_
  refine zkI zM0 q0_986 kI3 ?_
  refine zl zM0 q0_987 (pc' := 988) (st' := .int (nI i + 3) :: _) rfl ?_
  refine zsc zM0 q0_988 hl (show i + 3 < l.length by omega) (nI_add i 3) ?_
  refine zcV zM0 q0_989 kl20_112 rfl rfl (Nat.le_of_ble_eq_true rfl) rfl zM187 (Nat.le_of_ble_eq_true rfl) (k1.mono (fun r1 h2 hr => ?_))
  obtain ⟨w, rfl, e, R2⟩ := hr
  show zP (some l) (d + 61) 0 992 [some (.ref 100000), some (.ref 0), some (.ref 82), some (.int (nI i))] [.int w, .int v] z_S0 h2 (zI A)
  exact zb2_eq zM0 q0_992 (tgt := 1596) rfl (fun _ => K h2 R2) (fun hc => absurd e hc)
theorem lw22 {l : List Int32} {d i : Nat} {h : zH} {A : Int32 → zH → Prop} (hl : l.length ≤ 448) (hi : i + 7 ≤ l.length) (R : zR h) (K : ∀ h', zR h' → zP (some l) (d + 61) 0 1596 [some (.ref 100000), some (.ref 0), some (.ref 82), some (.int (nI i))] [] z_S0 h' (zI A)) : zP (some l) (d + 61) 0 997 [some (.ref 100000), some (.ref 0), some (.ref 82), some (.int (nI i))] [] z_S0 h (zI A) := by
  refine zl zM0 q0_997 rfl ?_
  refine zl zM0 q0_998 rfl ?_
  refine zl zM0 q0_999 rfl ?_
  refine zkI zM0 q0_1000 kI1 ?_
  refine zl zM0 q0_1001 (pc' := 1002) (st' := .int (nI i + 1) :: _) rfl ?_
  refine zsc zM0 q0_1002 hl (show i + 1 < l.length by omega) (nI_add i 1) ?_
  refine zl zM0 q0_1003 rfl ?_
  refine zl zM0 q0_1004 rfl ?_
  refine zkI zM0 q0_1005 kI2 ?_
  refine zl zM0 q0_1006 (pc' := 1007) (st' := .int (nI i + 2) :: _) rfl ?_
  refine zsc zM0 q0_1007 hl (show i + 2 < l.length by omega) (nI_add i 2) ?_
  refine zcV zM0 q0_1008 kl20_113 rfl rfl (Nat.le_of_ble_eq_true rfl) rfl zM102 (Nat.le_of_ble_eq_true rfl) ((q_row R).mono (fun r0 h1 hr => ?_))
  obtain ⟨v, rfl, k1⟩ := hr
  show zP (some l) (d + 61) 0 1011 [some (.ref 100000), some (.ref 0), some (.ref 82), some (.int (nI i))] [.int v] z_S0 h1 (zI A)
  refine zl zM0 q0_1011 rfl ?_
  refine zl zM0 q0_1012 rfl ?_
  refine zl zM0 q0_1013 rfl ?_
  refine zkI zM0 q0_1014 kI1 ?_
  refine zl zM0 q0_1015 (pc' := 1016) (st' := .int (nI i + 1) :: _) rfl ?_
  refine zsc zM0 q0_1016 hl (show i + 1 < l.length by omega) (nI_add i 1) ?_
  refine zl zM0 q0_1017 rfl ?_
  refine zl zM0 q0_1018 rfl ?_
  refine zkI zM0 q0_1019 kI2 ?_
  refine zl zM0 q0_1020 (pc' := 1021) (st' := .int (nI i + 2) :: _) rfl ?_
  refine zsc zM0 q0_1021 hl (show i + 2 < l.length by omega) (nI_add i 2) ?_
  refine zcV zM0 q0_1022 kl20_116 rfl rfl (Nat.le_of_ble_eq_true rfl) rfl zM188 (Nat.le_of_ble_eq_true rfl) (k1.mono (fun r1 h2 hr => ?_))
  obtain ⟨w, rfl, e, R2⟩ := hr
  show zP (some l) (d + 61) 0 1025 [some (.ref 100000), some (.ref 0), some (.ref 82), some (.int (nI i))] [.int w, .int v] z_S0 h2 (zI A)
  exact zb2_eq zM0 q0_1025 (tgt := 1596) rfl (fun _ => K h2 R2) (fun hc => absurd e hc)
theorem lw23 {l : List Int32} {d i : Nat} {h : zH} {A : Int32 → zH → Prop} (hl : l.length ≤ 448) (hi : i + 7 ≤ l.length) (R : zR h) (K : ∀ h', zR h' → zP (some l) (d + 61) 0 1596 [some (.ref 100000), some (.ref 0), some (.ref 82), some (.int (nI i))] [] z_S0 h' (zI A)) : zP (some l) (d + 61) 0 1030 [some (.ref 100000), some (.ref 0), some (.ref 82), some (.int (nI i))] [] z_S0 h (zI A) := by
  refine zl zM0 q0_1030 rfl ?_
  refine zl zM0 q0_1031 rfl ?_
  refine zl zM0 q0_1032 rfl ?_
  refine zkI zM0 q0_1033 kI1 ?_
  refine zl zM0 q0_1034 (pc' := 1035) (st' := .int (nI i + 1) :: _) rfl ?_
  refine zsc zM0 q0_1035 hl (show i + 1 < l.length by omega) (nI_add i 1) ?_
  refine zl zM0 q0_1036 rfl ?_
  refine zl zM0 q0_1037 rfl ?_
  refine zkI zM0 q0_1038 kI2 ?_
  refine zl zM0 q0_1039 (pc' := 1040) (st' := .int (nI i + 2) :: _) rfl ?_
  refine zsc zM0 q0_1040 hl (show i + 2 < l.length by omega) (nI_add i 2) ?_
  refine zl zM0 q0_1041 rfl ?_
  refine zl zM0 q0_1042 rfl ?_
  refine zkI zM0 q0_1043 kI3 ?_
  refine zl zM0 q0_1044 (pc' := 1045) (st' := .int (nI i + 3) :: _) rfl ?_
  refine zsc zM0 q0_1045 hl (show i + 3 < l.length by omega) (nI_add i 3) ?_
  refine zl zM0 q0_1046 rfl ?_
  refine zl zM0 q0_1047 rfl ?_
  refine zkI zM0 q0_1048 kI4 ?_
  refine zl zM0 q0_1049 (pc' := 1050) (st' := .int (nI i + 4) :: _) rfl ?_
  refine zsc zM0 q0_1050 hl (show i + 4 < l.length by omega) (nI_add i 4) ?_
  refine zcV zM0 q0_1051 kl20_117 rfl rfl (Nat.le_of_ble_eq_true rfl) rfl zM103 (Nat.le_of_ble_eq_true rfl) ((q_bid R).mono (fun r0 h1 hr => ?_))
  obtain ⟨v, rfl, k1⟩ := hr
  show zP (some l) (d + 61) 0 1054 [some (.ref 100000), some (.ref 0), some (.ref 82), some (.int (nI i))] [.long v] z_S0 h1 (zI A)
  refine zl zM0 q0_1054 rfl ?_
  refine zl zM0 q0_1055 rfl ?_
  refine zl zM0 q0_1056 rfl ?_
  refine zkI zM0 q0_1057 kI1 ?_
  refine zl zM0 q0_1058 (pc' := 1059) (st' := .int (nI i + 1) :: _) rfl ?_
  refine zsc zM0 q0_1059 hl (show i + 1 < l.length by omega) (nI_add i 1) ?_
  refine zl zM0 q0_1060 rfl ?_
  refine zl zM0 q0_1061 rfl ?_
  refine zkI zM0 q0_1062 kI2 ?_
  refine zl zM0 q0_1063 (pc' := 1064) (st' := .int (nI i + 2) :: _) rfl ?_
  refine zsc zM0 q0_1064 hl (show i + 2 < l.length by omega) (nI_add i 2) ?_
  refine zl zM0 q0_1065 rfl ?_
  refine zl zM0 q0_1066 rfl ?_
  refine zkI zM0 q0_1067 kI3 ?_
  refine zl zM0 q0_1068 (pc' := 1069) (st' := .int (nI i + 3) :: _) rfl ?_
  refine zsc zM0 q0_1069 hl (show i + 3 < l.length by omega) (nI_add i 3) ?_
  refine zl zM0 q0_1070 rfl ?_
  refine zl zM0 q0_1071 rfl ?_
  refine zkI zM0 q0_1072 kI4 ?_
  refine zl zM0 q0_1073 (pc' := 1074) (st' := .int (nI i + 4) :: _) rfl ?_
  refine zsc zM0 q0_1074 hl (show i + 4 < l.length by omega) (nI_add i 4) ?_
  refine zcV zM0 q0_1075 kl20_121 rfl rfl (Nat.le_of_ble_eq_true rfl) rfl zM190 (Nat.le_of_ble_eq_true rfl) (k1.mono (fun r1 h2 hr => ?_))
  obtain ⟨w, rfl, e, R2⟩ := hr
  show zP (some l) (d + 61) 0 1078 [some (.ref 100000), some (.ref 0), some (.ref 82), some (.int (nI i))] [.long w, .long v] z_S0 h2 (zI A)
  refine zl zM0 q0_1078 (pc' := 1079) (st' := .int (lg_cmp v w) :: []) rfl ?_
  exact zb1_eq zM0 q0_1079 (tgt := 1596) rfl (fun _ => K h2 R2) (fun hc => absurd (by rw [e]; exact lg_cmp0 w) hc)
theorem lw24 {l : List Int32} {d i : Nat} {h : zH} {A : Int32 → zH → Prop} (hl : l.length ≤ 448) (hi : i + 7 ≤ l.length) (R : zR h) (K : ∀ h', zR h' → zP (some l) (d + 61) 0 1596 [some (.ref 100000), some (.ref 0), some (.ref 82), some (.int (nI i))] [] z_S0 h' (zI A)) : zP (some l) (d + 61) 0 1084 [some (.ref 100000), some (.ref 0), some (.ref 82), some (.int (nI i))] [] z_S0 h (zI A) := by
  refine zl zM0 q0_1084 rfl ?_
  refine zl zM0 q0_1085 rfl ?_
  refine zl zM0 q0_1086 rfl ?_
  refine zkI zM0 q0_1087 kI1 ?_
  refine zl zM0 q0_1088 (pc' := 1089) (st' := .int (nI i + 1) :: _) rfl ?_
  refine zsc zM0 q0_1089 hl (show i + 1 < l.length by omega) (nI_add i 1) ?_
  refine zl zM0 q0_1090 rfl ?_
  refine zl zM0 q0_1091 rfl ?_
  refine zkI zM0 q0_1092 kI2 ?_
  refine zl zM0 q0_1093 (pc' := 1094) (st' := .int (nI i + 2) :: _) rfl ?_
  refine zsc zM0 q0_1094 hl (show i + 2 < l.length by omega) (nI_add i 2) ?_
  refine zl zM0 q0_1095 rfl ?_
  refine zl zM0 q0_1096 rfl ?_
  refine zkI zM0 q0_1097 kI3 ?_
  refine zl zM0 q0_1098 (pc' := 1099) (st' := .int (nI i + 3) :: _) rfl ?_
  refine zsc zM0 q0_1099 hl (show i + 3 < l.length by omega) (nI_add i 3) ?_
  refine zcV zM0 q0_1100 kl20_122 rfl rfl (Nat.le_of_ble_eq_true rfl) rfl zM105 (Nat.le_of_ble_eq_true rfl) ((q_wins R).mono (fun r0 h1 hr => ?_))
  obtain ⟨v, rfl, k1⟩ := hr
  show zP (some l) (d + 61) 0 1103 [some (.ref 100000), some (.ref 0), some (.ref 82), some (.int (nI i))] [.int v] z_S0 h1 (zI A)
  refine zl zM0 q0_1103 rfl ?_
  refine zl zM0 q0_1104 rfl ?_
  refine zl zM0 q0_1105 rfl ?_
  refine zkI zM0 q0_1106 kI1 ?_
  refine zl zM0 q0_1107 (pc' := 1108) (st' := .int (nI i + 1) :: _) rfl ?_
  refine zsc zM0 q0_1108 hl (show i + 1 < l.length by omega) (nI_add i 1) ?_
  refine zl zM0 q0_1109 rfl ?_
  refine zl zM0 q0_1110 rfl ?_
  refine zkI zM0 q0_1111 kI2 ?_
  refine zl zM0 q0_1112 (pc' := 1113) (st' := .int (nI i + 2) :: _) rfl ?_
  refine zsc zM0 q0_1113 hl (show i + 2 < l.length by omega) (nI_add i 2) ?_
  refine zl zM0 q0_1114 rfl ?_
  refine zl zM0 q0_1115 rfl ?_
  refine zkI zM0 q0_1116 kI3 ?_
  refine zl zM0 q0_1117 (pc' := 1118) (st' := .int (nI i + 3) :: _) rfl ?_
  refine zsc zM0 q0_1118 hl (show i + 3 < l.length by omega) (nI_add i 3) ?_
  refine zcV zM0 q0_1119 kl20_125 rfl rfl (Nat.le_of_ble_eq_true rfl) rfl zM191 (Nat.le_of_ble_eq_true rfl) (k1.mono (fun r1 h2 hr => ?_))
  obtain ⟨w, rfl, e, R2⟩ := hr
  show zP (some l) (d + 61) 0 1122 [some (.ref 100000), some (.ref 0), some (.ref 82), some (.int (nI i))] [.int w, .int v] z_S0 h2 (zI A)
  exact zb2_eq zM0 q0_1122 (tgt := 1596) rfl (fun _ => K h2 R2) (fun hc => absurd e hc)
theorem lw25 {l : List Int32} {d i : Nat} {h : zH} {A : Int32 → zH → Prop} (hl : l.length ≤ 448) (hi : i + 7 ≤ l.length) (R : zR h) (K : ∀ h', zR h' → zP (some l) (d + 61) 0 1596 [some (.ref 100000), some (.ref 0), some (.ref 82), some (.int (nI i))] [] z_S0 h' (zI A)) : zP (some l) (d + 61) 0 1127 [some (.ref 100000), some (.ref 0), some (.ref 82), some (.int (nI i))] [] z_S0 h (zI A) := by
  refine zl zM0 q0_1127 rfl ?_
  refine zl zM0 q0_1128 rfl ?_
  refine zl zM0 q0_1129 rfl ?_
  refine zkI zM0 q0_1130 kI1 ?_
  refine zl zM0 q0_1131 (pc' := 1132) (st' := .int (nI i + 1) :: _) rfl ?_
  refine zsc zM0 q0_1132 hl (show i + 1 < l.length by omega) (nI_add i 1) ?_
  refine zl zM0 q0_1133 rfl ?_
  refine zl zM0 q0_1134 rfl ?_
  refine zkI zM0 q0_1135 kI2 ?_
  refine zl zM0 q0_1136 (pc' := 1137) (st' := .int (nI i + 2) :: _) rfl ?_
  refine zsc zM0 q0_1137 hl (show i + 2 < l.length by omega) (nI_add i 2) ?_
  refine zcV zM0 q0_1138 kl20_126 rfl rfl (Nat.le_of_ble_eq_true rfl) rfl zM106 (Nat.le_of_ble_eq_true rfl) ((q_laid R).mono (fun r0 h1 hr => ?_))
  obtain ⟨v, rfl, k1⟩ := hr
  show zP (some l) (d + 61) 0 1141 [some (.ref 100000), some (.ref 0), some (.ref 82), some (.int (nI i))] [.int v] z_S0 h1 (zI A)
  refine zl zM0 q0_1141 rfl ?_
  refine zl zM0 q0_1142 rfl ?_
  refine zl zM0 q0_1143 rfl ?_
  refine zkI zM0 q0_1144 kI1 ?_
  refine zl zM0 q0_1145 (pc' := 1146) (st' := .int (nI i + 1) :: _) rfl ?_
  refine zsc zM0 q0_1146 hl (show i + 1 < l.length by omega) (nI_add i 1) ?_
  refine zl zM0 q0_1147 rfl ?_
  refine zl zM0 q0_1148 rfl ?_
  refine zkI zM0 q0_1149 kI2 ?_
  refine zl zM0 q0_1150 (pc' := 1151) (st' := .int (nI i + 2) :: _) rfl ?_
  refine zsc zM0 q0_1151 hl (show i + 2 < l.length by omega) (nI_add i 2) ?_
  refine zcV zM0 q0_1152 kl20_129 rfl rfl (Nat.le_of_ble_eq_true rfl) rfl zM194 (Nat.le_of_ble_eq_true rfl) (k1.mono (fun r1 h2 hr => ?_))
  obtain ⟨w, rfl, e, R2⟩ := hr
  show zP (some l) (d + 61) 0 1155 [some (.ref 100000), some (.ref 0), some (.ref 82), some (.int (nI i))] [.int w, .int v] z_S0 h2 (zI A)
  exact zb2_eq zM0 q0_1155 (tgt := 1596) rfl (fun _ => K h2 R2) (fun hc => absurd e hc)
theorem lw26 {l : List Int32} {d i : Nat} {h : zH} {A : Int32 → zH → Prop} (hl : l.length ≤ 448) (hi : i + 7 ≤ l.length) (R : zR h) (K : ∀ h', zR h' → zP (some l) (d + 61) 0 1596 [some (.ref 100000), some (.ref 0), some (.ref 82), some (.int (nI i))] [] z_S0 h' (zI A)) : zP (some l) (d + 61) 0 1160 [some (.ref 100000), some (.ref 0), some (.ref 82), some (.int (nI i))] [] z_S0 h (zI A) := by
  refine zl zM0 q0_1160 rfl ?_
  refine zl zM0 q0_1161 rfl ?_
  refine zl zM0 q0_1162 rfl ?_
  refine zkI zM0 q0_1163 kI1 ?_
  refine zl zM0 q0_1164 (pc' := 1165) (st' := .int (nI i + 1) :: _) rfl ?_
  refine zsc zM0 q0_1165 hl (show i + 1 < l.length by omega) (nI_add i 1) ?_
  refine zl zM0 q0_1166 rfl ?_
  refine zl zM0 q0_1167 rfl ?_
  refine zkI zM0 q0_1168 kI2 ?_
  refine zl zM0 q0_1169 (pc' := 1170) (st' := .int (nI i + 2) :: _) rfl ?_
  refine zsc zM0 q0_1170 hl (show i + 2 < l.length by omega) (nI_add i 2) ?_
  refine zcV zM0 q0_1171 kl20_130 rfl rfl (Nat.le_of_ble_eq_true rfl) rfl zM107 (Nat.le_of_ble_eq_true rfl) ((q_barge R).mono (fun r0 h1 hr => ?_))
  obtain ⟨v, rfl, k1⟩ := hr
  show zP (some l) (d + 61) 0 1174 [some (.ref 100000), some (.ref 0), some (.ref 82), some (.int (nI i))] [.int v] z_S0 h1 (zI A)
  refine zl zM0 q0_1174 rfl ?_
  refine zl zM0 q0_1175 rfl ?_
  refine zl zM0 q0_1176 rfl ?_
  refine zkI zM0 q0_1177 kI1 ?_
  refine zl zM0 q0_1178 (pc' := 1179) (st' := .int (nI i + 1) :: _) rfl ?_
  refine zsc zM0 q0_1179 hl (show i + 1 < l.length by omega) (nI_add i 1) ?_
  refine zl zM0 q0_1180 rfl ?_
  refine zl zM0 q0_1181 rfl ?_
  refine zkI zM0 q0_1182 kI2 ?_
  refine zl zM0 q0_1183 (pc' := 1184) (st' := .int (nI i + 2) :: _) rfl ?_
  refine zsc zM0 q0_1184 hl (show i + 2 < l.length by omega) (nI_add i 2) ?_
  refine zcV zM0 q0_1185 kl20_133 rfl rfl (Nat.le_of_ble_eq_true rfl) rfl zM195 (Nat.le_of_ble_eq_true rfl) (k1.mono (fun r1 h2 hr => ?_))
  obtain ⟨w, rfl, e, R2⟩ := hr
  show zP (some l) (d + 61) 0 1188 [some (.ref 100000), some (.ref 0), some (.ref 82), some (.int (nI i))] [.int w, .int v] z_S0 h2 (zI A)
  exact zb2_eq zM0 q0_1188 (tgt := 1596) rfl (fun _ => K h2 R2) (fun hc => absurd e hc)
theorem lw27 {l : List Int32} {d i : Nat} {h : zH} {A : Int32 → zH → Prop} (hl : l.length ≤ 448) (hi : i + 7 ≤ l.length) (R : zR h) (K : ∀ h', zR h' → zP (some l) (d + 61) 0 1596 [some (.ref 100000), some (.ref 0), some (.ref 82), some (.int (nI i))] [] z_S0 h' (zI A)) : zP (some l) (d + 61) 0 1193 [some (.ref 100000), some (.ref 0), some (.ref 82), some (.int (nI i))] [] z_S0 h (zI A) := by
  refine zl zM0 q0_1193 rfl ?_
  refine zl zM0 q0_1194 rfl ?_
  refine zl zM0 q0_1195 rfl ?_
  refine zkI zM0 q0_1196 kI1 ?_
  refine zl zM0 q0_1197 (pc' := 1198) (st' := .int (nI i + 1) :: _) rfl ?_
  refine zsc zM0 q0_1198 hl (show i + 1 < l.length by omega) (nI_add i 1) ?_
  refine zl zM0 q0_1199 rfl ?_
  refine zl zM0 q0_1200 rfl ?_
  refine zkI zM0 q0_1201 kI2 ?_
  refine zl zM0 q0_1202 (pc' := 1203) (st' := .int (nI i + 2) :: _) rfl ?_
  refine zsc zM0 q0_1203 hl (show i + 2 < l.length by omega) (nI_add i 2) ?_
  refine zcV zM0 q0_1204 kl20_134 rfl rfl (Nat.le_of_ble_eq_true rfl) rfl zM108 (Nat.le_of_ble_eq_true rfl) ((q_tide R).mono (fun r0 h1 hr => ?_))
  obtain ⟨v, rfl, k1⟩ := hr
  show zP (some l) (d + 61) 0 1207 [some (.ref 100000), some (.ref 0), some (.ref 82), some (.int (nI i))] [.int v] z_S0 h1 (zI A)
  refine zl zM0 q0_1207 rfl ?_
  refine zl zM0 q0_1208 rfl ?_
  refine zl zM0 q0_1209 rfl ?_
  refine zkI zM0 q0_1210 kI1 ?_
  refine zl zM0 q0_1211 (pc' := 1212) (st' := .int (nI i + 1) :: _) rfl ?_
  refine zsc zM0 q0_1212 hl (show i + 1 < l.length by omega) (nI_add i 1) ?_
  refine zl zM0 q0_1213 rfl ?_
  refine zl zM0 q0_1214 rfl ?_
  refine zkI zM0 q0_1215 kI2 ?_
  refine zl zM0 q0_1216 (pc' := 1217) (st' := .int (nI i + 2) :: _) rfl ?_
  refine zsc zM0 q0_1217 hl (show i + 2 < l.length by omega) (nI_add i 2) ?_
  refine zcV zM0 q0_1218 kl20_137 rfl rfl (Nat.le_of_ble_eq_true rfl) rfl zM198 (Nat.le_of_ble_eq_true rfl) (k1.mono (fun r1 h2 hr => ?_))
  obtain ⟨w, rfl, e, R2⟩ := hr
  show zP (some l) (d + 61) 0 1221 [some (.ref 100000), some (.ref 0), some (.ref 82), some (.int (nI i))] [.int w, .int v] z_S0 h2 (zI A)
  exact zb2_eq zM0 q0_1221 (tgt := 1596) rfl (fun _ => K h2 R2) (fun hc => absurd e hc)
theorem lw28 {l : List Int32} {d i : Nat} {h : zH} {A : Int32 → zH → Prop} (hl : l.length ≤ 448) (hi : i + 7 ≤ l.length) (R : zR h) (K : ∀ h', zR h' → zP (some l) (d + 61) 0 1596 [some (.ref 100000), some (.ref 0), some (.ref 82), some (.int (nI i))] [] z_S0 h' (zI A)) : zP (some l) (d + 61) 0 1226 [some (.ref 100000), some (.ref 0), some (.ref 82), some (.int (nI i))] [] z_S0 h (zI A) := by
  refine zl zM0 q0_1226 rfl ?_
  refine zl zM0 q0_1227 rfl ?_
  refine zl zM0 q0_1228 rfl ?_
  refine zkI zM0 q0_1229 kI1 ?_
  refine zl zM0 q0_1230 (pc' := 1231) (st' := .int (nI i + 1) :: _) rfl ?_
  refine zsc zM0 q0_1231 hl (show i + 1 < l.length by omega) (nI_add i 1) ?_
  refine zl zM0 q0_1232 rfl ?_
  refine zl zM0 q0_1233 rfl ?_
  refine zkI zM0 q0_1234 kI2 ?_
  refine zl zM0 q0_1235 (pc' := 1236) (st' := .int (nI i + 2) :: _) rfl ?_
  refine zsc zM0 q0_1236 hl (show i + 2 < l.length by omega) (nI_add i 2) ?_
  refine zcV zM0 q0_1237 kl20_138 rfl rfl (Nat.le_of_ble_eq_true rfl) rfl zM109 (Nat.le_of_ble_eq_true rfl) ((q_buyer R).mono (fun r0 h1 hr => ?_))
  obtain ⟨v, rfl, k1⟩ := hr
  show zP (some l) (d + 61) 0 1240 [some (.ref 100000), some (.ref 0), some (.ref 82), some (.int (nI i))] [.int v] z_S0 h1 (zI A)
  refine zl zM0 q0_1240 rfl ?_
  refine zl zM0 q0_1241 rfl ?_
  refine zl zM0 q0_1242 rfl ?_
  refine zkI zM0 q0_1243 kI1 ?_
  refine zl zM0 q0_1244 (pc' := 1245) (st' := .int (nI i + 1) :: _) rfl ?_
  refine zsc zM0 q0_1245 hl (show i + 1 < l.length by omega) (nI_add i 1) ?_
  refine zl zM0 q0_1246 rfl ?_
  refine zl zM0 q0_1247 rfl ?_
  refine zkI zM0 q0_1248 kI2 ?_
  refine zl zM0 q0_1249 (pc' := 1250) (st' := .int (nI i + 2) :: _) rfl ?_
  refine zsc zM0 q0_1250 hl (show i + 2 < l.length by omega) (nI_add i 2) ?_
  refine zcV zM0 q0_1251 kl20_141 rfl rfl (Nat.le_of_ble_eq_true rfl) rfl zM199 (Nat.le_of_ble_eq_true rfl) (k1.mono (fun r1 h2 hr => ?_))
  obtain ⟨w, rfl, e, R2⟩ := hr
  show zP (some l) (d + 61) 0 1254 [some (.ref 100000), some (.ref 0), some (.ref 82), some (.int (nI i))] [.int w, .int v] z_S0 h2 (zI A)
  exact zb2_eq zM0 q0_1254 (tgt := 1596) rfl (fun _ => K h2 R2) (fun hc => absurd e hc)
theorem lw29 {l : List Int32} {d i : Nat} {h : zH} {A : Int32 → zH → Prop} (hl : l.length ≤ 448) (hi : i + 7 ≤ l.length) (R : zR h) (K : ∀ h', zR h' → zP (some l) (d + 61) 0 1596 [some (.ref 100000), some (.ref 0), some (.ref 82), some (.int (nI i))] [] z_S0 h' (zI A)) : zP (some l) (d + 61) 0 1259 [some (.ref 100000), some (.ref 0), some (.ref 82), some (.int (nI i))] [] z_S0 h (zI A) := by
  refine zl zM0 q0_1259 rfl ?_
  refine zl zM0 q0_1260 rfl ?_
  refine zl zM0 q0_1261 rfl ?_
  refine zkI zM0 q0_1262 kI1 ?_
  refine zl zM0 q0_1263 (pc' := 1264) (st' := .int (nI i + 1) :: _) rfl ?_
  refine zsc zM0 q0_1264 hl (show i + 1 < l.length by omega) (nI_add i 1) ?_
  refine zl zM0 q0_1265 rfl ?_
  refine zl zM0 q0_1266 rfl ?_
  refine zkI zM0 q0_1267 kI2 ?_
  refine zl zM0 q0_1268 (pc' := 1269) (st' := .int (nI i + 2) :: _) rfl ?_
  refine zsc zM0 q0_1269 hl (show i + 2 < l.length by omega) (nI_add i 2) ?_
  refine zcV zM0 q0_1270 kl20_142 rfl rfl (Nat.le_of_ble_eq_true rfl) rfl zM110 (Nat.le_of_ble_eq_true rfl) ((q_stop R).mono (fun r0 h1 hr => ?_))
  obtain ⟨v, rfl, k1⟩ := hr
  show zP (some l) (d + 61) 0 1273 [some (.ref 100000), some (.ref 0), some (.ref 82), some (.int (nI i))] [.int v] z_S0 h1 (zI A)
  refine zl zM0 q0_1273 rfl ?_
  refine zl zM0 q0_1274 rfl ?_
  refine zl zM0 q0_1275 rfl ?_
  refine zkI zM0 q0_1276 kI1 ?_
  refine zl zM0 q0_1277 (pc' := 1278) (st' := .int (nI i + 1) :: _) rfl ?_
  refine zsc zM0 q0_1278 hl (show i + 1 < l.length by omega) (nI_add i 1) ?_
  refine zl zM0 q0_1279 rfl ?_
  refine zl zM0 q0_1280 rfl ?_
  refine zkI zM0 q0_1281 kI2 ?_
  refine zl zM0 q0_1282 (pc' := 1283) (st' := .int (nI i + 2) :: _) rfl ?_
  refine zsc zM0 q0_1283 hl (show i + 2 < l.length by omega) (nI_add i 2) ?_
  refine zcV zM0 q0_1284 kl20_145 rfl rfl (Nat.le_of_ble_eq_true rfl) rfl zM200 (Nat.le_of_ble_eq_true rfl) (k1.mono (fun r1 h2 hr => ?_))
  obtain ⟨w, rfl, e, R2⟩ := hr
  show zP (some l) (d + 61) 0 1287 [some (.ref 100000), some (.ref 0), some (.ref 82), some (.int (nI i))] [.int w, .int v] z_S0 h2 (zI A)
  exact zb2_eq zM0 q0_1287 (tgt := 1596) rfl (fun _ => K h2 R2) (fun hc => absurd e hc)
theorem lw30 {l : List Int32} {d i : Nat} {h : zH} {A : Int32 → zH → Prop} (hl : l.length ≤ 448) (hi : i + 7 ≤ l.length) (R : zR h) (K : ∀ h', zR h' → zP (some l) (d + 61) 0 1596 [some (.ref 100000), some (.ref 0), some (.ref 82), some (.int (nI i))] [] z_S0 h' (zI A)) : zP (some l) (d + 61) 0 1292 [some (.ref 100000), some (.ref 0), some (.ref 82), some (.int (nI i))] [] z_S0 h (zI A) := by
  refine zl zM0 q0_1292 rfl ?_
  refine zl zM0 q0_1293 rfl ?_
  refine zl zM0 q0_1294 rfl ?_
  refine zkI zM0 q0_1295 kI1 ?_
  refine zl zM0 q0_1296 (pc' := 1297) (st' := .int (nI i + 1) :: _) rfl ?_
  refine zsc zM0 q0_1297 hl (show i + 1 < l.length by omega) (nI_add i 1) ?_
  refine zcV zM0 q0_1298 kl20_146 rfl rfl (Nat.le_of_ble_eq_true rfl) rfl zM111 (Nat.le_of_ble_eq_true rfl) ((q_parted R).mono (fun r0 h1 hr => ?_))
  obtain ⟨v, rfl, k1⟩ := hr
  show zP (some l) (d + 61) 0 1301 [some (.ref 100000), some (.ref 0), some (.ref 82), some (.int (nI i))] [.long v] z_S0 h1 (zI A)
  refine zl zM0 q0_1301 rfl ?_
  refine zl zM0 q0_1302 rfl ?_
  refine zl zM0 q0_1303 rfl ?_
  refine zkI zM0 q0_1304 kI1 ?_
  refine zl zM0 q0_1305 (pc' := 1306) (st' := .int (nI i + 1) :: _) rfl ?_
  refine zsc zM0 q0_1306 hl (show i + 1 < l.length by omega) (nI_add i 1) ?_
  refine zcV zM0 q0_1307 kl20_149 rfl rfl (Nat.le_of_ble_eq_true rfl) rfl zM203 (Nat.le_of_ble_eq_true rfl) (k1.mono (fun r1 h2 hr => ?_))
  obtain ⟨w, rfl, e, R2⟩ := hr
  show zP (some l) (d + 61) 0 1310 [some (.ref 100000), some (.ref 0), some (.ref 82), some (.int (nI i))] [.long w, .long v] z_S0 h2 (zI A)
  refine zl zM0 q0_1310 (pc' := 1311) (st' := .int (lg_cmp v w) :: []) rfl ?_
  exact zb1_eq zM0 q0_1311 (tgt := 1596) rfl (fun _ => K h2 R2) (fun hc => absurd (by rw [e]; exact lg_cmp0 w) hc)
theorem lw31 {l : List Int32} {d i : Nat} {h : zH} {A : Int32 → zH → Prop} (hl : l.length ≤ 448) (hi : i + 7 ≤ l.length) (R : zR h) (K : ∀ h', zR h' → zP (some l) (d + 61) 0 1596 [some (.ref 100000), some (.ref 0), some (.ref 82), some (.int (nI i))] [] z_S0 h' (zI A)) : zP (some l) (d + 61) 0 1316 [some (.ref 100000), some (.ref 0), some (.ref 82), some (.int (nI i))] [] z_S0 h (zI A) := by
  refine zl zM0 q0_1316 rfl ?_
  refine zl zM0 q0_1317 rfl ?_
  refine zl zM0 q0_1318 rfl ?_
  refine zkI zM0 q0_1319 kI1 ?_
  refine zl zM0 q0_1320 (pc' := 1321) (st' := .int (nI i + 1) :: _) rfl ?_
  refine zsc zM0 q0_1321 hl (show i + 1 < l.length by omega) (nI_add i 1) ?_
  refine zcV zM0 q0_1322 kl20_150 rfl rfl (Nat.le_of_ble_eq_true rfl) rfl zM112 (Nat.le_of_ble_eq_true rfl) ((q_count R).mono (fun r0 h1 hr => ?_))
  obtain ⟨v, rfl, k1⟩ := hr
  show zP (some l) (d + 61) 0 1325 [some (.ref 100000), some (.ref 0), some (.ref 82), some (.int (nI i))] [.int v] z_S0 h1 (zI A)
  refine zl zM0 q0_1325 rfl ?_
  refine zl zM0 q0_1326 rfl ?_
  refine zl zM0 q0_1327 rfl ?_
  refine zkI zM0 q0_1328 kI1 ?_
  refine zl zM0 q0_1329 (pc' := 1330) (st' := .int (nI i + 1) :: _) rfl ?_
  refine zsc zM0 q0_1330 hl (show i + 1 < l.length by omega) (nI_add i 1) ?_
  refine zcV zM0 q0_1331 kl20_153 rfl rfl (Nat.le_of_ble_eq_true rfl) rfl zM204 (Nat.le_of_ble_eq_true rfl) (k1.mono (fun r1 h2 hr => ?_))
  obtain ⟨w, rfl, e, R2⟩ := hr
  show zP (some l) (d + 61) 0 1334 [some (.ref 100000), some (.ref 0), some (.ref 82), some (.int (nI i))] [.int w, .int v] z_S0 h2 (zI A)
  exact zb2_eq zM0 q0_1334 (tgt := 1596) rfl (fun _ => K h2 R2) (fun hc => absurd e hc)
theorem lw32 {l : List Int32} {d i : Nat} {h : zH} {A : Int32 → zH → Prop} (hl : l.length ≤ 448) (hi : i + 7 ≤ l.length) (R : zR h) (K : ∀ h', zR h' → zP (some l) (d + 61) 0 1596 [some (.ref 100000), some (.ref 0), some (.ref 82), some (.int (nI i))] [] z_S0 h' (zI A)) : zP (some l) (d + 61) 0 1339 [some (.ref 100000), some (.ref 0), some (.ref 82), some (.int (nI i))] [] z_S0 h (zI A) := by
  refine zl zM0 q0_1339 rfl ?_
  refine zl zM0 q0_1340 rfl ?_
  refine zl zM0 q0_1341 rfl ?_
  refine zkI zM0 q0_1342 kI1 ?_
  refine zl zM0 q0_1343 (pc' := 1344) (st' := .int (nI i + 1) :: _) rfl ?_
  refine zsc zM0 q0_1344 hl (show i + 1 < l.length by omega) (nI_add i 1) ?_
  refine zl zM0 q0_1345 rfl ?_
  refine zl zM0 q0_1346 rfl ?_
  refine zkI zM0 q0_1347 kI2 ?_
  refine zl zM0 q0_1348 (pc' := 1349) (st' := .int (nI i + 2) :: _) rfl ?_
  refine zsc zM0 q0_1349 hl (show i + 2 < l.length by omega) (nI_add i 2) ?_
  refine zl zM0 q0_1350 rfl ?_
  refine zl zM0 q0_1351 rfl ?_
  refine zkI zM0 q0_1352 kI3 ?_
  refine zl zM0 q0_1353 (pc' := 1354) (st' := .int (nI i + 3) :: _) rfl ?_
  refine zsc zM0 q0_1354 hl (show i + 3 < l.length by omega) (nI_add i 3) ?_
  refine zcV zM0 q0_1355 kl20_154 rfl rfl (Nat.le_of_ble_eq_true rfl) rfl zM113 (Nat.le_of_ble_eq_true rfl) ((q_sheet R).mono (fun r0 h1 hr => ?_))
  obtain ⟨v, rfl, k1⟩ := hr
  show zP (some l) (d + 61) 0 1358 [some (.ref 100000), some (.ref 0), some (.ref 82), some (.int (nI i))] [.int v] z_S0 h1 (zI A)
  refine zl zM0 q0_1358 rfl ?_
  refine zl zM0 q0_1359 rfl ?_
  refine zl zM0 q0_1360 rfl ?_
  refine zkI zM0 q0_1361 kI1 ?_
  refine zl zM0 q0_1362 (pc' := 1363) (st' := .int (nI i + 1) :: _) rfl ?_
  refine zsc zM0 q0_1363 hl (show i + 1 < l.length by omega) (nI_add i 1) ?_
  refine zl zM0 q0_1364 rfl ?_
  refine zl zM0 q0_1365 rfl ?_
  refine zkI zM0 q0_1366 kI2 ?_
  refine zl zM0 q0_1367 (pc' := 1368) (st' := .int (nI i + 2) :: _) rfl ?_
  refine zsc zM0 q0_1368 hl (show i + 2 < l.length by omega) (nI_add i 2) ?_
  refine zl zM0 q0_1369 rfl ?_
  refine zl zM0 q0_1370 rfl ?_
  refine zkI zM0 q0_1371 kI3 ?_
  refine zl zM0 q0_1372 (pc' := 1373) (st' := .int (nI i + 3) :: _) rfl ?_
  refine zsc zM0 q0_1373 hl (show i + 3 < l.length by omega) (nI_add i 3) ?_
  refine zcV zM0 q0_1374 kl20_157 rfl rfl (Nat.le_of_ble_eq_true rfl) rfl zM206 (Nat.le_of_ble_eq_true rfl) (k1.mono (fun r1 h2 hr => ?_))
  obtain ⟨w, rfl, e, R2⟩ := hr
  show zP (some l) (d + 61) 0 1377 [some (.ref 100000), some (.ref 0), some (.ref 82), some (.int (nI i))] [.int w, .int v] z_S0 h2 (zI A)
  exact zb2_eq zM0 q0_1377 (tgt := 1596) rfl (fun _ => K h2 R2) (fun hc => absurd e hc)
theorem lw33 {l : List Int32} {d i : Nat} {h : zH} {A : Int32 → zH → Prop} (hl : l.length ≤ 448) (hi : i + 7 ≤ l.length) (R : zR h) (K : ∀ h', zR h' → zP (some l) (d + 61) 0 1596 [some (.ref 100000), some (.ref 0), some (.ref 82), some (.int (nI i))] [] z_S0 h' (zI A)) : zP (some l) (d + 61) 0 1382 [some (.ref 100000), some (.ref 0), some (.ref 82), some (.int (nI i))] [] z_S0 h (zI A) := by
  refine zl zM0 q0_1382 rfl ?_
  refine zl zM0 q0_1383 rfl ?_
  refine zl zM0 q0_1384 rfl ?_
  refine zkI zM0 q0_1385 kI1 ?_
  refine zl zM0 q0_1386 (pc' := 1387) (st' := .int (nI i + 1) :: _) rfl ?_
  refine zsc zM0 q0_1387 hl (show i + 1 < l.length by omega) (nI_add i 1) ?_
  refine zl zM0 q0_1388 rfl ?_
  refine zl zM0 q0_1389 rfl ?_
  refine zkI zM0 q0_1390 kI2 ?_
  refine zl zM0 q0_1391 (pc' := 1392) (st' := .int (nI i + 2) :: _) rfl ?_
  refine zsc zM0 q0_1392 hl (show i + 2 < l.length by omega) (nI_add i 2) ?_
  refine zl zM0 q0_1393 rfl ?_
  refine zl zM0 q0_1394 rfl ?_
  refine zkI zM0 q0_1395 kI3 ?_
  refine zl zM0 q0_1396 (pc' := 1397) (st' := .int (nI i + 3) :: _) rfl ?_
  refine zsc zM0 q0_1397 hl (show i + 3 < l.length by omega) (nI_add i 3) ?_
  refine zcV zM0 q0_1398 kl20_158 rfl rfl (Nat.le_of_ble_eq_true rfl) rfl zM114 (Nat.le_of_ble_eq_true rfl) ((q_cell R).mono (fun r0 h1 hr => ?_))
  obtain ⟨v, rfl, k1⟩ := hr
  show zP (some l) (d + 61) 0 1401 [some (.ref 100000), some (.ref 0), some (.ref 82), some (.int (nI i))] [.int v] z_S0 h1 (zI A)
  refine zl zM0 q0_1401 rfl ?_
  refine zl zM0 q0_1402 rfl ?_
  refine zl zM0 q0_1403 rfl ?_
  refine zkI zM0 q0_1404 kI1 ?_
  refine zl zM0 q0_1405 (pc' := 1406) (st' := .int (nI i + 1) :: _) rfl ?_
  refine zsc zM0 q0_1406 hl (show i + 1 < l.length by omega) (nI_add i 1) ?_
  refine zl zM0 q0_1407 rfl ?_
  refine zl zM0 q0_1408 rfl ?_
  refine zkI zM0 q0_1409 kI2 ?_
  refine zl zM0 q0_1410 (pc' := 1411) (st' := .int (nI i + 2) :: _) rfl ?_
  refine zsc zM0 q0_1411 hl (show i + 2 < l.length by omega) (nI_add i 2) ?_
  refine zl zM0 q0_1412 rfl ?_
  refine zl zM0 q0_1413 rfl ?_
  refine zkI zM0 q0_1414 kI3 ?_
  refine zl zM0 q0_1415 (pc' := 1416) (st' := .int (nI i + 3) :: _) rfl ?_
  refine zsc zM0 q0_1416 hl (show i + 3 < l.length by omega) (nI_add i 3) ?_
  refine zcV zM0 q0_1417 kl20_161 rfl rfl (Nat.le_of_ble_eq_true rfl) rfl zM208 (Nat.le_of_ble_eq_true rfl) (k1.mono (fun r1 h2 hr => ?_))
  obtain ⟨w, rfl, e, R2⟩ := hr
  show zP (some l) (d + 61) 0 1420 [some (.ref 100000), some (.ref 0), some (.ref 82), some (.int (nI i))] [.int w, .int v] z_S0 h2 (zI A)
  exact zb2_eq zM0 q0_1420 (tgt := 1596) rfl (fun _ => K h2 R2) (fun hc => absurd e hc)
theorem lw34 {l : List Int32} {d i : Nat} {h : zH} {A : Int32 → zH → Prop} (hl : l.length ≤ 448) (hi : i + 7 ≤ l.length) (R : zR h) (K : ∀ h', zR h' → zP (some l) (d + 61) 0 1596 [some (.ref 100000), some (.ref 0), some (.ref 82), some (.int (nI i))] [] z_S0 h' (zI A)) : zP (some l) (d + 61) 0 1425 [some (.ref 100000), some (.ref 0), some (.ref 82), some (.int (nI i))] [] z_S0 h (zI A) := by
  refine zl zM0 q0_1425 rfl ?_
  refine zl zM0 q0_1426 rfl ?_
  refine zl zM0 q0_1427 rfl ?_
  refine zkI zM0 q0_1428 kI1 ?_
  refine zl zM0 q0_1429 (pc' := 1430) (st' := .int (nI i + 1) :: _) rfl ?_
  refine zsc zM0 q0_1430 hl (show i + 1 < l.length by omega) (nI_add i 1) ?_
  refine zl zM0 q0_1431 rfl ?_
  refine zl zM0 q0_1432 rfl ?_
  refine zkI zM0 q0_1433 kI2 ?_
  refine zl zM0 q0_1434 (pc' := 1435) (st' := .int (nI i + 2) :: _) rfl ?_
  refine zsc zM0 q0_1435 hl (show i + 2 < l.length by omega) (nI_add i 2) ?_
  refine zl zM0 q0_1436 rfl ?_
  refine zl zM0 q0_1437 rfl ?_
  refine zkI zM0 q0_1438 kI3 ?_
  refine zl zM0 q0_1439 (pc' := 1440) (st' := .int (nI i + 3) :: _) rfl ?_
  refine zsc zM0 q0_1440 hl (show i + 3 < l.length by omega) (nI_add i 3) ?_
  refine zl zM0 q0_1441 rfl ?_
  refine zl zM0 q0_1442 rfl ?_
  refine zkI zM0 q0_1443 kI4 ?_
  refine zl zM0 q0_1444 (pc' := 1445) (st' := .int (nI i + 4) :: _) rfl ?_
  refine zsc zM0 q0_1445 hl (show i + 4 < l.length by omega) (nI_add i 4) ?_
  refine zl zM0 q0_1446 rfl ?_
  refine zl zM0 q0_1447 rfl ?_
  refine zkI zM0 q0_1448 kI5 ?_
  refine zl zM0 q0_1449 (pc' := 1450) (st' := .int (nI i + 5) :: _) rfl ?_
  refine zsc zM0 q0_1450 hl (show i + 5 < l.length by omega) (nI_add i 5) ?_
  refine zcV zM0 q0_1451 kl20_162 rfl rfl (Nat.le_of_ble_eq_true rfl) rfl zM115 (Nat.le_of_ble_eq_true rfl) ((q_copy R).mono (fun r0 h1 hr => ?_))
  obtain ⟨v, rfl, k1⟩ := hr
  show zP (some l) (d + 61) 0 1454 [some (.ref 100000), some (.ref 0), some (.ref 82), some (.int (nI i))] [.int v] z_S0 h1 (zI A)
  refine zl zM0 q0_1454 rfl ?_
  refine zl zM0 q0_1455 rfl ?_
  refine zl zM0 q0_1456 rfl ?_
  refine zkI zM0 q0_1457 kI1 ?_
  refine zl zM0 q0_1458 (pc' := 1459) (st' := .int (nI i + 1) :: _) rfl ?_
  refine zsc zM0 q0_1459 hl (show i + 1 < l.length by omega) (nI_add i 1) ?_
  refine zl zM0 q0_1460 rfl ?_
  refine zl zM0 q0_1461 rfl ?_
  refine zkI zM0 q0_1462 kI2 ?_
  refine zl zM0 q0_1463 (pc' := 1464) (st' := .int (nI i + 2) :: _) rfl ?_
  refine zsc zM0 q0_1464 hl (show i + 2 < l.length by omega) (nI_add i 2) ?_
  refine zl zM0 q0_1465 rfl ?_
  refine zl zM0 q0_1466 rfl ?_
  refine zkI zM0 q0_1467 kI3 ?_
  refine zl zM0 q0_1468 (pc' := 1469) (st' := .int (nI i + 3) :: _) rfl ?_
  refine zsc zM0 q0_1469 hl (show i + 3 < l.length by omega) (nI_add i 3) ?_
  refine zl zM0 q0_1470 rfl ?_
  refine zl zM0 q0_1471 rfl ?_
  refine zkI zM0 q0_1472 kI4 ?_
  refine zl zM0 q0_1473 (pc' := 1474) (st' := .int (nI i + 4) :: _) rfl ?_
  refine zsc zM0 q0_1474 hl (show i + 4 < l.length by omega) (nI_add i 4) ?_
  refine zl zM0 q0_1475 rfl ?_
  refine zl zM0 q0_1476 rfl ?_
  refine zkI zM0 q0_1477 kI5 ?_
  refine zl zM0 q0_1478 (pc' := 1479) (st' := .int (nI i + 5) :: _) rfl ?_
  refine zsc zM0 q0_1479 hl (show i + 5 < l.length by omega) (nI_add i 5) ?_
  refine zcV zM0 q0_1480 kl20_166 rfl rfl (Nat.le_of_ble_eq_true rfl) rfl zM209 (Nat.le_of_ble_eq_true rfl) (k1.mono (fun r1 h2 hr => ?_))
  obtain ⟨w, rfl, e, R2⟩ := hr
  show zP (some l) (d + 61) 0 1483 [some (.ref 100000), some (.ref 0), some (.ref 82), some (.int (nI i))] [.int w, .int v] z_S0 h2 (zI A)
  exact zb2_eq zM0 q0_1483 (tgt := 1596) rfl (fun _ => K h2 R2) (fun hc => absurd e hc)
theorem lw35 {l : List Int32} {d i : Nat} {h : zH} {A : Int32 → zH → Prop} (hl : l.length ≤ 448) (hi : i + 7 ≤ l.length) (R : zR h) (K : ∀ h', zR h' → zP (some l) (d + 61) 0 1596 [some (.ref 100000), some (.ref 0), some (.ref 82), some (.int (nI i))] [] z_S0 h' (zI A)) : zP (some l) (d + 61) 0 1488 [some (.ref 100000), some (.ref 0), some (.ref 82), some (.int (nI i))] [] z_S0 h (zI A) := by
  refine zl zM0 q0_1488 rfl ?_
  refine zl zM0 q0_1489 rfl ?_
  refine zl zM0 q0_1490 rfl ?_
  refine zkI zM0 q0_1491 kI1 ?_
  refine zl zM0 q0_1492 (pc' := 1493) (st' := .int (nI i + 1) :: _) rfl ?_
  refine zsc zM0 q0_1493 hl (show i + 1 < l.length by omega) (nI_add i 1) ?_
  refine zl zM0 q0_1494 rfl ?_
  refine zl zM0 q0_1495 rfl ?_
  refine zkI zM0 q0_1496 kI2 ?_
  refine zl zM0 q0_1497 (pc' := 1498) (st' := .int (nI i + 2) :: _) rfl ?_
  refine zsc zM0 q0_1498 hl (show i + 2 < l.length by omega) (nI_add i 2) ?_
  refine zl zM0 q0_1499 rfl ?_
  refine zl zM0 q0_1500 rfl ?_
  refine zkI zM0 q0_1501 kI3 ?_
  refine zl zM0 q0_1502 (pc' := 1503) (st' := .int (nI i + 3) :: _) rfl ?_
  refine zsc zM0 q0_1503 hl (show i + 3 < l.length by omega) (nI_add i 3) ?_
  refine zl zM0 q0_1504 rfl ?_
  refine zl zM0 q0_1505 rfl ?_
  refine zkI zM0 q0_1506 kI4 ?_
  refine zl zM0 q0_1507 (pc' := 1508) (st' := .int (nI i + 4) :: _) rfl ?_
  refine zsc zM0 q0_1508 hl (show i + 4 < l.length by omega) (nI_add i 4) ?_
  refine zl zM0 q0_1509 rfl ?_
  refine zl zM0 q0_1510 rfl ?_
  refine zkI zM0 q0_1511 kI5 ?_
  refine zl zM0 q0_1512 (pc' := 1513) (st' := .int (nI i + 5) :: _) rfl ?_
  refine zsc zM0 q0_1513 hl (show i + 5 < l.length by omega) (nI_add i 5) ?_
  refine zl zM0 q0_1514 rfl ?_
  refine zl zM0 q0_1515 rfl ?_
  refine zkB zM0 q0_1516 kB6 ?_
  refine zl zM0 q0_1518 (pc' := 1519) (st' := .int (nI i + 6) :: _) rfl ?_
  refine zsc zM0 q0_1519 hl (show i + 6 < l.length by omega) (nI_add i 6) ?_
  refine zcV zM0 q0_1520 kl20_167 rfl rfl (Nat.le_of_ble_eq_true rfl) rfl zM116 (Nat.le_of_ble_eq_true rfl) ((q_prices R).mono (fun r0 h1 hr => ?_))
  obtain ⟨v, rfl, k1⟩ := hr
  show zP (some l) (d + 61) 0 1523 [some (.ref 100000), some (.ref 0), some (.ref 82), some (.int (nI i))] [.int v] z_S0 h1 (zI A)
  refine zl zM0 q0_1523 rfl ?_
  refine zl zM0 q0_1524 rfl ?_
  refine zl zM0 q0_1525 rfl ?_
  refine zkI zM0 q0_1526 kI1 ?_
  refine zl zM0 q0_1527 (pc' := 1528) (st' := .int (nI i + 1) :: _) rfl ?_
  refine zsc zM0 q0_1528 hl (show i + 1 < l.length by omega) (nI_add i 1) ?_
  refine zl zM0 q0_1529 rfl ?_
  refine zl zM0 q0_1530 rfl ?_
  refine zkI zM0 q0_1531 kI2 ?_
  refine zl zM0 q0_1532 (pc' := 1533) (st' := .int (nI i + 2) :: _) rfl ?_
  refine zsc zM0 q0_1533 hl (show i + 2 < l.length by omega) (nI_add i 2) ?_
  refine zl zM0 q0_1534 rfl ?_
  refine zl zM0 q0_1535 rfl ?_
  refine zkI zM0 q0_1536 kI3 ?_
  refine zl zM0 q0_1537 (pc' := 1538) (st' := .int (nI i + 3) :: _) rfl ?_
  refine zsc zM0 q0_1538 hl (show i + 3 < l.length by omega) (nI_add i 3) ?_
  refine zl zM0 q0_1539 rfl ?_
  refine zl zM0 q0_1540 rfl ?_
  refine zkI zM0 q0_1541 kI4 ?_
  refine zl zM0 q0_1542 (pc' := 1543) (st' := .int (nI i + 4) :: _) rfl ?_
  refine zsc zM0 q0_1543 hl (show i + 4 < l.length by omega) (nI_add i 4) ?_
  refine zl zM0 q0_1544 rfl ?_
  refine zl zM0 q0_1545 rfl ?_
  refine zkI zM0 q0_1546 kI5 ?_
  refine zl zM0 q0_1547 (pc' := 1548) (st' := .int (nI i + 5) :: _) rfl ?_
  refine zsc zM0 q0_1548 hl (show i + 5 < l.length by omega) (nI_add i 5) ?_
  refine zl zM0 q0_1549 rfl ?_
  refine zl zM0 q0_1550 rfl ?_
  refine zkB zM0 q0_1551 kB6 ?_
  refine zl zM0 q0_1553 (pc' := 1554) (st' := .int (nI i + 6) :: _) rfl ?_
  refine zsc zM0 q0_1554 hl (show i + 6 < l.length by omega) (nI_add i 6) ?_
  refine zcV zM0 q0_1555 kl20_170 rfl rfl (Nat.le_of_ble_eq_true rfl) rfl zM210 (Nat.le_of_ble_eq_true rfl) (k1.mono (fun r1 h2 hr => ?_))
  obtain ⟨w, rfl, e, R2⟩ := hr
  show zP (some l) (d + 61) 0 1558 [some (.ref 100000), some (.ref 0), some (.ref 82), some (.int (nI i))] [.int w, .int v] z_S0 h2 (zI A)
  exact zb2_eq zM0 q0_1558 (tgt := 1596) rfl (fun _ => K h2 R2) (fun hc => absurd e hc)
theorem lw36 {l : List Int32} {d i : Nat} {h : zH} {A : Int32 → zH → Prop} (hl : l.length ≤ 448) (hi : i + 7 ≤ l.length) (R : zR h) (K : ∀ h', zR h' → zP (some l) (d + 61) 0 1596 [some (.ref 100000), some (.ref 0), some (.ref 82), some (.int (nI i))] [] z_S0 h' (zI A)) : zP (some l) (d + 61) 0 1563 [some (.ref 100000), some (.ref 0), some (.ref 82), some (.int (nI i))] [] z_S0 h (zI A) := by
  refine zl zM0 q0_1563 rfl ?_
  refine zl zM0 q0_1564 rfl ?_
  refine zl zM0 q0_1565 rfl ?_
  refine zkI zM0 q0_1566 kI1 ?_
  refine zl zM0 q0_1567 (pc' := 1568) (st' := .int (nI i + 1) :: _) rfl ?_
  refine zsc zM0 q0_1568 hl (show i + 1 < l.length by omega) (nI_add i 1) ?_
  refine zl zM0 q0_1569 rfl ?_
  refine zl zM0 q0_1570 rfl ?_
  refine zkI zM0 q0_1571 kI2 ?_
  refine zl zM0 q0_1572 (pc' := 1573) (st' := .int (nI i + 2) :: _) rfl ?_
  refine zsc zM0 q0_1573 hl (show i + 2 < l.length by omega) (nI_add i 2) ?_
  refine zcV zM0 q0_1574 kl20_171 rfl rfl (Nat.le_of_ble_eq_true rfl) rfl zM118 (Nat.le_of_ble_eq_true rfl) ((q_taken R).mono (fun r0 h1 hr => ?_))
  obtain ⟨v, rfl, k1⟩ := hr
  show zP (some l) (d + 61) 0 1577 [some (.ref 100000), some (.ref 0), some (.ref 82), some (.int (nI i))] [.int v] z_S0 h1 (zI A)
  refine zl zM0 q0_1577 rfl ?_
  refine zl zM0 q0_1578 rfl ?_
  refine zl zM0 q0_1579 rfl ?_
  refine zkI zM0 q0_1580 kI1 ?_
  refine zl zM0 q0_1581 (pc' := 1582) (st' := .int (nI i + 1) :: _) rfl ?_
  refine zsc zM0 q0_1582 hl (show i + 1 < l.length by omega) (nI_add i 1) ?_
  refine zl zM0 q0_1583 rfl ?_
  refine zl zM0 q0_1584 rfl ?_
  refine zkI zM0 q0_1585 kI2 ?_
  refine zl zM0 q0_1586 (pc' := 1587) (st' := .int (nI i + 2) :: _) rfl ?_
  refine zsc zM0 q0_1587 hl (show i + 2 < l.length by omega) (nI_add i 2) ?_
  refine zcV zM0 q0_1588 kl20_174 rfl rfl (Nat.le_of_ble_eq_true rfl) rfl zM211 (Nat.le_of_ble_eq_true rfl) (k1.mono (fun r1 h2 hr => ?_))
  obtain ⟨w, rfl, e, R2⟩ := hr
  show zP (some l) (d + 61) 0 1591 [some (.ref 100000), some (.ref 0), some (.ref 82), some (.int (nI i))] [.int w, .int v] z_S0 h2 (zI A)
  exact zb2_eq zM0 q0_1591 (tgt := 1596) rfl (fun _ => K h2 R2) (fun hc => absurd e hc)

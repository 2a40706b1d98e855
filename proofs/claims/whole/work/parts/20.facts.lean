theorem kl0_22 : z_cal 0 22 = some (4, 0, 2) := by decide +kernel
theorem kl1_29 : z_cal 1 29 = some (222, 1, 2) := by decide +kernel
theorem kl1_35 : z_cal 1 35 = some (8, 0, 1) := by decide +kernel
theorem kl1_39 : z_cal 1 39 = some (215, 1, 2) := by decide +kernel
theorem kl1_45 : z_cal 1 45 = some (127, 3, 2) := by decide +kernel
theorem kl2_47 : z_cal 2 47 = some (119, 3, 3) := by decide +kernel
theorem kl2_54 : z_cal 2 54 = some (16, 0, 3) := by decide +kernel
theorem kl2_64 : z_cal 2 64 = some (14, 0, 2) := by decide +kernel
theorem kl4_43 : z_cal 4 43 = some (31, 0, 2) := by decide +kernel
theorem kl4_48 : z_cal 4 48 = some (32, 1, 3) := by decide +kernel
theorem kl4_52 : z_cal 4 52 = some (215, 1, 2) := by decide +kernel
theorem kl6_31 : z_cal 6 31 = some (38, 1, 4) := by decide +kernel
theorem kl8_22 : z_cal 8 22 = some (222, 1, 2) := by decide +kernel
theorem kl9_22 : z_cal 9 22 = some (52, 0, 0) := by decide +kernel
theorem kl9_31 : z_cal 9 31 = some (56, 1, 1) := by decide +kernel
theorem kl9_35 : z_cal 9 35 = some (57, 1, 1) := by decide +kernel
theorem kl9_38 : z_cal 9 38 = some (53, 0, 0) := by decide +kernel
theorem kl9_41 : z_cal 9 41 = some (58, 1, 1) := by decide +kernel
theorem kl9_44 : z_cal 9 44 = some (54, 0, 0) := by decide +kernel
theorem kl9_47 : z_cal 9 47 = some (59, 1, 1) := by decide +kernel
theorem kl9_52 : z_cal 9 52 = some (55, 0, 1) := by decide +kernel
theorem kl9_81 : z_cal 9 81 = some (216, 0, 0) := by decide +kernel
theorem kl9_87 : z_cal 9 87 = some (217, 0, 1) := by decide +kernel
theorem kl10_22 : z_cal 10 22 = some (50, 0, 0) := by decide +kernel
theorem kl10_27 : z_cal 10 27 = some (51, 0, 1) := by decide +kernel
theorem kl10_31 : z_cal 10 31 = some (63, 0, 2) := by decide +kernel
theorem kl10_38 : z_cal 10 38 = some (64, 0, 2) := by decide +kernel
theorem kl10_41 : z_cal 10 41 = some (52, 0, 0) := by decide +kernel
theorem kl10_44 : z_cal 10 44 = some (62, 0, 1) := by decide +kernel
theorem kl10_48 : z_cal 10 48 = some (65, 0, 2) := by decide +kernel
theorem kl10_51 : z_cal 10 51 = some (66, 0, 2) := by decide +kernel
theorem kl10_54 : z_cal 10 54 = some (67, 0, 2) := by decide +kernel
theorem kl10_57 : z_cal 10 57 = some (68, 0, 2) := by decide +kernel
theorem kl10_60 : z_cal 10 60 = some (69, 0, 2) := by decide +kernel
theorem kl10_63 : z_cal 10 63 = some (70, 0, 2) := by decide +kernel
theorem kl10_66 : z_cal 10 66 = some (71, 0, 2) := by decide +kernel
theorem kl10_72 : z_cal 10 72 = some (74, 1, 1) := by decide +kernel
theorem kl10_76 : z_cal 10 76 = some (73, 1, 3) := by decide +kernel
theorem kl11_107 : z_cal 11 107 = some (48, 0, 1) := by decide +kernel
theorem kl11_115 : z_cal 11 115 = some (61, 0, 1) := by decide +kernel
theorem kl11_125 : z_cal 11 125 = some (49, 0, 0) := by decide +kernel
theorem kl11_128 : z_cal 11 128 = some (119, 1, 3) := by decide +kernel
theorem kl11_135 : z_cal 11 135 = some (120, 1, 1) := by decide +kernel
theorem kl11_139 : z_cal 11 139 = some (121, 1, 1) := by decide +kernel
theorem kl11_145 : z_cal 11 145 = some (12, 0, 4) := by decide +kernel
theorem kl11_149 : z_cal 11 149 = some (13, 0, 4) := by decide +kernel
theorem kl11_153 : z_cal 11 153 = some (11, 0, 1) := by decide +kernel
theorem kl11_171 : z_cal 11 171 = some (16, 0, 3) := by decide +kernel
theorem kl11_175 : z_cal 11 175 = some (17, 0, 1) := by decide +kernel
theorem kl11_179 : z_cal 11 179 = some (18, 0, 1) := by decide +kernel
theorem kl11_189 : z_cal 11 189 = some (14, 0, 2) := by decide +kernel
theorem kl11_193 : z_cal 11 193 = some (80, 0, 1) := by decide +kernel
theorem kl11_196 : z_cal 11 196 = some (20, 0, 2) := by decide +kernel
theorem kl11_200 : z_cal 11 200 = some (21, 0, 1) := by decide +kernel
theorem kl11_203 : z_cal 11 203 = some (122, 1, 1) := by decide +kernel
theorem kl11_206 : z_cal 11 206 = some (41, 0, 3) := by decide +kernel
theorem kl11_209 : z_cal 11 209 = some (127, 1, 2) := by decide +kernel
theorem kl11_215 : z_cal 11 215 = some (125, 1, 1) := by decide +kernel
theorem kl11_219 : z_cal 11 219 = some (40, 0, 4) := by decide +kernel
theorem kl11_229 : z_cal 11 229 = some (23, 0, 3) := by decide +kernel
theorem kl11_232 : z_cal 11 232 = some (24, 0, 2) := by decide +kernel
theorem kl11_237 : z_cal 11 237 = some (92, 0, 2) := by decide +kernel
theorem kl11_243 : z_cal 11 243 = some (29, 0, 2) := by decide +kernel
theorem kl11_246 : z_cal 11 246 = some (72, 0, 3) := by decide +kernel
theorem kl11_250 : z_cal 11 250 = some (126, 1, 2) := by decide +kernel
theorem kl11_253 : z_cal 11 253 = some (15, 0, 4) := by decide +kernel
theorem kl11_257 : z_cal 11 257 = some (214, 1, 2) := by decide +kernel
theorem kl11_262 : z_cal 11 262 = some (123, 1, 1) := by decide +kernel
theorem kl11_266 : z_cal 11 266 = some (34, 0, 3) := by decide +kernel
theorem kl11_268 : z_cal 11 268 = some (96, 0, 1) := by decide +kernel
theorem kl11_274 : z_cal 11 274 = some (213, 1, 2) := by decide +kernel
theorem kl11_277 : z_cal 11 277 = some (98, 0, 1) := by decide +kernel
theorem kl11_287 : z_cal 11 287 = some (26, 0, 4) := by decide +kernel
theorem kl11_292 : z_cal 11 292 = some (27, 0, 2) := by decide +kernel
theorem kl11_298 : z_cal 11 298 = some (28, 0, 2) := by decide +kernel
theorem kl11_303 : z_cal 11 303 = some (30, 0, 3) := by decide +kernel
theorem kl11_309 : z_cal 11 309 = some (104, 0, 4) := by decide +kernel
theorem kl11_316 : z_cal 11 316 = some (36, 0, 3) := by decide +kernel
theorem kl11_319 : z_cal 11 319 = some (212, 1, 1) := by decide +kernel
theorem kl11_324 : z_cal 11 324 = some (37, 0, 1) := by decide +kernel
theorem kl11_334 : z_cal 11 334 = some (2, 0, 2) := by decide +kernel
theorem kl11_336 : z_cal 11 336 = some (3, 0, 1) := by decide +kernel
theorem kl11_342 : z_cal 11 342 = some (4, 0, 2) := by decide +kernel
theorem kl11_347 : z_cal 11 347 = some (6, 0, 2) := by decide +kernel
theorem kl11_351 : z_cal 11 351 = some (7, 0, 1) := by decide +kernel
theorem kl11_354 : z_cal 11 354 = some (9, 0, 0) := by decide +kernel
theorem kl11_361 : z_cal 11 361 = some (124, 1, 1) := by decide +kernel
theorem kl11_364 : z_cal 11 364 = some (44, 0, 2) := by decide +kernel
theorem kl11_367 : z_cal 11 367 = some (43, 0, 0) := by decide +kernel
theorem kl11_372 : z_cal 11 372 = some (45, 0, 2) := by decide +kernel
theorem kl11_378 : z_cal 11 378 = some (46, 0, 2) := by decide +kernel
theorem kl11_390 : z_cal 11 390 = some (117, 0, 5) := by decide +kernel
theorem kl11_394 : z_cal 11 394 = some (85, 0, 3) := by decide +kernel
theorem kl11_397 : z_cal 11 397 = some (19, 0, 2) := by decide +kernel
theorem kl12_3 : z_cal 12 3 = some (128, 1, 3) := by decide +kernel
theorem kl12_24 : z_cal 12 24 = some (131, 1, 1) := by decide +kernel
theorem kl12_28 : z_cal 12 28 = some (132, 1, 1) := by decide +kernel
theorem kl12_66 : z_cal 12 66 = some (136, 0, 3) := by decide +kernel
theorem kl12_73 : z_cal 12 73 = some (134, 0, 1) := by decide +kernel
theorem kl12_78 : z_cal 12 78 = some (137, 0, 1) := by decide +kernel
theorem kl12_82 : z_cal 12 82 = some (138, 0, 1) := by decide +kernel
theorem kl12_96 : z_cal 12 96 = some (133, 1, 1) := by decide +kernel
theorem kl12_99 : z_cal 12 99 = some (146, 0, 3) := by decide +kernel
theorem kl12_105 : z_cal 12 105 = some (130, 1, 1) := by decide +kernel
theorem kl12_137 : z_cal 12 137 = some (149, 0, 1) := by decide +kernel
theorem kl12_156 : z_cal 12 156 = some (150, 0, 1) := by decide +kernel
theorem kl12_159 : z_cal 12 159 = some (151, 0, 0) := by decide +kernel
theorem kl12_163 : z_cal 12 163 = some (152, 0, 0) := by decide +kernel
theorem kl12_181 : z_cal 12 181 = some (157, 1, 1) := by decide +kernel
theorem kl12_187 : z_cal 12 187 = some (156, 0, 1) := by decide +kernel
theorem kl12_191 : z_cal 12 191 = some (154, 0, 1) := by decide +kernel
theorem kl12_194 : z_cal 12 194 = some (155, 0, 1) := by decide +kernel
theorem kl12_203 : z_cal 12 203 = some (158, 0, 1) := by decide +kernel
theorem kl12_206 : z_cal 12 206 = some (159, 0, 1) := by decide +kernel
theorem kl12_209 : z_cal 12 209 = some (162, 0, 1) := by decide +kernel
theorem kl12_216 : z_cal 12 216 = some (160, 0, 0) := by decide +kernel
theorem kl12_220 : z_cal 12 220 = some (161, 0, 0) := by decide +kernel
theorem kl12_223 : z_cal 12 223 = some (153, 0, 0) := by decide +kernel
theorem kl12_226 : z_cal 12 226 = some (163, 0, 1) := by decide +kernel
theorem kl12_232 : z_cal 12 232 = some (164, 0, 1) := by decide +kernel
theorem kl12_235 : z_cal 12 235 = some (182, 0, 2) := by decide +kernel
theorem kl12_239 : z_cal 12 239 = some (171, 0, 2) := by decide +kernel
theorem kl12_245 : z_cal 12 245 = some (166, 0, 2) := by decide +kernel
theorem kl12_248 : z_cal 12 248 = some (167, 1, 3) := by decide +kernel
theorem kl12_360 : z_cal 12 360 = some (168, 0, 2) := by decide +kernel
theorem kl12_365 : z_cal 12 365 = some (174, 1, 2) := by decide +kernel
theorem kl12_369 : z_cal 12 369 = some (175, 0, 4) := by decide +kernel
theorem kl12_373 : z_cal 12 373 = some (214, 1, 2) := by decide +kernel
theorem kl12_383 : z_cal 12 383 = some (213, 1, 2) := by decide +kernel
theorem kl12_386 : z_cal 12 386 = some (178, 0, 1) := by decide +kernel
theorem kl12_397 : z_cal 12 397 = some (185, 0, 1) := by decide +kernel
theorem kl12_400 : z_cal 12 400 = some (184, 0, 1) := by decide +kernel
theorem kl12_403 : z_cal 12 403 = some (186, 0, 2) := by decide +kernel
theorem kl12_409 : z_cal 12 409 = some (189, 0, 4) := by decide +kernel
theorem kl12_416 : z_cal 12 416 = some (192, 0, 4) := by decide +kernel
theorem kl12_422 : z_cal 12 422 = some (193, 0, 1) := by decide +kernel
theorem kl12_428 : z_cal 12 428 = some (197, 0, 1) := by decide +kernel
theorem kl12_431 : z_cal 12 431 = some (196, 0, 2) := by decide +kernel
theorem kl12_438 : z_cal 12 438 = some (201, 0, 0) := by decide +kernel
theorem kl12_442 : z_cal 12 442 = some (215, 1, 2) := by decide +kernel
theorem kl12_445 : z_cal 12 445 = some (202, 0, 0) := by decide +kernel
theorem kl12_448 : z_cal 12 448 = some (205, 1, 1) := by decide +kernel
theorem kl12_453 : z_cal 12 453 = some (207, 1, 2) := by decide +kernel
theorem kl12_458 : z_cal 12 458 = some (145, 0, 3) := by decide +kernel
theorem kc4_47 : z_con 4 47 = some (.int (90000)) := by decide +kernel
theorem kc11_188 : z_con 11 188 = some (.int (99999)) := by decide +kernel
theorem kc11_235 : z_con 11 235 = some (.long (-4611686018427387904)) := by decide +kernel
theorem kc12_1 : z_con 12 1 = some (.long (60)) := by decide +kernel
theorem kc12_13 : z_con 12 13 = some (.long (399)) := by decide +kernel
theorem kc12_15 : z_con 12 15 = some (.long (5)) := by decide +kernel
theorem kc12_17 : z_con 12 17 = some (.long (4)) := by decide +kernel
theorem kc12_19 : z_con 12 19 = some (.long (3)) := by decide +kernel
theorem kc12_31 : z_con 12 31 = some (.long (9999)) := by decide +kernel
theorem kc12_33 : z_con 12 33 = some (.long (90)) := by decide +kernel
theorem kc12_76 : z_con 12 76 = some (.long (12)) := by decide +kernel
theorem kc12_89 : z_con 12 89 = some (.long (99999)) := by decide +kernel
theorem kc12_94 : z_con 12 94 = some (.long (100)) := by decide +kernel
theorem kc12_108 : z_con 12 108 = some (.long (999)) := by decide +kernel
theorem kc12_125 : z_con 12 125 = some (.long (8)) := by decide +kernel
theorem kc12_358 : z_con 12 358 = some (.long (2)) := by decide +kernel
theorem kc12_363 : z_con 12 363 = some (.long (-4611686018427387904)) := by decide +kernel
theorem kc12_378 : z_con 12 378 = some (.long (9)) := by decide +kernel
theorem kc12_389 : z_con 12 389 = some (.long (16)) := by decide +kernel
theorem kc12_420 : z_con 12 420 = some (.long (1023)) := by decide +kernel
theorem kc12_451 : z_con 12 451 = some (.long (-1)) := by decide +kernel
theorem kc12_456 : z_con 12 456 = some (.long (40)) := by decide +kernel
theorem kc13_265 : z_con 13 265 = some (.int (1431655765)) := by decide +kernel
theorem kc13_266 : z_con 13 266 = some (.int (858993459)) := by decide +kernel
theorem kc13_267 : z_con 13 267 = some (.int (252645135)) := by decide +kernel
theorem kz6_35 : z_isY 6 35 = true := by decide +kernel
theorem kz11_384 : z_isY 11 384 = true := by decide +kernel
theorem ky1_29 : z_isY 1 29 = false := by decide +kernel
theorem ky1_39 : z_isY 1 39 = false := by decide +kernel
theorem ky1_45 : z_isY 1 45 = false := by decide +kernel
theorem ky2_47 : z_isY 2 47 = false := by decide +kernel
theorem ky4_48 : z_isY 4 48 = false := by decide +kernel
theorem ky4_52 : z_isY 4 52 = false := by decide +kernel
theorem ky6_31 : z_isY 6 31 = false := by decide +kernel
theorem ky8_22 : z_isY 8 22 = false := by decide +kernel
theorem ky9_31 : z_isY 9 31 = false := by decide +kernel
theorem ky9_35 : z_isY 9 35 = false := by decide +kernel
theorem ky9_41 : z_isY 9 41 = false := by decide +kernel
theorem ky9_47 : z_isY 9 47 = false := by decide +kernel
theorem ky10_72 : z_isY 10 72 = false := by decide +kernel
theorem ky10_76 : z_isY 10 76 = false := by decide +kernel
theorem ky11_128 : z_isY 11 128 = false := by decide +kernel
theorem ky11_135 : z_isY 11 135 = false := by decide +kernel
theorem ky11_139 : z_isY 11 139 = false := by decide +kernel
theorem ky11_203 : z_isY 11 203 = false := by decide +kernel
theorem ky11_209 : z_isY 11 209 = false := by decide +kernel
theorem ky11_215 : z_isY 11 215 = false := by decide +kernel
theorem ky11_250 : z_isY 11 250 = false := by decide +kernel
theorem ky11_257 : z_isY 11 257 = false := by decide +kernel
theorem ky11_262 : z_isY 11 262 = false := by decide +kernel
theorem ky11_274 : z_isY 11 274 = false := by decide +kernel
theorem ky11_319 : z_isY 11 319 = false := by decide +kernel
theorem ky11_361 : z_isY 11 361 = false := by decide +kernel
theorem ky12_3 : z_isY 12 3 = false := by decide +kernel
theorem ky12_24 : z_isY 12 24 = false := by decide +kernel
theorem ky12_28 : z_isY 12 28 = false := by decide +kernel
theorem ky12_96 : z_isY 12 96 = false := by decide +kernel
theorem ky12_105 : z_isY 12 105 = false := by decide +kernel
theorem ky12_181 : z_isY 12 181 = false := by decide +kernel
theorem ky12_248 : z_isY 12 248 = false := by decide +kernel
theorem ky12_365 : z_isY 12 365 = false := by decide +kernel
theorem ky12_373 : z_isY 12 373 = false := by decide +kernel
theorem ky12_383 : z_isY 12 383 = false := by decide +kernel
theorem ky12_442 : z_isY 12 442 = false := by decide +kernel
theorem ky12_448 : z_isY 12 448 = false := by decide +kernel
theorem ky12_453 : z_isY 12 453 = false := by decide +kernel
theorem kg2_51 : z_sta 2 51 = some (.ref 100001) := by decide +kernel
theorem kg2_58 : z_sta 2 58 = some (.ref 100002) := by decide +kernel
theorem kg2_61 : z_sta 2 61 = some (.ref 100003) := by decide +kernel
theorem ks9_50 : z_con 9 50 = none := by decide +kernel
theorem kt9_50 : z_sno 9 50 = some 1 := by decide +kernel
theorem ks9_56 : z_con 9 56 = none := by decide +kernel
theorem kt9_56 : z_sno 9 56 = some 2 := by decide +kernel
theorem ks9_58 : z_con 9 58 = none := by decide +kernel
theorem kt9_58 : z_sno 9 58 = some 3 := by decide +kernel
theorem ks9_60 : z_con 9 60 = none := by decide +kernel
theorem kt9_60 : z_sno 9 60 = some 4 := by decide +kernel
theorem ks9_62 : z_con 9 62 = none := by decide +kernel
theorem kt9_62 : z_sno 9 62 = some 5 := by decide +kernel
theorem ks9_64 : z_con 9 64 = none := by decide +kernel
theorem kt9_64 : z_sno 9 64 = some 6 := by decide +kernel
theorem ks9_66 : z_con 9 66 = none := by decide +kernel
theorem kt9_66 : z_sno 9 66 = some 7 := by decide +kernel
theorem ks9_68 : z_con 9 68 = none := by decide +kernel
theorem kt9_68 : z_sno 9 68 = some 8 := by decide +kernel
theorem ks9_70 : z_con 9 70 = none := by decide +kernel
theorem kt9_70 : z_sno 9 70 = some 9 := by decide +kernel
theorem ks9_72 : z_con 9 72 = none := by decide +kernel
theorem kt9_72 : z_sno 9 72 = some 10 := by decide +kernel
theorem ks9_74 : z_con 9 74 = none := by decide +kernel
theorem kt9_74 : z_sno 9 74 = some 11 := by decide +kernel
theorem ks9_76 : z_con 9 76 = none := by decide +kernel
theorem kt9_76 : z_sno 9 76 = some 12 := by decide +kernel
def z_tx (j : Nat) : Nat := ([25, 28, 31, 34, 37, 40] : List Nat).getD j 0
def z_sh (j : Nat) : Nat := ([74, 76, 78, 80] : List Nat).getD j 0
theorem z_txIn {i : Int32} (h : z_ib i 6) : z_rf (([some 25, some 28, some 31, some 34, some 37, some 40] : List (Option Nat)).getD i.toNatClampNeg none) = .ref (z_tx i.toNatClampNeg) ∧ z_tx i.toNatClampNeg ∈ ([25, 28, 31, 34, 37, 40] : List Nat) := by
  have hj : i.toNatClampNeg < 6 := Nat.not_le.mp fun q => h (Or.inr q)
  generalize i.toNatClampNeg = j at hj
  revert j
  decide
theorem z_rcvT0 {k M : Nat} (hM : z_ownOf M = 10) (h : k ∈ ([25, 28, 31, 34, 37, 40] : List Nat)) : z_rcv z_S0 k (z_ownOf M) = true := by
  rw [hM]
  simp only [List.mem_cons, List.not_mem_nil, or_false] at h
  rcases h with rfl | rfl | rfl | rfl | rfl | rfl <;> rfl
theorem z_rcvT {k M : Nat} (h : k ∈ ([25, 28, 31, 34, 37, 40] : List Nat)) (hM : z_ownOf M = 10 := by rfl) : z_rcv z_S0 k (z_ownOf M) = true := z_rcvT0 hM h
theorem z_shIn {i : Int32} (h : z_ib i 4) : z_rf (([some 74, some 76, some 78, some 80] : List (Option Nat)).getD i.toNatClampNeg none) = .ref (z_sh i.toNatClampNeg) ∧ z_sh i.toNatClampNeg ∈ ([74, 76, 78, 80] : List Nat) := by
  have hj : i.toNatClampNeg < 4 := Nat.not_le.mp fun q => h (Or.inr q)
  generalize i.toNatClampNeg = j at hj
  revert j
  decide
theorem z_rcvS0 {k M : Nat} (hM : z_ownOf M = 8) (h : k ∈ ([74, 76, 78, 80] : List Nat)) : z_rcv z_S0 k (z_ownOf M) = true := by
  rw [hM]
  simp only [List.mem_cons, List.not_mem_nil, or_false] at h
  rcases h with rfl | rfl | rfl | rfl <;> rfl
theorem z_rcvS {k M : Nat} (h : k ∈ ([74, 76, 78, 80] : List Nat)) (hM : z_ownOf M = 8 := by rfl) : z_rcv z_S0 k (z_ownOf M) = true := z_rcvS0 hM h

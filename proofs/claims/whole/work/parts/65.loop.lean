/-! the law's loop, and the end -/
theorem lw_next {l : List Int32} {d i : Nat} {h : zH} {A : Int32 → zH → Prop} (k : zP (some l) (d + 61) 0 18 [some (.ref 100000), some (.ref 0), some (.ref 82), some (.int (nI (i + 7)))] [] z_S0 h (zI A)) : zP (some l) (d + 61) 0 1596 [some (.ref 100000), some (.ref 0), some (.ref 82), some (.int (nI i))] [] z_S0 h (zI A) := by
  refine zl zM0 q0_1596 (ls' := [some (.ref 100000), some (.ref 0), some (.ref 82), some (.int (nI i + 7))]) rfl ?_
  refine zl zM0 q0_1599 (pc' := 18) rfl ?_
  rw [show (7 : Int32) = nI 7 from rfl, nI_add]
  exact k
theorem lw_sub {a i : Nat} (ha : a ≤ 448) (hi : i ≤ 455) : nI a - 7 < nI i ↔ a < i + 7 := by
  have e := pk_sub_toInt (a := a) (b := 7) (by omega) (by decide)
  rw [Int32.lt_iff_toInt_lt, show nI a - 7 = nI a - nI 7 from rfl, e, nI_toInt (by omega)]
  omega
theorem lw_loop {l : List Int32} {d : Nat} {A : Int32 → zH → Prop} (hl : l.length ≤ 448) (hA : ∀ h, A 1 h) : ∀ (n i : Nat) (h : zH), l.length + 7 - i ≤ n → i ≤ 455 → zR h → zP (some l) (d + 61) 0 18 [some (.ref 100000), some (.ref 0), some (.ref 82), some (.int (nI i))] [] z_S0 h (zI A) := by
  intro n
  induction n with
  | zero =>
    intro i h hn hi R
    refine zl zM0 q0_18 rfl ?_
    refine zl zM0 q0_19 rfl ?_
    refine zlnR zM0 q0_20 (by decide) (l := l) rfl ?_
    refine zkB zM0 q0_21 kB7 ?_
    refine zl zM0 q0_23 (pc' := 24) (st' := .int (nI l.length - 7) :: _) rfl ?_
    refine zb2_gt zM0 q0_24 (tgt := 1602) rfl (fun _ => ?_) (fun hc => absurd ((lw_sub hl hi).mpr (by omega)) hc)
    refine zkI zM0 q0_1602 kI1 ?_
    exact zri zM0 q0_1603 rfl (z_nb (Or.inr rfl)) (hA h)
  | succ n ih =>
    intro i h hn hi R
    refine zl zM0 q0_18 rfl ?_
    refine zl zM0 q0_19 rfl ?_
    refine zlnR zM0 q0_20 (by decide) (l := l) rfl ?_
    refine zkB zM0 q0_21 kB7 ?_
    refine zl zM0 q0_23 (pc' := 24) (st' := .int (nI l.length - 7) :: _) rfl ?_
    refine zb2_gt zM0 q0_24 (tgt := 1602) rfl (fun _ => ?_) (fun hc => ?_)
    · refine zkI zM0 q0_1602 kI1 ?_
      exact zri zM0 q0_1603 rfl (z_nb (Or.inr rfl)) (hA h)
    have h7 : i + 7 ≤ l.length := Nat.not_lt.mp (fun z => hc ((lw_sub hl hi).mpr z))
    have K : ∀ h', zR h' → zP (some l) (d + 61) 0 1596 [some (.ref 100000), some (.ref 0), some (.ref 82), some (.int (nI i))] [] z_S0 h' (zI A) := fun h' R' => lw_next (ih (i + 7) h' (by omega) (by omega) R')
    refine zl zM0 q0_27 rfl ?_
    refine zl zM0 q0_28 rfl ?_
    refine zsc (i := i) (j := 0) zM0 q0_29 hl (by omega) rfl ?_
    refine zkB zM0 q0_30 kB63 ?_
    refine zl zM0 q0_32 (pc' := 33) (st' := .int (l.getD (i + 0) 0 &&& 63) :: []) rfl ?_
    generalize l.getD (i + 0) 0 &&& 63 = v
    by_cases s0 : v = 0
    · exact zts 0 s0 zM0 q0_33 (tgt := 196) (by decide) rfl rfl (lw0 hl h7 R K)
    by_cases s1 : v = 1
    · exact zts 1 s1 zM0 q0_33 (tgt := 219) (by decide) rfl rfl (lw1 hl h7 R K)
    by_cases s2 : v = 2
    · exact zts 2 s2 zM0 q0_33 (tgt := 294) (by decide) rfl rfl (lw2 hl h7 R K)
    by_cases s3 : v = 3
    · exact zts 3 s3 zM0 q0_33 (tgt := 327) (by decide) rfl rfl (lw3 hl h7 R K)
    by_cases s4 : v = 4
    · exact zts 4 s4 zM0 q0_33 (tgt := 360) (by decide) rfl rfl (lw4 hl h7 R K)
    by_cases s5 : v = 5
    · exact zts 5 s5 zM0 q0_33 (tgt := 393) (by decide) rfl rfl (lw5 hl h7 R K)
    by_cases s6 : v = 6
    · exact zts 6 s6 zM0 q0_33 (tgt := 416) (by decide) rfl rfl (lw6 hl h7 R K)
    by_cases s7 : v = 7
    · exact zts 7 s7 zM0 q0_33 (tgt := 439) (by decide) rfl rfl (lw7 hl h7 R K)
    by_cases s8 : v = 8
    · exact zts 8 s8 zM0 q0_33 (tgt := 472) (by decide) rfl rfl (lw8 hl h7 R K)
    by_cases s9 : v = 9
    · exact zts 9 s9 zM0 q0_33 (tgt := 515) (by decide) rfl rfl (lw9 hl h7 R K)
    by_cases s10 : v = 10
    · exact zts 10 s10 zM0 q0_33 (tgt := 558) (by decide) rfl rfl (lw10 hl h7 R K)
    by_cases s11 : v = 11
    · exact zts 11 s11 zM0 q0_33 (tgt := 621) (by decide) rfl rfl (lw11 hl h7 R K)
    by_cases s12 : v = 12
    · exact zts 12 s12 zM0 q0_33 (tgt := 634) (by decide) rfl rfl (lw12 hl h7 R K)
    by_cases s13 : v = 13
    · exact zts 13 s13 zM0 q0_33 (tgt := 677) (by decide) rfl rfl (lw13 hl h7 R K)
    by_cases s14 : v = 14
    · exact zts 14 s14 zM0 q0_33 (tgt := 710) (by decide) rfl rfl (lw14 hl h7 R K)
    by_cases s15 : v = 15
    · exact zts 15 s15 zM0 q0_33 (tgt := 744) (by decide) rfl rfl (lw15 hl h7 R K)
    by_cases s16 : v = 16
    · exact zts 16 s16 zM0 q0_33 (tgt := 788) (by decide) rfl rfl (lw16 hl h7 R K)
    by_cases s17 : v = 17
    · exact zts 17 s17 zM0 q0_33 (tgt := 831) (by decide) rfl rfl (lw17 hl h7 R K)
    by_cases s18 : v = 18
    · exact zts 18 s18 zM0 q0_33 (tgt := 854) (by decide) rfl rfl (lw18 hl h7 R K)
    by_cases s19 : v = 19
    · exact zts 19 s19 zM0 q0_33 (tgt := 878) (by decide) rfl rfl (lw19 hl h7 R K)
    by_cases s20 : v = 20
    · exact zts 20 s20 zM0 q0_33 (tgt := 931) (by decide) rfl rfl (lw20 hl h7 R K)
    by_cases s21 : v = 21
    · exact zts 21 s21 zM0 q0_33 (tgt := 954) (by decide) rfl rfl (lw21 hl h7 R K)
    by_cases s22 : v = 22
    · exact zts 22 s22 zM0 q0_33 (tgt := 997) (by decide) rfl rfl (lw22 hl h7 R K)
    by_cases s23 : v = 23
    · exact zts 23 s23 zM0 q0_33 (tgt := 1030) (by decide) rfl rfl (lw23 hl h7 R K)
    by_cases s24 : v = 24
    · exact zts 24 s24 zM0 q0_33 (tgt := 1084) (by decide) rfl rfl (lw24 hl h7 R K)
    by_cases s25 : v = 25
    · exact zts 25 s25 zM0 q0_33 (tgt := 1127) (by decide) rfl rfl (lw25 hl h7 R K)
    by_cases s26 : v = 26
    · exact zts 26 s26 zM0 q0_33 (tgt := 1160) (by decide) rfl rfl (lw26 hl h7 R K)
    by_cases s27 : v = 27
    · exact zts 27 s27 zM0 q0_33 (tgt := 1193) (by decide) rfl rfl (lw27 hl h7 R K)
    by_cases s28 : v = 28
    · exact zts 28 s28 zM0 q0_33 (tgt := 1226) (by decide) rfl rfl (lw28 hl h7 R K)
    by_cases s29 : v = 29
    · exact zts 29 s29 zM0 q0_33 (tgt := 1259) (by decide) rfl rfl (lw29 hl h7 R K)
    by_cases s30 : v = 30
    · exact zts 30 s30 zM0 q0_33 (tgt := 1292) (by decide) rfl rfl (lw30 hl h7 R K)
    by_cases s31 : v = 31
    · exact zts 31 s31 zM0 q0_33 (tgt := 1316) (by decide) rfl rfl (lw31 hl h7 R K)
    by_cases s32 : v = 32
    · exact zts 32 s32 zM0 q0_33 (tgt := 1339) (by decide) rfl rfl (lw32 hl h7 R K)
    by_cases s33 : v = 33
    · exact zts 33 s33 zM0 q0_33 (tgt := 1382) (by decide) rfl rfl (lw33 hl h7 R K)
    by_cases s34 : v = 34
    · exact zts 34 s34 zM0 q0_33 (tgt := 1425) (by decide) rfl rfl (lw34 hl h7 R K)
    by_cases s35 : v = 35
    · exact zts 35 s35 zM0 q0_33 (tgt := 1488) (by decide) rfl rfl (lw35 hl h7 R K)
    by_cases s36 : v = 36
    · exact zts 36 s36 zM0 q0_33 (tgt := 1563) (by decide) rfl rfl (lw36 hl h7 R K)
    have s0 := z_neI s0
    have s1 := z_neI s1
    have s2 := z_neI s2
    have s3 := z_neI s3
    have s4 := z_neI s4
    have s5 := z_neI s5
    have s6 := z_neI s6
    have s7 := z_neI s7
    have s8 := z_neI s8
    have s9 := z_neI s9
    have s10 := z_neI s10
    have s11 := z_neI s11
    have s12 := z_neI s12
    have s13 := z_neI s13
    have s14 := z_neI s14
    have s15 := z_neI s15
    have s16 := z_neI s16
    have s17 := z_neI s17
    have s18 := z_neI s18
    have s19 := z_neI s19
    have s20 := z_neI s20
    have s21 := z_neI s21
    have s22 := z_neI s22
    have s23 := z_neI s23
    have s24 := z_neI s24
    have s25 := z_neI s25
    have s26 := z_neI s26
    have s27 := z_neI s27
    have s28 := z_neI s28
    have s29 := z_neI s29
    have s30 := z_neI s30
    have s31 := z_neI s31
    have s32 := z_neI s32
    have s33 := z_neI s33
    have s34 := z_neI s34
    have s35 := z_neI s35
    have s36 := z_neI s36
    refine ztd (tgt := 1596) ?_ zM0 q0_33 rfl (K h R)
    simp only [show (0 : Int32).toInt = 0 from rfl, show (1 : Int32).toInt = 1 from rfl, show (2 : Int32).toInt = 2 from rfl, show (3 : Int32).toInt = 3 from rfl, show (4 : Int32).toInt = 4 from rfl, show (5 : Int32).toInt = 5 from rfl, show (6 : Int32).toInt = 6 from rfl, show (7 : Int32).toInt = 7 from rfl, show (8 : Int32).toInt = 8 from rfl, show (9 : Int32).toInt = 9 from rfl, show (10 : Int32).toInt = 10 from rfl, show (11 : Int32).toInt = 11 from rfl, show (12 : Int32).toInt = 12 from rfl, show (13 : Int32).toInt = 13 from rfl, show (14 : Int32).toInt = 14 from rfl, show (15 : Int32).toInt = 15 from rfl, show (16 : Int32).toInt = 16 from rfl, show (17 : Int32).toInt = 17 from rfl, show (18 : Int32).toInt = 18 from rfl, show (19 : Int32).toInt = 19 from rfl, show (20 : Int32).toInt = 20 from rfl, show (21 : Int32).toInt = 21 from rfl, show (22 : Int32).toInt = 22 from rfl, show (23 : Int32).toInt = 23 from rfl, show (24 : Int32).toInt = 24 from rfl, show (25 : Int32).toInt = 25 from rfl, show (26 : Int32).toInt = 26 from rfl, show (27 : Int32).toInt = 27 from rfl, show (28 : Int32).toInt = 28 from rfl, show (29 : Int32).toInt = 29 from rfl, show (30 : Int32).toInt = 30 from rfl, show (31 : Int32).toInt = 31 from rfl, show (32 : Int32).toInt = 32 from rfl, show (33 : Int32).toInt = 33 from rfl, show (34 : Int32).toInt = 34 from rfl, show (35 : Int32).toInt = 35 from rfl, show (36 : Int32).toInt = 36 from rfl] at s0 s1 s2 s3 s4 s5 s6 s7 s8 s9 s10 s11 s12 s13 s14 s15 s16 s17 s18 s19 s20 s21 s22 s23 s24 s25 s26 s27 s28 s29 s30 s31 s32 s33 s34 s35 s36
    omega
theorem kn20_7 : z_cln 20 7 = some "DustYards" := by decide +kernel
theorem kn20_10 : z_cln 20 10 = some "DustYardsModel" := by decide +kernel
theorem kci11 : (List.range 13).find? (fun ci => z_ow ci == "DustYards") = some 11 := by decide +kernel
theorem kci12 : (List.range 13).find? (fun ci => z_ow ci == "DustYardsModel") = some 12 := by decide +kernel
theorem kdf11 : z_df 11 = [some none, some none, some none, some none, some none, some none, some none, some none, some none, some none, some none, some none, some none, some none, some none, none, none, none] := by decide +kernel
theorem kdf12 : z_df 12 = [none, some none, some none, none, some none, some none, some none, some none, some none, some none, some none, some none, some none, some none, some none, none, none, some none, some none, some none, some none, some none, none, none, some none, some none, none, none, none, none, some none, some none, some none, none, none, none, some none, none, none, some none, none, some none, some none, some none, none, some none, some none, some none, none, some none, some none, some none, some none, none, some none, some none, some none, some none, some none, none, some none, some none, some none, some none, some none, some none, none, none, some none, some none, some none, some none, none, some none, some none, some none, some none, some none, some none, some none, some none] := by decide +kernel
theorem kj20_9 : z_cal 20 9 = some (75, 2, 0) := by decide +kernel
theorem kj20_12 : z_cal 20 12 = some (169, 2, 0) := by decide +kernel
theorem ko20_9 : z_isO 20 9 = false := by decide +kernel
theorem ko20_12 : z_isO 20 12 = false := by decide +kernel
theorem z_len0 : z_S0.length ≤ 600000 := by decide +kernel
theorem z_tot0 : z_tot z_S0 ≤ 7302249 := by decide +kernel
/-- on every script of at most 448 ints my own machine comes to the law's end with 1 -/
theorem z_pure (l : List Int32) (hl : l.length ≤ 448) : ∃ (n : Nat) (S' : zS) (h' : zH), z_x (some l) n 2000 0 0 (z_ent [.ref 100000] 4) [] [] (fun _ _ => 0) = some (some (.int 1), S', h') ∧ S'.length ≤ 600000 ∧ z_tot S' ≤ 7302249 := by
  have key : zN (some l) (1939 + 61) 0 0 [some (.ref 100000), none, none, none] [] [] (fun _ _ => 0) (fun r S' _ => r = some (.int 1) ∧ S' = z_S0) := by
    refine nNc zM0 q0_0 (a := 0) kn20_7 kci11 kdf11 rfl (by decide) rfl rfl ?_
    refine nl zM0 q0_3 rfl ?_
    refine ncI zM0 q0_4 ko20_9 kj20_9 (by decide) (Nat.le_of_ble_eq_true rfl) zM75 (Nat.le_of_ble_eq_true rfl) (kc75 (d := 1943) (fun h1 I => ?_))
    show zN (some l) (1939 + 61) 0 7 [some (.ref 100000), none, none, none] [.ref 0] zS1 h1 _
    have hz : ∀ c, 82 ≤ c → h1 c = fun _ => 0 := fun c hc => funext fun j => I.1 c j (by omega)
    refine nl zM0 q0_7 (ls' := [some (.ref 100000), some (.ref 0), none, none]) rfl ?_
    refine nNc zM0 q0_8 (a := 82) kn20_10 kci12 kdf12 rfl (by decide) (hz 82 (by decide)) rfl ?_
    refine nl zM0 q0_11 rfl ?_
    refine ncI zM0 q0_12 ko20_12 kj20_12 (by decide) (Nat.le_of_ble_eq_true rfl) zM169 (Nat.le_of_ble_eq_true rfl) (km (d := 1998) (fun c hc => hz c (by omega)) ?_)
    show zN (some l) (1939 + 61) 0 15 [some (.ref 100000), some (.ref 0), none, none] [.ref 82] z_S0 (zHm h1) _
    refine nl zM0 q0_15 (ls' := [some (.ref 100000), some (.ref 0), some (.ref 82), none]) rfl ?_
    refine nkI zM0 q0_16 kI0 ?_
    refine nl zM0 q0_17 (ls' := [some (.ref 100000), some (.ref 0), some (.ref 82), some (.int (nI 0))]) rfl ?_
    refine nP (lw_loop (A := fun v _ => v = 1) (d := 1939) hl (fun _ => rfl) 455 0 _ (by omega) (by decide) (zR0 I)) ?_
    rintro r h' ⟨v, rfl, rfl⟩
    exact ⟨rfl, rfl⟩
  obtain ⟨n, r, S', h', hx, rfl, rfl⟩ := key
  exact ⟨n, z_S0, h', hx, z_len0, z_tot0⟩

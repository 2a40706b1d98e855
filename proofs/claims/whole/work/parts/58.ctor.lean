/-! constructors of the small classes -/
theorem ko0_3 : z_isO 0 3 = true := by decide +kernel
theorem gk0_9 : z_fl 0 9 = some (0, 0) := by decide +kernel
theorem gk0_15 : z_fl 0 15 = some (0, 1) := by decide +kernel
theorem ko1_3 : z_isO 1 3 = true := by decide +kernel
theorem gk1_9 : z_fl 1 9 = some (1, 0) := by decide +kernel
theorem gk1_15 : z_fl 1 15 = some (1, 1) := by decide +kernel
theorem gk1_18 : z_fl 1 18 = some (1, 2) := by decide +kernel
theorem gk1_22 : z_fl 1 22 = some (1, 3) := by decide +kernel
theorem ko2_3 : z_isO 2 3 = true := by decide +kernel
theorem gk2_9 : z_fl 2 9 = some (2, 0) := by decide +kernel
theorem gk2_15 : z_fl 2 15 = some (2, 1) := by decide +kernel
theorem gk2_18 : z_fl 2 18 = some (2, 2) := by decide +kernel
theorem gk2_21 : z_fl 2 21 = some (2, 3) := by decide +kernel
theorem gk2_24 : z_fl 2 24 = some (2, 4) := by decide +kernel
theorem gk2_27 : z_fl 2 27 = some (2, 5) := by decide +kernel
theorem gk2_30 : z_fl 2 30 = some (2, 6) := by decide +kernel
theorem gk2_33 : z_fl 2 33 = some (2, 7) := by decide +kernel
theorem gk2_36 : z_fl 2 36 = some (2, 8) := by decide +kernel
theorem gk2_39 : z_fl 2 39 = some (2, 9) := by decide +kernel
theorem ko4_5 : z_isO 4 5 = true := by decide +kernel
theorem gk4_11 : z_fl 4 11 = some (4, 0) := by decide +kernel
theorem gk4_15 : z_fl 4 15 = some (4, 1) := by decide +kernel
theorem gk4_18 : z_fl 4 18 = some (4, 2) := by decide +kernel
theorem gk4_21 : z_fl 4 21 = some (4, 3) := by decide +kernel
theorem gk4_24 : z_fl 4 24 = some (4, 4) := by decide +kernel
theorem gk4_27 : z_fl 4 27 = some (4, 5) := by decide +kernel
theorem gk4_30 : z_fl 4 30 = some (4, 6) := by decide +kernel
theorem gk4_33 : z_fl 4 33 = some (4, 7) := by decide +kernel
theorem ko5_3 : z_isO 5 3 = true := by decide +kernel
theorem gk5_9 : z_fl 5 9 = some (5, 0) := by decide +kernel
theorem gk5_15 : z_fl 5 15 = some (5, 1) := by decide +kernel
theorem gk5_18 : z_fl 5 18 = some (5, 2) := by decide +kernel
theorem ko6_3 : z_isO 6 3 = true := by decide +kernel
theorem gk6_9 : z_fl 6 9 = some (6, 0) := by decide +kernel
theorem gk6_15 : z_fl 6 15 = some (6, 1) := by decide +kernel
theorem gk6_18 : z_fl 6 18 = some (6, 2) := by decide +kernel
theorem gk6_21 : z_fl 6 21 = some (6, 3) := by decide +kernel
theorem ko7_3 : z_isO 7 3 = true := by decide +kernel
theorem gk7_9 : z_fl 7 9 = some (7, 0) := by decide +kernel
theorem gk7_15 : z_fl 7 15 = some (7, 1) := by decide +kernel
theorem gk7_18 : z_fl 7 18 = some (7, 2) := by decide +kernel
theorem gk7_21 : z_fl 7 21 = some (7, 3) := by decide +kernel
theorem ko8_3 : z_isO 8 3 = true := by decide +kernel
theorem gk8_9 : z_fl 8 9 = some (8, 0) := by decide +kernel
theorem gk8_15 : z_fl 8 15 = some (8, 1) := by decide +kernel
theorem ko9_3 : z_isO 9 3 = true := by decide +kernel
theorem gk9_9 : z_fl 9 9 = some (9, 0) := by decide +kernel
theorem ko10_3 : z_isO 10 3 = true := by decide +kernel
theorem gk10_9 : z_fl 10 9 = some (10, 0) := by decide +kernel
theorem gk10_15 : z_fl 10 15 = some (10, 1) := by decide +kernel
theorem ko3_3 : z_isO 3 3 = true := by decide +kernel
theorem gk3_11 : z_fl 3 11 = some (3, 0) := by decide +kernel
theorem kn3_9 : z_cln 3 9 = some "DustYards$Text" := by decide +kernel
theorem gk3_17 : z_fl 3 17 = some (3, 1) := by decide +kernel
theorem gk3_21 : z_fl 3 21 = some (3, 2) := by decide +kernel
theorem gk3_24 : z_fl 3 24 = some (3, 3) := by decide +kernel
theorem kci10 : (List.range 13).find? (fun ci => z_ow ci == "DustYards$Text") = some 10 := by decide +kernel
theorem kdf10 : z_df 10 = [some none, some none, none] := by decide +kernel
theorem kj3_27 : z_cal 3 27 = some (60, 4, 0) := by decide +kernel
theorem ko3_27 : z_isO 3 27 = false := by decide +kernel
theorem kc1 {X : Option (List Int32)} {d n : Nat} {S0 : zS} {h : zH} {Q : Option Value → zS → zH → Prop} (hn : S0.length = n) (hb : n + 60 < 100000) (hz : ∀ c, n ≤ c → h c = fun _ => 0) (K : Q none (S0 ++ [.inr (.inr (0, [some (some (n + 1)), some (some (n + 2)), none])), .inl (.int, 8), .inl (.int, 8)]) h) : zN X (d + 1) 1 0 (z_ent [.ref n] 1) [] (S0 ++ [.inr (.inr (0, [some none, some none, none]))]) h Q := by
  show zN X (d + 1) 1 0 [some (.ref n)] [] (S0 ++ [.inr (.inr (0, [some none, some none, none]))]) h Q
  refine nl zM1 q1_0 rfl ?_
  refine nO zM1 q1_1 ko0_3 (Nat.le_of_ble_eq_true rfl) ?_
  refine nl zM1 q1_4 rfl ?_
  refine nkB zM1 q1_5 (v := 8) (by decide +kernel) ?_
  refine nNa zM1 q1_7 (ty := .int) (m := 8) (a := n + 1) rfl (by decide) (by decide) (by decide +kernel) (by decide) (zlk hn rfl) (by omega) (hz _ (by omega)) (List.append_assoc _ _ _) ?_
  refine nPr zM1 q1_9 rfl (by omega) gk0_9 (zgk hn) (o := none) rfl rfl rfl (zsk hn) ?_
  refine nl zM1 q1_12 rfl ?_
  refine nkB zM1 q1_13 (v := 8) (by decide +kernel) ?_
  refine nNa zM1 q1_15 (ty := .int) (m := 8) (a := n + 2) rfl (by decide) (by decide) (by decide +kernel) (by decide) (zlk hn rfl) (by omega) (hz _ (by omega)) (List.append_assoc _ _ _) ?_
  refine nPr zM1 q1_17 rfl (by omega) gk0_15 (zgk hn) (o := none) rfl rfl rfl (zsk hn) ?_
  exact nrv zM1 q1_20 rfl K
theorem kc5 {X : Option (List Int32)} {d n : Nat} {S0 : zS} {h : zH} {Q : Option Value → zS → zH → Prop} (hn : S0.length = n) (hb : n + 60 < 100000) (hz : ∀ c, n ≤ c → h c = fun _ => 0) (K : Q none (S0 ++ [.inr (.inr (1, [some (some (n + 1)), some (some (n + 2)), some (some (n + 3)), some (some (n + 4)), none])), .inl (.int, 6), .inl (.int, 6), .inl (.boolean, 6), .inl (.int, 6)]) h) : zN X (d + 1) 5 0 (z_ent [.ref n] 1) [] (S0 ++ [.inr (.inr (1, [some none, some none, some none, some none, none]))]) h Q := by
  show zN X (d + 1) 5 0 [some (.ref n)] [] (S0 ++ [.inr (.inr (1, [some none, some none, some none, some none, none]))]) h Q
  refine nl zM5 q5_0 rfl ?_
  refine nO zM5 q5_1 ko1_3 (Nat.le_of_ble_eq_true rfl) ?_
  refine nl zM5 q5_4 rfl ?_
  refine nkB zM5 q5_5 (v := 6) (by decide +kernel) ?_
  refine nNa zM5 q5_7 (ty := .int) (m := 6) (a := n + 1) rfl (by decide) (by decide) (by decide +kernel) (by decide) (zlk hn rfl) (by omega) (hz _ (by omega)) (List.append_assoc _ _ _) ?_
  refine nPr zM5 q5_9 rfl (by omega) gk1_9 (zgk hn) (o := none) rfl rfl rfl (zsk hn) ?_
  refine nl zM5 q5_12 rfl ?_
  refine nkB zM5 q5_13 (v := 6) (by decide +kernel) ?_
  refine nNa zM5 q5_15 (ty := .int) (m := 6) (a := n + 2) rfl (by decide) (by decide) (by decide +kernel) (by decide) (zlk hn rfl) (by omega) (hz _ (by omega)) (List.append_assoc _ _ _) ?_
  refine nPr zM5 q5_17 rfl (by omega) gk1_15 (zgk hn) (o := none) rfl rfl rfl (zsk hn) ?_
  refine nl zM5 q5_20 rfl ?_
  refine nkB zM5 q5_21 (v := 6) (by decide +kernel) ?_
  refine nNa zM5 q5_23 (ty := .boolean) (m := 6) (a := n + 3) rfl (by decide) (by decide) (by decide +kernel) (by decide) (zlk hn rfl) (by omega) (hz _ (by omega)) (List.append_assoc _ _ _) ?_
  refine nPr zM5 q5_25 rfl (by omega) gk1_18 (zgk hn) (o := none) rfl rfl rfl (zsk hn) ?_
  refine nl zM5 q5_28 rfl ?_
  refine nkB zM5 q5_29 (v := 6) (by decide +kernel) ?_
  refine nNa zM5 q5_31 (ty := .int) (m := 6) (a := n + 4) rfl (by decide) (by decide) (by decide +kernel) (by decide) (zlk hn rfl) (by omega) (hz _ (by omega)) (List.append_assoc _ _ _) ?_
  refine nPr zM5 q5_33 rfl (by omega) gk1_22 (zgk hn) (o := none) rfl rfl rfl (zsk hn) ?_
  exact nrv zM5 q5_36 rfl K
theorem kc10 {X : Option (List Int32)} {d n : Nat} {S0 : zS} {h : zH} {Q : Option Value → zS → zH → Prop} (hn : S0.length = n) (hb : n + 60 < 100000) (hz : ∀ c, n ≤ c → h c = fun _ => 0) (K : Q none (S0 ++ [.inr (.inr (2, [some (some (n + 1)), some (some (n + 2)), some (some (n + 3)), some (some (n + 4)), some (some (n + 5)), some (some (n + 6)), some (some (n + 7)), some (some (n + 8)), some (some (n + 9)), some (some (n + 10)), none])), .inl (.int, 40), .inl (.int, 40), .inl (.int, 40), .inl (.int, 40), .inl (.int, 40), .inl (.int, 40), .inl (.int, 40), .inl (.int, 40), .inl (.int, 40), .inl (.boolean, 40)]) h) : zN X (d + 1) 10 0 (z_ent [.ref n] 1) [] (S0 ++ [.inr (.inr (2, [some none, some none, some none, some none, some none, some none, some none, some none, some none, some none, none]))]) h Q := by
  show zN X (d + 1) 10 0 [some (.ref n)] [] (S0 ++ [.inr (.inr (2, [some none, some none, some none, some none, some none, some none, some none, some none, some none, some none, none]))]) h Q
  refine nl zM10 q10_0 rfl ?_
  refine nO zM10 q10_1 ko2_3 (Nat.le_of_ble_eq_true rfl) ?_
  refine nl zM10 q10_4 rfl ?_
  refine nkB zM10 q10_5 (v := 40) (by decide +kernel) ?_
  refine nNa zM10 q10_7 (ty := .int) (m := 40) (a := n + 1) rfl (by decide) (by decide) (by decide +kernel) (by decide) (zlk hn rfl) (by omega) (hz _ (by omega)) (List.append_assoc _ _ _) ?_
  refine nPr zM10 q10_9 rfl (by omega) gk2_9 (zgk hn) (o := none) rfl rfl rfl (zsk hn) ?_
  refine nl zM10 q10_12 rfl ?_
  refine nkB zM10 q10_13 (v := 40) (by decide +kernel) ?_
  refine nNa zM10 q10_15 (ty := .int) (m := 40) (a := n + 2) rfl (by decide) (by decide) (by decide +kernel) (by decide) (zlk hn rfl) (by omega) (hz _ (by omega)) (List.append_assoc _ _ _) ?_
  refine nPr zM10 q10_17 rfl (by omega) gk2_15 (zgk hn) (o := none) rfl rfl rfl (zsk hn) ?_
  refine nl zM10 q10_20 rfl ?_
  refine nkB zM10 q10_21 (v := 40) (by decide +kernel) ?_
  refine nNa zM10 q10_23 (ty := .int) (m := 40) (a := n + 3) rfl (by decide) (by decide) (by decide +kernel) (by decide) (zlk hn rfl) (by omega) (hz _ (by omega)) (List.append_assoc _ _ _) ?_
  refine nPr zM10 q10_25 rfl (by omega) gk2_18 (zgk hn) (o := none) rfl rfl rfl (zsk hn) ?_
  refine nl zM10 q10_28 rfl ?_
  refine nkB zM10 q10_29 (v := 40) (by decide +kernel) ?_
  refine nNa zM10 q10_31 (ty := .int) (m := 40) (a := n + 4) rfl (by decide) (by decide) (by decide +kernel) (by decide) (zlk hn rfl) (by omega) (hz _ (by omega)) (List.append_assoc _ _ _) ?_
  refine nPr zM10 q10_33 rfl (by omega) gk2_21 (zgk hn) (o := none) rfl rfl rfl (zsk hn) ?_
  refine nl zM10 q10_36 rfl ?_
  refine nkB zM10 q10_37 (v := 40) (by decide +kernel) ?_
  refine nNa zM10 q10_39 (ty := .int) (m := 40) (a := n + 5) rfl (by decide) (by decide) (by decide +kernel) (by decide) (zlk hn rfl) (by omega) (hz _ (by omega)) (List.append_assoc _ _ _) ?_
  refine nPr zM10 q10_41 rfl (by omega) gk2_24 (zgk hn) (o := none) rfl rfl rfl (zsk hn) ?_
  refine nl zM10 q10_44 rfl ?_
  refine nkB zM10 q10_45 (v := 40) (by decide +kernel) ?_
  refine nNa zM10 q10_47 (ty := .int) (m := 40) (a := n + 6) rfl (by decide) (by decide) (by decide +kernel) (by decide) (zlk hn rfl) (by omega) (hz _ (by omega)) (List.append_assoc _ _ _) ?_
  refine nPr zM10 q10_49 rfl (by omega) gk2_27 (zgk hn) (o := none) rfl rfl rfl (zsk hn) ?_
  refine nl zM10 q10_52 rfl ?_
  refine nkB zM10 q10_53 (v := 40) (by decide +kernel) ?_
  refine nNa zM10 q10_55 (ty := .int) (m := 40) (a := n + 7) rfl (by decide) (by decide) (by decide +kernel) (by decide) (zlk hn rfl) (by omega) (hz _ (by omega)) (List.append_assoc _ _ _) ?_
  refine nPr zM10 q10_57 rfl (by omega) gk2_30 (zgk hn) (o := none) rfl rfl rfl (zsk hn) ?_
  refine nl zM10 q10_60 rfl ?_
  refine nkB zM10 q10_61 (v := 40) (by decide +kernel) ?_
  refine nNa zM10 q10_63 (ty := .int) (m := 40) (a := n + 8) rfl (by decide) (by decide) (by decide +kernel) (by decide) (zlk hn rfl) (by omega) (hz _ (by omega)) (List.append_assoc _ _ _) ?_
  refine nPr zM10 q10_65 rfl (by omega) gk2_33 (zgk hn) (o := none) rfl rfl rfl (zsk hn) ?_
  refine nl zM10 q10_68 rfl ?_
  refine nkB zM10 q10_69 (v := 40) (by decide +kernel) ?_
  refine nNa zM10 q10_71 (ty := .int) (m := 40) (a := n + 9) rfl (by decide) (by decide) (by decide +kernel) (by decide) (zlk hn rfl) (by omega) (hz _ (by omega)) (List.append_assoc _ _ _) ?_
  refine nPr zM10 q10_73 rfl (by omega) gk2_36 (zgk hn) (o := none) rfl rfl rfl (zsk hn) ?_
  refine nl zM10 q10_76 rfl ?_
  refine nkB zM10 q10_77 (v := 40) (by decide +kernel) ?_
  refine nNa zM10 q10_79 (ty := .boolean) (m := 40) (a := n + 10) rfl (by decide) (by decide) (by decide +kernel) (by decide) (zlk hn rfl) (by omega) (hz _ (by omega)) (List.append_assoc _ _ _) ?_
  refine nPr zM10 q10_81 rfl (by omega) gk2_39 (zgk hn) (o := none) rfl rfl rfl (zsk hn) ?_
  exact nrv zM10 q10_84 rfl K
theorem kc25 {X : Option (List Int32)} {d n : Nat} {S0 : zS} {h : zH} {Q : Option Value → zS → zH → Prop} (hn : S0.length = n) (hb : n + 60 < 100000) (hz : ∀ c, n ≤ c → h c = fun _ => 0) (K : Q none (S0 ++ [.inr (.inr (4, [some (some (n + 1)), some (some (n + 2)), some (some (n + 3)), some (some (n + 4)), some (some (n + 5)), some (some (n + 6)), some (some (n + 7)), some (some (n + 8)), none, none])), .inl (.int, 12), .inl (.int, 12), .inl (.int, 12), .inl (.int, 12), .inl (.int, 60), .inl (.int, 60), .inl (.int, 8), .inl (.int, 256)]) h) : zN X (d + 1) 25 0 (z_ent [.ref n] 1) [] (S0 ++ [.inr (.inr (4, [some none, some none, some none, some none, some none, some none, some none, some none, none, none]))]) h Q := by
  show zN X (d + 1) 25 0 [some (.ref n)] [] (S0 ++ [.inr (.inr (4, [some none, some none, some none, some none, some none, some none, some none, some none, none, none]))]) h Q
  refine nl zM25 q25_0 rfl ?_
  refine nO zM25 q25_1 ko4_5 (Nat.le_of_ble_eq_true rfl) ?_
  refine nl zM25 q25_4 rfl ?_
  refine nkB zM25 q25_5 (v := 12) (by decide +kernel) ?_
  refine nNa zM25 q25_7 (ty := .int) (m := 12) (a := n + 1) rfl (by decide) (by decide) (by decide +kernel) (by decide) (zlk hn rfl) (by omega) (hz _ (by omega)) (List.append_assoc _ _ _) ?_
  refine nPr zM25 q25_9 rfl (by omega) gk4_11 (zgk hn) (o := none) rfl rfl rfl (zsk hn) ?_
  refine nl zM25 q25_12 rfl ?_
  refine nkB zM25 q25_13 (v := 12) (by decide +kernel) ?_
  refine nNa zM25 q25_15 (ty := .int) (m := 12) (a := n + 2) rfl (by decide) (by decide) (by decide +kernel) (by decide) (zlk hn rfl) (by omega) (hz _ (by omega)) (List.append_assoc _ _ _) ?_
  refine nPr zM25 q25_17 rfl (by omega) gk4_15 (zgk hn) (o := none) rfl rfl rfl (zsk hn) ?_
  refine nl zM25 q25_20 rfl ?_
  refine nkB zM25 q25_21 (v := 12) (by decide +kernel) ?_
  refine nNa zM25 q25_23 (ty := .int) (m := 12) (a := n + 3) rfl (by decide) (by decide) (by decide +kernel) (by decide) (zlk hn rfl) (by omega) (hz _ (by omega)) (List.append_assoc _ _ _) ?_
  refine nPr zM25 q25_25 rfl (by omega) gk4_18 (zgk hn) (o := none) rfl rfl rfl (zsk hn) ?_
  refine nl zM25 q25_28 rfl ?_
  refine nkB zM25 q25_29 (v := 12) (by decide +kernel) ?_
  refine nNa zM25 q25_31 (ty := .int) (m := 12) (a := n + 4) rfl (by decide) (by decide) (by decide +kernel) (by decide) (zlk hn rfl) (by omega) (hz _ (by omega)) (List.append_assoc _ _ _) ?_
  refine nPr zM25 q25_33 rfl (by omega) gk4_21 (zgk hn) (o := none) rfl rfl rfl (zsk hn) ?_
  refine nl zM25 q25_36 rfl ?_
  refine nkB zM25 q25_37 (v := 60) (by decide +kernel) ?_
  refine nNa zM25 q25_39 (ty := .int) (m := 60) (a := n + 5) rfl (by decide) (by decide) (by decide +kernel) (by decide) (zlk hn rfl) (by omega) (hz _ (by omega)) (List.append_assoc _ _ _) ?_
  refine nPr zM25 q25_41 rfl (by omega) gk4_24 (zgk hn) (o := none) rfl rfl rfl (zsk hn) ?_
  refine nl zM25 q25_44 rfl ?_
  refine nkB zM25 q25_45 (v := 60) (by decide +kernel) ?_
  refine nNa zM25 q25_47 (ty := .int) (m := 60) (a := n + 6) rfl (by decide) (by decide) (by decide +kernel) (by decide) (zlk hn rfl) (by omega) (hz _ (by omega)) (List.append_assoc _ _ _) ?_
  refine nPr zM25 q25_49 rfl (by omega) gk4_27 (zgk hn) (o := none) rfl rfl rfl (zsk hn) ?_
  refine nl zM25 q25_52 rfl ?_
  refine nkB zM25 q25_53 (v := 8) (by decide +kernel) ?_
  refine nNa zM25 q25_55 (ty := .int) (m := 8) (a := n + 7) rfl (by decide) (by decide) (by decide +kernel) (by decide) (zlk hn rfl) (by omega) (hz _ (by omega)) (List.append_assoc _ _ _) ?_
  refine nPr zM25 q25_57 rfl (by omega) gk4_30 (zgk hn) (o := none) rfl rfl rfl (zsk hn) ?_
  refine nl zM25 q25_60 rfl ?_
  refine nkS zM25 q25_61 (v := 256) (by decide +kernel) ?_
  refine nNa zM25 q25_64 (ty := .int) (m := 256) (a := n + 8) rfl (by decide) (by decide) (by decide +kernel) (by decide) (zlk hn rfl) (by omega) (hz _ (by omega)) (List.append_assoc _ _ _) ?_
  refine nPr zM25 q25_66 rfl (by omega) gk4_33 (zgk hn) (o := none) rfl rfl rfl (zsk hn) ?_
  exact nrv zM25 q25_69 rfl K
theorem kc33 {X : Option (List Int32)} {d n : Nat} {S0 : zS} {h : zH} {Q : Option Value → zS → zH → Prop} (hn : S0.length = n) (hb : n + 60 < 100000) (hz : ∀ c, n ≤ c → h c = fun _ => 0) (K : Q none (S0 ++ [.inr (.inr (5, [some (some (n + 1)), some (some (n + 2)), some (some (n + 3)), none])), .inl (.int, 20), .inl (.int, 20), .inl (.int, 20)]) h) : zN X (d + 1) 33 0 (z_ent [.ref n] 1) [] (S0 ++ [.inr (.inr (5, [some none, some none, some none, none]))]) h Q := by
  show zN X (d + 1) 33 0 [some (.ref n)] [] (S0 ++ [.inr (.inr (5, [some none, some none, some none, none]))]) h Q
  refine nl zM33 q33_0 rfl ?_
  refine nO zM33 q33_1 ko5_3 (Nat.le_of_ble_eq_true rfl) ?_
  refine nl zM33 q33_4 rfl ?_
  refine nkB zM33 q33_5 (v := 20) (by decide +kernel) ?_
  refine nNa zM33 q33_7 (ty := .int) (m := 20) (a := n + 1) rfl (by decide) (by decide) (by decide +kernel) (by decide) (zlk hn rfl) (by omega) (hz _ (by omega)) (List.append_assoc _ _ _) ?_
  refine nPr zM33 q33_9 rfl (by omega) gk5_9 (zgk hn) (o := none) rfl rfl rfl (zsk hn) ?_
  refine nl zM33 q33_12 rfl ?_
  refine nkB zM33 q33_13 (v := 20) (by decide +kernel) ?_
  refine nNa zM33 q33_15 (ty := .int) (m := 20) (a := n + 2) rfl (by decide) (by decide) (by decide +kernel) (by decide) (zlk hn rfl) (by omega) (hz _ (by omega)) (List.append_assoc _ _ _) ?_
  refine nPr zM33 q33_17 rfl (by omega) gk5_15 (zgk hn) (o := none) rfl rfl rfl (zsk hn) ?_
  refine nl zM33 q33_20 rfl ?_
  refine nkB zM33 q33_21 (v := 20) (by decide +kernel) ?_
  refine nNa zM33 q33_23 (ty := .int) (m := 20) (a := n + 3) rfl (by decide) (by decide) (by decide +kernel) (by decide) (zlk hn rfl) (by omega) (hz _ (by omega)) (List.append_assoc _ _ _) ?_
  refine nPr zM33 q33_25 rfl (by omega) gk5_18 (zgk hn) (o := none) rfl rfl rfl (zsk hn) ?_
  exact nrv zM33 q33_28 rfl K
theorem kc35 {X : Option (List Int32)} {d n : Nat} {S0 : zS} {h : zH} {Q : Option Value → zS → zH → Prop} (hn : S0.length = n) (hb : n + 60 < 100000) (hz : ∀ c, n ≤ c → h c = fun _ => 0) (K : Q none (S0 ++ [.inr (.inr (6, [some (some (n + 1)), some (some (n + 2)), some (some (n + 3)), some (some (n + 4)), none, none])), .inl (.int, 50), .inl (.int, 5), .inl (.int, 5), .inl (.int, 5)]) h) : zN X (d + 1) 35 0 (z_ent [.ref n] 1) [] (S0 ++ [.inr (.inr (6, [some none, some none, some none, some none, none, none]))]) h Q := by
  show zN X (d + 1) 35 0 [some (.ref n)] [] (S0 ++ [.inr (.inr (6, [some none, some none, some none, some none, none, none]))]) h Q
  refine nl zM35 q35_0 rfl ?_
  refine nO zM35 q35_1 ko6_3 (Nat.le_of_ble_eq_true rfl) ?_
  refine nl zM35 q35_4 rfl ?_
  refine nkB zM35 q35_5 (v := 50) (by decide +kernel) ?_
  refine nNa zM35 q35_7 (ty := .int) (m := 50) (a := n + 1) rfl (by decide) (by decide) (by decide +kernel) (by decide) (zlk hn rfl) (by omega) (hz _ (by omega)) (List.append_assoc _ _ _) ?_
  refine nPr zM35 q35_9 rfl (by omega) gk6_9 (zgk hn) (o := none) rfl rfl rfl (zsk hn) ?_
  refine nl zM35 q35_12 rfl ?_
  refine nkI zM35 q35_13 (v := 5) (by decide +kernel) ?_
  refine nNa zM35 q35_14 (ty := .int) (m := 5) (a := n + 2) rfl (by decide) (by decide) (by decide +kernel) (by decide) (zlk hn rfl) (by omega) (hz _ (by omega)) (List.append_assoc _ _ _) ?_
  refine nPr zM35 q35_16 rfl (by omega) gk6_15 (zgk hn) (o := none) rfl rfl rfl (zsk hn) ?_
  refine nl zM35 q35_19 rfl ?_
  refine nkI zM35 q35_20 (v := 5) (by decide +kernel) ?_
  refine nNa zM35 q35_21 (ty := .int) (m := 5) (a := n + 3) rfl (by decide) (by decide) (by decide +kernel) (by decide) (zlk hn rfl) (by omega) (hz _ (by omega)) (List.append_assoc _ _ _) ?_
  refine nPr zM35 q35_23 rfl (by omega) gk6_18 (zgk hn) (o := none) rfl rfl rfl (zsk hn) ?_
  refine nl zM35 q35_26 rfl ?_
  refine nkI zM35 q35_27 (v := 5) (by decide +kernel) ?_
  refine nNa zM35 q35_28 (ty := .int) (m := 5) (a := n + 4) rfl (by decide) (by decide) (by decide +kernel) (by decide) (zlk hn rfl) (by omega) (hz _ (by omega)) (List.append_assoc _ _ _) ?_
  refine nPr zM35 q35_30 rfl (by omega) gk6_21 (zgk hn) (o := none) rfl rfl rfl (zsk hn) ?_
  exact nrv zM35 q35_33 rfl K
theorem kc39 {X : Option (List Int32)} {d n : Nat} {S0 : zS} {h : zH} {Q : Option Value → zS → zH → Prop} (hn : S0.length = n) (hb : n + 60 < 100000) (hz : ∀ c, n ≤ c → h c = fun _ => 0) (K : Q none (S0 ++ [.inr (.inr (7, [some (some (n + 1)), some (some (n + 2)), some (some (n + 3)), some (some (n + 4)), none])), .inl (.int, 40), .inl (.int, 40), .inl (.int, 40), .inl (.int, 40)]) h) : zN X (d + 1) 39 0 (z_ent [.ref n] 1) [] (S0 ++ [.inr (.inr (7, [some none, some none, some none, some none, none]))]) h Q := by
  show zN X (d + 1) 39 0 [some (.ref n)] [] (S0 ++ [.inr (.inr (7, [some none, some none, some none, some none, none]))]) h Q
  refine nl zM39 q39_0 rfl ?_
  refine nO zM39 q39_1 ko7_3 (Nat.le_of_ble_eq_true rfl) ?_
  refine nl zM39 q39_4 rfl ?_
  refine nkB zM39 q39_5 (v := 40) (by decide +kernel) ?_
  refine nNa zM39 q39_7 (ty := .int) (m := 40) (a := n + 1) rfl (by decide) (by decide) (by decide +kernel) (by decide) (zlk hn rfl) (by omega) (hz _ (by omega)) (List.append_assoc _ _ _) ?_
  refine nPr zM39 q39_9 rfl (by omega) gk7_9 (zgk hn) (o := none) rfl rfl rfl (zsk hn) ?_
  refine nl zM39 q39_12 rfl ?_
  refine nkB zM39 q39_13 (v := 40) (by decide +kernel) ?_
  refine nNa zM39 q39_15 (ty := .int) (m := 40) (a := n + 2) rfl (by decide) (by decide) (by decide +kernel) (by decide) (zlk hn rfl) (by omega) (hz _ (by omega)) (List.append_assoc _ _ _) ?_
  refine nPr zM39 q39_17 rfl (by omega) gk7_15 (zgk hn) (o := none) rfl rfl rfl (zsk hn) ?_
  refine nl zM39 q39_20 rfl ?_
  refine nkB zM39 q39_21 (v := 40) (by decide +kernel) ?_
  refine nNa zM39 q39_23 (ty := .int) (m := 40) (a := n + 3) rfl (by decide) (by decide) (by decide +kernel) (by decide) (zlk hn rfl) (by omega) (hz _ (by omega)) (List.append_assoc _ _ _) ?_
  refine nPr zM39 q39_25 rfl (by omega) gk7_18 (zgk hn) (o := none) rfl rfl rfl (zsk hn) ?_
  refine nl zM39 q39_28 rfl ?_
  refine nkB zM39 q39_29 (v := 40) (by decide +kernel) ?_
  refine nNa zM39 q39_31 (ty := .int) (m := 40) (a := n + 4) rfl (by decide) (by decide) (by decide +kernel) (by decide) (zlk hn rfl) (by omega) (hz _ (by omega)) (List.append_assoc _ _ _) ?_
  refine nPr zM39 q39_33 rfl (by omega) gk7_21 (zgk hn) (o := none) rfl rfl rfl (zsk hn) ?_
  exact nrv zM39 q39_36 rfl K
theorem kc42 {X : Option (List Int32)} {d n : Nat} {S0 : zS} {h : zH} {Q : Option Value → zS → zH → Prop} (hn : S0.length = n) (hb : n + 60 < 100000) (hz : ∀ c, n ≤ c → h c = fun _ => 0) (K : Q none (S0 ++ [.inr (.inr (8, [some (some (n + 1)), none, none])), .inl (.int, 40)]) (z_up h n 1 (-1))) : zN X (d + 1) 42 0 (z_ent [.ref n] 1) [] (S0 ++ [.inr (.inr (8, [some none, none, none]))]) h Q := by
  show zN X (d + 1) 42 0 [some (.ref n)] [] (S0 ++ [.inr (.inr (8, [some none, none, none]))]) h Q
  refine nl zM42 q42_0 rfl ?_
  refine nO zM42 q42_1 ko8_3 (Nat.le_of_ble_eq_true rfl) ?_
  refine nl zM42 q42_4 rfl ?_
  refine nkB zM42 q42_5 (v := 40) (by decide +kernel) ?_
  refine nNa zM42 q42_7 (ty := .int) (m := 40) (a := n + 1) rfl (by decide) (by decide) (by decide +kernel) (by decide) (zlk hn rfl) (by omega) (hz _ (by omega)) (List.append_assoc _ _ _) ?_
  refine nPr zM42 q42_9 rfl (by omega) gk8_9 (zgk hn) (o := none) rfl rfl rfl (zsk hn) ?_
  refine nl zM42 q42_12 rfl ?_
  refine nkI zM42 q42_13 (v := (-1)) (by decide +kernel) ?_
  refine nPi zM42 q42_14 (by omega) gk8_15 (zgk hn) rfl rfl ?_
  exact nrv zM42 q42_17 rfl K
theorem kc47 {X : Option (List Int32)} {d n : Nat} {S0 : zS} {h : zH} {Q : Option Value → zS → zH → Prop} (hn : S0.length = n) (hb : n + 60 < 100000) (hz : ∀ c, n ≤ c → h c = fun _ => 0) (K : Q none (S0 ++ [.inr (.inr (9, [some (some (n + 1)), none, none, none, none, none])), .inl (.int, 160)]) h) : zN X (d + 1) 47 0 (z_ent [.ref n] 1) [] (S0 ++ [.inr (.inr (9, [some none, none, none, none, none, none]))]) h Q := by
  show zN X (d + 1) 47 0 [some (.ref n)] [] (S0 ++ [.inr (.inr (9, [some none, none, none, none, none, none]))]) h Q
  refine nl zM47 q47_0 rfl ?_
  refine nO zM47 q47_1 ko9_3 (Nat.le_of_ble_eq_true rfl) ?_
  refine nl zM47 q47_4 rfl ?_
  refine nkS zM47 q47_5 (v := 160) (by decide +kernel) ?_
  refine nNa zM47 q47_8 (ty := .int) (m := 160) (a := n + 1) rfl (by decide) (by decide) (by decide +kernel) (by decide) (zlk hn rfl) (by omega) (hz _ (by omega)) (List.append_assoc _ _ _) ?_
  refine nPr zM47 q47_10 rfl (by omega) gk9_9 (zgk hn) (o := none) rfl rfl rfl (zsk hn) ?_
  exact nrv zM47 q47_13 rfl K
theorem kc60 {X : Option (List Int32)} {d n : Nat} {S0 : zS} {h : zH} {Q : Option Value → zS → zH → Prop} (hn : S0.length = n) (hb : n + 60 < 100000) (hz : ∀ c, n ≤ c → h c = fun _ => 0) (K : Q none (S0 ++ [.inr (.inr (10, [some (some (n + 1)), some (some (n + 2)), none])), .inl (.int, 160), .inl (.int, 3)]) h) : zN X (d + 1) 60 0 (z_ent [.ref n] 1) [] (S0 ++ [.inr (.inr (10, [some none, some none, none]))]) h Q := by
  show zN X (d + 1) 60 0 [some (.ref n)] [] (S0 ++ [.inr (.inr (10, [some none, some none, none]))]) h Q
  refine nl zM60 q60_0 rfl ?_
  refine nO zM60 q60_1 ko10_3 (Nat.le_of_ble_eq_true rfl) ?_
  refine nl zM60 q60_4 rfl ?_
  refine nkS zM60 q60_5 (v := 160) (by decide +kernel) ?_
  refine nNa zM60 q60_8 (ty := .int) (m := 160) (a := n + 1) rfl (by decide) (by decide) (by decide +kernel) (by decide) (zlk hn rfl) (by omega) (hz _ (by omega)) (List.append_assoc _ _ _) ?_
  refine nPr zM60 q60_10 rfl (by omega) gk10_9 (zgk hn) (o := none) rfl rfl rfl (zsk hn) ?_
  refine nl zM60 q60_13 rfl ?_
  refine nkI zM60 q60_14 (v := 3) (by decide +kernel) ?_
  refine nNa zM60 q60_15 (ty := .int) (m := 3) (a := n + 2) rfl (by decide) (by decide) (by decide +kernel) (by decide) (zlk hn rfl) (by omega) (hz _ (by omega)) (List.append_assoc _ _ _) ?_
  refine nPr zM60 q60_17 rfl (by omega) gk10_15 (zgk hn) (o := none) rfl rfl rfl (zsk hn) ?_
  exact nrv zM60 q60_20 rfl K
theorem kc22 {X : Option (List Int32)} {d n : Nat} {S0 : zS} {h : zH} {Q : Option Value → zS → zH → Prop} (hn : S0.length = n) (hb : n + 200 < 100000) (hz : ∀ c, n ≤ c → h c = fun _ => 0) (K : Q none (S0 ++ [.inr (.inr (3, [some (some (n + 1)), some (some (n + 2)), some (some (n + 3)), some (some (n + 4)), none, none])), .inr (.inl (.object "DustYards$Text", [some (n + 5), some (n + 8), some (n + 11), some (n + 14), some (n + 17), some (n + 20)])), .inl (.int, 20), .inl (.int, 20), .inl (.int, 20), .inr (.inr (10, [some (some (n + 5 + 1)), some (some (n + 5 + 2)), none])), .inl (.int, 160), .inl (.int, 3), .inr (.inr (10, [some (some (n + 8 + 1)), some (some (n + 8 + 2)), none])), .inl (.int, 160), .inl (.int, 3), .inr (.inr (10, [some (some (n + 11 + 1)), some (some (n + 11 + 2)), none])), .inl (.int, 160), .inl (.int, 3), .inr (.inr (10, [some (some (n + 14 + 1)), some (some (n + 14 + 2)), none])), .inl (.int, 160), .inl (.int, 3), .inr (.inr (10, [some (some (n + 17 + 1)), some (some (n + 17 + 2)), none])), .inl (.int, 160), .inl (.int, 3), .inr (.inr (10, [some (some (n + 20 + 1)), some (some (n + 20 + 2)), none])), .inl (.int, 160), .inl (.int, 3)]) h) : zN X (d + 2) 22 0 (z_ent [.ref n] 2) [] (S0 ++ [.inr (.inr (3, [some none, some none, some none, some none, none, none]))]) h Q := by
  show zN X (d + 2) 22 0 [some (.ref n), none] [] (S0 ++ [.inr (.inr (3, [some none, some none, some none, some none, none, none]))]) h Q
  refine nl zM22 q22_0 rfl ?_
  refine nO zM22 q22_1 ko3_3 (Nat.le_of_ble_eq_true rfl) ?_
  refine nl zM22 q22_4 rfl ?_
  refine nkB zM22 q22_5 (v := 6) (by decide +kernel) ?_
  refine nNq zM22 q22_7 (m := 6) (a := n + 1) kn3_9 (by decide) (by decide) (by decide +kernel) (by decide) (zlk hn rfl) (by omega) (List.append_assoc _ _ _) ?_
  refine nPr zM22 q22_10 rfl (by omega) gk3_11 (zgk hn) (o := none) rfl rfl rfl (zsk hn) ?_
  refine nl zM22 q22_13 rfl ?_
  refine nkB zM22 q22_14 (v := 20) (by decide +kernel) ?_
  refine nNa zM22 q22_16 (ty := .int) (m := 20) (a := n + 2) rfl (by decide) (by decide) (by decide +kernel) (by decide) (zlk hn rfl) (by omega) (hz _ (by omega)) (List.append_assoc _ _ _) ?_
  refine nPr zM22 q22_18 rfl (by omega) gk3_17 (zgk hn) (o := none) rfl rfl rfl (zsk hn) ?_
  refine nl zM22 q22_21 rfl ?_
  refine nkB zM22 q22_22 (v := 20) (by decide +kernel) ?_
  refine nNa zM22 q22_24 (ty := .int) (m := 20) (a := n + 3) rfl (by decide) (by decide) (by decide +kernel) (by decide) (zlk hn rfl) (by omega) (hz _ (by omega)) (List.append_assoc _ _ _) ?_
  refine nPr zM22 q22_26 rfl (by omega) gk3_21 (zgk hn) (o := none) rfl rfl rfl (zsk hn) ?_
  refine nl zM22 q22_29 rfl ?_
  refine nkB zM22 q22_30 (v := 20) (by decide +kernel) ?_
  refine nNa zM22 q22_32 (ty := .int) (m := 20) (a := n + 4) rfl (by decide) (by decide) (by decide +kernel) (by decide) (zlk hn rfl) (by omega) (hz _ (by omega)) (List.append_assoc _ _ _) ?_
  refine nPr zM22 q22_34 rfl (by omega) gk3_24 (zgk hn) (o := none) rfl rfl rfl (zsk hn) ?_
  refine nkI zM22 q22_37 (v := 0) (by decide +kernel) ?_
  refine nl zM22 q22_38 (ls' := [some (.ref n), some (.int 0)]) rfl ?_
  refine nl zM22 q22_39 rfl ?_
  refine nkB zM22 q22_40 (v := 6) (by decide +kernel) ?_
  refine nl zM22 q22_42 (pc' := 45) rfl ?_
  refine nl zM22 q22_45 rfl ?_
  refine nGr zM22 q22_46 (by omega) gk3_11 (zgk hn) rfl ?_
  refine nl zM22 q22_49 rfl ?_
  refine nNc zM22 q22_50 (a := n + 5) kn3_9 kci10 kdf10 (zlk hn rfl) (by omega) (hz _ (by omega)) rfl ?_
  refine nl zM22 q22_53 rfl ?_
  refine ncI zM22 q22_54 ko3_27 kj3_27 (by decide) (Nat.le_of_ble_eq_true rfl) zM60 (Nat.le_of_ble_eq_true rfl) (kc60 (zlk hn rfl) (by omega) (fun c hc => hz c (by omega)) ?_)
  show zN X (d + 1 + 1) 22 57 [some (.ref n), some (.int 0)] [.ref (n + 5), .int 0, .ref (n + 1)] _ h Q
  refine nAs (S' := S0 ++ [.inr (.inr (3, [some (some (n + 1)), some (some (n + 2)), some (some (n + 3)), some (some (n + 4)), none, none])), .inr (.inl (.object "DustYards$Text", [some (n + 5), none, none, none, none, none])), .inl (.int, 20), .inl (.int, 20), .inl (.int, 20), .inr (.inr (10, [some (some (n + 5 + 1)), some (some (n + 5 + 2)), none])), .inl (.int, 160), .inl (.int, 3)]) (j := 0) (rs := [none, none, none, none, none, none]) zM22 q22_57 (by omega) (by omega) (by rw [List.append_assoc]; exact zgj (j := 1) hn rfl) (zgk (zlk hn rfl)) rfl (by decide) (show z_ib 0 6 from by decide) (by decide +kernel) (by rw [List.append_assoc]; exact Eq.trans (zsj (j := 1) hn) rfl) ?_
  refine nl zM22 q22_58 (ls' := [some (.ref n), some (.int 1)]) rfl ?_
  refine nl zM22 q22_61 (pc' := 39) rfl ?_
  refine nl zM22 q22_39 rfl ?_
  refine nkB zM22 q22_40 (v := 6) (by decide +kernel) ?_
  refine nl zM22 q22_42 (pc' := 45) rfl ?_
  refine nl zM22 q22_45 rfl ?_
  refine nGr zM22 q22_46 (by omega) gk3_11 (zgk hn) rfl ?_
  refine nl zM22 q22_49 rfl ?_
  refine nNc zM22 q22_50 (a := n + 8) kn3_9 kci10 kdf10 (zlk hn rfl) (by omega) (hz _ (by omega)) rfl ?_
  refine nl zM22 q22_53 rfl ?_
  refine ncI zM22 q22_54 ko3_27 kj3_27 (by decide) (Nat.le_of_ble_eq_true rfl) zM60 (Nat.le_of_ble_eq_true rfl) (kc60 (zlk hn rfl) (by omega) (fun c hc => hz c (by omega)) ?_)
  show zN X (d + 1 + 1) 22 57 [some (.ref n), some (.int 1)] [.ref (n + 8), .int 1, .ref (n + 1)] _ h Q
  refine nAs (S' := S0 ++ [.inr (.inr (3, [some (some (n + 1)), some (some (n + 2)), some (some (n + 3)), some (some (n + 4)), none, none])), .inr (.inl (.object "DustYards$Text", [some (n + 5), some (n + 8), none, none, none, none])), .inl (.int, 20), .inl (.int, 20), .inl (.int, 20), .inr (.inr (10, [some (some (n + 5 + 1)), some (some (n + 5 + 2)), none])), .inl (.int, 160), .inl (.int, 3), .inr (.inr (10, [some (some (n + 8 + 1)), some (some (n + 8 + 2)), none])), .inl (.int, 160), .inl (.int, 3)]) (j := 1) (rs := [some (n + 5), none, none, none, none, none]) zM22 q22_57 (by omega) (by omega) (by rw [List.append_assoc]; exact zgj (j := 1) hn rfl) (zgk (zlk hn rfl)) rfl (by decide) (show z_ib 1 6 from by decide) (by decide +kernel) (by rw [List.append_assoc]; exact Eq.trans (zsj (j := 1) hn) rfl) ?_
  refine nl zM22 q22_58 (ls' := [some (.ref n), some (.int 2)]) rfl ?_
  refine nl zM22 q22_61 (pc' := 39) rfl ?_
  refine nl zM22 q22_39 rfl ?_
  refine nkB zM22 q22_40 (v := 6) (by decide +kernel) ?_
  refine nl zM22 q22_42 (pc' := 45) rfl ?_
  refine nl zM22 q22_45 rfl ?_
  refine nGr zM22 q22_46 (by omega) gk3_11 (zgk hn) rfl ?_
  refine nl zM22 q22_49 rfl ?_
  refine nNc zM22 q22_50 (a := n + 11) kn3_9 kci10 kdf10 (zlk hn rfl) (by omega) (hz _ (by omega)) rfl ?_
  refine nl zM22 q22_53 rfl ?_
  refine ncI zM22 q22_54 ko3_27 kj3_27 (by decide) (Nat.le_of_ble_eq_true rfl) zM60 (Nat.le_of_ble_eq_true rfl) (kc60 (zlk hn rfl) (by omega) (fun c hc => hz c (by omega)) ?_)
  show zN X (d + 1 + 1) 22 57 [some (.ref n), some (.int 2)] [.ref (n + 11), .int 2, .ref (n + 1)] _ h Q
  refine nAs (S' := S0 ++ [.inr (.inr (3, [some (some (n + 1)), some (some (n + 2)), some (some (n + 3)), some (some (n + 4)), none, none])), .inr (.inl (.object "DustYards$Text", [some (n + 5), some (n + 8), some (n + 11), none, none, none])), .inl (.int, 20), .inl (.int, 20), .inl (.int, 20), .inr (.inr (10, [some (some (n + 5 + 1)), some (some (n + 5 + 2)), none])), .inl (.int, 160), .inl (.int, 3), .inr (.inr (10, [some (some (n + 8 + 1)), some (some (n + 8 + 2)), none])), .inl (.int, 160), .inl (.int, 3), .inr (.inr (10, [some (some (n + 11 + 1)), some (some (n + 11 + 2)), none])), .inl (.int, 160), .inl (.int, 3)]) (j := 2) (rs := [some (n + 5), some (n + 8), none, none, none, none]) zM22 q22_57 (by omega) (by omega) (by rw [List.append_assoc]; exact zgj (j := 1) hn rfl) (zgk (zlk hn rfl)) rfl (by decide) (show z_ib 2 6 from by decide) (by decide +kernel) (by rw [List.append_assoc]; exact Eq.trans (zsj (j := 1) hn) rfl) ?_
  refine nl zM22 q22_58 (ls' := [some (.ref n), some (.int 3)]) rfl ?_
  refine nl zM22 q22_61 (pc' := 39) rfl ?_
  refine nl zM22 q22_39 rfl ?_
  refine nkB zM22 q22_40 (v := 6) (by decide +kernel) ?_
  refine nl zM22 q22_42 (pc' := 45) rfl ?_
  refine nl zM22 q22_45 rfl ?_
  refine nGr zM22 q22_46 (by omega) gk3_11 (zgk hn) rfl ?_
  refine nl zM22 q22_49 rfl ?_
  refine nNc zM22 q22_50 (a := n + 14) kn3_9 kci10 kdf10 (zlk hn rfl) (by omega) (hz _ (by omega)) rfl ?_
  refine nl zM22 q22_53 rfl ?_
  refine ncI zM22 q22_54 ko3_27 kj3_27 (by decide) (Nat.le_of_ble_eq_true rfl) zM60 (Nat.le_of_ble_eq_true rfl) (kc60 (zlk hn rfl) (by omega) (fun c hc => hz c (by omega)) ?_)
  show zN X (d + 1 + 1) 22 57 [some (.ref n), some (.int 3)] [.ref (n + 14), .int 3, .ref (n + 1)] _ h Q
  refine nAs (S' := S0 ++ [.inr (.inr (3, [some (some (n + 1)), some (some (n + 2)), some (some (n + 3)), some (some (n + 4)), none, none])), .inr (.inl (.object "DustYards$Text", [some (n + 5), some (n + 8), some (n + 11), some (n + 14), none, none])), .inl (.int, 20), .inl (.int, 20), .inl (.int, 20), .inr (.inr (10, [some (some (n + 5 + 1)), some (some (n + 5 + 2)), none])), .inl (.int, 160), .inl (.int, 3), .inr (.inr (10, [some (some (n + 8 + 1)), some (some (n + 8 + 2)), none])), .inl (.int, 160), .inl (.int, 3), .inr (.inr (10, [some (some (n + 11 + 1)), some (some (n + 11 + 2)), none])), .inl (.int, 160), .inl (.int, 3), .inr (.inr (10, [some (some (n + 14 + 1)), some (some (n + 14 + 2)), none])), .inl (.int, 160), .inl (.int, 3)]) (j := 3) (rs := [some (n + 5), some (n + 8), some (n + 11), none, none, none]) zM22 q22_57 (by omega) (by omega) (by rw [List.append_assoc]; exact zgj (j := 1) hn rfl) (zgk (zlk hn rfl)) rfl (by decide) (show z_ib 3 6 from by decide) (by decide +kernel) (by rw [List.append_assoc]; exact Eq.trans (zsj (j := 1) hn) rfl) ?_
  refine nl zM22 q22_58 (ls' := [some (.ref n), some (.int 4)]) rfl ?_
  refine nl zM22 q22_61 (pc' := 39) rfl ?_
  refine nl zM22 q22_39 rfl ?_
  refine nkB zM22 q22_40 (v := 6) (by decide +kernel) ?_
  refine nl zM22 q22_42 (pc' := 45) rfl ?_
  refine nl zM22 q22_45 rfl ?_
  refine nGr zM22 q22_46 (by omega) gk3_11 (zgk hn) rfl ?_
  refine nl zM22 q22_49 rfl ?_
  refine nNc zM22 q22_50 (a := n + 17) kn3_9 kci10 kdf10 (zlk hn rfl) (by omega) (hz _ (by omega)) rfl ?_
  refine nl zM22 q22_53 rfl ?_
  refine ncI zM22 q22_54 ko3_27 kj3_27 (by decide) (Nat.le_of_ble_eq_true rfl) zM60 (Nat.le_of_ble_eq_true rfl) (kc60 (zlk hn rfl) (by omega) (fun c hc => hz c (by omega)) ?_)
  show zN X (d + 1 + 1) 22 57 [some (.ref n), some (.int 4)] [.ref (n + 17), .int 4, .ref (n + 1)] _ h Q
  refine nAs (S' := S0 ++ [.inr (.inr (3, [some (some (n + 1)), some (some (n + 2)), some (some (n + 3)), some (some (n + 4)), none, none])), .inr (.inl (.object "DustYards$Text", [some (n + 5), some (n + 8), some (n + 11), some (n + 14), some (n + 17), none])), .inl (.int, 20), .inl (.int, 20), .inl (.int, 20), .inr (.inr (10, [some (some (n + 5 + 1)), some (some (n + 5 + 2)), none])), .inl (.int, 160), .inl (.int, 3), .inr (.inr (10, [some (some (n + 8 + 1)), some (some (n + 8 + 2)), none])), .inl (.int, 160), .inl (.int, 3), .inr (.inr (10, [some (some (n + 11 + 1)), some (some (n + 11 + 2)), none])), .inl (.int, 160), .inl (.int, 3), .inr (.inr (10, [some (some (n + 14 + 1)), some (some (n + 14 + 2)), none])), .inl (.int, 160), .inl (.int, 3), .inr (.inr (10, [some (some (n + 17 + 1)), some (some (n + 17 + 2)), none])), .inl (.int, 160), .inl (.int, 3)]) (j := 4) (rs := [some (n + 5), some (n + 8), some (n + 11), some (n + 14), none, none]) zM22 q22_57 (by omega) (by omega) (by rw [List.append_assoc]; exact zgj (j := 1) hn rfl) (zgk (zlk hn rfl)) rfl (by decide) (show z_ib 4 6 from by decide) (by decide +kernel) (by rw [List.append_assoc]; exact Eq.trans (zsj (j := 1) hn) rfl) ?_
  refine nl zM22 q22_58 (ls' := [some (.ref n), some (.int 5)]) rfl ?_
  refine nl zM22 q22_61 (pc' := 39) rfl ?_
  refine nl zM22 q22_39 rfl ?_
  refine nkB zM22 q22_40 (v := 6) (by decide +kernel) ?_
  refine nl zM22 q22_42 (pc' := 45) rfl ?_
  refine nl zM22 q22_45 rfl ?_
  refine nGr zM22 q22_46 (by omega) gk3_11 (zgk hn) rfl ?_
  refine nl zM22 q22_49 rfl ?_
  refine nNc zM22 q22_50 (a := n + 20) kn3_9 kci10 kdf10 (zlk hn rfl) (by omega) (hz _ (by omega)) rfl ?_
  refine nl zM22 q22_53 rfl ?_
  refine ncI zM22 q22_54 ko3_27 kj3_27 (by decide) (Nat.le_of_ble_eq_true rfl) zM60 (Nat.le_of_ble_eq_true rfl) (kc60 (zlk hn rfl) (by omega) (fun c hc => hz c (by omega)) ?_)
  show zN X (d + 1 + 1) 22 57 [some (.ref n), some (.int 5)] [.ref (n + 20), .int 5, .ref (n + 1)] _ h Q
  refine nAs (S' := S0 ++ [.inr (.inr (3, [some (some (n + 1)), some (some (n + 2)), some (some (n + 3)), some (some (n + 4)), none, none])), .inr (.inl (.object "DustYards$Text", [some (n + 5), some (n + 8), some (n + 11), some (n + 14), some (n + 17), some (n + 20)])), .inl (.int, 20), .inl (.int, 20), .inl (.int, 20), .inr (.inr (10, [some (some (n + 5 + 1)), some (some (n + 5 + 2)), none])), .inl (.int, 160), .inl (.int, 3), .inr (.inr (10, [some (some (n + 8 + 1)), some (some (n + 8 + 2)), none])), .inl (.int, 160), .inl (.int, 3), .inr (.inr (10, [some (some (n + 11 + 1)), some (some (n + 11 + 2)), none])), .inl (.int, 160), .inl (.int, 3), .inr (.inr (10, [some (some (n + 14 + 1)), some (some (n + 14 + 2)), none])), .inl (.int, 160), .inl (.int, 3), .inr (.inr (10, [some (some (n + 17 + 1)), some (some (n + 17 + 2)), none])), .inl (.int, 160), .inl (.int, 3), .inr (.inr (10, [some (some (n + 20 + 1)), some (some (n + 20 + 2)), none])), .inl (.int, 160), .inl (.int, 3)]) (j := 5) (rs := [some (n + 5), some (n + 8), some (n + 11), some (n + 14), some (n + 17), none]) zM22 q22_57 (by omega) (by omega) (by rw [List.append_assoc]; exact zgj (j := 1) hn rfl) (zgk (zlk hn rfl)) rfl (by decide) (show z_ib 5 6 from by decide) (by decide +kernel) (by rw [List.append_assoc]; exact Eq.trans (zsj (j := 1) hn) rfl) ?_
  refine nl zM22 q22_58 (ls' := [some (.ref n), some (.int 6)]) rfl ?_
  refine nl zM22 q22_61 (pc' := 39) rfl ?_
  refine nl zM22 q22_39 rfl ?_
  refine nkB zM22 q22_40 (v := 6) (by decide +kernel) ?_
  refine nl zM22 q22_42 (pc' := 64) rfl ?_
  exact nrv zM22 q22_64 rfl K

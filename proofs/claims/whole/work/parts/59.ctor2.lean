/-! the constructor of the class, up to its tape -/
theorem ko11_1 : z_isO 11 1 = true := by decide +kernel
theorem kn11_7 : z_cln 11 7 = some "DustYards$Carts" := by decide +kernel
theorem kci2 : (List.range 13).find? (fun ci => z_ow ci == "DustYards$Carts") = some 2 := by decide +kernel
theorem kdf2 : z_df 2 = [some none, some none, some none, some none, some none, some none, some none, some none, some none, some none, none] := by decide +kernel
theorem kj11_9 : z_cal 11 9 = some (10, 4, 0) := by decide +kernel
theorem gk11_10 : z_fl 11 10 = some (11, 0) := by decide +kernel
theorem ko11_9 : z_isO 11 9 = false := by decide +kernel
theorem gk11_16 : z_fl 11 16 = some (11, 1) := by decide +kernel
theorem kn11_20 : z_cln 11 20 = some "DustYards$Prices" := by decide +kernel
theorem kci7 : (List.range 13).find? (fun ci => z_ow ci == "DustYards$Prices") = some 7 := by decide +kernel
theorem kdf7 : z_df 7 = [some none, some none, some none, some none, none] := by decide +kernel
theorem kj11_22 : z_cal 11 22 = some (39, 4, 0) := by decide +kernel
theorem gk11_23 : z_fl 11 23 = some (11, 2) := by decide +kernel
theorem ko11_22 : z_isO 11 22 = false := by decide +kernel
theorem kn11_27 : z_cln 11 27 = some "DustYards$Tape" := by decide +kernel
theorem kci9 : (List.range 13).find? (fun ci => z_ow ci == "DustYards$Tape") = some 9 := by decide +kernel
theorem kdf9 : z_df 9 = [some none, none, none, none, none, none] := by decide +kernel
theorem kj11_29 : z_cal 11 29 = some (47, 4, 0) := by decide +kernel
theorem gk11_30 : z_fl 11 30 = some (11, 3) := by decide +kernel
theorem ko11_29 : z_isO 11 29 = false := by decide +kernel
theorem kn11_34 : z_cln 11 34 = some "DustYards$Contracts" := by decide +kernel
theorem kci3 : (List.range 13).find? (fun ci => z_ow ci == "DustYards$Contracts") = some 3 := by decide +kernel
theorem kdf3 : z_df 3 = [some none, some none, some none, some none, none, none] := by decide +kernel
theorem kj11_36 : z_cal 11 36 = some (22, 2, 0) := by decide +kernel
theorem gk11_37 : z_fl 11 37 = some (11, 4) := by decide +kernel
theorem ko11_36 : z_isO 11 36 = false := by decide +kernel
theorem gk11_41 : z_fl 11 41 = some (11, 5) := by decide +kernel
theorem gk11_44 : z_fl 11 44 = some (11, 6) := by decide +kernel
theorem kn11_47 : z_cln 11 47 = some "DustYards$Finds" := by decide +kernel
theorem kci5 : (List.range 13).find? (fun ci => z_ow ci == "DustYards$Finds") = some 5 := by decide +kernel
theorem kdf5 : z_df 5 = [some none, some none, some none, none] := by decide +kernel
theorem kj11_49 : z_cal 11 49 = some (33, 4, 0) := by decide +kernel
theorem gk11_50 : z_fl 11 50 = some (11, 7) := by decide +kernel
theorem ko11_49 : z_isO 11 49 = false := by decide +kernel
theorem kn11_54 : z_cln 11 54 = some "DustYards$Doors" := by decide +kernel
theorem kci4 : (List.range 13).find? (fun ci => z_ow ci == "DustYards$Doors") = some 4 := by decide +kernel
theorem kdf4 : z_df 4 = [some none, some none, some none, some none, some none, some none, some none, some none, none, none] := by decide +kernel
theorem kj11_56 : z_cal 11 56 = some (25, 4, 0) := by decide +kernel
theorem gk11_57 : z_fl 11 57 = some (11, 8) := by decide +kernel
theorem ko11_56 : z_isO 11 56 = false := by decide +kernel
theorem gk11_61 : z_fl 11 61 = some (11, 9) := by decide +kernel
theorem gk11_64 : z_fl 11 64 = some (11, 10) := by decide +kernel
theorem kn11_67 : z_cln 11 67 = some "DustYards$Hands" := by decide +kernel
theorem kci6 : (List.range 13).find? (fun ci => z_ow ci == "DustYards$Hands") = some 6 := by decide +kernel
theorem kdf6 : z_df 6 = [some none, some none, some none, some none, none, none] := by decide +kernel
theorem kj11_69 : z_cal 11 69 = some (35, 4, 0) := by decide +kernel
theorem gk11_70 : z_fl 11 70 = some (11, 11) := by decide +kernel
theorem ko11_69 : z_isO 11 69 = false := by decide +kernel
theorem kn11_74 : z_cln 11 74 = some "DustYards$Barges" := by decide +kernel
theorem kci0 : (List.range 13).find? (fun ci => z_ow ci == "DustYards$Barges") = some 0 := by decide +kernel
theorem kdf0 : z_df 0 = [some none, some none, none] := by decide +kernel
theorem kj11_76 : z_cal 11 76 = some (1, 4, 0) := by decide +kernel
theorem gk11_77 : z_fl 11 77 = some (11, 12) := by decide +kernel
theorem ko11_76 : z_isO 11 76 = false := by decide +kernel
theorem kn11_81 : z_cln 11 81 = some "DustYards$Buyers" := by decide +kernel
theorem kci1 : (List.range 13).find? (fun ci => z_ow ci == "DustYards$Buyers") = some 1 := by decide +kernel
theorem kdf1 : z_df 1 = [some none, some none, some none, some none, none] := by decide +kernel
theorem kj11_83 : z_cal 11 83 = some (5, 4, 0) := by decide +kernel
theorem gk11_84 : z_fl 11 84 = some (11, 13) := by decide +kernel
theorem ko11_83 : z_isO 11 83 = false := by decide +kernel
theorem kn11_88 : z_cln 11 88 = some "DustYards$Sheet" := by decide +kernel
theorem gk11_90 : z_fl 11 90 = some (11, 14) := by decide +kernel
theorem kci8 : (List.range 13).find? (fun ci => z_ow ci == "DustYards$Sheet") = some 8 := by decide +kernel
theorem kdf8 : z_df 8 = [some none, none, none] := by decide +kernel
theorem kj11_94 : z_cal 11 94 = some (42, 4, 0) := by decide +kernel
theorem ko11_94 : z_isO 11 94 = false := by decide +kernel
def zS1 : zS := z_S0.take 82
def zHs : Nat → zH
  | 0 => fun _ _ => 0
  | i + 1 => z_up (zHs i) (74 + 2 * i) 1 (-1)
theorem zHs_z : ∀ i c, 74 + 2 * i ≤ c → zHs i c = fun _ => 0
  | 0, _, _ => rfl
  | i + 1, c, h => by
    show z_up (zHs i) (74 + 2 * i) 1 (-1) c = _
    rw [z_upN _ (by omega)]
    exact zHs_z i c (by omega)
theorem zHz (i : Nat) (_ : i < 5) : ∀ c, 74 + 2 * i ≤ c → zHs i c = fun _ => 0 := fun c => zHs_z i c
set_option maxRecDepth 20000 in
set_option maxHeartbeats 4000000 in
theorem kc75a {X : Option (List Int32)} {d : Nat} {Q : Option Value → zS → zH → Prop} (K : zN X (d + 3) 75 176 [some (.ref 0), some (.int 4)] [] zS1 (zHs 4) Q) : zN X (d + 3) 75 0 (z_ent [.ref 0] 2) [] [.inr (.inr (11, [some none, some none, some none, some none, some none, some none, some none, some none, some none, some none, some none, some none, some none, some none, some none, none, none, none]))] (fun _ _ => 0) Q := by
  show zN X (d + 3) 75 0 [some (.ref 0), none] [] [.inr (.inr (11, [some none, some none, some none, some none, some none, some none, some none, some none, some none, some none, some none, some none, some none, some none, some none, none, none, none]))] (fun _ _ => 0) Q
  refine nl zM75 q75_0 rfl ?_
  refine nO zM75 q75_1 ko11_1 (Nat.le_of_ble_eq_true rfl) ?_
  show zN X (d + 3) 75 4 [some (.ref 0), none] [] (.inr (.inr (11, [some none, some none, some none, some none, some none, some none, some none, some none, some none, some none, some none, some none, some none, some none, some none, none, none, none])) :: (z_S0.drop 1).take 0) (fun _ _ => 0) Q
  refine nl zM75 q75_4 rfl ?_
  refine nNc zM75 q75_5 (a := 1) kn11_7 kci2 kdf2 rfl (by decide) rfl rfl ?_
  refine nl zM75 q75_8 rfl ?_
  refine ncI zM75 q75_9 ko11_9 kj11_9 (by decide) (Nat.le_of_ble_eq_true rfl) zM10 (Nat.le_of_ble_eq_true rfl) (kc10 (n := 1) rfl (by decide) (fun _ _ => rfl) ?_)
  show zN X (d + 3) 75 12 [some (.ref 0), none] [.ref 1, .ref 0] _ (fun _ _ => 0) Q
  refine nPr (S' := (.inr (.inr (11, [some (some 1), some none, some none, some none, some none, some none, some none, some none, some none, some none, some none, some none, some none, some none, some none, none, none, none])) :: (z_S0.drop 1).take 11)) zM75 q75_12 rfl (by decide) gk11_10 rfl (o := none) rfl rfl rfl rfl ?_
  refine nl zM75 q75_15 rfl ?_
  refine nkB zM75 q75_16 (v := 6) (by decide +kernel) ?_
  refine nNa zM75 q75_18 (ty := .int) (m := 6) (a := 12) rfl (by decide) (by decide) (by decide +kernel) (by decide) rfl (by decide) rfl rfl ?_
  refine nPr (S' := (.inr (.inr (11, [some (some 1), some (some 12), some none, some none, some none, some none, some none, some none, some none, some none, some none, some none, some none, some none, some none, none, none, none])) :: (z_S0.drop 1).take 12)) zM75 q75_20 rfl (by decide) gk11_16 rfl (o := none) rfl rfl rfl rfl ?_
  refine nl zM75 q75_23 rfl ?_
  refine nNc zM75 q75_24 (a := 13) kn11_20 kci7 kdf7 rfl (by decide) rfl rfl ?_
  refine nl zM75 q75_27 rfl ?_
  refine ncI zM75 q75_28 ko11_22 kj11_22 (by decide) (Nat.le_of_ble_eq_true rfl) zM39 (Nat.le_of_ble_eq_true rfl) (kc39 (n := 13) rfl (by decide) (fun _ _ => rfl) ?_)
  show zN X (d + 3) 75 31 [some (.ref 0), none] [.ref 13, .ref 0] _ (fun _ _ => 0) Q
  refine nPr (S' := (.inr (.inr (11, [some (some 1), some (some 12), some (some 13), some none, some none, some none, some none, some none, some none, some none, some none, some none, some none, some none, some none, none, none, none])) :: (z_S0.drop 1).take 17)) zM75 q75_31 rfl (by decide) gk11_23 rfl (o := none) rfl rfl rfl rfl ?_
  refine nl zM75 q75_34 rfl ?_
  refine nNc zM75 q75_35 (a := 18) kn11_27 kci9 kdf9 rfl (by decide) rfl rfl ?_
  refine nl zM75 q75_38 rfl ?_
  refine ncI zM75 q75_39 ko11_29 kj11_29 (by decide) (Nat.le_of_ble_eq_true rfl) zM47 (Nat.le_of_ble_eq_true rfl) (kc47 (n := 18) rfl (by decide) (fun _ _ => rfl) ?_)
  show zN X (d + 3) 75 42 [some (.ref 0), none] [.ref 18, .ref 0] _ (fun _ _ => 0) Q
  refine nPr (S' := (.inr (.inr (11, [some (some 1), some (some 12), some (some 13), some (some 18), some none, some none, some none, some none, some none, some none, some none, some none, some none, some none, some none, none, none, none])) :: (z_S0.drop 1).take 19)) zM75 q75_42 rfl (by decide) gk11_30 rfl (o := none) rfl rfl rfl rfl ?_
  refine nl zM75 q75_45 rfl ?_
  refine nNc zM75 q75_46 (a := 20) kn11_34 kci3 kdf3 rfl (by decide) rfl rfl ?_
  refine nl zM75 q75_49 rfl ?_
  refine ncI zM75 q75_50 ko11_36 kj11_36 (by decide) (Nat.le_of_ble_eq_true rfl) zM22 (Nat.le_of_ble_eq_true rfl) (kc22 (n := 20) rfl (by decide) (fun _ _ => rfl) ?_)
  show zN X (d + 3) 75 53 [some (.ref 0), none] [.ref 20, .ref 0] _ (fun _ _ => 0) Q
  refine nPr (S' := (.inr (.inr (11, [some (some 1), some (some 12), some (some 13), some (some 18), some (some 20), some none, some none, some none, some none, some none, some none, some none, some none, some none, some none, none, none, none])) :: (z_S0.drop 1).take 42)) zM75 q75_53 rfl (by decide) gk11_37 rfl (o := none) rfl rfl rfl rfl ?_
  refine nl zM75 q75_56 rfl ?_
  refine nkB zM75 q75_57 (v := 6) (by decide +kernel) ?_
  refine nNa zM75 q75_59 (ty := .int) (m := 6) (a := 43) rfl (by decide) (by decide) (by decide +kernel) (by decide) rfl (by decide) rfl rfl ?_
  refine nPr (S' := (.inr (.inr (11, [some (some 1), some (some 12), some (some 13), some (some 18), some (some 20), some (some 43), some none, some none, some none, some none, some none, some none, some none, some none, some none, none, none, none])) :: (z_S0.drop 1).take 43)) zM75 q75_61 rfl (by decide) gk11_41 rfl (o := none) rfl rfl rfl rfl ?_
  refine nl zM75 q75_64 rfl ?_
  refine nkS zM75 q75_65 (v := 160) (by decide +kernel) ?_
  refine nNa zM75 q75_68 (ty := .int) (m := 160) (a := 44) rfl (by decide) (by decide) (by decide +kernel) (by decide) rfl (by decide) rfl rfl ?_
  refine nPr (S' := (.inr (.inr (11, [some (some 1), some (some 12), some (some 13), some (some 18), some (some 20), some (some 43), some (some 44), some none, some none, some none, some none, some none, some none, some none, some none, none, none, none])) :: (z_S0.drop 1).take 44)) zM75 q75_70 rfl (by decide) gk11_44 rfl (o := none) rfl rfl rfl rfl ?_
  refine nl zM75 q75_73 rfl ?_
  refine nNc zM75 q75_74 (a := 45) kn11_47 kci5 kdf5 rfl (by decide) rfl rfl ?_
  refine nl zM75 q75_77 rfl ?_
  refine ncI zM75 q75_78 ko11_49 kj11_49 (by decide) (Nat.le_of_ble_eq_true rfl) zM33 (Nat.le_of_ble_eq_true rfl) (kc33 (n := 45) rfl (by decide) (fun _ _ => rfl) ?_)
  show zN X (d + 3) 75 81 [some (.ref 0), none] [.ref 45, .ref 0] _ (fun _ _ => 0) Q
  refine nPr (S' := (.inr (.inr (11, [some (some 1), some (some 12), some (some 13), some (some 18), some (some 20), some (some 43), some (some 44), some (some 45), some none, some none, some none, some none, some none, some none, some none, none, none, none])) :: (z_S0.drop 1).take 48)) zM75 q75_81 rfl (by decide) gk11_50 rfl (o := none) rfl rfl rfl rfl ?_
  refine nl zM75 q75_84 rfl ?_
  refine nNc zM75 q75_85 (a := 49) kn11_54 kci4 kdf4 rfl (by decide) rfl rfl ?_
  refine nl zM75 q75_88 rfl ?_
  refine ncI zM75 q75_89 ko11_56 kj11_56 (by decide) (Nat.le_of_ble_eq_true rfl) zM25 (Nat.le_of_ble_eq_true rfl) (kc25 (n := 49) rfl (by decide) (fun _ _ => rfl) ?_)
  show zN X (d + 3) 75 92 [some (.ref 0), none] [.ref 49, .ref 0] _ (fun _ _ => 0) Q
  refine nPr (S' := (.inr (.inr (11, [some (some 1), some (some 12), some (some 13), some (some 18), some (some 20), some (some 43), some (some 44), some (some 45), some (some 49), some none, some none, some none, some none, some none, some none, none, none, none])) :: (z_S0.drop 1).take 57)) zM75 q75_92 rfl (by decide) gk11_57 rfl (o := none) rfl rfl rfl rfl ?_
  refine nl zM75 q75_95 rfl ?_
  refine nkI zM75 q75_96 (v := 5) (by decide +kernel) ?_
  refine nNa zM75 q75_97 (ty := .int) (m := 5) (a := 58) rfl (by decide) (by decide) (by decide +kernel) (by decide) rfl (by decide) rfl rfl ?_
  refine nPr (S' := (.inr (.inr (11, [some (some 1), some (some 12), some (some 13), some (some 18), some (some 20), some (some 43), some (some 44), some (some 45), some (some 49), some (some 58), some none, some none, some none, some none, some none, none, none, none])) :: (z_S0.drop 1).take 58)) zM75 q75_99 rfl (by decide) gk11_61 rfl (o := none) rfl rfl rfl rfl ?_
  refine nl zM75 q75_102 rfl ?_
  refine nkI zM75 q75_103 (v := 5) (by decide +kernel) ?_
  refine nNa zM75 q75_104 (ty := .int) (m := 5) (a := 59) rfl (by decide) (by decide) (by decide +kernel) (by decide) rfl (by decide) rfl rfl ?_
  refine nPr (S' := (.inr (.inr (11, [some (some 1), some (some 12), some (some 13), some (some 18), some (some 20), some (some 43), some (some 44), some (some 45), some (some 49), some (some 58), some (some 59), some none, some none, some none, some none, none, none, none])) :: (z_S0.drop 1).take 59)) zM75 q75_106 rfl (by decide) gk11_64 rfl (o := none) rfl rfl rfl rfl ?_
  refine nl zM75 q75_109 rfl ?_
  refine nNc zM75 q75_110 (a := 60) kn11_67 kci6 kdf6 rfl (by decide) rfl rfl ?_
  refine nl zM75 q75_113 rfl ?_
  refine ncI zM75 q75_114 ko11_69 kj11_69 (by decide) (Nat.le_of_ble_eq_true rfl) zM35 (Nat.le_of_ble_eq_true rfl) (kc35 (n := 60) rfl (by decide) (fun _ _ => rfl) ?_)
  show zN X (d + 3) 75 117 [some (.ref 0), none] [.ref 60, .ref 0] _ (fun _ _ => 0) Q
  refine nPr (S' := (.inr (.inr (11, [some (some 1), some (some 12), some (some 13), some (some 18), some (some 20), some (some 43), some (some 44), some (some 45), some (some 49), some (some 58), some (some 59), some (some 60), some none, some none, some none, none, none, none])) :: (z_S0.drop 1).take 64)) zM75 q75_117 rfl (by decide) gk11_70 rfl (o := none) rfl rfl rfl rfl ?_
  refine nl zM75 q75_120 rfl ?_
  refine nNc zM75 q75_121 (a := 65) kn11_74 kci0 kdf0 rfl (by decide) rfl rfl ?_
  refine nl zM75 q75_124 rfl ?_
  refine ncI zM75 q75_125 ko11_76 kj11_76 (by decide) (Nat.le_of_ble_eq_true rfl) zM1 (Nat.le_of_ble_eq_true rfl) (kc1 (n := 65) rfl (by decide) (fun _ _ => rfl) ?_)
  show zN X (d + 3) 75 128 [some (.ref 0), none] [.ref 65, .ref 0] _ (fun _ _ => 0) Q
  refine nPr (S' := (.inr (.inr (11, [some (some 1), some (some 12), some (some 13), some (some 18), some (some 20), some (some 43), some (some 44), some (some 45), some (some 49), some (some 58), some (some 59), some (some 60), some (some 65), some none, some none, none, none, none])) :: (z_S0.drop 1).take 67)) zM75 q75_128 rfl (by decide) gk11_77 rfl (o := none) rfl rfl rfl rfl ?_
  refine nl zM75 q75_131 rfl ?_
  refine nNc zM75 q75_132 (a := 68) kn11_81 kci1 kdf1 rfl (by decide) rfl rfl ?_
  refine nl zM75 q75_135 rfl ?_
  refine ncI zM75 q75_136 ko11_83 kj11_83 (by decide) (Nat.le_of_ble_eq_true rfl) zM5 (Nat.le_of_ble_eq_true rfl) (kc5 (n := 68) rfl (by decide) (fun _ _ => rfl) ?_)
  show zN X (d + 3) 75 139 [some (.ref 0), none] [.ref 68, .ref 0] _ (fun _ _ => 0) Q
  refine nPr (S' := (.inr (.inr (11, [some (some 1), some (some 12), some (some 13), some (some 18), some (some 20), some (some 43), some (some 44), some (some 45), some (some 49), some (some 58), some (some 59), some (some 60), some (some 65), some (some 68), some none, none, none, none])) :: (z_S0.drop 1).take 72)) zM75 q75_139 rfl (by decide) gk11_84 rfl (o := none) rfl rfl rfl rfl ?_
  refine nl zM75 q75_142 rfl ?_
  refine nkI zM75 q75_143 (v := 4) (by decide +kernel) ?_
  refine nNq zM75 q75_144 (m := 4) (a := 73) kn11_88 (by decide) (by decide) (by decide +kernel) (by decide) rfl (by decide) rfl ?_
  refine nPr (S' := (.inr (.inr (11, [some (some 1), some (some 12), some (some 13), some (some 18), some (some 20), some (some 43), some (some 44), some (some 45), some (some 49), some (some 58), some (some 59), some (some 60), some (some 65), some (some 68), some (some 73), none, none, none])) :: ((z_S0.drop 1).take 72 ++ (.inr (.inl (.object "DustYards$Sheet", [none, none, none, none])) :: (z_S0.drop 74).take 0)))) zM75 q75_147 rfl (by decide) gk11_90 rfl (o := none) rfl rfl rfl rfl ?_
  refine nkI zM75 q75_150 (v := 0) (by decide +kernel) ?_
  refine nl zM75 q75_151 (ls' := [some (.ref 0), some (.int 0)]) rfl ?_
  refine nl zM75 q75_152 rfl ?_
  refine nkI zM75 q75_153 (v := 4) (by decide +kernel) ?_
  refine nl zM75 q75_154 (pc' := 157) rfl ?_
  refine nl zM75 q75_157 rfl ?_
  refine nGr zM75 q75_158 (by decide) gk11_90 rfl rfl ?_
  refine nl zM75 q75_161 rfl ?_
  refine nNc zM75 q75_162 (a := 74) kn11_88 kci8 kdf8 rfl (by decide) rfl rfl ?_
  refine nl zM75 q75_165 rfl ?_
  refine ncI zM75 q75_166 ko11_94 kj11_94 (by decide) (Nat.le_of_ble_eq_true rfl) zM42 (Nat.le_of_ble_eq_true rfl) (kc42 (n := 74) rfl (by decide) (zHz 0 (by decide)) ?_)
  show zN X (d + 3) 75 169 [some (.ref 0), some (.int 0)] [.ref 74, .int 0, .ref 73] _ (z_up (fun _ _ => 0) 74 1 (-1)) Q
  refine nAs (S' := (.inr (.inr (11, [some (some 1), some (some 12), some (some 13), some (some 18), some (some 20), some (some 43), some (some 44), some (some 45), some (some 49), some (some 58), some (some 59), some (some 60), some (some 65), some (some 68), some (some 73), none, none, none])) :: ((z_S0.drop 1).take 72 ++ (.inr (.inl (.object "DustYards$Sheet", [some 74, none, none, none])) :: (z_S0.drop 74).take 2)))) (j := 0) (rs := [none, none, none, none]) zM75 q75_169 (by decide) (by decide) rfl rfl rfl (by decide) (show z_ib 0 4 from by decide) (by decide +kernel) rfl ?_
  refine nl zM75 q75_170 (ls' := [some (.ref 0), some (.int 1)]) rfl ?_
  refine nl zM75 q75_173 (pc' := 152) rfl ?_
  refine nl zM75 q75_152 rfl ?_
  refine nkI zM75 q75_153 (v := 4) (by decide +kernel) ?_
  refine nl zM75 q75_154 (pc' := 157) rfl ?_
  refine nl zM75 q75_157 rfl ?_
  refine nGr zM75 q75_158 (by decide) gk11_90 rfl rfl ?_
  refine nl zM75 q75_161 rfl ?_
  refine nNc zM75 q75_162 (a := 76) kn11_88 kci8 kdf8 rfl (by decide) rfl rfl ?_
  refine nl zM75 q75_165 rfl ?_
  refine ncI zM75 q75_166 ko11_94 kj11_94 (by decide) (Nat.le_of_ble_eq_true rfl) zM42 (Nat.le_of_ble_eq_true rfl) (kc42 (n := 76) rfl (by decide) (zHz 1 (by decide)) ?_)
  show zN X (d + 3) 75 169 [some (.ref 0), some (.int 1)] [.ref 76, .int 1, .ref 73] _ (z_up (z_up (fun _ _ => 0) 74 1 (-1)) 76 1 (-1)) Q
  refine nAs (S' := (.inr (.inr (11, [some (some 1), some (some 12), some (some 13), some (some 18), some (some 20), some (some 43), some (some 44), some (some 45), some (some 49), some (some 58), some (some 59), some (some 60), some (some 65), some (some 68), some (some 73), none, none, none])) :: ((z_S0.drop 1).take 72 ++ (.inr (.inl (.object "DustYards$Sheet", [some 74, some 76, none, none])) :: (z_S0.drop 74).take 4)))) (j := 1) (rs := [some 74, none, none, none]) zM75 q75_169 (by decide) (by decide) rfl rfl rfl (by decide) (show z_ib 1 4 from by decide) (by decide +kernel) rfl ?_
  refine nl zM75 q75_170 (ls' := [some (.ref 0), some (.int 2)]) rfl ?_
  refine nl zM75 q75_173 (pc' := 152) rfl ?_
  refine nl zM75 q75_152 rfl ?_
  refine nkI zM75 q75_153 (v := 4) (by decide +kernel) ?_
  refine nl zM75 q75_154 (pc' := 157) rfl ?_
  refine nl zM75 q75_157 rfl ?_
  refine nGr zM75 q75_158 (by decide) gk11_90 rfl rfl ?_
  refine nl zM75 q75_161 rfl ?_
  refine nNc zM75 q75_162 (a := 78) kn11_88 kci8 kdf8 rfl (by decide) rfl rfl ?_
  refine nl zM75 q75_165 rfl ?_
  refine ncI zM75 q75_166 ko11_94 kj11_94 (by decide) (Nat.le_of_ble_eq_true rfl) zM42 (Nat.le_of_ble_eq_true rfl) (kc42 (n := 78) rfl (by decide) (zHz 2 (by decide)) ?_)
  show zN X (d + 3) 75 169 [some (.ref 0), some (.int 2)] [.ref 78, .int 2, .ref 73] _ (z_up (z_up (z_up (fun _ _ => 0) 74 1 (-1)) 76 1 (-1)) 78 1 (-1)) Q
  refine nAs (S' := (.inr (.inr (11, [some (some 1), some (some 12), some (some 13), some (some 18), some (some 20), some (some 43), some (some 44), some (some 45), some (some 49), some (some 58), some (some 59), some (some 60), some (some 65), some (some 68), some (some 73), none, none, none])) :: ((z_S0.drop 1).take 72 ++ (.inr (.inl (.object "DustYards$Sheet", [some 74, some 76, some 78, none])) :: (z_S0.drop 74).take 6)))) (j := 2) (rs := [some 74, some 76, none, none]) zM75 q75_169 (by decide) (by decide) rfl rfl rfl (by decide) (show z_ib 2 4 from by decide) (by decide +kernel) rfl ?_
  refine nl zM75 q75_170 (ls' := [some (.ref 0), some (.int 3)]) rfl ?_
  refine nl zM75 q75_173 (pc' := 152) rfl ?_
  refine nl zM75 q75_152 rfl ?_
  refine nkI zM75 q75_153 (v := 4) (by decide +kernel) ?_
  refine nl zM75 q75_154 (pc' := 157) rfl ?_
  refine nl zM75 q75_157 rfl ?_
  refine nGr zM75 q75_158 (by decide) gk11_90 rfl rfl ?_
  refine nl zM75 q75_161 rfl ?_
  refine nNc zM75 q75_162 (a := 80) kn11_88 kci8 kdf8 rfl (by decide) rfl rfl ?_
  refine nl zM75 q75_165 rfl ?_
  refine ncI zM75 q75_166 ko11_94 kj11_94 (by decide) (Nat.le_of_ble_eq_true rfl) zM42 (Nat.le_of_ble_eq_true rfl) (kc42 (n := 80) rfl (by decide) (zHz 3 (by decide)) ?_)
  show zN X (d + 3) 75 169 [some (.ref 0), some (.int 3)] [.ref 80, .int 3, .ref 73] _ (z_up (z_up (z_up (z_up (fun _ _ => 0) 74 1 (-1)) 76 1 (-1)) 78 1 (-1)) 80 1 (-1)) Q
  refine nAs (S' := (.inr (.inr (11, [some (some 1), some (some 12), some (some 13), some (some 18), some (some 20), some (some 43), some (some 44), some (some 45), some (some 49), some (some 58), some (some 59), some (some 60), some (some 65), some (some 68), some (some 73), none, none, none])) :: ((z_S0.drop 1).take 72 ++ (.inr (.inl (.object "DustYards$Sheet", [some 74, some 76, some 78, some 80])) :: (z_S0.drop 74).take 8)))) (j := 3) (rs := [some 74, some 76, some 78, none]) zM75 q75_169 (by decide) (by decide) rfl rfl rfl (by decide) (show z_ib 3 4 from by decide) (by decide +kernel) rfl ?_
  refine nl zM75 q75_170 (ls' := [some (.ref 0), some (.int 4)]) rfl ?_
  refine nl zM75 q75_173 (pc' := 152) rfl ?_
  refine nl zM75 q75_152 rfl ?_
  refine nkI zM75 q75_153 (v := 4) (by decide +kernel) ?_
  refine nl zM75 q75_154 (pc' := 176) rfl ?_
  exact K

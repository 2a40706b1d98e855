-- X11_stop
theorem b110 {X : Option (List Int32)} {d : Nat} {h : zH} {A : Int32 → zH → Prop} {a1 : Int32} {a2 : Int32} (hw : zP X d 119 0 (z_ent [.int a1, .int 0, .int ((h 68 4) - 1)] 3) [] z_S0 h (zI fun v1 h2 => ((v1 = 0 → A (-2) h2) ∧ (¬ v1 = 0 → zP X d 119 0 (z_ent [.int a2, .int 0, .int 1] 3) [] z_S0 h2 (zI fun v3 h4 => ((v3 = 0 → A (-2) h4) ∧ (¬ v3 = 0 → (z_ib a1 6 ∧ (((h4 71 (Int32.toNatClampNeg a1)) = 0 → zP X (d + 1) 110 46 [some (.ref 0), some (.int a1), some (.int a2), none] [.int 0] z_S0 h4 (zI A)) ∧ (¬ (h4 71 (Int32.toNatClampNeg a1)) = 0 → zP X (d + 1) 110 46 [some (.ref 0), some (.int a1), some (.int a2), none] [.int 1] z_S0 h4 (zI A))))))))))) : zP X (d + 1) 110 0 (z_ent [.ref 0, .int a1, .int a2] 4) [] z_S0 h (zI A) := by
  show zP X (d + 1) 110 0 [some (.ref 0), some (.int a1), some (.int a2), none] [] z_S0 h (zI A)
  refine zl zM110 q110_0 rfl ?_
  refine zkI zM110 q110_1 kI0 ?_
  refine zl zM110 q110_2 rfl ?_
  refine zgR (a := 68) zM110 q110_3 (by decide) g11_84 s0 rfl ?_
  refine zgI zM110 q110_6 (by decide) g11_346 s68 rfl (v := (h 68 4)) rfl ?_
  refine zkI zM110 q110_9 kI1 ?_
  refine zl zM110 q110_10 (pc' := 11) (st' := .int ((h 68 4) - 1) :: _) rfl ?_
  refine zcS zM110 q110_11 ky11_128 kl11_128 (by decide) rfl (Nat.le_of_ble_eq_true rfl) zM119 (Nat.le_of_ble_eq_true rfl) (hw.mono (fun r0 h2 hr6 => ?_))
  obtain ⟨v1, rfl, hw⟩ := hr6
  show zP X (d + 1) 110 14 [some (.ref 0), some (.int a1), some (.int a2), none] [.int v1] z_S0 h2 (zI A)
  refine zb1_eq zM110 q110_14 (tgt := 26) rfl (fun hc => ?_) (fun hc => ?_)
  · have hw := hw.1 hc
    refine zkB zM110 q110_26 kBm2 ?_
    exact zri zM110 q110_28 rfl rfl hw
  · have hw := hw.2 hc
    refine zl zM110 q110_17 rfl ?_
    refine zkI zM110 q110_18 kI0 ?_
    refine zkI zM110 q110_19 kI1 ?_
    refine zcS zM110 q110_20 ky11_128 kl11_128 (by decide) rfl (Nat.le_of_ble_eq_true rfl) zM119 (Nat.le_of_ble_eq_true rfl) (hw.mono (fun r0 h4 hr5 => ?_))
    obtain ⟨v3, rfl, hw⟩ := hr5
    show zP X (d + 1) 110 23 [some (.ref 0), some (.int a1), some (.int a2), none] [.int v3] z_S0 h4 (zI A)
    refine zb1_ne zM110 q110_23 (tgt := 29) rfl (fun hc => ?_) (fun hc => ?_)
    · have hw := hw.2 hc
      refine zl zM110 q110_29 rfl ?_
      refine zgR (a := 68) zM110 q110_30 (by decide) g11_84 s0 rfl ?_
      refine zgR (a := 71) zM110 q110_33 (by decide) g11_348 s68 rfl ?_
      refine zl zM110 q110_36 rfl ?_
      obtain ⟨hb, hw⟩ := hw
      refine zbA zM110 q110_37 (by decide) s71 (by decide) hb (v := (h4 71 (Int32.toNatClampNeg a1))) rfl ?_
      refine zb1_eq zM110 q110_38 (tgt := 45) rfl (fun hc => ?_) (fun hc => ?_)
      · have hw := hw.1 hc
        refine zkI zM110 q110_45 kI0 ?_
        exact hw
      · have hw := hw.2 hc
        refine zkI zM110 q110_41 kI1 ?_
        refine zl zM110 q110_42 (pc' := 46) (ls' := _) (st' := _) rfl ?_
        exact hw
    · have hw := hw.1 hc
      refine zkB zM110 q110_26 kBm2 ?_
      exact zri zM110 q110_28 rfl rfl hw
theorem b110_46 {X : Option (List Int32)} {d : Nat} {h : zH} {A : Int32 → zH → Prop} {l1 : Int32} {l2 : Int32} {w0 : Int32} (hw : ((l2 = 1 → (z_ib l1 6 ∧ A w0 (z_up h 71 (Int32.toNatClampNeg l1) 1))) ∧ (¬ l2 = 1 → (z_ib l1 6 ∧ A w0 (z_up h 71 (Int32.toNatClampNeg l1) 0))))) : zP X (d + 1) 110 46 [some (.ref 0), some (.int l1), some (.int l2), none] [.int w0] z_S0 h (zI A) := by
  refine zl zM110 q110_46 (ls' := [some (.ref 0), some (.int l1), some (.int l2), some (.int w0)]) rfl ?_
  refine zl zM110 q110_47 rfl ?_
  refine zgR (a := 68) zM110 q110_48 (by decide) g11_84 s0 rfl ?_
  refine zgR (a := 71) zM110 q110_51 (by decide) g11_348 s68 rfl ?_
  refine zl zM110 q110_54 rfl ?_
  refine zl zM110 q110_55 rfl ?_
  refine zkI zM110 q110_56 kI1 ?_
  refine zb2_ne zM110 q110_57 (tgt := 64) rfl (fun hc => ?_) (fun hc => ?_)
  · have hw := hw.2 hc
    refine zkI zM110 q110_64 kI0 ?_
    obtain ⟨hb, hw⟩ := hw
    refine zbS zM110 q110_65 (by decide) s71 (by decide) hb rfl (w := 0) rfl ?_
    refine zl zM110 q110_66 rfl ?_
    exact zri zM110 q110_67 rfl rfl hw
  · have hw := hw.1 hc
    refine zkI zM110 q110_60 kI1 ?_
    refine zl zM110 q110_61 (pc' := 65) (ls' := _) (st' := _) rfl ?_
    obtain ⟨hb, hw⟩ := hw
    refine zbS zM110 q110_65 (by decide) s71 (by decide) hb rfl (w := 1) rfl ?_
    refine zl zM110 q110_66 rfl ?_
    exact zri zM110 q110_67 rfl rfl hw
-- X11_parted
theorem b111 {X : Option (List Int32)} {d : Nat} {h : zH} {A : Int64 → zH → Prop} {a1 : Int32} (hw : zP X d 119 0 (z_ent [.int a1, .int (-1), .int ((h 68 4) - 1)] 3) [] z_S0 h (zI fun v1 h2 => ((v1 = 0 → A (-4611686018427387904) h2) ∧ (¬ v1 = 0 → zP X d 7 0 (z_ent [.ref 68, .int (h2 12 0)] 6) [] z_S0 h2 (zV fun h5 => ((a1 = (-1) → zP X d 9 0 (z_ent [.ref 68] 4) [] z_S0 h5 (zJ fun v6 h7 => A v6 h7)) ∧ (¬ a1 = (-1) → (z_ib a1 6 ∧ A (Int32.toInt64 (h5 72 (Int32.toNatClampNeg a1))) h5)))))))) : zP X (d + 1) 111 0 (z_ent [.ref 0, .int a1] 2) [] z_S0 h (zJ A) := by
  show zP X (d + 1) 111 0 [some (.ref 0), some (.int a1)] [] z_S0 h (zJ A)
  refine zl zM111 q111_0 rfl ?_
  refine zkI zM111 q111_1 kIm1 ?_
  refine zl zM111 q111_2 rfl ?_
  refine zgR (a := 68) zM111 q111_3 (by decide) g11_84 s0 rfl ?_
  refine zgI zM111 q111_6 (by decide) g11_346 s68 rfl (v := (h 68 4)) rfl ?_
  refine zkI zM111 q111_9 kI1 ?_
  refine zl zM111 q111_10 (pc' := 11) (st' := .int ((h 68 4) - 1) :: _) rfl ?_
  refine zcS zM111 q111_11 ky11_128 kl11_128 (by decide) rfl (Nat.le_of_ble_eq_true rfl) zM119 (Nat.le_of_ble_eq_true rfl) (hw.mono (fun r0 h2 hr10 => ?_))
  obtain ⟨v1, rfl, hw⟩ := hr10
  show zP X (d + 1) 111 14 [some (.ref 0), some (.int a1)] [.int v1] z_S0 h2 (zJ A)
  refine zb1_ne zM111 q111_14 (tgt := 21) rfl (fun hc => ?_) (fun hc => ?_)
  · have hw := hw.2 hc
    refine zl zM111 q111_21 rfl ?_
    refine zgR (a := 68) zM111 q111_22 (by decide) g11_84 s0 rfl ?_
    refine zl zM111 q111_25 rfl ?_
    refine zgR (a := 12) zM111 q111_26 (by decide) g11_16 s0 rfl ?_
    refine zkI zM111 q111_29 kI0 ?_
    refine ziA zM111 q111_30 (by decide) s12 (by decide) (v := (h2 12 0)) rfl ?_
    refine zcV zM111 q111_31 kl11_351 rfl rfl (Nat.le_of_ble_eq_true rfl) rfl zM7 (Nat.le_of_ble_eq_true rfl) (hw.mono (fun r0 h5 hr9 => ?_))
    obtain ⟨rfl, hw⟩ := hr9
    show zP X (d + 1) 111 34 [some (.ref 0), some (.int a1)] [] z_S0 h5 (zJ A)
    refine zl zM111 q111_34 rfl ?_
    refine zkI zM111 q111_35 kIm1 ?_
    refine zb2_ne zM111 q111_36 (tgt := 49) rfl (fun hc => ?_) (fun hc => ?_)
    · have hw := hw.2 hc
      refine zl zM111 q111_49 rfl ?_
      refine zgR (a := 68) zM111 q111_50 (by decide) g11_84 s0 rfl ?_
      refine zgR (a := 72) zM111 q111_53 (by decide) g11_358 s68 rfl ?_
      refine zl zM111 q111_56 rfl ?_
      obtain ⟨hb, hw⟩ := hw
      refine ziA zM111 q111_57 (by decide) s72 hb (v := (h5 72 (Int32.toNatClampNeg a1))) rfl ?_
      refine zl zM111 q111_58 (pc' := 59) (st' := .long (Int32.toInt64 (h5 72 (Int32.toNatClampNeg a1))) :: _) rfl ?_
      exact zrj zM111 q111_59 rfl hw
    · have hw := hw.1 hc
      refine zl zM111 q111_39 rfl ?_
      refine zgR (a := 68) zM111 q111_40 (by decide) g11_84 s0 rfl ?_
      refine zcV zM111 q111_43 kl11_354 rfl rfl (Nat.le_of_ble_eq_true rfl) rfl zM9 (Nat.le_of_ble_eq_true rfl) (hw.mono (fun r0 h7 hr8 => ?_))
      obtain ⟨v6, rfl, hw⟩ := hr8
      show zP X (d + 1) 111 46 [some (.ref 0), some (.int a1)] [.long v6] z_S0 h7 (zJ A)
      refine zl zM111 q111_46 (pc' := 59) (ls' := _) (st' := _) rfl ?_
      exact zrj zM111 q111_59 rfl hw
  · have hw := hw.1 hc
    refine zkJ zM111 q111_17 kc11_235 ?_
    exact zrj zM111 q111_20 rfl hw
-- X11_count
theorem b112 {X : Option (List Int32)} {d : Nat} {h : zH} {A : Int32 → zH → Prop} {a1 : Int32} (hw : ((a1 = 0 → A (h 0 16) h) ∧ (a1 = 1 → A (h 1 10) h) ∧ (a1 = 2 → A (h 13 4) h) ∧ (a1 = 3 → A (h 20 4) h) ∧ (a1 = 4 → A (h 18 1) h) ∧ (a1 = 5 → A (h 20 5) h) ∧ (a1 = 6 → A (h 45 3) h) ∧ (a1 = 7 → A (h 49 8) h) ∧ (a1 = 8 → A (h 49 9) h) ∧ (a1 = 9 → A (h 0 15) h) ∧ (a1 = 10 → A (h 65 2) h) ∧ (a1 = 11 → A (h 68 4) h) ∧ (a1 = 12 → A (h 0 17) h) ∧ ((¬ a1 = 0 ∧ ¬ a1 = 1 ∧ ¬ a1 = 2 ∧ ¬ a1 = 3 ∧ ¬ a1 = 4 ∧ ¬ a1 = 5 ∧ ¬ a1 = 6 ∧ ¬ a1 = 7 ∧ ¬ a1 = 8 ∧ ¬ a1 = 9 ∧ ¬ a1 = 10 ∧ ¬ a1 = 11 ∧ ¬ a1 = 12) → A (-2) h))) : zP X d 112 0 (z_ent [.ref 0, .int a1] 2) [] z_S0 h (zI A) := by
  show zP X d 112 0 [some (.ref 0), some (.int a1)] [] z_S0 h (zI A)
  refine zl zM112 q112_0 rfl ?_
  by_cases hs1 : a1 = 0
  · have hw := hw.1 hs1
    refine zts 0 hs1 zM112 q112_1 (tgt := 68) (by decide) rfl rfl ?_
    refine zl zM112 q112_68 rfl ?_
    refine zgI zM112 q112_69 (by decide) g11_132 s0 rfl (v := (h 0 16)) rfl ?_
    exact zri zM112 q112_72 rfl rfl hw
  by_cases hs2 : a1 = 1
  · have hw := hw.2.1 hs2
    refine zts 1 hs2 zM112 q112_1 (tgt := 73) (by decide) rfl rfl ?_
    refine zl zM112 q112_73 rfl ?_
    refine zgR (a := 1) zM112 q112_74 (by decide) g11_10 s0 rfl ?_
    refine zgI zM112 q112_77 (by decide) g11_142 s1 rfl (v := (h 1 10)) rfl ?_
    exact zri zM112 q112_80 rfl rfl hw
  by_cases hs3 : a1 = 2
  · have hw := hw.2.2.1 hs3
    refine zts 2 hs3 zM112 q112_1 (tgt := 81) (by decide) rfl rfl ?_
    refine zl zM112 q112_81 rfl ?_
    refine zgR (a := 13) zM112 q112_82 (by decide) g11_23 s0 rfl ?_
    refine zgI zM112 q112_85 (by decide) g11_218 s13 rfl (v := (h 13 4)) rfl ?_
    exact zri zM112 q112_88 rfl rfl hw
  by_cases hs4 : a1 = 3
  · have hw := hw.2.2.2.1 hs4
    refine zts 3 hs4 zM112 q112_1 (tgt := 89) (by decide) rfl rfl ?_
    refine zl zM112 q112_89 rfl ?_
    refine zgR (a := 20) zM112 q112_90 (by decide) g11_37 s0 rfl ?_
    refine zgI zM112 q112_93 (by decide) g11_121 s20 rfl (v := (h 20 4)) rfl ?_
    exact zri zM112 q112_96 rfl rfl hw
  by_cases hs5 : a1 = 4
  · have hw := hw.2.2.2.2.1 hs5
    refine zts 4 hs5 zM112 q112_1 (tgt := 97) (by decide) rfl rfl ?_
    refine zl zM112 q112_97 rfl ?_
    refine zgR (a := 18) zM112 q112_98 (by decide) g11_30 s0 rfl ?_
    refine zgI zM112 q112_101 (by decide) g11_222 s18 rfl (v := (h 18 1)) rfl ?_
    exact zri zM112 q112_104 rfl rfl hw
  by_cases hs6 : a1 = 5
  · have hw := hw.2.2.2.2.2.1 hs6
    refine zts 5 hs6 zM112 q112_1 (tgt := 105) (by decide) rfl rfl ?_
    refine zl zM112 q112_105 rfl ?_
    refine zgR (a := 20) zM112 q112_106 (by decide) g11_37 s0 rfl ?_
    refine zgI zM112 q112_109 (by decide) g11_228 s20 rfl (v := (h 20 5)) rfl ?_
    exact zri zM112 q112_112 rfl rfl hw
  by_cases hs7 : a1 = 6
  · have hw := hw.2.2.2.2.2.2.1 hs7
    refine zts 6 hs7 zM112 q112_1 (tgt := 113) (by decide) rfl rfl ?_
    refine zl zM112 q112_113 rfl ?_
    refine zgR (a := 45) zM112 q112_114 (by decide) g11_50 s0 rfl ?_
    refine zgI zM112 q112_117 (by decide) g11_265 s45 rfl (v := (h 45 3)) rfl ?_
    exact zri zM112 q112_120 rfl rfl hw
  by_cases hs8 : a1 = 7
  · have hw := hw.2.2.2.2.2.2.2.1 hs8
    refine zts 7 hs8 zM112 q112_1 (tgt := 121) (by decide) rfl rfl ?_
    refine zl zM112 q112_121 rfl ?_
    refine zgR (a := 49) zM112 q112_122 (by decide) g11_57 s0 rfl ?_
    refine zgI zM112 q112_125 (by decide) g11_286 s49 rfl (v := (h 49 8)) rfl ?_
    exact zri zM112 q112_128 rfl rfl hw
  by_cases hs9 : a1 = 8
  · have hw := hw.2.2.2.2.2.2.2.2.1 hs9
    refine zts 8 hs9 zM112 q112_1 (tgt := 129) (by decide) rfl rfl ?_
    refine zl zM112 q112_129 rfl ?_
    refine zgR (a := 49) zM112 q112_130 (by decide) g11_57 s0 rfl ?_
    refine zgI zM112 q112_133 (by decide) g11_295 s49 rfl (v := (h 49 9)) rfl ?_
    exact zri zM112 q112_136 rfl rfl hw
  by_cases hs10 : a1 = 9
  · have hw := hw.2.2.2.2.2.2.2.2.2.1 hs10
    refine zts 9 hs10 zM112 q112_1 (tgt := 137) (by decide) rfl rfl ?_
    refine zl zM112 q112_137 rfl ?_
    refine zgI zM112 q112_138 (by decide) g11_306 s0 rfl (v := (h 0 15)) rfl ?_
    exact zri zM112 q112_141 rfl rfl hw
  by_cases hs11 : a1 = 10
  · have hw := hw.2.2.2.2.2.2.2.2.2.2.1 hs11
    refine zts 10 hs11 zM112 q112_1 (tgt := 142) (by decide) rfl rfl ?_
    refine zl zM112 q112_142 rfl ?_
    refine zgR (a := 65) zM112 q112_143 (by decide) g11_77 s0 rfl ?_
    refine zgI zM112 q112_146 (by decide) g11_333 s65 rfl (v := (h 65 2)) rfl ?_
    exact zri zM112 q112_149 rfl rfl hw
  by_cases hs12 : a1 = 11
  · have hw := hw.2.2.2.2.2.2.2.2.2.2.2.1 hs12
    refine zts 11 hs12 zM112 q112_1 (tgt := 150) (by decide) rfl rfl ?_
    refine zl zM112 q112_150 rfl ?_
    refine zgR (a := 68) zM112 q112_151 (by decide) g11_84 s0 rfl ?_
    refine zgI zM112 q112_154 (by decide) g11_346 s68 rfl (v := (h 68 4)) rfl ?_
    exact zri zM112 q112_157 rfl rfl hw
  by_cases hs13 : a1 = 12
  · have hw := hw.2.2.2.2.2.2.2.2.2.2.2.2.1 hs13
    refine zts 12 hs13 zM112 q112_1 (tgt := 158) (by decide) rfl rfl ?_
    refine zl zM112 q112_158 rfl ?_
    refine zgI zM112 q112_159 (by decide) g11_212 s0 rfl (v := (h 0 17)) rfl ?_
    exact zri zM112 q112_162 rfl rfl hw
  have hw := hw.2.2.2.2.2.2.2.2.2.2.2.2.2 ⟨hs1, hs2, hs3, hs4, hs5, hs6, hs7, hs8, hs9, hs10, hs11, hs12, hs13⟩
  have hs1 := z_neI hs1
  have hs2 := z_neI hs2
  have hs3 := z_neI hs3
  have hs4 := z_neI hs4
  have hs5 := z_neI hs5
  have hs6 := z_neI hs6
  have hs7 := z_neI hs7
  have hs8 := z_neI hs8
  have hs9 := z_neI hs9
  have hs10 := z_neI hs10
  have hs11 := z_neI hs11
  have hs12 := z_neI hs12
  have hs13 := z_neI hs13
  refine ztd (tgt := 163) ?_ zM112 q112_1 rfl ?_
  · simp only [show (0 : Int32).toInt = 0 from rfl, show (1 : Int32).toInt = 1 from rfl, show (2 : Int32).toInt = 2 from rfl, show (3 : Int32).toInt = 3 from rfl, show (4 : Int32).toInt = 4 from rfl, show (5 : Int32).toInt = 5 from rfl, show (6 : Int32).toInt = 6 from rfl, show (7 : Int32).toInt = 7 from rfl, show (8 : Int32).toInt = 8 from rfl, show (9 : Int32).toInt = 9 from rfl, show (10 : Int32).toInt = 10 from rfl, show (11 : Int32).toInt = 11 from rfl, show (12 : Int32).toInt = 12 from rfl] at hs1 hs2 hs3 hs4 hs5 hs6 hs7 hs8 hs9 hs10 hs11 hs12 hs13; omega
  refine zkB zM112 q112_163 kBm2 ?_
  exact zri zM112 q112_165 rfl rfl hw
-- X11_sheet
theorem b113 {X : Option (List Int32)} {d : Nat} {h : zH} {A : Int32 → zH → Prop} {a1 : Int32} {a2 : Int32} {a3 : Int32} (hw : zP X d 124 0 (z_ent [.int a1] 1) [] z_S0 h (zI fun v1 h2 => ((v1 = 0 → A (-2) h2) ∧ (¬ v1 = 0 → zP X d 119 0 (z_ent [.int a2, .int (-1), .int 2] 3) [] z_S0 h2 (zI fun v3 h4 => ((v3 = 0 → A (-2) h4) ∧ (¬ v3 = 0 → ((a2 = (-1) → (z_ib a1 4 ∧ zP X d 44 0 (z_ent [.ref (z_sh (Int32.toNatClampNeg a1)), .int (-1), .int 0] 3) [] z_S0 h4 (zV fun h13 => A 1 h13))) ∧ (¬ a2 = (-1) → (((40 : Int32) < a3 → A (-2) h4) ∧ (¬ (40 : Int32) < a3 → ((a3 < 0 → A (-14) h4) ∧ (¬ a3 < 0 → (z_ib a1 4 ∧ zP X d 44 0 (z_ent [.ref (z_sh (Int32.toNatClampNeg a1)), .int a2, .int a3] 3) [] z_S0 h4 (zV fun h8 => A 1 h8))))))))))))))) : zP X (d + 1) 113 0 (z_ent [.ref 0, .int a1, .int a2, .int a3] 4) [] z_S0 h (zI A) := by
  show zP X (d + 1) 113 0 [some (.ref 0), some (.int a1), some (.int a2), some (.int a3)] [] z_S0 h (zI A)
  refine zl zM113 q113_0 rfl ?_
  refine zcS zM113 q113_1 ky11_361 kl11_361 (by decide) rfl (Nat.le_of_ble_eq_true rfl) zM124 (Nat.le_of_ble_eq_true rfl) (hw.mono (fun r0 h2 hr16 => ?_))
  obtain ⟨v1, rfl, hw⟩ := hr16
  show zP X (d + 1) 113 4 [some (.ref 0), some (.int a1), some (.int a2), some (.int a3)] [.int v1] z_S0 h2 (zI A)
  refine zb1_eq zM113 q113_4 (tgt := 16) rfl (fun hc => ?_) (fun hc => ?_)
  · have hw := hw.1 hc
    refine zkB zM113 q113_16 kBm2 ?_
    exact zri zM113 q113_18 rfl rfl hw
  · have hw := hw.2 hc
    refine zl zM113 q113_7 rfl ?_
    refine zkI zM113 q113_8 kIm1 ?_
    refine zkI zM113 q113_9 kI2 ?_
    refine zcS zM113 q113_10 ky11_128 kl11_128 (by decide) rfl (Nat.le_of_ble_eq_true rfl) zM119 (Nat.le_of_ble_eq_true rfl) (hw.mono (fun r0 h4 hr15 => ?_))
    obtain ⟨v3, rfl, hw⟩ := hr15
    show zP X (d + 1) 113 13 [some (.ref 0), some (.int a1), some (.int a2), some (.int a3)] [.int v3] z_S0 h4 (zI A)
    refine zb1_ne zM113 q113_13 (tgt := 19) rfl (fun hc => ?_) (fun hc => ?_)
    · have hw := hw.2 hc
      refine zl zM113 q113_19 rfl ?_
      refine zkI zM113 q113_20 kIm1 ?_
      refine zb2_ne zM113 q113_21 (tgt := 37) rfl (fun hc => ?_) (fun hc => ?_)
      · have hw := hw.2 hc
        refine zl zM113 q113_37 rfl ?_
        refine zkB zM113 q113_38 kB40 ?_
        refine zb2_le zM113 q113_40 (tgt := 46) rfl (fun hc => ?_) (fun hc => ?_)
        · have hw := hw.2 hc
          refine zl zM113 q113_46 rfl ?_
          refine zb1_ge zM113 q113_47 (tgt := 53) rfl (fun hc => ?_) (fun hc => ?_)
          · have hw := hw.2 hc
            refine zl zM113 q113_53 rfl ?_
            refine zgR (a := 73) zM113 q113_54 (by decide) g11_90 s0 rfl ?_
            refine zl zM113 q113_57 rfl ?_
            obtain ⟨hb, hw⟩ := hw
            obtain ⟨hm5e, hm5⟩ := z_shIn hb
            refine zaa zM113 q113_58 (by decide) s73 (by decide) hb ?_
            rw [hm5e]
            refine zl zM113 q113_59 rfl ?_
            refine zl zM113 q113_60 rfl ?_
            refine zcV zM113 q113_61 kl11_364 rfl rfl (Nat.le_of_ble_eq_true rfl) (z_rcvS hm5) zM44 (Nat.le_of_ble_eq_true rfl) (hw.mono (fun r0 h8 hr9 => ?_))
            obtain ⟨rfl, hw⟩ := hr9
            show zP X (d + 1) 113 64 [some (.ref 0), some (.int a1), some (.int a2), some (.int a3)] [] z_S0 h8 (zI A)
            refine zkI zM113 q113_64 kI1 ?_
            exact zri zM113 q113_65 rfl rfl hw
          · have hw := hw.1 hc
            refine zkB zM113 q113_50 kBm14 ?_
            exact zri zM113 q113_52 rfl rfl hw
        · have hw := hw.1 hc
          refine zkB zM113 q113_43 kBm2 ?_
          exact zri zM113 q113_45 rfl rfl hw
      · have hw := hw.1 hc
        refine zl zM113 q113_24 rfl ?_
        refine zgR (a := 73) zM113 q113_25 (by decide) g11_90 s0 rfl ?_
        refine zl zM113 q113_28 rfl ?_
        obtain ⟨hb, hw⟩ := hw
        obtain ⟨hm10e, hm10⟩ := z_shIn hb
        refine zaa zM113 q113_29 (by decide) s73 (by decide) hb ?_
        rw [hm10e]
        refine zkI zM113 q113_30 kIm1 ?_
        refine zkI zM113 q113_31 kI0 ?_
        refine zcV zM113 q113_32 kl11_364 rfl rfl (Nat.le_of_ble_eq_true rfl) (z_rcvS hm10) zM44 (Nat.le_of_ble_eq_true rfl) (hw.mono (fun r0 h13 hr14 => ?_))
        obtain ⟨rfl, hw⟩ := hr14
        show zP X (d + 1) 113 35 [some (.ref 0), some (.int a1), some (.int a2), some (.int a3)] [] z_S0 h13 (zI A)
        refine zkI zM113 q113_35 kI1 ?_
        exact zri zM113 q113_36 rfl rfl hw
    · have hw := hw.1 hc
      refine zkB zM113 q113_16 kBm2 ?_
      exact zri zM113 q113_18 rfl rfl hw
-- X11_cell
theorem b114 {X : Option (List Int32)} {d : Nat} {h : zH} {A : Int32 → zH → Prop} {a1 : Int32} {a2 : Int32} {a3 : Int32} (hw : zP X d 124 0 (z_ent [.int a1] 1) [] z_S0 h (zI fun v1 h2 => ((v1 = 0 → A (-2) h2) ∧ (¬ v1 = 0 → (z_ib a1 4 ∧ zP X d 43 0 (z_ent [.ref (z_sh (Int32.toNatClampNeg a1))] 1) [] z_S0 h2 (zI fun v4 h5 => ((v4 = 0 → zP X d 119 0 (z_ent [.int a2, .int 0, .int ((h5 (z_sh (Int32.toNatClampNeg a1)) 2) - 1)] 3) [] z_S0 h5 (zI fun v6 h7 => ((v6 = 0 → A (-12) h7) ∧ (¬ v6 = 0 → zP X d 45 0 (z_ent [.ref (z_sh (Int32.toNatClampNeg a1)), .int a2, .int a3] 3) [] z_S0 h7 (zV fun h10 => A 1 h10))))) ∧ (¬ v4 = 0 → A (-11) h5)))))))) : zP X (d + 1) 114 0 (z_ent [.ref 0, .int a1, .int a2, .int a3] 5) [] z_S0 h (zI A) := by
  show zP X (d + 1) 114 0 [some (.ref 0), some (.int a1), some (.int a2), some (.int a3), none] [] z_S0 h (zI A)
  refine zl zM114 q114_0 rfl ?_
  refine zcS zM114 q114_1 ky11_361 kl11_361 (by decide) rfl (Nat.le_of_ble_eq_true rfl) zM124 (Nat.le_of_ble_eq_true rfl) (hw.mono (fun r0 h2 hr14 => ?_))
  obtain ⟨v1, rfl, hw⟩ := hr14
  show zP X (d + 1) 114 4 [some (.ref 0), some (.int a1), some (.int a2), some (.int a3), none] [.int v1] z_S0 h2 (zI A)
  refine zb1_ne zM114 q114_4 (tgt := 10) rfl (fun hc => ?_) (fun hc => ?_)
  · have hw := hw.2 hc
    refine zl zM114 q114_10 rfl ?_
    refine zgR (a := 73) zM114 q114_11 (by decide) g11_90 s0 rfl ?_
    refine zl zM114 q114_14 rfl ?_
    obtain ⟨hb, hw⟩ := hw
    obtain ⟨hm3e, hm3⟩ := z_shIn hb
    refine zaa zM114 q114_15 (by decide) s73 (by decide) hb ?_
    rw [hm3e]
    refine zl zM114 q114_16 (ls' := [some (.ref 0), some (.int a1), some (.int a2), some (.int a3), some (.ref (z_sh (Int32.toNatClampNeg a1)))]) rfl ?_
    refine zl zM114 q114_18 rfl ?_
    refine zcV zM114 q114_20 kl11_367 rfl rfl (Nat.le_of_ble_eq_true rfl) (z_rcvS hm3) zM43 (Nat.le_of_ble_eq_true rfl) (hw.mono (fun r0 h5 hr13 => ?_))
    obtain ⟨v4, rfl, hw⟩ := hr13
    show zP X (d + 1) 114 23 [some (.ref 0), some (.int a1), some (.int a2), some (.int a3), some (.ref (z_sh (Int32.toNatClampNeg a1)))] [.int v4] z_S0 h5 (zI A)
    refine zb1_eq zM114 q114_23 (tgt := 29) rfl (fun hc => ?_) (fun hc => ?_)
    · have hw := hw.1 hc
      refine zl zM114 q114_29 rfl ?_
      refine zkI zM114 q114_30 kI0 ?_
      refine zl zM114 q114_31 rfl ?_
      refine zgI zM114 q114_33 (sSh hm3).1 g11_371 (sSh hm3).2.2.1 rfl (v := (h5 (z_sh (Int32.toNatClampNeg a1)) 2)) rfl ?_
      refine zkI zM114 q114_36 kI1 ?_
      refine zl zM114 q114_37 (pc' := 38) (st' := .int ((h5 (z_sh (Int32.toNatClampNeg a1)) 2) - 1) :: _) rfl ?_
      refine zcS zM114 q114_38 ky11_128 kl11_128 (by decide) rfl (Nat.le_of_ble_eq_true rfl) zM119 (Nat.le_of_ble_eq_true rfl) (hw.mono (fun r0 h7 hr12 => ?_))
      obtain ⟨v6, rfl, hw⟩ := hr12
      show zP X (d + 1) 114 41 [some (.ref 0), some (.int a1), some (.int a2), some (.int a3), some (.ref (z_sh (Int32.toNatClampNeg a1)))] [.int v6] z_S0 h7 (zI A)
      refine zb1_ne zM114 q114_41 (tgt := 47) rfl (fun hc => ?_) (fun hc => ?_)
      · have hw := hw.2 hc
        refine zl zM114 q114_47 rfl ?_
        refine zl zM114 q114_49 rfl ?_
        refine zl zM114 q114_50 rfl ?_
        refine zcV zM114 q114_51 kl11_372 rfl rfl (Nat.le_of_ble_eq_true rfl) (z_rcvS hm3) zM45 (Nat.le_of_ble_eq_true rfl) (hw.mono (fun r0 h10 hr11 => ?_))
        obtain ⟨rfl, hw⟩ := hr11
        show zP X (d + 1) 114 54 [some (.ref 0), some (.int a1), some (.int a2), some (.int a3), some (.ref (z_sh (Int32.toNatClampNeg a1)))] [] z_S0 h10 (zI A)
        refine zkI zM114 q114_54 kI1 ?_
        exact zri zM114 q114_55 rfl rfl hw
      · have hw := hw.1 hc
        refine zkB zM114 q114_44 kBm12 ?_
        exact zri zM114 q114_46 rfl rfl hw
    · have hw := hw.2 hc
      refine zkB zM114 q114_26 kBm11 ?_
      exact zri zM114 q114_28 rfl rfl hw
  · have hw := hw.1 hc
    refine zkB zM114 q114_7 kBm2 ?_
    exact zri zM114 q114_9 rfl rfl hw
-- X11_copy
theorem b115 {X : Option (List Int32)} {d : Nat} {h : zH} {A : Int32 → zH → Prop} {a1 : Int32} {a2 : Int32} {a3 : Int32} {a4 : Int32} {a5 : Int32} (hw : zP X d 124 0 (z_ent [.int a1] 1) [] z_S0 h (zI fun v1 h2 => ((v1 = 0 → A (-2) h2) ∧ (¬ v1 = 0 → zP X d 124 0 (z_ent [.int a3] 1) [] z_S0 h2 (zI fun v3 h4 => ((v3 = 0 → A (-2) h4) ∧ (¬ v3 = 0 → (z_ib a1 4 ∧ (z_ib a3 4 ∧ zP X d 43 0 (z_ent [.ref (z_sh (Int32.toNatClampNeg a1))] 1) [] z_S0 h4 (zI fun v7 h8 => ((v7 = 0 → zP X d 43 0 (z_ent [.ref (z_sh (Int32.toNatClampNeg a3))] 1) [] z_S0 h8 (zI fun v9 h10 => ((v9 = 0 → (((h10 (z_sh (Int32.toNatClampNeg a1)) 1) = (h10 (z_sh (Int32.toNatClampNeg a3)) 1) → zP X d 46 0 (z_ent [.ref (z_sh (Int32.toNatClampNeg a1)), .int a2, .int a5] 3) [] z_S0 h10 (zI fun v11 h12 => ((v11 = 0 → A (-12) h12) ∧ (¬ v11 = 0 → zP X d 46 0 (z_ent [.ref (z_sh (Int32.toNatClampNeg a3)), .int a4, .int a5] 3) [] z_S0 h12 (zI fun v13 h14 => ((v13 = 0 → A (-12) h14) ∧ (¬ v13 = 0 → ((¬ (a2 : Int32) < 0 ∧ ¬ (a4 : Int32) < 0 ∧ ¬ (a5 : Int32) < 0 ∧ Int32.toNatClampNeg a2 + Int32.toNatClampNeg a5 ≤ 40 ∧ Int32.toNatClampNeg a4 + Int32.toNatClampNeg a5 ≤ 40) ∧ A a5 (z_cpy h14 (z_sh (Int32.toNatClampNeg a1) + 1) (z_sh (Int32.toNatClampNeg a3) + 1) (Int32.toNatClampNeg a2) (Int32.toNatClampNeg a4) (Int32.toNatClampNeg a5)))))))))) ∧ (¬ (h10 (z_sh (Int32.toNatClampNeg a1)) 1) = (h10 (z_sh (Int32.toNatClampNeg a3)) 1) → A (-13) h10))) ∧ (¬ v9 = 0 → A (-11) h10)))) ∧ (¬ v7 = 0 → A (-11) h8)))))))))))) : zP X (d + 1) 115 0 (z_ent [.ref 0, .int a1, .int a2, .int a3, .int a4, .int a5] 8) [] z_S0 h (zI A) := by
  show zP X (d + 1) 115 0 [some (.ref 0), some (.int a1), some (.int a2), some (.int a3), some (.int a4), some (.int a5), none, none] [] z_S0 h (zI A)
  refine zl zM115 q115_0 rfl ?_
  refine zcS zM115 q115_1 ky11_361 kl11_361 (by decide) rfl (Nat.le_of_ble_eq_true rfl) zM124 (Nat.le_of_ble_eq_true rfl) (hw.mono (fun r0 h2 hr21 => ?_))
  obtain ⟨v1, rfl, hw⟩ := hr21
  show zP X (d + 1) 115 4 [some (.ref 0), some (.int a1), some (.int a2), some (.int a3), some (.int a4), some (.int a5), none, none] [.int v1] z_S0 h2 (zI A)
  refine zb1_eq zM115 q115_4 (tgt := 14) rfl (fun hc => ?_) (fun hc => ?_)
  · have hw := hw.1 hc
    refine zkB zM115 q115_14 kBm2 ?_
    exact zri zM115 q115_16 rfl rfl hw
  · have hw := hw.2 hc
    refine zl zM115 q115_7 rfl ?_
    refine zcS zM115 q115_8 ky11_361 kl11_361 (by decide) rfl (Nat.le_of_ble_eq_true rfl) zM124 (Nat.le_of_ble_eq_true rfl) (hw.mono (fun r0 h4 hr20 => ?_))
    obtain ⟨v3, rfl, hw⟩ := hr20
    show zP X (d + 1) 115 11 [some (.ref 0), some (.int a1), some (.int a2), some (.int a3), some (.int a4), some (.int a5), none, none] [.int v3] z_S0 h4 (zI A)
    refine zb1_ne zM115 q115_11 (tgt := 17) rfl (fun hc => ?_) (fun hc => ?_)
    · have hw := hw.2 hc
      refine zl zM115 q115_17 rfl ?_
      refine zgR (a := 73) zM115 q115_18 (by decide) g11_90 s0 rfl ?_
      refine zl zM115 q115_21 rfl ?_
      obtain ⟨hb, hw⟩ := hw
      obtain ⟨hm5e, hm5⟩ := z_shIn hb
      refine zaa zM115 q115_22 (by decide) s73 (by decide) hb ?_
      rw [hm5e]
      refine zl zM115 q115_23 (ls' := [some (.ref 0), some (.int a1), some (.int a2), some (.int a3), some (.int a4), some (.int a5), some (.ref (z_sh (Int32.toNatClampNeg a1))), none]) rfl ?_
      refine zl zM115 q115_25 rfl ?_
      refine zgR (a := 73) zM115 q115_26 (by decide) g11_90 s0 rfl ?_
      refine zl zM115 q115_29 rfl ?_
      obtain ⟨hb, hw⟩ := hw
      obtain ⟨hm6e, hm6⟩ := z_shIn hb
      refine zaa zM115 q115_30 (by decide) s73 (by decide) hb ?_
      rw [hm6e]
      refine zl zM115 q115_31 (ls' := [some (.ref 0), some (.int a1), some (.int a2), some (.int a3), some (.int a4), some (.int a5), some (.ref (z_sh (Int32.toNatClampNeg a1))), some (.ref (z_sh (Int32.toNatClampNeg a3)))]) rfl ?_
      refine zl zM115 q115_33 rfl ?_
      refine zcV zM115 q115_35 kl11_367 rfl rfl (Nat.le_of_ble_eq_true rfl) (z_rcvS hm5) zM43 (Nat.le_of_ble_eq_true rfl) (hw.mono (fun r0 h8 hr19 => ?_))
      obtain ⟨v7, rfl, hw⟩ := hr19
      show zP X (d + 1) 115 38 [some (.ref 0), some (.int a1), some (.int a2), some (.int a3), some (.int a4), some (.int a5), some (.ref (z_sh (Int32.toNatClampNeg a1))), some (.ref (z_sh (Int32.toNatClampNeg a3)))] [.int v7] z_S0 h8 (zI A)
      refine zb1_ne zM115 q115_38 (tgt := 49) rfl (fun hc => ?_) (fun hc => ?_)
      · have hw := hw.2 hc
        refine zkB zM115 q115_49 kBm11 ?_
        exact zri zM115 q115_51 rfl rfl hw
      · have hw := hw.1 hc
        refine zl zM115 q115_41 rfl ?_
        refine zcV zM115 q115_43 kl11_367 rfl rfl (Nat.le_of_ble_eq_true rfl) (z_rcvS hm6) zM43 (Nat.le_of_ble_eq_true rfl) (hw.mono (fun r0 h10 hr18 => ?_))
        obtain ⟨v9, rfl, hw⟩ := hr18
        show zP X (d + 1) 115 46 [some (.ref 0), some (.int a1), some (.int a2), some (.int a3), some (.int a4), some (.int a5), some (.ref (z_sh (Int32.toNatClampNeg a1))), some (.ref (z_sh (Int32.toNatClampNeg a3)))] [.int v9] z_S0 h10 (zI A)
        refine zb1_eq zM115 q115_46 (tgt := 52) rfl (fun hc => ?_) (fun hc => ?_)
        · have hw := hw.1 hc
          refine zl zM115 q115_52 rfl ?_
          refine zgI zM115 q115_54 (sSh hm5).1 g11_375 (sSh hm5).2.2.1 rfl (v := (h10 (z_sh (Int32.toNatClampNeg a1)) 1)) rfl ?_
          refine zl zM115 q115_57 rfl ?_
          refine zgI zM115 q115_59 (sSh hm6).1 g11_375 (sSh hm6).2.2.1 rfl (v := (h10 (z_sh (Int32.toNatClampNeg a3)) 1)) rfl ?_
          refine zb2_eq zM115 q115_62 (tgt := 68) rfl (fun hc => ?_) (fun hc => ?_)
          · have hw := hw.1 hc
            refine zl zM115 q115_68 rfl ?_
            refine zl zM115 q115_70 rfl ?_
            refine zl zM115 q115_71 rfl ?_
            refine zcV zM115 q115_73 kl11_378 rfl rfl (Nat.le_of_ble_eq_true rfl) (z_rcvS hm5) zM46 (Nat.le_of_ble_eq_true rfl) (hw.mono (fun r0 h12 hr17 => ?_))
            obtain ⟨v11, rfl, hw⟩ := hr17
            show zP X (d + 1) 115 76 [some (.ref 0), some (.int a1), some (.int a2), some (.int a3), some (.int a4), some (.int a5), some (.ref (z_sh (Int32.toNatClampNeg a1))), some (.ref (z_sh (Int32.toNatClampNeg a3)))] [.int v11] z_S0 h12 (zI A)
            refine zb1_eq zM115 q115_76 (tgt := 91) rfl (fun hc => ?_) (fun hc => ?_)
            · have hw := hw.1 hc
              refine zkB zM115 q115_91 kBm12 ?_
              exact zri zM115 q115_93 rfl rfl hw
            · have hw := hw.2 hc
              refine zl zM115 q115_79 rfl ?_
              refine zl zM115 q115_81 rfl ?_
              refine zl zM115 q115_83 rfl ?_
              refine zcV zM115 q115_85 kl11_378 rfl rfl (Nat.le_of_ble_eq_true rfl) (z_rcvS hm6) zM46 (Nat.le_of_ble_eq_true rfl) (hw.mono (fun r0 h14 hr16 => ?_))
              obtain ⟨v13, rfl, hw⟩ := hr16
              show zP X (d + 1) 115 88 [some (.ref 0), some (.int a1), some (.int a2), some (.int a3), some (.int a4), some (.int a5), some (.ref (z_sh (Int32.toNatClampNeg a1))), some (.ref (z_sh (Int32.toNatClampNeg a3)))] [.int v13] z_S0 h14 (zI A)
              refine zb1_ne zM115 q115_88 (tgt := 94) rfl (fun hc => ?_) (fun hc => ?_)
              · have hw := hw.2 hc
                refine zl zM115 q115_94 rfl ?_
                refine zgR (a := z_sh (Int32.toNatClampNeg a1) + 1) zM115 q115_96 (sSh hm5).1 g11_381 (sSh hm5).2.2.1 rfl ?_
                refine zl zM115 q115_99 rfl ?_
                refine zl zM115 q115_100 rfl ?_
                refine zgR (a := z_sh (Int32.toNatClampNeg a3) + 1) zM115 q115_102 (sSh hm6).1 g11_381 (sSh hm6).2.2.1 rfl ?_
                refine zl zM115 q115_105 rfl ?_
                refine zl zM115 q115_107 rfl ?_
                obtain ⟨hb, hw⟩ := hw
                refine zcp zM115 q115_109 kz11_384 (Nat.le_of_ble_eq_true rfl) (sSh hm5).2.1 (sSh hm6).2.1 (sSh hm5).2.2.2 (sSh hm6).2.2.2 hb ?_
                refine zl zM115 q115_112 rfl ?_
                exact zri zM115 q115_114 rfl rfl hw
              · have hw := hw.1 hc
                refine zkB zM115 q115_91 kBm12 ?_
                exact zri zM115 q115_93 rfl rfl hw
          · have hw := hw.2 hc
            refine zkB zM115 q115_65 kBm13 ?_
            exact zri zM115 q115_67 rfl rfl hw
        · have hw := hw.2 hc
          refine zkB zM115 q115_49 kBm11 ?_
          exact zri zM115 q115_51 rfl rfl hw
    · have hw := hw.1 hc
      refine zkB zM115 q115_14 kBm2 ?_
      exact zri zM115 q115_16 rfl rfl hw
-- X11_prices
theorem b116 {X : Option (List Int32)} {d : Nat} {h : zH} {A : Int32 → zH → Prop} {a1 : Int32} {a2 : Int32} {a3 : Int32} {a4 : Int32} {a5 : Int32} {a6 : Int32} (hw : zP X d 122 0 (z_ent [.int a1] 1) [] z_S0 h (zI fun v1 h2 => ((v1 = 0 → A (-2) h2) ∧ (¬ v1 = 0 → zP X d 125 0 (z_ent [.int a2] 1) [] z_S0 h2 (zI fun v3 h4 => ((v3 = 0 → A (-2) h4) ∧ (¬ v3 = 0 → zP X d 124 0 (z_ent [.int a3] 1) [] z_S0 h4 (zI fun v5 h6 => ((v5 = 0 → A (-2) h6) ∧ (¬ v5 = 0 → zP X d 119 0 (z_ent [.int a4, .int 0, .int 2] 3) [] z_S0 h6 (zI fun v7 h8 => ((v7 = 0 → A (-2) h8) ∧ (¬ v7 = 0 → zP X d 119 0 (z_ent [.int a6, .int 0, .int 40] 3) [] z_S0 h8 (zI fun v9 h10 => ((v9 = 0 → A (-2) h10) ∧ (¬ v9 = 0 → (z_ib a3 4 ∧ zP X d 43 0 (z_ent [.ref (z_sh (Int32.toNatClampNeg a3))] 1) [] z_S0 h10 (zI fun v12 h13 => ((v12 = 0 → (((h13 (z_sh (Int32.toNatClampNeg a3)) 1) = a4 → zP X (d + 1) 116 77 [some (.ref 0), some (.int a1), some (.int a2), none, none, some (.int a5), some (.int a6), some (.ref (z_sh (Int32.toNatClampNeg a3)))] [] z_S0 h13 (zI A)) ∧ (¬ (h13 (z_sh (Int32.toNatClampNeg a3)) 1) = a4 → A (-13) h13))) ∧ (¬ v12 = 0 → zP X (d + 1) 116 77 [some (.ref 0), some (.int a1), some (.int a2), none, none, some (.int a5), some (.int a6), some (.ref (z_sh (Int32.toNatClampNeg a3)))] [] z_S0 h13 (zI A))))))))))))))))))))) : zP X (d + 1) 116 0 (z_ent [.ref 0, .int a1, .int a2, .int a3, .int a4, .int a5, .int a6] 8) [] z_S0 h (zI A) := by
  show zP X (d + 1) 116 0 [some (.ref 0), some (.int a1), some (.int a2), some (.int a3), some (.int a4), some (.int a5), some (.int a6), none] [] z_S0 h (zI A)
  refine zl zM116 q116_0 rfl ?_
  refine zcS zM116 q116_1 ky11_203 kl11_203 (by decide) rfl (Nat.le_of_ble_eq_true rfl) zM122 (Nat.le_of_ble_eq_true rfl) (hw.mono (fun r0 h2 hr19 => ?_))
  obtain ⟨v1, rfl, hw⟩ := hr19
  show zP X (d + 1) 116 4 [some (.ref 0), some (.int a1), some (.int a2), some (.int a3), some (.int a4), some (.int a5), some (.int a6), none] [.int v1] z_S0 h2 (zI A)
  refine zb1_eq zM116 q116_4 (tgt := 21) rfl (fun hc => ?_) (fun hc => ?_)
  · have hw := hw.1 hc
    refine zkB zM116 q116_21 kBm2 ?_
    exact zri zM116 q116_23 rfl rfl hw
  · have hw := hw.2 hc
    refine zl zM116 q116_7 rfl ?_
    refine zcS zM116 q116_8 ky11_215 kl11_215 (by decide) rfl (Nat.le_of_ble_eq_true rfl) zM125 (Nat.le_of_ble_eq_true rfl) (hw.mono (fun r0 h4 hr18 => ?_))
    obtain ⟨v3, rfl, hw⟩ := hr18
    show zP X (d + 1) 116 11 [some (.ref 0), some (.int a1), some (.int a2), some (.int a3), some (.int a4), some (.int a5), some (.int a6), none] [.int v3] z_S0 h4 (zI A)
    refine zb1_eq zM116 q116_11 (tgt := 21) rfl (fun hc => ?_) (fun hc => ?_)
    · have hw := hw.1 hc
      refine zkB zM116 q116_21 kBm2 ?_
      exact zri zM116 q116_23 rfl rfl hw
    · have hw := hw.2 hc
      refine zl zM116 q116_14 rfl ?_
      refine zcS zM116 q116_15 ky11_361 kl11_361 (by decide) rfl (Nat.le_of_ble_eq_true rfl) zM124 (Nat.le_of_ble_eq_true rfl) (hw.mono (fun r0 h6 hr17 => ?_))
      obtain ⟨v5, rfl, hw⟩ := hr17
      show zP X (d + 1) 116 18 [some (.ref 0), some (.int a1), some (.int a2), some (.int a3), some (.int a4), some (.int a5), some (.int a6), none] [.int v5] z_S0 h6 (zI A)
      refine zb1_ne zM116 q116_18 (tgt := 24) rfl (fun hc => ?_) (fun hc => ?_)
      · have hw := hw.2 hc
        refine zl zM116 q116_24 rfl ?_
        refine zkI zM116 q116_26 kI0 ?_
        refine zkI zM116 q116_27 kI2 ?_
        refine zcS zM116 q116_28 ky11_128 kl11_128 (by decide) rfl (Nat.le_of_ble_eq_true rfl) zM119 (Nat.le_of_ble_eq_true rfl) (hw.mono (fun r0 h8 hr16 => ?_))
        obtain ⟨v7, rfl, hw⟩ := hr16
        show zP X (d + 1) 116 31 [some (.ref 0), some (.int a1), some (.int a2), some (.int a3), some (.int a4), some (.int a5), some (.int a6), none] [.int v7] z_S0 h8 (zI A)
        refine zb1_eq zM116 q116_31 (tgt := 45) rfl (fun hc => ?_) (fun hc => ?_)
        · have hw := hw.1 hc
          refine zkB zM116 q116_45 kBm2 ?_
          exact zri zM116 q116_47 rfl rfl hw
        · have hw := hw.2 hc
          refine zl zM116 q116_34 rfl ?_
          refine zkI zM116 q116_36 kI0 ?_
          refine zkB zM116 q116_37 kB40 ?_
          refine zcS zM116 q116_39 ky11_128 kl11_128 (by decide) rfl (Nat.le_of_ble_eq_true rfl) zM119 (Nat.le_of_ble_eq_true rfl) (hw.mono (fun r0 h10 hr15 => ?_))
          obtain ⟨v9, rfl, hw⟩ := hr15
          show zP X (d + 1) 116 42 [some (.ref 0), some (.int a1), some (.int a2), some (.int a3), some (.int a4), some (.int a5), some (.int a6), none] [.int v9] z_S0 h10 (zI A)
          refine zb1_ne zM116 q116_42 (tgt := 48) rfl (fun hc => ?_) (fun hc => ?_)
          · have hw := hw.2 hc
            refine zl zM116 q116_48 rfl ?_
            refine zgR (a := 73) zM116 q116_49 (by decide) g11_90 s0 rfl ?_
            refine zl zM116 q116_52 rfl ?_
            obtain ⟨hb, hw⟩ := hw
            obtain ⟨hm11e, hm11⟩ := z_shIn hb
            refine zaa zM116 q116_53 (by decide) s73 (by decide) hb ?_
            rw [hm11e]
            refine zl zM116 q116_54 (ls' := [some (.ref 0), some (.int a1), some (.int a2), some (.int a3), some (.int a4), some (.int a5), some (.int a6), some (.ref (z_sh (Int32.toNatClampNeg a3)))]) rfl ?_
            refine zl zM116 q116_56 rfl ?_
            refine zcV zM116 q116_58 kl11_367 rfl rfl (Nat.le_of_ble_eq_true rfl) (z_rcvS hm11) zM43 (Nat.le_of_ble_eq_true rfl) (hw.mono (fun r0 h13 hr14 => ?_))
            obtain ⟨v12, rfl, hw⟩ := hr14
            show zP X (d + 1) 116 61 [some (.ref 0), some (.int a1), some (.int a2), some (.int a3), some (.int a4), some (.int a5), some (.int a6), some (.ref (z_sh (Int32.toNatClampNeg a3)))] [.int v12] z_S0 h13 (zI A)
            refine zb1_ne zM116 q116_61 (tgt := 77) rfl (fun hc => ?_) (fun hc => ?_)
            · have hw := hw.2 hc
              refine zweak (a := [some (.ref 0), some (.int a1), some (.int a2), none, none, some (.int a5), some (.int a6), some (.ref (z_sh (Int32.toNatClampNeg a3)))]) ?_ hw
              exact ⟨rfl, ⟨rfl, ⟨rfl, ⟨rfl, ⟨rfl, ⟨rfl, trivial⟩⟩⟩⟩⟩⟩
            · have hw := hw.1 hc
              refine zl zM116 q116_64 rfl ?_
              refine zgI zM116 q116_66 (sSh hm11).1 g11_375 (sSh hm11).2.2.1 rfl (v := (h13 (z_sh (Int32.toNatClampNeg a3)) 1)) rfl ?_
              refine zl zM116 q116_69 rfl ?_
              refine zb2_eq zM116 q116_71 (tgt := 77) rfl (fun hc => ?_) (fun hc => ?_)
              · have hw := hw.1 hc
                refine zweak (a := [some (.ref 0), some (.int a1), some (.int a2), none, none, some (.int a5), some (.int a6), some (.ref (z_sh (Int32.toNatClampNeg a3)))]) ?_ hw
                exact ⟨rfl, ⟨rfl, ⟨rfl, ⟨rfl, ⟨rfl, ⟨rfl, trivial⟩⟩⟩⟩⟩⟩
              · have hw := hw.2 hc
                refine zkB zM116 q116_74 kBm13 ?_
                exact zri zM116 q116_76 rfl rfl hw
          · have hw := hw.1 hc
            refine zkB zM116 q116_45 kBm2 ?_
            exact zri zM116 q116_47 rfl rfl hw
      · have hw := hw.1 hc
        refine zkB zM116 q116_21 kBm2 ?_
        exact zri zM116 q116_23 rfl rfl hw
theorem b116_77 {X : Option (List Int32)} {d : Nat} {h : zH} {A : Int32 → zH → Prop} {l1 : Int32} {l2 : Int32} {l5 : Int32} {l6 : Int32} {l7 : Nat} (hl7 : l7 ∈ ([74, 76, 78, 80] : List Nat)) (hw : zP X d 43 0 (z_ent [.ref (l7)] 1) [] z_S0 h (zI fun v20 h21 => ((v20 = 0 → zP X d 117 0 (z_ent [.ref 0, .int l1, .int l2, .ref (l7), .int l5, .int l6] 8) [] z_S0 h21 (zI fun v22 h24 => A v22 h24)) ∧ (¬ v20 = 0 → A (-11) h21)))) : zP X (d + 1) 116 77 [some (.ref 0), some (.int l1), some (.int l2), none, none, some (.int l5), some (.int l6), some (.ref (l7))] [] z_S0 h (zI A) := by
  refine zl zM116 q116_77 rfl ?_
  refine zcV zM116 q116_79 kl11_367 rfl rfl (Nat.le_of_ble_eq_true rfl) (z_rcvS hl7) zM43 (Nat.le_of_ble_eq_true rfl) (hw.mono (fun r0 h21 hr26 => ?_))
  obtain ⟨v20, rfl, hw⟩ := hr26
  show zP X (d + 1) 116 82 [some (.ref 0), some (.int l1), some (.int l2), none, none, some (.int l5), some (.int l6), some (.ref (l7))] [.int v20] z_S0 h21 (zI A)
  refine zb1_eq zM116 q116_82 (tgt := 90) rfl (fun hc => ?_) (fun hc => ?_)
  · have hw := hw.1 hc
    refine zl zM116 q116_90 rfl ?_
    refine zl zM116 q116_91 rfl ?_
    refine zl zM116 q116_92 rfl ?_
    refine zl zM116 q116_93 rfl ?_
    refine zl zM116 q116_95 rfl ?_
    refine zl zM116 q116_97 rfl ?_
    refine zcV zM116 q116_99 kl11_390 rfl rfl (Nat.le_of_ble_eq_true rfl) rfl zM117 (Nat.le_of_ble_eq_true rfl) (hw.mono (fun r0 h24 hr25 => ?_))
    obtain ⟨v22, rfl, hw⟩ := hr25
    show zP X (d + 1) 116 102 [some (.ref 0), some (.int l1), some (.int l2), none, none, some (.int l5), some (.int l6), some (.ref (l7))] [.int v22] z_S0 h24 (zI A)
    exact zri zM116 q116_102 rfl rfl hw
  · have hw := hw.2 hc
    refine zkB zM116 q116_85 kBm11 ?_
    refine zl zM116 q116_87 (pc' := 102) (ls' := _) (st' := _) rfl ?_
    exact zri zM116 q116_102 rfl rfl hw
-- X11_takePrices
theorem b117 {X : Option (List Int32)} {d : Nat} {h : zH} {A : Int32 → zH → Prop} {a1 : Int32} {a2 : Int32} {t : Nat} {a4 : Int32} {a5 : Int32} (ht3 : t ∈ ([74, 76, 78, 80] : List Nat)) (hw : zP X (d + 1) 117 12 [some (.ref 0), some (.int a1), some (.int a2), some (.ref (t)), some (.int a4), some (.int a5), some (.int (h 13 4)), some (.int 0)] [] z_S0 h (zI A)) : zP X (d + 1) 117 0 (z_ent [.ref 0, .int a1, .int a2, .ref (t), .int a4, .int a5] 8) [] z_S0 h (zI A) := by
  show zP X (d + 1) 117 0 [some (.ref 0), some (.int a1), some (.int a2), some (.ref (t)), some (.int a4), some (.int a5), none, none] [] z_S0 h (zI A)
  refine zl zM117 q117_0 rfl ?_
  refine zgR (a := 13) zM117 q117_1 (by decide) g11_23 s0 rfl ?_
  refine zgI zM117 q117_4 (by decide) g11_218 s13 rfl (v := (h 13 4)) rfl ?_
  refine zl zM117 q117_7 (ls' := [some (.ref 0), some (.int a1), some (.int a2), some (.ref (t)), some (.int a4), some (.int a5), some (.int (h 13 4)), none]) rfl ?_
  refine zkI zM117 q117_9 kI0 ?_
  refine zl zM117 q117_10 (ls' := [some (.ref 0), some (.int a1), some (.int a2), some (.ref (t)), some (.int a4), some (.int a5), some (.int (h 13 4)), some (.int 0)]) rfl ?_
  exact hw
theorem b117_12 {X : Option (List Int32)} {d : Nat} {h : zH} {A : Int32 → zH → Prop} {l1 : Int32} {l2 : Int32} {l3 : Nat} {l4 : Int32} {l5 : Int32} {l6 : Int32} {l7 : Int32} (hl3 : l3 ∈ ([74, 76, 78, 80] : List Nat)) (hw : ((l7 < l5 → zP X d 119 0 (z_ent [.int l4, .int 0, .int (((h (l3) 2) - 1) - l7)] 3) [] z_S0 h (zI fun v1 h2 => ((v1 = 0 → A (-12) h2) ∧ (¬ v1 = 0 → (z_ib (l4 + l7) 40 ∧ zP X d 85 0 (z_ent [.ref 0, .int l1, .int (l2 + l7), .int (h2 (l3 + 1) (Int32.toNatClampNeg (l4 + l7)))] 4) [] z_S0 h2 (zI fun v3 h5 => zP X (d + 1) 117 12 [some (.ref 0), some (.int l1), some (.int l2), some (.ref (l3)), some (.int l4), some (.int l5), some (.int l6), some (.int (l7 + 1))] [] z_S0 h5 (zI A))))))) ∧ (¬ l7 < l5 → A ((h 13 4) - l6) h))) : zP X (d + 1) 117 12 [some (.ref 0), some (.int l1), some (.int l2), some (.ref (l3)), some (.int l4), some (.int l5), some (.int l6), some (.int l7)] [] z_S0 h (zI A) := by
  refine zl zM117 q117_12 rfl ?_
  refine zl zM117 q117_14 rfl ?_
  refine zb2_ge zM117 q117_16 (tgt := 66) rfl (fun hc => ?_) (fun hc => ?_)
  · have hw := hw.2 hc
    refine zl zM117 q117_66 rfl ?_
    refine zgR (a := 13) zM117 q117_67 (by decide) g11_23 s0 rfl ?_
    refine zgI zM117 q117_70 (by decide) g11_218 s13 rfl (v := (h 13 4)) rfl ?_
    refine zl zM117 q117_73 rfl ?_
    refine zl zM117 q117_75 (pc' := 76) (st' := .int ((h 13 4) - l6) :: _) rfl ?_
    exact zri zM117 q117_76 rfl rfl hw
  · have hw := hw.1 hc
    refine zl zM117 q117_19 rfl ?_
    refine zkI zM117 q117_21 kI0 ?_
    refine zl zM117 q117_22 rfl ?_
    refine zgI zM117 q117_23 (sSh hl3).1 g11_371 (sSh hl3).2.2.1 rfl (v := (h (l3) 2)) rfl ?_
    refine zkI zM117 q117_26 kI1 ?_
    refine zl zM117 q117_27 (pc' := 28) (st' := .int ((h (l3) 2) - 1) :: _) rfl ?_
    refine zl zM117 q117_28 rfl ?_
    refine zl zM117 q117_30 (pc' := 31) (st' := .int (((h (l3) 2) - 1) - l7) :: _) rfl ?_
    refine zcS zM117 q117_31 ky11_128 kl11_128 (by decide) rfl (Nat.le_of_ble_eq_true rfl) zM119 (Nat.le_of_ble_eq_true rfl) (hw.mono (fun r0 h2 hr7 => ?_))
    obtain ⟨v1, rfl, hw⟩ := hr7
    show zP X (d + 1) 117 34 [some (.ref 0), some (.int l1), some (.int l2), some (.ref (l3)), some (.int l4), some (.int l5), some (.int l6), some (.int l7)] [.int v1] z_S0 h2 (zI A)
    refine zb1_ne zM117 q117_34 (tgt := 40) rfl (fun hc => ?_) (fun hc => ?_)
    · have hw := hw.2 hc
      refine zl zM117 q117_40 rfl ?_
      refine zl zM117 q117_41 rfl ?_
      refine zl zM117 q117_42 rfl ?_
      refine zl zM117 q117_43 rfl ?_
      refine zl zM117 q117_45 (pc' := 46) (st' := .int (l2 + l7) :: _) rfl ?_
      refine zl zM117 q117_46 rfl ?_
      refine zgR (a := l3 + 1) zM117 q117_47 (sSh hl3).1 g11_381 (sSh hl3).2.2.1 rfl ?_
      refine zl zM117 q117_50 rfl ?_
      refine zl zM117 q117_52 rfl ?_
      refine zl zM117 q117_54 (pc' := 55) (st' := .int (l4 + l7) :: _) rfl ?_
      obtain ⟨hb, hw⟩ := hw
      refine ziA zM117 q117_55 (sSh hl3).2.1 (sSh hl3).2.2.2 hb (v := (h2 (l3 + 1) (Int32.toNatClampNeg (l4 + l7)))) rfl ?_
      refine zcV zM117 q117_56 kl11_394 rfl rfl (Nat.le_of_ble_eq_true rfl) rfl zM85 (Nat.le_of_ble_eq_true rfl) (hw.mono (fun r0 h5 hr6 => ?_))
      obtain ⟨v3, rfl, hw⟩ := hr6
      show zP X (d + 1) 117 59 [some (.ref 0), some (.int l1), some (.int l2), some (.ref (l3)), some (.int l4), some (.int l5), some (.int l6), some (.int l7)] [.int v3] z_S0 h5 (zI A)
      refine zl zM117 q117_59 rfl ?_
      refine zl zM117 q117_60 (ls' := [some (.ref 0), some (.int l1), some (.int l2), some (.ref (l3)), some (.int l4), some (.int l5), some (.int l6), some (.int (l7 + 1))]) rfl ?_
      refine zl zM117 q117_63 (pc' := 12) (ls' := _) (st' := _) rfl ?_
      exact hw
    · have hw := hw.1 hc
      refine zkB zM117 q117_37 kBm12 ?_
      exact zri zM117 q117_39 rfl rfl hw
-- X11_taken
theorem b118 {X : Option (List Int32)} {d : Nat} {h : zH} {A : Int32 → zH → Prop} {a1 : Int32} {a2 : Int32} (hw : zP X d 119 0 (z_ent [.int a2, .int 0, .int 5] 3) [] z_S0 h (zI fun v1 h2 => ((v1 = 0 → A (-2) h2) ∧ (¬ v1 = 0 → zP X d 11 0 (z_ent [.ref 1, .int a1] 2) [] z_S0 h2 (zI fun v3 h4 => ((v3 = 0 → A (-11) h4) ∧ (¬ v3 = 0 → zP X d 19 0 (z_ent [.ref 1, .int a1, .int a2] 5) [] z_S0 h4 (zI fun v5 h6 => ((v5 = 0 → A (-13) h6) ∧ (¬ v5 = 0 → (z_ib a1 40 ∧ A (h6 6 (Int32.toNatClampNeg a1)) h6))))))))))) : zP X (d + 1) 118 0 (z_ent [.ref 0, .int a1, .int a2] 3) [] z_S0 h (zI A) := by
  show zP X (d + 1) 118 0 [some (.ref 0), some (.int a1), some (.int a2)] [] z_S0 h (zI A)
  refine zl zM118 q118_0 rfl ?_
  refine zkI zM118 q118_1 kI0 ?_
  refine zkI zM118 q118_2 kI5 ?_
  refine zcS zM118 q118_3 ky11_128 kl11_128 (by decide) rfl (Nat.le_of_ble_eq_true rfl) zM119 (Nat.le_of_ble_eq_true rfl) (hw.mono (fun r0 h2 hr9 => ?_))
  obtain ⟨v1, rfl, hw⟩ := hr9
  show zP X (d + 1) 118 6 [some (.ref 0), some (.int a1), some (.int a2)] [.int v1] z_S0 h2 (zI A)
  refine zb1_ne zM118 q118_6 (tgt := 12) rfl (fun hc => ?_) (fun hc => ?_)
  · have hw := hw.2 hc
    refine zl zM118 q118_12 rfl ?_
    refine zgR (a := 1) zM118 q118_13 (by decide) g11_10 s0 rfl ?_
    refine zl zM118 q118_16 rfl ?_
    refine zcV zM118 q118_17 kl11_153 rfl rfl (Nat.le_of_ble_eq_true rfl) rfl zM11 (Nat.le_of_ble_eq_true rfl) (hw.mono (fun r0 h4 hr8 => ?_))
    obtain ⟨v3, rfl, hw⟩ := hr8
    show zP X (d + 1) 118 20 [some (.ref 0), some (.int a1), some (.int a2)] [.int v3] z_S0 h4 (zI A)
    refine zb1_ne zM118 q118_20 (tgt := 26) rfl (fun hc => ?_) (fun hc => ?_)
    · have hw := hw.2 hc
      refine zl zM118 q118_26 rfl ?_
      refine zgR (a := 1) zM118 q118_27 (by decide) g11_10 s0 rfl ?_
      refine zl zM118 q118_30 rfl ?_
      refine zl zM118 q118_31 rfl ?_
      refine zcV zM118 q118_32 kl11_397 rfl rfl (Nat.le_of_ble_eq_true rfl) rfl zM19 (Nat.le_of_ble_eq_true rfl) (hw.mono (fun r0 h6 hr7 => ?_))
      obtain ⟨v5, rfl, hw⟩ := hr7
      show zP X (d + 1) 118 35 [some (.ref 0), some (.int a1), some (.int a2)] [.int v5] z_S0 h6 (zI A)
      refine zb1_eq zM118 q118_35 (tgt := 50) rfl (fun hc => ?_) (fun hc => ?_)
      · have hw := hw.1 hc
        refine zkB zM118 q118_50 kBm13 ?_
        exact zri zM118 q118_52 rfl rfl hw
      · have hw := hw.2 hc
        refine zl zM118 q118_38 rfl ?_
        refine zgR (a := 1) zM118 q118_39 (by decide) g11_10 s0 rfl ?_
        refine zgR (a := 6) zM118 q118_42 (by decide) g11_165 s1 rfl ?_
        refine zl zM118 q118_45 rfl ?_
        obtain ⟨hb, hw⟩ := hw
        refine ziA zM118 q118_46 (by decide) s6 hb (v := (h6 6 (Int32.toNatClampNeg a1))) rfl ?_
        refine zl zM118 q118_47 (pc' := 52) (ls' := _) (st' := _) rfl ?_
        exact zri zM118 q118_52 rfl rfl hw
    · have hw := hw.1 hc
      refine zkB zM118 q118_23 kBm11 ?_
      exact zri zM118 q118_25 rfl rfl hw
  · have hw := hw.1 hc
    refine zkB zM118 q118_9 kBm2 ?_
    exact zri zM118 q118_11 rfl rfl hw
-- X11_within
theorem b119 {X : Option (List Int32)} {d : Nat} {h : zH} {A : Int32 → zH → Prop} {a1 : Int32} {a2 : Int32} {a3 : Int32} (hw : ((a1 < a2 → A 0 h) ∧ (¬ a1 < a2 → ((a3 < a1 → A 0 h) ∧ (¬ a3 < a1 → A 1 h))))) : zP X d 119 0 (z_ent [.int a1, .int a2, .int a3] 3) [] z_S0 h (zI A) := by
  show zP X d 119 0 [some (.int a1), some (.int a2), some (.int a3)] [] z_S0 h (zI A)
  refine zl zM119 q119_0 rfl ?_
  refine zl zM119 q119_1 rfl ?_
  refine zb2_lt zM119 q119_2 (tgt := 14) rfl (fun hc => ?_) (fun hc => ?_)
  · have hw := hw.1 hc
    refine zkI zM119 q119_14 kI0 ?_
    exact zri zM119 q119_15 rfl rfl hw
  · have hw := hw.2 hc
    refine zl zM119 q119_5 rfl ?_
    refine zl zM119 q119_6 rfl ?_
    refine zb2_gt zM119 q119_7 (tgt := 14) rfl (fun hc => ?_) (fun hc => ?_)
    · have hw := hw.1 hc
      refine zkI zM119 q119_14 kI0 ?_
      exact zri zM119 q119_15 rfl rfl hw
    · have hw := hw.2 hc
      refine zkI zM119 q119_10 kI1 ?_
      refine zl zM119 q119_11 (pc' := 15) (ls' := _) (st' := _) rfl ?_
      exact zri zM119 q119_15 rfl rfl hw
-- X11_isParish
theorem b120 {X : Option (List Int32)} {d : Nat} {h : zH} {A : Int32 → zH → Prop} {a1 : Int32} (hw : zP X d 119 0 (z_ent [.int a1, .int 0, .int 5] 3) [] z_S0 h (zI fun v1 h2 => ((v1 = 0 ∨ v1 = 1) ∧ A v1 h2))) : zP X (d + 1) 120 0 (z_ent [.int a1] 1) [] z_S0 h (zI A) := by
  show zP X (d + 1) 120 0 [some (.int a1)] [] z_S0 h (zI A)
  refine zl zM120 q120_0 rfl ?_
  refine zkI zM120 q120_1 kI0 ?_
  refine zkI zM120 q120_2 kI5 ?_
  refine zcS zM120 q120_3 ky11_128 kl11_128 (by decide) rfl (Nat.le_of_ble_eq_true rfl) zM119 (Nat.le_of_ble_eq_true rfl) (hw.mono (fun r0 h2 hr3 => ?_))
  obtain ⟨v1, rfl, hw⟩ := hr3
  show zP X (d + 1) 120 6 [some (.int a1)] [.int v1] z_S0 h2 (zI A)
  exact zri zM120 q120_6 rfl (z_nb hw.1) hw.2
-- X11_isHeap
theorem b121 {X : Option (List Int32)} {d : Nat} {h : zH} {A : Int32 → zH → Prop} {a1 : Int32} (hw : zP X d 119 0 (z_ent [.int a1, .int 0, .int 4] 3) [] z_S0 h (zI fun v1 h2 => ((v1 = 0 ∨ v1 = 1) ∧ A v1 h2))) : zP X (d + 1) 121 0 (z_ent [.int a1] 1) [] z_S0 h (zI A) := by
  show zP X (d + 1) 121 0 [some (.int a1)] [] z_S0 h (zI A)
  refine zl zM121 q121_0 rfl ?_
  refine zkI zM121 q121_1 kI0 ?_
  refine zkI zM121 q121_2 kI4 ?_
  refine zcS zM121 q121_3 ky11_128 kl11_128 (by decide) rfl (Nat.le_of_ble_eq_true rfl) zM119 (Nat.le_of_ble_eq_true rfl) (hw.mono (fun r0 h2 hr3 => ?_))
  obtain ⟨v1, rfl, hw⟩ := hr3
  show zP X (d + 1) 121 6 [some (.int a1)] [.int v1] z_S0 h2 (zI A)
  exact zri zM121 q121_6 rfl (z_nb hw.1) hw.2
-- X11_isSort
theorem b122 {X : Option (List Int32)} {d : Nat} {h : zH} {A : Int32 → zH → Prop} {a1 : Int32} (hw : zP X d 119 0 (z_ent [.int a1, .int 0, .int 3] 3) [] z_S0 h (zI fun v1 h2 => ((v1 = 0 ∨ v1 = 1) ∧ A v1 h2))) : zP X (d + 1) 122 0 (z_ent [.int a1] 1) [] z_S0 h (zI A) := by
  show zP X (d + 1) 122 0 [some (.int a1)] [] z_S0 h (zI A)
  refine zl zM122 q122_0 rfl ?_
  refine zkI zM122 q122_1 kI0 ?_
  refine zkI zM122 q122_2 kI3 ?_
  refine zcS zM122 q122_3 ky11_128 kl11_128 (by decide) rfl (Nat.le_of_ble_eq_true rfl) zM119 (Nat.le_of_ble_eq_true rfl) (hw.mono (fun r0 h2 hr3 => ?_))
  obtain ⟨v1, rfl, hw⟩ := hr3
  show zP X (d + 1) 122 6 [some (.int a1)] [.int v1] z_S0 h2 (zI A)
  exact zri zM122 q122_6 rfl (z_nb hw.1) hw.2
-- X11_isHand
theorem b123 {X : Option (List Int32)} {d : Nat} {h : zH} {A : Int32 → zH → Prop} {a1 : Int32} (hw : zP X d 119 0 (z_ent [.int a1, .int 0, .int 9] 3) [] z_S0 h (zI fun v1 h2 => ((v1 = 0 ∨ v1 = 1) ∧ A v1 h2))) : zP X (d + 1) 123 0 (z_ent [.int a1] 1) [] z_S0 h (zI A) := by
  show zP X (d + 1) 123 0 [some (.int a1)] [] z_S0 h (zI A)
  refine zl zM123 q123_0 rfl ?_
  refine zkI zM123 q123_1 kI0 ?_
  refine zkB zM123 q123_2 kB9 ?_
  refine zcS zM123 q123_4 ky11_128 kl11_128 (by decide) rfl (Nat.le_of_ble_eq_true rfl) zM119 (Nat.le_of_ble_eq_true rfl) (hw.mono (fun r0 h2 hr3 => ?_))
  obtain ⟨v1, rfl, hw⟩ := hr3
  show zP X (d + 1) 123 7 [some (.int a1)] [.int v1] z_S0 h2 (zI A)
  exact zri zM123 q123_7 rfl (z_nb hw.1) hw.2
-- X11_isSheet
theorem b124 {X : Option (List Int32)} {d : Nat} {h : zH} {A : Int32 → zH → Prop} {a1 : Int32} (hw : zP X d 119 0 (z_ent [.int a1, .int 0, .int 3] 3) [] z_S0 h (zI fun v1 h2 => ((v1 = 0 ∨ v1 = 1) ∧ A v1 h2))) : zP X (d + 1) 124 0 (z_ent [.int a1] 1) [] z_S0 h (zI A) := by
  show zP X (d + 1) 124 0 [some (.int a1)] [] z_S0 h (zI A)
  refine zl zM124 q124_0 rfl ?_
  refine zkI zM124 q124_1 kI0 ?_
  refine zkI zM124 q124_2 kI3 ?_
  refine zcS zM124 q124_3 ky11_128 kl11_128 (by decide) rfl (Nat.le_of_ble_eq_true rfl) zM119 (Nat.le_of_ble_eq_true rfl) (hw.mono (fun r0 h2 hr3 => ?_))
  obtain ⟨v1, rfl, hw⟩ := hr3
  show zP X (d + 1) 124 6 [some (.int a1)] [.int v1] z_S0 h2 (zI A)
  exact zri zM124 q124_6 rfl (z_nb hw.1) hw.2
-- X11_isDay
theorem b125 {X : Option (List Int32)} {d : Nat} {h : zH} {A : Int32 → zH → Prop} {a1 : Int32} (hw : zP X d 119 0 (z_ent [.int a1, .int 0, .int 399] 3) [] z_S0 h (zI fun v1 h2 => ((v1 = 0 ∨ v1 = 1) ∧ A v1 h2))) : zP X (d + 1) 125 0 (z_ent [.int a1] 1) [] z_S0 h (zI A) := by
  show zP X (d + 1) 125 0 [some (.int a1)] [] z_S0 h (zI A)
  refine zl zM125 q125_0 rfl ?_
  refine zkI zM125 q125_1 kI0 ?_
  refine zkS zM125 q125_2 kS399 ?_
  refine zcS zM125 q125_5 ky11_128 kl11_128 (by decide) rfl (Nat.le_of_ble_eq_true rfl) zM119 (Nat.le_of_ble_eq_true rfl) (hw.mono (fun r0 h2 hr3 => ?_))
  obtain ⟨v1, rfl, hw⟩ := hr3
  show zP X (d + 1) 125 8 [some (.int a1)] [.int v1] z_S0 h2 (zI A)
  exact zri zM125 q125_8 rfl (z_nb hw.1) hw.2
-- X11_areDays
theorem b126 {X : Option (List Int32)} {d : Nat} {h : zH} {A : Int32 → zH → Prop} {a1 : Int32} {a2 : Int32} (hw : zP X d 125 0 (z_ent [.int a1] 1) [] z_S0 h (zI fun v1 h2 => ((v1 = 0 → A 0 h2) ∧ (¬ v1 = 0 → zP X d 125 0 (z_ent [.int a2] 1) [] z_S0 h2 (zI fun v3 h4 => ((v3 = 0 → A 0 h4) ∧ (¬ v3 = 0 → ((a2 < a1 → A 0 h4) ∧ (¬ a2 < a1 → A 1 h4))))))))) : zP X (d + 1) 126 0 (z_ent [.int a1, .int a2] 2) [] z_S0 h (zI A) := by
  show zP X (d + 1) 126 0 [some (.int a1), some (.int a2)] [] z_S0 h (zI A)
  refine zl zM126 q126_0 rfl ?_
  refine zcS zM126 q126_1 ky11_215 kl11_215 (by decide) rfl (Nat.le_of_ble_eq_true rfl) zM125 (Nat.le_of_ble_eq_true rfl) (hw.mono (fun r0 h2 hr6 => ?_))
  obtain ⟨v1, rfl, hw⟩ := hr6
  show zP X (d + 1) 126 4 [some (.int a1), some (.int a2)] [.int v1] z_S0 h2 (zI A)
  refine zb1_eq zM126 q126_4 (tgt := 23) rfl (fun hc => ?_) (fun hc => ?_)
  · have hw := hw.1 hc
    refine zkI zM126 q126_23 kI0 ?_
    exact zri zM126 q126_24 rfl rfl hw
  · have hw := hw.2 hc
    refine zl zM126 q126_7 rfl ?_
    refine zcS zM126 q126_8 ky11_215 kl11_215 (by decide) rfl (Nat.le_of_ble_eq_true rfl) zM125 (Nat.le_of_ble_eq_true rfl) (hw.mono (fun r0 h4 hr5 => ?_))
    obtain ⟨v3, rfl, hw⟩ := hr5
    show zP X (d + 1) 126 11 [some (.int a1), some (.int a2)] [.int v3] z_S0 h4 (zI A)
    refine zb1_eq zM126 q126_11 (tgt := 23) rfl (fun hc => ?_) (fun hc => ?_)
    · have hw := hw.1 hc
      refine zkI zM126 q126_23 kI0 ?_
      exact zri zM126 q126_24 rfl rfl hw
    · have hw := hw.2 hc
      refine zl zM126 q126_14 rfl ?_
      refine zl zM126 q126_15 rfl ?_
      refine zb2_gt zM126 q126_16 (tgt := 23) rfl (fun hc => ?_) (fun hc => ?_)
      · have hw := hw.1 hc
        refine zkI zM126 q126_23 kI0 ?_
        exact zri zM126 q126_24 rfl rfl hw
      · have hw := hw.2 hc
        refine zkI zM126 q126_19 kI1 ?_
        refine zl zM126 q126_20 (pc' := 24) (ls' := _) (st' := _) rfl ?_
        exact zri zM126 q126_24 rfl rfl hw
-- X11_comesTo
theorem b127 {X : Option (List Int32)} {d : Nat} {h : zH} {A : Int32 → zH → Prop} {a1 : Int32} {a2 : Int32} (hw : A ((a1 * a2) / 100) h) : zP X d 127 0 (z_ent [.int a1, .int a2] 2) [] z_S0 h (zI A) := by
  show zP X d 127 0 [some (.int a1), some (.int a2)] [] z_S0 h (zI A)
  refine zl zM127 q127_0 rfl ?_
  refine zl zM127 q127_1 rfl ?_
  refine zl zM127 q127_2 (pc' := 3) (st' := .int (a1 * a2) :: _) rfl ?_
  refine zkB zM127 q127_3 kB100 ?_
  refine zl zM127 q127_5 (pc' := 6) (st' := .int ((a1 * a2) / 100) :: _) rfl ?_
  exact zri zM127 q127_6 rfl rfl hw
-- X12_isIn
theorem b128 {X : Option (List Int32)} {d : Nat} {h : zH} {A : Int32 → zH → Prop} {a1 : Int64} {a2 : Int64} {a3 : Int64} (hw : (((lg_cmp a1 a2) < 0 → A 0 h) ∧ (¬ (lg_cmp a1 a2) < 0 → (((0 : Int32) < (lg_cmp a1 a3) → A 0 h) ∧ (¬ (0 : Int32) < (lg_cmp a1 a3) → A 1 h))))) : zP X d 128 0 (z_ent [.long a1, .long a2, .long a3] 6) [] z_S0 h (zI A) := by
  show zP X d 128 0 [some (.long a1), none, some (.long a2), none, some (.long a3), none] [] z_S0 h (zI A)
  refine zl zM128 q128_0 rfl ?_
  refine zl zM128 q128_1 rfl ?_
  refine zl zM128 q128_2 (pc' := 3) (st' := .int (lg_cmp a1 a2) :: _) rfl ?_
  refine zb1_lt zM128 q128_3 (tgt := 17) rfl (fun hc => ?_) (fun hc => ?_)
  · have hw := hw.1 hc
    refine zkI zM128 q128_17 kI0 ?_
    exact zri zM128 q128_18 rfl rfl hw
  · have hw := hw.2 hc
    refine zl zM128 q128_6 rfl ?_
    refine zl zM128 q128_7 rfl ?_
    refine zl zM128 q128_9 (pc' := 10) (st' := .int (lg_cmp a1 a3) :: _) rfl ?_
    refine zb1_gt zM128 q128_10 (tgt := 17) rfl (fun hc => ?_) (fun hc => ?_)
    · have hw := hw.1 hc
      refine zkI zM128 q128_17 kI0 ?_
      exact zri zM128 q128_18 rfl rfl hw
    · have hw := hw.2 hc
      refine zkI zM128 q128_13 kI1 ?_
      refine zl zM128 q128_14 (pc' := 18) (ls' := _) (st' := _) rfl ?_
      exact zri zM128 q128_18 rfl rfl hw
-- X12_pass
theorem b129 {X : Option (List Int32)} {d : Nat} {h : zH} {A : Int32 → zH → Prop} {a1 : Int32} (hw : zP X d 128 0 (z_ent [.long (Int32.toInt64 a1), .long 1, .long 60] 6) [] z_S0 h (zI fun v1 h2 => ((v1 = 0 → A (-2) h2) ∧ (¬ v1 = 0 → (((399 : Int32) < ((h2 82 0) + a1) → A (-4) h2) ∧ (¬ (399 : Int32) < ((h2 82 0) + a1) → A ((h2 82 0) + a1) (z_up h2 82 0 ((h2 82 0) + a1)))))))) : zP X (d + 1) 129 0 (z_ent [.ref 82, .int a1] 2) [] z_S0 h (zI A) := by
  show zP X (d + 1) 129 0 [some (.ref 82), some (.int a1)] [] z_S0 h (zI A)
  refine zl zM129 q129_0 rfl ?_
  refine zl zM129 q129_1 (pc' := 2) (st' := .long (Int32.toInt64 a1) :: _) rfl ?_
  refine zkL (v := 1) zM129 q129_2 rfl ?_
  refine zkJ zM129 q129_3 kc12_1 ?_
  refine zcS zM129 q129_6 ky12_3 kl12_3 (by decide) rfl (Nat.le_of_ble_eq_true rfl) zM128 (Nat.le_of_ble_eq_true rfl) (hw.mono (fun r0 h2 hr3 => ?_))
  obtain ⟨v1, rfl, hw⟩ := hr3
  show zP X (d + 1) 129 9 [some (.ref 82), some (.int a1)] [.int v1] z_S0 h2 (zI A)
  refine zb1_ne zM129 q129_9 (tgt := 15) rfl (fun hc => ?_) (fun hc => ?_)
  · have hw := hw.2 hc
    refine zl zM129 q129_15 rfl ?_
    refine zgI zM129 q129_16 (by decide) g12_9 s82 rfl (v := (h2 82 0)) rfl ?_
    refine zl zM129 q129_19 rfl ?_
    refine zl zM129 q129_20 (pc' := 21) (st' := .int ((h2 82 0) + a1) :: _) rfl ?_
    refine zkS zM129 q129_21 kS399 ?_
    refine zb2_le zM129 q129_24 (tgt := 30) rfl (fun hc => ?_) (fun hc => ?_)
    · have hw := hw.2 hc
      refine zl zM129 q129_30 rfl ?_
      refine zl zM129 q129_31 rfl ?_
      refine zgI zM129 q129_32 (by decide) g12_9 s82 rfl (v := (h2 82 0)) rfl ?_
      refine zl zM129 q129_35 rfl ?_
      refine zl zM129 q129_36 (pc' := 37) (st' := .int ((h2 82 0) + a1) :: _) rfl ?_
      refine zpi zM129 q129_37 (by decide) g12_9 s82 rfl rfl ?_
      refine zl zM129 q129_40 rfl ?_
      refine zgI zM129 q129_41 (by decide) g12_9 s82 rfl (v := ((h2 82 0) + a1)) rfl ?_
      exact zri zM129 q129_44 rfl rfl hw
    · have hw := hw.1 hc
      refine zkB zM129 q129_27 kBm4 ?_
      exact zri zM129 q129_29 rfl rfl hw
  · have hw := hw.1 hc
    refine zkB zM129 q129_12 kBm2 ?_
    exact zri zM129 q129_14 rfl rfl hw
-- X12_isDay
theorem b130 {X : Option (List Int32)} {d : Nat} {h : zH} {A : Int32 → zH → Prop} {a1 : Int32} (hw : zP X d 128 0 (z_ent [.long (Int32.toInt64 a1), .long 0, .long 399] 6) [] z_S0 h (zI fun v1 h2 => ((v1 = 0 ∨ v1 = 1) ∧ A v1 h2))) : zP X (d + 1) 130 0 (z_ent [.int a1] 1) [] z_S0 h (zI A) := by
  show zP X (d + 1) 130 0 [some (.int a1)] [] z_S0 h (zI A)
  refine zl zM130 q130_0 rfl ?_
  refine zl zM130 q130_1 (pc' := 2) (st' := .long (Int32.toInt64 a1) :: _) rfl ?_
  refine zkL (v := 0) zM130 q130_2 rfl ?_
  refine zkJ zM130 q130_3 kc12_13 ?_
  refine zcS zM130 q130_6 ky12_3 kl12_3 (by decide) rfl (Nat.le_of_ble_eq_true rfl) zM128 (Nat.le_of_ble_eq_true rfl) (hw.mono (fun r0 h2 hr3 => ?_))
  obtain ⟨v1, rfl, hw⟩ := hr3
  show zP X (d + 1) 130 9 [some (.int a1)] [.int v1] z_S0 h2 (zI A)
  exact zri zM130 q130_9 rfl (z_nb hw.1) hw.2
-- X12_isParish
theorem b131 {X : Option (List Int32)} {d : Nat} {h : zH} {A : Int32 → zH → Prop} {a1 : Int32} (hw : zP X d 128 0 (z_ent [.long (Int32.toInt64 a1), .long 0, .long 5] 6) [] z_S0 h (zI fun v1 h2 => ((v1 = 0 ∨ v1 = 1) ∧ A v1 h2))) : zP X (d + 1) 131 0 (z_ent [.int a1] 1) [] z_S0 h (zI A) := by
  show zP X (d + 1) 131 0 [some (.int a1)] [] z_S0 h (zI A)
  refine zl zM131 q131_0 rfl ?_
  refine zl zM131 q131_1 (pc' := 2) (st' := .long (Int32.toInt64 a1) :: _) rfl ?_
  refine zkL (v := 0) zM131 q131_2 rfl ?_
  refine zkJ zM131 q131_3 kc12_15 ?_
  refine zcS zM131 q131_6 ky12_3 kl12_3 (by decide) rfl (Nat.le_of_ble_eq_true rfl) zM128 (Nat.le_of_ble_eq_true rfl) (hw.mono (fun r0 h2 hr3 => ?_))
  obtain ⟨v1, rfl, hw⟩ := hr3
  show zP X (d + 1) 131 9 [some (.int a1)] [.int v1] z_S0 h2 (zI A)
  exact zri zM131 q131_9 rfl (z_nb hw.1) hw.2
-- X12_isHeap
theorem b132 {X : Option (List Int32)} {d : Nat} {h : zH} {A : Int32 → zH → Prop} {a1 : Int32} (hw : zP X d 128 0 (z_ent [.long (Int32.toInt64 a1), .long 0, .long 4] 6) [] z_S0 h (zI fun v1 h2 => ((v1 = 0 ∨ v1 = 1) ∧ A v1 h2))) : zP X (d + 1) 132 0 (z_ent [.int a1] 1) [] z_S0 h (zI A) := by
  show zP X (d + 1) 132 0 [some (.int a1)] [] z_S0 h (zI A)
  refine zl zM132 q132_0 rfl ?_
  refine zl zM132 q132_1 (pc' := 2) (st' := .long (Int32.toInt64 a1) :: _) rfl ?_
  refine zkL (v := 0) zM132 q132_2 rfl ?_
  refine zkJ zM132 q132_3 kc12_17 ?_
  refine zcS zM132 q132_6 ky12_3 kl12_3 (by decide) rfl (Nat.le_of_ble_eq_true rfl) zM128 (Nat.le_of_ble_eq_true rfl) (hw.mono (fun r0 h2 hr3 => ?_))
  obtain ⟨v1, rfl, hw⟩ := hr3
  show zP X (d + 1) 132 9 [some (.int a1)] [.int v1] z_S0 h2 (zI A)
  exact zri zM132 q132_9 rfl (z_nb hw.1) hw.2
-- X12_isSort
theorem b133 {X : Option (List Int32)} {d : Nat} {h : zH} {A : Int32 → zH → Prop} {a1 : Int32} (hw : zP X d 128 0 (z_ent [.long (Int32.toInt64 a1), .long 0, .long 3] 6) [] z_S0 h (zI fun v1 h2 => ((v1 = 0 ∨ v1 = 1) ∧ A v1 h2))) : zP X (d + 1) 133 0 (z_ent [.int a1] 1) [] z_S0 h (zI A) := by
  show zP X (d + 1) 133 0 [some (.int a1)] [] z_S0 h (zI A)
  refine zl zM133 q133_0 rfl ?_
  refine zl zM133 q133_1 (pc' := 2) (st' := .long (Int32.toInt64 a1) :: _) rfl ?_
  refine zkL (v := 0) zM133 q133_2 rfl ?_
  refine zkJ zM133 q133_3 kc12_19 ?_
  refine zcS zM133 q133_6 ky12_3 kl12_3 (by decide) rfl (Nat.le_of_ble_eq_true rfl) zM128 (Nat.le_of_ble_eq_true rfl) (hw.mono (fun r0 h2 hr3 => ?_))
  obtain ⟨v1, rfl, hw⟩ := hr3
  show zP X (d + 1) 133 9 [some (.int a1)] [.int v1] z_S0 h2 (zI A)
  exact zri zM133 q133_9 rfl (z_nb hw.1) hw.2
-- X12_isCart
theorem b134 {X : Option (List Int32)} {d : Nat} {h : zH} {A : Int32 → zH → Prop} {a1 : Int32} (hw : ((a1 < 0 → A 0 h) ∧ (¬ a1 < 0 → ((a1 < (h 82 3) → A 1 h) ∧ (¬ a1 < (h 82 3) → A 0 h))))) : zP X d 134 0 (z_ent [.ref 82, .int a1] 2) [] z_S0 h (zI A) := by
  show zP X d 134 0 [some (.ref 82), some (.int a1)] [] z_S0 h (zI A)
  refine zl zM134 q134_0 rfl ?_
  refine zb1_lt zM134 q134_1 (tgt := 16) rfl (fun hc => ?_) (fun hc => ?_)
  · have hw := hw.1 hc
    refine zkI zM134 q134_16 kI0 ?_
    exact zri zM134 q134_17 rfl rfl hw
  · have hw := hw.2 hc
    refine zl zM134 q134_4 rfl ?_
    refine zl zM134 q134_5 rfl ?_
    refine zgI zM134 q134_6 (by decide) g12_21 s82 rfl (v := (h 82 3)) rfl ?_
    refine zb2_ge zM134 q134_9 (tgt := 16) rfl (fun hc => ?_) (fun hc => ?_)
    · have hw := hw.2 hc
      refine zkI zM134 q134_16 kI0 ?_
      exact zri zM134 q134_17 rfl rfl hw
    · have hw := hw.1 hc
      refine zkI zM134 q134_12 kI1 ?_
      refine zl zM134 q134_13 (pc' := 17) (ls' := _) (st' := _) rfl ?_
      exact zri zM134 q134_17 rfl rfl hw
-- X12_cart
theorem b135 {X : Option (List Int32)} {d : Nat} {h : zH} {A : Int32 → zH → Prop} {a1 : Int32} {a2 : Int32} {a3 : Int32} {a4 : Int32} {a5 : Int32} {a6 : Int32} (hw : zP X d 128 0 (z_ent [.long (Int32.toInt64 a1), .long 0, .long 5] 6) [] z_S0 h (zI fun v1 h2 => ((v1 = 0 → A (-2) h2) ∧ (¬ v1 = 0 → zP X d 131 0 (z_ent [.int a2] 1) [] z_S0 h2 (zI fun v3 h4 => ((v3 = 0 → A (-2) h4) ∧ (¬ v3 = 0 → zP X d 132 0 (z_ent [.int a3] 1) [] z_S0 h4 (zI fun v5 h6 => ((v5 = 0 → A (-2) h6) ∧ (¬ v5 = 0 → zP X d 128 0 (z_ent [.long (Int32.toInt64 a4), .long 1, .long 9999] 6) [] z_S0 h6 (zI fun v7 h8 => ((v7 = 0 → A (-2) h8) ∧ (¬ v7 = 0 → zP X d 128 0 (z_ent [.long (Int32.toInt64 a5), .long 0, .long 90] 6) [] z_S0 h8 (zI fun v9 h10 => ((v9 = 0 → A (-2) h10) ∧ (¬ v9 = 0 → zP X d 128 0 (z_ent [.long (Int32.toInt64 a6), .long 0, .long 9999] 6) [] z_S0 h10 (zI fun v11 h12 => ((v11 = 0 → A (-2) h12) ∧ (¬ v11 = 0 → (((h12 82 3) = 40 → A (-4) h12) ∧ (¬ (h12 82 3) = 40 → (z_ib (h12 82 3) 40 ∧ (z_ib (h12 82 3) 40 ∧ (z_ib (h12 82 3) 40 ∧ (z_ib (h12 82 3) 40 ∧ (z_ib (h12 82 3) 40 ∧ (z_ib (h12 82 3) 40 ∧ (z_ib (h12 82 3) 40 ∧ (z_ib (h12 82 3) 40 ∧ (z_ib (h12 82 3) 40 ∧ (z_ib (h12 82 3) 40 ∧ A (((h12 82 3) + 1) - 1) (z_up (z_up (z_up (z_up (z_up (z_up (z_up (z_up (z_up (z_up h12 85 (Int32.toNatClampNeg (h12 82 3)) a1) 86 (Int32.toNatClampNeg (h12 82 3)) a2) 87 (Int32.toNatClampNeg (h12 82 3)) a3) 88 (Int32.toNatClampNeg (h12 82 3)) a4) 89 (Int32.toNatClampNeg (h12 82 3)) a5) 90 (Int32.toNatClampNeg (h12 82 3)) a6) 91 (Int32.toNatClampNeg (h12 82 3)) (h12 82 0)) 92 (Int32.toNatClampNeg (h12 82 3)) (a4 - ((a4 * a5) / 100))) 93 (Int32.toNatClampNeg (h12 82 3)) ((z_up (z_up (z_up (z_up (z_up (z_up (z_up (z_up h12 85 (Int32.toNatClampNeg (h12 82 3)) a1) 86 (Int32.toNatClampNeg (h12 82 3)) a2) 87 (Int32.toNatClampNeg (h12 82 3)) a3) 88 (Int32.toNatClampNeg (h12 82 3)) a4) 89 (Int32.toNatClampNeg (h12 82 3)) a5) 90 (Int32.toNatClampNeg (h12 82 3)) a6) 91 (Int32.toNatClampNeg (h12 82 3)) (h12 82 0)) 92 (Int32.toNatClampNeg (h12 82 3)) (a4 - ((a4 * a5) / 100))) 92 (Int32.toNatClampNeg (h12 82 3)))) 82 3 ((h12 82 3) + 1))))))))))))))))))))))))))))))))) : zP X (d + 1) 135 0 (z_ent [.ref 82, .int a1, .int a2, .int a3, .int a4, .int a5, .int a6] 7) [] z_S0 h (zI A) := by
  show zP X (d + 1) 135 0 [some (.ref 82), some (.int a1), some (.int a2), some (.int a3), some (.int a4), some (.int a5), some (.int a6)] [] z_S0 h (zI A)
  refine zl zM135 q135_0 rfl ?_
  refine zl zM135 q135_1 (pc' := 2) (st' := .long (Int32.toInt64 a1) :: _) rfl ?_
  refine zkL (v := 0) zM135 q135_2 rfl ?_
  refine zkJ zM135 q135_3 kc12_15 ?_
  refine zcS zM135 q135_6 ky12_3 kl12_3 (by decide) rfl (Nat.le_of_ble_eq_true rfl) zM128 (Nat.le_of_ble_eq_true rfl) (hw.mono (fun r0 h2 hr18 => ?_))
  obtain ⟨v1, rfl, hw⟩ := hr18
  show zP X (d + 1) 135 9 [some (.ref 82), some (.int a1), some (.int a2), some (.int a3), some (.int a4), some (.int a5), some (.int a6)] [.int v1] z_S0 h2 (zI A)
  refine zb1_eq zM135 q135_9 (tgt := 65) rfl (fun hc => ?_) (fun hc => ?_)
  · have hw := hw.1 hc
    refine zkB zM135 q135_65 kBm2 ?_
    exact zri zM135 q135_67 rfl rfl hw
  · have hw := hw.2 hc
    refine zl zM135 q135_12 rfl ?_
    refine zcS zM135 q135_13 ky12_24 kl12_24 (by decide) rfl (Nat.le_of_ble_eq_true rfl) zM131 (Nat.le_of_ble_eq_true rfl) (hw.mono (fun r0 h4 hr17 => ?_))
    obtain ⟨v3, rfl, hw⟩ := hr17
    show zP X (d + 1) 135 16 [some (.ref 82), some (.int a1), some (.int a2), some (.int a3), some (.int a4), some (.int a5), some (.int a6)] [.int v3] z_S0 h4 (zI A)
    refine zb1_eq zM135 q135_16 (tgt := 65) rfl (fun hc => ?_) (fun hc => ?_)
    · have hw := hw.1 hc
      refine zkB zM135 q135_65 kBm2 ?_
      exact zri zM135 q135_67 rfl rfl hw
    · have hw := hw.2 hc
      refine zl zM135 q135_19 rfl ?_
      refine zcS zM135 q135_20 ky12_28 kl12_28 (by decide) rfl (Nat.le_of_ble_eq_true rfl) zM132 (Nat.le_of_ble_eq_true rfl) (hw.mono (fun r0 h6 hr16 => ?_))
      obtain ⟨v5, rfl, hw⟩ := hr16
      show zP X (d + 1) 135 23 [some (.ref 82), some (.int a1), some (.int a2), some (.int a3), some (.int a4), some (.int a5), some (.int a6)] [.int v5] z_S0 h6 (zI A)
      refine zb1_eq zM135 q135_23 (tgt := 65) rfl (fun hc => ?_) (fun hc => ?_)
      · have hw := hw.1 hc
        refine zkB zM135 q135_65 kBm2 ?_
        exact zri zM135 q135_67 rfl rfl hw
      · have hw := hw.2 hc
        refine zl zM135 q135_26 rfl ?_
        refine zl zM135 q135_28 (pc' := 29) (st' := .long (Int32.toInt64 a4) :: _) rfl ?_
        refine zkL (v := 1) zM135 q135_29 rfl ?_
        refine zkJ zM135 q135_30 kc12_31 ?_
        refine zcS zM135 q135_33 ky12_3 kl12_3 (by decide) rfl (Nat.le_of_ble_eq_true rfl) zM128 (Nat.le_of_ble_eq_true rfl) (hw.mono (fun r0 h8 hr15 => ?_))
        obtain ⟨v7, rfl, hw⟩ := hr15
        show zP X (d + 1) 135 36 [some (.ref 82), some (.int a1), some (.int a2), some (.int a3), some (.int a4), some (.int a5), some (.int a6)] [.int v7] z_S0 h8 (zI A)
        refine zb1_eq zM135 q135_36 (tgt := 65) rfl (fun hc => ?_) (fun hc => ?_)
        · have hw := hw.1 hc
          refine zkB zM135 q135_65 kBm2 ?_
          exact zri zM135 q135_67 rfl rfl hw
        · have hw := hw.2 hc
          refine zl zM135 q135_39 rfl ?_
          refine zl zM135 q135_41 (pc' := 42) (st' := .long (Int32.toInt64 a5) :: _) rfl ?_
          refine zkL (v := 0) zM135 q135_42 rfl ?_
          refine zkJ zM135 q135_43 kc12_33 ?_
          refine zcS zM135 q135_46 ky12_3 kl12_3 (by decide) rfl (Nat.le_of_ble_eq_true rfl) zM128 (Nat.le_of_ble_eq_true rfl) (hw.mono (fun r0 h10 hr14 => ?_))
          obtain ⟨v9, rfl, hw⟩ := hr14
          show zP X (d + 1) 135 49 [some (.ref 82), some (.int a1), some (.int a2), some (.int a3), some (.int a4), some (.int a5), some (.int a6)] [.int v9] z_S0 h10 (zI A)
          refine zb1_eq zM135 q135_49 (tgt := 65) rfl (fun hc => ?_) (fun hc => ?_)
          · have hw := hw.1 hc
            refine zkB zM135 q135_65 kBm2 ?_
            exact zri zM135 q135_67 rfl rfl hw
          · have hw := hw.2 hc
            refine zl zM135 q135_52 rfl ?_
            refine zl zM135 q135_54 (pc' := 55) (st' := .long (Int32.toInt64 a6) :: _) rfl ?_
            refine zkL (v := 0) zM135 q135_55 rfl ?_
            refine zkJ zM135 q135_56 kc12_31 ?_
            refine zcS zM135 q135_59 ky12_3 kl12_3 (by decide) rfl (Nat.le_of_ble_eq_true rfl) zM128 (Nat.le_of_ble_eq_true rfl) (hw.mono (fun r0 h12 hr13 => ?_))
            obtain ⟨v11, rfl, hw⟩ := hr13
            show zP X (d + 1) 135 62 [some (.ref 82), some (.int a1), some (.int a2), some (.int a3), some (.int a4), some (.int a5), some (.int a6)] [.int v11] z_S0 h12 (zI A)
            refine zb1_ne zM135 q135_62 (tgt := 68) rfl (fun hc => ?_) (fun hc => ?_)
            · have hw := hw.2 hc
              refine zl zM135 q135_68 rfl ?_
              refine zgI zM135 q135_69 (by decide) g12_21 s82 rfl (v := (h12 82 3)) rfl ?_
              refine zkB zM135 q135_72 kB40 ?_
              refine zb2_ne zM135 q135_74 (tgt := 80) rfl (fun hc => ?_) (fun hc => ?_)
              · have hw := hw.2 hc
                refine zl zM135 q135_80 rfl ?_
                refine zgR (a := 85) zM135 q135_81 (by decide) g12_35 s82 rfl ?_
                refine zl zM135 q135_84 rfl ?_
                refine zgI zM135 q135_85 (by decide) g12_21 s82 rfl (v := (h12 82 3)) rfl ?_
                refine zl zM135 q135_88 rfl ?_
                obtain ⟨hb, hw⟩ := hw
                refine ziS zM135 q135_89 (by decide) s85 hb rfl ?_
                refine zl zM135 q135_90 rfl ?_
                refine zgR (a := 86) zM135 q135_91 (by decide) g12_39 s82 rfl ?_
                refine zl zM135 q135_94 rfl ?_
                refine zgI zM135 q135_95 (by decide) g12_21 s82 rfl (v := (h12 82 3)) rfl ?_
                refine zl zM135 q135_98 rfl ?_
                obtain ⟨hb, hw⟩ := hw
                refine ziS zM135 q135_99 (by decide) s86 hb rfl ?_
                refine zl zM135 q135_100 rfl ?_
                refine zgR (a := 87) zM135 q135_101 (by decide) g12_42 s82 rfl ?_
                refine zl zM135 q135_104 rfl ?_
                refine zgI zM135 q135_105 (by decide) g12_21 s82 rfl (v := (h12 82 3)) rfl ?_
                refine zl zM135 q135_108 rfl ?_
                obtain ⟨hb, hw⟩ := hw
                refine ziS zM135 q135_109 (by decide) s87 hb rfl ?_
                refine zl zM135 q135_110 rfl ?_
                refine zgR (a := 88) zM135 q135_111 (by decide) g12_45 s82 rfl ?_
                refine zl zM135 q135_114 rfl ?_
                refine zgI zM135 q135_115 (by decide) g12_21 s82 rfl (v := (h12 82 3)) rfl ?_
                refine zl zM135 q135_118 rfl ?_
                obtain ⟨hb, hw⟩ := hw
                refine ziS zM135 q135_120 (by decide) s88 hb rfl ?_
                refine zl zM135 q135_121 rfl ?_
                refine zgR (a := 89) zM135 q135_122 (by decide) g12_48 s82 rfl ?_
                refine zl zM135 q135_125 rfl ?_
                refine zgI zM135 q135_126 (by decide) g12_21 s82 rfl (v := (h12 82 3)) rfl ?_
                refine zl zM135 q135_129 rfl ?_
                obtain ⟨hb, hw⟩ := hw
                refine ziS zM135 q135_131 (by decide) s89 hb rfl ?_
                refine zl zM135 q135_132 rfl ?_
                refine zgR (a := 90) zM135 q135_133 (by decide) g12_51 s82 rfl ?_
                refine zl zM135 q135_136 rfl ?_
                refine zgI zM135 q135_137 (by decide) g12_21 s82 rfl (v := (h12 82 3)) rfl ?_
                refine zl zM135 q135_140 rfl ?_
                obtain ⟨hb, hw⟩ := hw
                refine ziS zM135 q135_142 (by decide) s90 hb rfl ?_
                refine zl zM135 q135_143 rfl ?_
                refine zgR (a := 91) zM135 q135_144 (by decide) g12_54 s82 rfl ?_
                refine zl zM135 q135_147 rfl ?_
                refine zgI zM135 q135_148 (by decide) g12_21 s82 rfl (v := (h12 82 3)) rfl ?_
                refine zl zM135 q135_151 rfl ?_
                refine zgI zM135 q135_152 (by decide) g12_9 s82 rfl (v := (h12 82 0)) rfl ?_
                obtain ⟨hb, hw⟩ := hw
                refine ziS zM135 q135_155 (by decide) s91 hb rfl ?_
                refine zl zM135 q135_156 rfl ?_
                refine zgR (a := 92) zM135 q135_157 (by decide) g12_57 s82 rfl ?_
                refine zl zM135 q135_160 rfl ?_
                refine zgI zM135 q135_161 (by decide) g12_21 s82 rfl (v := (h12 82 3)) rfl ?_
                refine zl zM135 q135_164 rfl ?_
                refine zl zM135 q135_166 rfl ?_
                refine zl zM135 q135_168 rfl ?_
                refine zl zM135 q135_170 (pc' := 171) (st' := .int (a4 * a5) :: _) rfl ?_
                refine zkB zM135 q135_171 kB100 ?_
                refine zl zM135 q135_173 (pc' := 174) (st' := .int ((a4 * a5) / 100) :: _) rfl ?_
                refine zl zM135 q135_174 (pc' := 175) (st' := .int (a4 - ((a4 * a5) / 100)) :: _) rfl ?_
                obtain ⟨hb, hw⟩ := hw
                refine ziS zM135 q135_175 (by decide) s92 hb rfl ?_
                refine zl zM135 q135_176 rfl ?_
                refine zgR (a := 93) zM135 q135_177 (by decide) g12_60 s82 rfl ?_
                refine zl zM135 q135_180 rfl ?_
                refine zgI zM135 q135_181 (by decide) g12_21 s82 rfl (v := (h12 82 3)) rfl ?_
                refine zl zM135 q135_184 rfl ?_
                refine zgR (a := 92) zM135 q135_185 (by decide) g12_57 s82 rfl ?_
                refine zl zM135 q135_188 rfl ?_
                refine zgI zM135 q135_189 (by decide) g12_21 s82 rfl (v := (h12 82 3)) rfl ?_
                obtain ⟨hb, hw⟩ := hw
                refine ziA zM135 q135_192 (by decide) s92 hb (v := ((z_up (z_up (z_up (z_up (z_up (z_up (z_up (z_up h12 85 (Int32.toNatClampNeg (h12 82 3)) a1) 86 (Int32.toNatClampNeg (h12 82 3)) a2) 87 (Int32.toNatClampNeg (h12 82 3)) a3) 88 (Int32.toNatClampNeg (h12 82 3)) a4) 89 (Int32.toNatClampNeg (h12 82 3)) a5) 90 (Int32.toNatClampNeg (h12 82 3)) a6) 91 (Int32.toNatClampNeg (h12 82 3)) (h12 82 0)) 92 (Int32.toNatClampNeg (h12 82 3)) (a4 - ((a4 * a5) / 100))) 92 (Int32.toNatClampNeg (h12 82 3)))) rfl ?_
                obtain ⟨hb, hw⟩ := hw
                refine ziS zM135 q135_193 (by decide) s93 hb rfl ?_
                refine zl zM135 q135_194 rfl ?_
                refine zl zM135 q135_195 rfl ?_
                refine zgI zM135 q135_196 (by decide) g12_21 s82 rfl (v := (h12 82 3)) rfl ?_
                refine zkI zM135 q135_199 kI1 ?_
                refine zl zM135 q135_200 (pc' := 201) (st' := .int ((h12 82 3) + 1) :: _) rfl ?_
                refine zpi zM135 q135_201 (by decide) g12_21 s82 rfl rfl ?_
                refine zl zM135 q135_204 rfl ?_
                refine zgI zM135 q135_205 (by decide) g12_21 s82 rfl (v := ((h12 82 3) + 1)) rfl ?_
                refine zkI zM135 q135_208 kI1 ?_
                refine zl zM135 q135_209 (pc' := 210) (st' := .int (((h12 82 3) + 1) - 1) :: _) rfl ?_
                exact zri zM135 q135_210 rfl rfl hw
              · have hw := hw.1 hc
                refine zkB zM135 q135_77 kBm4 ?_
                exact zri zM135 q135_79 rfl rfl hw
            · have hw := hw.1 hc
              refine zkB zM135 q135_65 kBm2 ?_
              exact zri zM135 q135_67 rfl rfl hw
-- X12_has
theorem b136 {X : Option (List Int32)} {d : Nat} {h : zH} {A : Int32 → zH → Prop} {a1 : Int32} {a2 : Int32} {a3 : Int32} (hw : (z_ib a1 40 ∧ (z_ib ((4 * (h 85 (Int32.toNatClampNeg a1))) + a2) 24 ∧ A ((a3 * (h 83 (Int32.toNatClampNeg ((4 * (h 85 (Int32.toNatClampNeg a1))) + a2)))) / 100) h))) : zP X d 136 0 (z_ent [.ref 82, .int a1, .int a2, .int a3] 4) [] z_S0 h (zI A) := by
  show zP X d 136 0 [some (.ref 82), some (.int a1), some (.int a2), some (.int a3)] [] z_S0 h (zI A)
  refine zl zM136 q136_0 rfl ?_
  refine zl zM136 q136_1 rfl ?_
  refine zgR (a := 83) zM136 q136_2 (by decide) g12_63 s82 rfl ?_
  refine zkI zM136 q136_5 kI4 ?_
  refine zl zM136 q136_6 rfl ?_
  refine zgR (a := 85) zM136 q136_7 (by decide) g12_35 s82 rfl ?_
  refine zl zM136 q136_10 rfl ?_
  obtain ⟨hb, hw⟩ := hw
  refine ziA zM136 q136_11 (by decide) s85 hb (v := (h 85 (Int32.toNatClampNeg a1))) rfl ?_
  refine zl zM136 q136_12 (pc' := 13) (st' := .int (4 * (h 85 (Int32.toNatClampNeg a1))) :: _) rfl ?_
  refine zl zM136 q136_13 rfl ?_
  refine zl zM136 q136_14 (pc' := 15) (st' := .int ((4 * (h 85 (Int32.toNatClampNeg a1))) + a2) :: _) rfl ?_
  obtain ⟨hb, hw⟩ := hw
  refine ziA zM136 q136_15 (by decide) s83 hb (v := (h 83 (Int32.toNatClampNeg ((4 * (h 85 (Int32.toNatClampNeg a1))) + a2)))) rfl ?_
  refine zl zM136 q136_16 (pc' := 17) (st' := .int (a3 * (h 83 (Int32.toNatClampNeg ((4 * (h 85 (Int32.toNatClampNeg a1))) + a2)))) :: _) rfl ?_
  refine zkB zM136 q136_17 kB100 ?_
  refine zl zM136 q136_19 (pc' := 20) (st' := .int ((a3 * (h 83 (Int32.toNatClampNeg ((4 * (h 85 (Int32.toNatClampNeg a1))) + a2)))) / 100) :: _) rfl ?_
  exact zri zM136 q136_20 rfl rfl hw
-- X12_waste
theorem b137 {X : Option (List Int32)} {d : Nat} {h : zH} {A : Int32 → zH → Prop} {a1 : Int32} (hw : (z_ib a1 40 ∧ zP X (d + 1) 137 9 [some (.ref 82), some (.int a1), some (.int (h 92 (Int32.toNatClampNeg a1))), some (.int 0)] [] z_S0 h (zI A))) : zP X (d + 1) 137 0 (z_ent [.ref 82, .int a1] 4) [] z_S0 h (zI A) := by
  show zP X (d + 1) 137 0 [some (.ref 82), some (.int a1), none, none] [] z_S0 h (zI A)
  refine zl zM137 q137_0 rfl ?_
  refine zgR (a := 92) zM137 q137_1 (by decide) g12_57 s82 rfl ?_
  refine zl zM137 q137_4 rfl ?_
  obtain ⟨hb, hw⟩ := hw
  refine ziA zM137 q137_5 (by decide) s92 hb (v := (h 92 (Int32.toNatClampNeg a1))) rfl ?_
  refine zl zM137 q137_6 (ls' := [some (.ref 82), some (.int a1), some (.int (h 92 (Int32.toNatClampNeg a1))), none]) rfl ?_
  refine zkI zM137 q137_7 kI0 ?_
  refine zl zM137 q137_8 (ls' := [some (.ref 82), some (.int a1), some (.int (h 92 (Int32.toNatClampNeg a1))), some (.int 0)]) rfl ?_
  exact hw
theorem b137_9 {X : Option (List Int32)} {d : Nat} {h : zH} {A : Int32 → zH → Prop} {l1 : Int32} {l2 : Int32} {l3 : Int32} (hw : ((l3 < 4 → (z_ib l1 40 ∧ zP X d 136 0 (z_ent [.ref 82, .int l1, .int l3, .int (h 92 (Int32.toNatClampNeg l1))] 4) [] z_S0 h (zI fun v1 h2 => zP X (d + 1) 137 9 [some (.ref 82), some (.int l1), some (.int (l2 - v1)), some (.int (l3 + 1))] [] z_S0 h2 (zI A)))) ∧ (¬ l3 < 4 → A l2 h))) : zP X (d + 1) 137 9 [some (.ref 82), some (.int l1), some (.int l2), some (.int l3)] [] z_S0 h (zI A) := by
  refine zl zM137 q137_9 rfl ?_
  refine zkI zM137 q137_10 kI4 ?_
  refine zb2_ge zM137 q137_11 (tgt := 35) rfl (fun hc => ?_) (fun hc => ?_)
  · have hw := hw.2 hc
    refine zl zM137 q137_35 rfl ?_
    exact zri zM137 q137_36 rfl rfl hw
  · have hw := hw.1 hc
    refine zl zM137 q137_14 rfl ?_
    refine zl zM137 q137_15 rfl ?_
    refine zl zM137 q137_16 rfl ?_
    refine zl zM137 q137_17 rfl ?_
    refine zl zM137 q137_18 rfl ?_
    refine zgR (a := 92) zM137 q137_19 (by decide) g12_57 s82 rfl ?_
    refine zl zM137 q137_22 rfl ?_
    obtain ⟨hb, hw⟩ := hw
    refine ziA zM137 q137_23 (by decide) s92 hb (v := (h 92 (Int32.toNatClampNeg l1))) rfl ?_
    refine zcV zM137 q137_24 kl12_66 rfl rfl (Nat.le_of_ble_eq_true rfl) rfl zM136 (Nat.le_of_ble_eq_true rfl) (hw.mono (fun r0 h2 hr3 => ?_))
    obtain ⟨v1, rfl, hw⟩ := hr3
    show zP X (d + 1) 137 27 [some (.ref 82), some (.int l1), some (.int l2), some (.int l3)] [.int v1, .int l2] z_S0 h2 (zI A)
    refine zl zM137 q137_27 (pc' := 28) (st' := .int (l2 - v1) :: _) rfl ?_
    refine zl zM137 q137_28 (ls' := [some (.ref 82), some (.int l1), some (.int (l2 - v1)), some (.int l3)]) rfl ?_
    refine zl zM137 q137_29 (ls' := [some (.ref 82), some (.int l1), some (.int (l2 - v1)), some (.int (l3 + 1))]) rfl ?_
    refine zl zM137 q137_32 (pc' := 9) (ls' := _) (st' := _) rfl ?_
    exact hw
-- X12_shortBy
theorem b138 {X : Option (List Int32)} {d : Nat} {h : zH} {A : Int32 → zH → Prop} {a1 : Int32} (hw : (z_ib a1 40 ∧ (z_ib a1 40 ∧ (z_ib a1 40 ∧ (z_ib a1 40 ∧ (z_ib (h 85 (Int32.toNatClampNeg a1)) 6 ∧ (((((h 90 (Int32.toNatClampNeg a1)) * (h 84 (Int32.toNatClampNeg (h 85 (Int32.toNatClampNeg a1))))) / 100) < ((h 90 (Int32.toNatClampNeg a1)) - (h 88 (Int32.toNatClampNeg a1))) → A ((h 90 (Int32.toNatClampNeg a1)) - (h 88 (Int32.toNatClampNeg a1))) h) ∧ (¬ (((h 90 (Int32.toNatClampNeg a1)) * (h 84 (Int32.toNatClampNeg (h 85 (Int32.toNatClampNeg a1))))) / 100) < ((h 90 (Int32.toNatClampNeg a1)) - (h 88 (Int32.toNatClampNeg a1))) → A 0 h)))))))) : zP X d 138 0 (z_ent [.ref 82, .int a1] 3) [] z_S0 h (zI A) := by
  show zP X d 138 0 [some (.ref 82), some (.int a1), none] [] z_S0 h (zI A)
  refine zl zM138 q138_0 rfl ?_
  refine zgR (a := 90) zM138 q138_1 (by decide) g12_51 s82 rfl ?_
  refine zl zM138 q138_4 rfl ?_
  obtain ⟨hb, hw⟩ := hw
  refine ziA zM138 q138_5 (by decide) s90 hb (v := (h 90 (Int32.toNatClampNeg a1))) rfl ?_
  refine zl zM138 q138_6 rfl ?_
  refine zgR (a := 88) zM138 q138_7 (by decide) g12_45 s82 rfl ?_
  refine zl zM138 q138_10 rfl ?_
  obtain ⟨hb, hw⟩ := hw
  refine ziA zM138 q138_11 (by decide) s88 hb (v := (h 88 (Int32.toNatClampNeg a1))) rfl ?_
  refine zl zM138 q138_12 (pc' := 13) (st' := .int ((h 90 (Int32.toNatClampNeg a1)) - (h 88 (Int32.toNatClampNeg a1))) :: _) rfl ?_
  refine zl zM138 q138_13 (ls' := [some (.ref 82), some (.int a1), some (.int ((h 90 (Int32.toNatClampNeg a1)) - (h 88 (Int32.toNatClampNeg a1))))]) rfl ?_
  refine zl zM138 q138_14 rfl ?_
  refine zl zM138 q138_15 rfl ?_
  refine zgR (a := 90) zM138 q138_16 (by decide) g12_51 s82 rfl ?_
  refine zl zM138 q138_19 rfl ?_
  obtain ⟨hb, hw⟩ := hw
  refine ziA zM138 q138_20 (by decide) s90 hb (v := (h 90 (Int32.toNatClampNeg a1))) rfl ?_
  refine zl zM138 q138_21 rfl ?_
  refine zgR (a := 84) zM138 q138_22 (by decide) g12_70 s82 rfl ?_
  refine zl zM138 q138_25 rfl ?_
  refine zgR (a := 85) zM138 q138_26 (by decide) g12_35 s82 rfl ?_
  refine zl zM138 q138_29 rfl ?_
  obtain ⟨hb, hw⟩ := hw
  refine ziA zM138 q138_30 (by decide) s85 hb (v := (h 85 (Int32.toNatClampNeg a1))) rfl ?_
  obtain ⟨hb, hw⟩ := hw
  refine ziA zM138 q138_31 (by decide) s84 hb (v := (h 84 (Int32.toNatClampNeg (h 85 (Int32.toNatClampNeg a1))))) rfl ?_
  refine zl zM138 q138_32 (pc' := 33) (st' := .int ((h 90 (Int32.toNatClampNeg a1)) * (h 84 (Int32.toNatClampNeg (h 85 (Int32.toNatClampNeg a1))))) :: _) rfl ?_
  refine zkB zM138 q138_33 kB100 ?_
  refine zl zM138 q138_35 (pc' := 36) (st' := .int (((h 90 (Int32.toNatClampNeg a1)) * (h 84 (Int32.toNatClampNeg (h 85 (Int32.toNatClampNeg a1))))) / 100) :: _) rfl ?_
  refine zb2_le zM138 q138_36 (tgt := 43) rfl (fun hc => ?_) (fun hc => ?_)
  · have hw := hw.2 hc
    refine zkI zM138 q138_43 kI0 ?_
    exact zri zM138 q138_44 rfl rfl hw
  · have hw := hw.1 hc
    refine zl zM138 q138_39 rfl ?_
    refine zl zM138 q138_40 (pc' := 44) (ls' := _) (st' := _) rfl ?_
    exact zri zM138 q138_44 rfl rfl hw
-- X12_cartTold
theorem b139 {X : Option (List Int32)} {d : Nat} {h : zH} {A : Int32 → zH → Prop} {a1 : Int32} {a2 : Int32} (hw : zP X d 134 0 (z_ent [.ref 82, .int a1] 2) [] z_S0 h (zI fun v1 h2 => ((v1 = 0 → A (-2) h2) ∧ (¬ v1 = 0 → zP X d 128 0 (z_ent [.long (Int32.toInt64 a2), .long 0, .long 12] 6) [] z_S0 h2 (zI fun v3 h4 => ((v3 = 0 → A (-2) h4) ∧ (¬ v3 = 0 → ((a2 = 0 → (z_ib a1 40 ∧ A (h4 85 (Int32.toNatClampNeg a1)) h4)) ∧ (a2 = 1 → (z_ib a1 40 ∧ A (h4 86 (Int32.toNatClampNeg a1)) h4)) ∧ (a2 = 2 → (z_ib a1 40 ∧ A (h4 87 (Int32.toNatClampNeg a1)) h4)) ∧ (a2 = 3 → (z_ib a1 40 ∧ A (h4 88 (Int32.toNatClampNeg a1)) h4)) ∧ (a2 = 4 → (z_ib a1 40 ∧ A (h4 92 (Int32.toNatClampNeg a1)) h4)) ∧ (a2 = 5 → (z_ib a1 40 ∧ zP X d 136 0 (z_ent [.ref 82, .int a1, .int (a2 - 5), .int (h4 92 (Int32.toNatClampNeg a1))] 4) [] z_S0 h4 (zI fun v10 h11 => A v10 h11))) ∧ (a2 = 6 → (z_ib a1 40 ∧ zP X d 136 0 (z_ent [.ref 82, .int a1, .int (a2 - 5), .int (h4 92 (Int32.toNatClampNeg a1))] 4) [] z_S0 h4 (zI fun v14 h15 => A v14 h15))) ∧ (a2 = 7 → (z_ib a1 40 ∧ zP X d 136 0 (z_ent [.ref 82, .int a1, .int (a2 - 5), .int (h4 92 (Int32.toNatClampNeg a1))] 4) [] z_S0 h4 (zI fun v18 h19 => A v18 h19))) ∧ (a2 = 8 → (z_ib a1 40 ∧ zP X d 136 0 (z_ent [.ref 82, .int a1, .int (a2 - 5), .int (h4 92 (Int32.toNatClampNeg a1))] 4) [] z_S0 h4 (zI fun v22 h23 => A v22 h23))) ∧ (a2 = 9 → zP X d 137 0 (z_ent [.ref 82, .int a1] 4) [] z_S0 h4 (zI fun v26 h27 => A v26 h27)) ∧ (a2 = 10 → zP X d 138 0 (z_ent [.ref 82, .int a1] 3) [] z_S0 h4 (zI fun v30 h31 => A v30 h31)) ∧ (a2 = 11 → (z_ib a1 40 ∧ A (h4 91 (Int32.toNatClampNeg a1)) h4)) ∧ (a2 = 12 → (z_ib a1 40 ∧ (((h4 94 (Int32.toNatClampNeg a1)) = 0 → A 0 h4) ∧ (¬ (h4 94 (Int32.toNatClampNeg a1)) = 0 → A 1 h4)))) ∧ ((¬ a2 = 0 ∧ ¬ a2 = 1 ∧ ¬ a2 = 2 ∧ ¬ a2 = 3 ∧ ¬ a2 = 4 ∧ ¬ a2 = 5 ∧ ¬ a2 = 6 ∧ ¬ a2 = 7 ∧ ¬ a2 = 8 ∧ ¬ a2 = 9 ∧ ¬ a2 = 10 ∧ ¬ a2 = 11 ∧ ¬ a2 = 12) → (z_ib a1 40 ∧ zP X d 136 0 (z_ent [.ref 82, .int a1, .int (a2 - 5), .int (h4 92 (Int32.toNatClampNeg a1))] 4) [] z_S0 h4 (zI fun v36 h37 => A v36 h37))))))))))) : zP X (d + 1) 139 0 (z_ent [.ref 82, .int a1, .int a2] 3) [] z_S0 h (zI A) := by
  show zP X (d + 1) 139 0 [some (.ref 82), some (.int a1), some (.int a2)] [] z_S0 h (zI A)
  refine zl zM139 q139_0 rfl ?_
  refine zl zM139 q139_1 rfl ?_
  refine zcV zM139 q139_2 kl12_73 rfl rfl (Nat.le_of_ble_eq_true rfl) rfl zM134 (Nat.le_of_ble_eq_true rfl) (hw.mono (fun r0 h2 hr40 => ?_))
  obtain ⟨v1, rfl, hw⟩ := hr40
  show zP X (d + 1) 139 5 [some (.ref 82), some (.int a1), some (.int a2)] [.int v1] z_S0 h2 (zI A)
  refine zb1_eq zM139 q139_5 (tgt := 20) rfl (fun hc => ?_) (fun hc => ?_)
  · have hw := hw.1 hc
    refine zkB zM139 q139_20 kBm2 ?_
    exact zri zM139 q139_22 rfl rfl hw
  · have hw := hw.2 hc
    refine zl zM139 q139_8 rfl ?_
    refine zl zM139 q139_9 (pc' := 10) (st' := .long (Int32.toInt64 a2) :: _) rfl ?_
    refine zkL (v := 0) zM139 q139_10 rfl ?_
    refine zkJ zM139 q139_11 kc12_76 ?_
    refine zcS zM139 q139_14 ky12_3 kl12_3 (by decide) rfl (Nat.le_of_ble_eq_true rfl) zM128 (Nat.le_of_ble_eq_true rfl) (hw.mono (fun r0 h4 hr39 => ?_))
    obtain ⟨v3, rfl, hw⟩ := hr39
    show zP X (d + 1) 139 17 [some (.ref 82), some (.int a1), some (.int a2)] [.int v3] z_S0 h4 (zI A)
    refine zb1_ne zM139 q139_17 (tgt := 23) rfl (fun hc => ?_) (fun hc => ?_)
    · have hw := hw.2 hc
      refine zl zM139 q139_23 rfl ?_
      by_cases hs5 : a2 = 0
      · have hw := hw.1 hs5
        refine zts 0 hs5 zM139 q139_24 (tgt := 92) (by decide) rfl rfl ?_
        refine zl zM139 q139_92 rfl ?_
        refine zgR (a := 85) zM139 q139_93 (by decide) g12_35 s82 rfl ?_
        refine zl zM139 q139_96 rfl ?_
        obtain ⟨hb, hw⟩ := hw
        refine ziA zM139 q139_97 (by decide) s85 hb (v := (h4 85 (Int32.toNatClampNeg a1))) rfl ?_
        exact zri zM139 q139_98 rfl rfl hw
      by_cases hs6 : a2 = 1
      · have hw := hw.2.1 hs6
        refine zts 1 hs6 zM139 q139_24 (tgt := 99) (by decide) rfl rfl ?_
        refine zl zM139 q139_99 rfl ?_
        refine zgR (a := 86) zM139 q139_100 (by decide) g12_39 s82 rfl ?_
        refine zl zM139 q139_103 rfl ?_
        obtain ⟨hb, hw⟩ := hw
        refine ziA zM139 q139_104 (by decide) s86 hb (v := (h4 86 (Int32.toNatClampNeg a1))) rfl ?_
        exact zri zM139 q139_105 rfl rfl hw
      by_cases hs7 : a2 = 2
      · have hw := hw.2.2.1 hs7
        refine zts 2 hs7 zM139 q139_24 (tgt := 106) (by decide) rfl rfl ?_
        refine zl zM139 q139_106 rfl ?_
        refine zgR (a := 87) zM139 q139_107 (by decide) g12_42 s82 rfl ?_
        refine zl zM139 q139_110 rfl ?_
        obtain ⟨hb, hw⟩ := hw
        refine ziA zM139 q139_111 (by decide) s87 hb (v := (h4 87 (Int32.toNatClampNeg a1))) rfl ?_
        exact zri zM139 q139_112 rfl rfl hw
      by_cases hs8 : a2 = 3
      · have hw := hw.2.2.2.1 hs8
        refine zts 3 hs8 zM139 q139_24 (tgt := 113) (by decide) rfl rfl ?_
        refine zl zM139 q139_113 rfl ?_
        refine zgR (a := 88) zM139 q139_114 (by decide) g12_45 s82 rfl ?_
        refine zl zM139 q139_117 rfl ?_
        obtain ⟨hb, hw⟩ := hw
        refine ziA zM139 q139_118 (by decide) s88 hb (v := (h4 88 (Int32.toNatClampNeg a1))) rfl ?_
        exact zri zM139 q139_119 rfl rfl hw
      by_cases hs9 : a2 = 4
      · have hw := hw.2.2.2.2.1 hs9
        refine zts 4 hs9 zM139 q139_24 (tgt := 120) (by decide) rfl rfl ?_
        refine zl zM139 q139_120 rfl ?_
        refine zgR (a := 92) zM139 q139_121 (by decide) g12_57 s82 rfl ?_
        refine zl zM139 q139_124 rfl ?_
        obtain ⟨hb, hw⟩ := hw
        refine ziA zM139 q139_125 (by decide) s92 hb (v := (h4 92 (Int32.toNatClampNeg a1))) rfl ?_
        exact zri zM139 q139_126 rfl rfl hw
      by_cases hs13 : a2 = 5
      · have hw := hw.2.2.2.2.2.1 hs13
        refine zts 5 hs13 zM139 q139_24 (tgt := 161) (by decide) rfl rfl ?_
        refine zl zM139 q139_161 rfl ?_
        refine zl zM139 q139_162 rfl ?_
        refine zl zM139 q139_163 rfl ?_
        refine zkI zM139 q139_164 kI5 ?_
        refine zl zM139 q139_165 (pc' := 166) (st' := .int (a2 - 5) :: _) rfl ?_
        refine zl zM139 q139_166 rfl ?_
        refine zgR (a := 92) zM139 q139_167 (by decide) g12_57 s82 rfl ?_
        refine zl zM139 q139_170 rfl ?_
        obtain ⟨hb, hw⟩ := hw
        refine ziA zM139 q139_171 (by decide) s92 hb (v := (h4 92 (Int32.toNatClampNeg a1))) rfl ?_
        refine zcV zM139 q139_172 kl12_66 rfl rfl (Nat.le_of_ble_eq_true rfl) rfl zM136 (Nat.le_of_ble_eq_true rfl) (hw.mono (fun r0 h11 hr12 => ?_))
        obtain ⟨v10, rfl, hw⟩ := hr12
        show zP X (d + 1) 139 175 [some (.ref 82), some (.int a1), some (.int a2)] [.int v10] z_S0 h11 (zI A)
        exact zri zM139 q139_175 rfl rfl hw
      by_cases hs17 : a2 = 6
      · have hw := hw.2.2.2.2.2.2.1 hs17
        refine zts 6 hs17 zM139 q139_24 (tgt := 161) (by decide) rfl rfl ?_
        refine zl zM139 q139_161 rfl ?_
        refine zl zM139 q139_162 rfl ?_
        refine zl zM139 q139_163 rfl ?_
        refine zkI zM139 q139_164 kI5 ?_
        refine zl zM139 q139_165 (pc' := 166) (st' := .int (a2 - 5) :: _) rfl ?_
        refine zl zM139 q139_166 rfl ?_
        refine zgR (a := 92) zM139 q139_167 (by decide) g12_57 s82 rfl ?_
        refine zl zM139 q139_170 rfl ?_
        obtain ⟨hb, hw⟩ := hw
        refine ziA zM139 q139_171 (by decide) s92 hb (v := (h4 92 (Int32.toNatClampNeg a1))) rfl ?_
        refine zcV zM139 q139_172 kl12_66 rfl rfl (Nat.le_of_ble_eq_true rfl) rfl zM136 (Nat.le_of_ble_eq_true rfl) (hw.mono (fun r0 h15 hr16 => ?_))
        obtain ⟨v14, rfl, hw⟩ := hr16
        show zP X (d + 1) 139 175 [some (.ref 82), some (.int a1), some (.int a2)] [.int v14] z_S0 h15 (zI A)
        exact zri zM139 q139_175 rfl rfl hw
      by_cases hs21 : a2 = 7
      · have hw := hw.2.2.2.2.2.2.2.1 hs21
        refine zts 7 hs21 zM139 q139_24 (tgt := 161) (by decide) rfl rfl ?_
        refine zl zM139 q139_161 rfl ?_
        refine zl zM139 q139_162 rfl ?_
        refine zl zM139 q139_163 rfl ?_
        refine zkI zM139 q139_164 kI5 ?_
        refine zl zM139 q139_165 (pc' := 166) (st' := .int (a2 - 5) :: _) rfl ?_
        refine zl zM139 q139_166 rfl ?_
        refine zgR (a := 92) zM139 q139_167 (by decide) g12_57 s82 rfl ?_
        refine zl zM139 q139_170 rfl ?_
        obtain ⟨hb, hw⟩ := hw
        refine ziA zM139 q139_171 (by decide) s92 hb (v := (h4 92 (Int32.toNatClampNeg a1))) rfl ?_
        refine zcV zM139 q139_172 kl12_66 rfl rfl (Nat.le_of_ble_eq_true rfl) rfl zM136 (Nat.le_of_ble_eq_true rfl) (hw.mono (fun r0 h19 hr20 => ?_))
        obtain ⟨v18, rfl, hw⟩ := hr20
        show zP X (d + 1) 139 175 [some (.ref 82), some (.int a1), some (.int a2)] [.int v18] z_S0 h19 (zI A)
        exact zri zM139 q139_175 rfl rfl hw
      by_cases hs25 : a2 = 8
      · have hw := hw.2.2.2.2.2.2.2.2.1 hs25
        refine zts 8 hs25 zM139 q139_24 (tgt := 161) (by decide) rfl rfl ?_
        refine zl zM139 q139_161 rfl ?_
        refine zl zM139 q139_162 rfl ?_
        refine zl zM139 q139_163 rfl ?_
        refine zkI zM139 q139_164 kI5 ?_
        refine zl zM139 q139_165 (pc' := 166) (st' := .int (a2 - 5) :: _) rfl ?_
        refine zl zM139 q139_166 rfl ?_
        refine zgR (a := 92) zM139 q139_167 (by decide) g12_57 s82 rfl ?_
        refine zl zM139 q139_170 rfl ?_
        obtain ⟨hb, hw⟩ := hw
        refine ziA zM139 q139_171 (by decide) s92 hb (v := (h4 92 (Int32.toNatClampNeg a1))) rfl ?_
        refine zcV zM139 q139_172 kl12_66 rfl rfl (Nat.le_of_ble_eq_true rfl) rfl zM136 (Nat.le_of_ble_eq_true rfl) (hw.mono (fun r0 h23 hr24 => ?_))
        obtain ⟨v22, rfl, hw⟩ := hr24
        show zP X (d + 1) 139 175 [some (.ref 82), some (.int a1), some (.int a2)] [.int v22] z_S0 h23 (zI A)
        exact zri zM139 q139_175 rfl rfl hw
      by_cases hs29 : a2 = 9
      · have hw := hw.2.2.2.2.2.2.2.2.2.1 hs29
        refine zts 9 hs29 zM139 q139_24 (tgt := 127) (by decide) rfl rfl ?_
        refine zl zM139 q139_127 rfl ?_
        refine zl zM139 q139_128 rfl ?_
        refine zcV zM139 q139_129 kl12_78 rfl rfl (Nat.le_of_ble_eq_true rfl) rfl zM137 (Nat.le_of_ble_eq_true rfl) (hw.mono (fun r0 h27 hr28 => ?_))
        obtain ⟨v26, rfl, hw⟩ := hr28
        show zP X (d + 1) 139 132 [some (.ref 82), some (.int a1), some (.int a2)] [.int v26] z_S0 h27 (zI A)
        exact zri zM139 q139_132 rfl rfl hw
      by_cases hs33 : a2 = 10
      · have hw := hw.2.2.2.2.2.2.2.2.2.2.1 hs33
        refine zts 10 hs33 zM139 q139_24 (tgt := 133) (by decide) rfl rfl ?_
        refine zl zM139 q139_133 rfl ?_
        refine zl zM139 q139_134 rfl ?_
        refine zcV zM139 q139_135 kl12_82 rfl rfl (Nat.le_of_ble_eq_true rfl) rfl zM138 (Nat.le_of_ble_eq_true rfl) (hw.mono (fun r0 h31 hr32 => ?_))
        obtain ⟨v30, rfl, hw⟩ := hr32
        show zP X (d + 1) 139 138 [some (.ref 82), some (.int a1), some (.int a2)] [.int v30] z_S0 h31 (zI A)
        exact zri zM139 q139_138 rfl rfl hw
      by_cases hs34 : a2 = 11
      · have hw := hw.2.2.2.2.2.2.2.2.2.2.2.1 hs34
        refine zts 11 hs34 zM139 q139_24 (tgt := 139) (by decide) rfl rfl ?_
        refine zl zM139 q139_139 rfl ?_
        refine zgR (a := 91) zM139 q139_140 (by decide) g12_54 s82 rfl ?_
        refine zl zM139 q139_143 rfl ?_
        obtain ⟨hb, hw⟩ := hw
        refine ziA zM139 q139_144 (by decide) s91 hb (v := (h4 91 (Int32.toNatClampNeg a1))) rfl ?_
        exact zri zM139 q139_145 rfl rfl hw
      by_cases hs35 : a2 = 12
      · have hw := hw.2.2.2.2.2.2.2.2.2.2.2.2.1 hs35
        refine zts 12 hs35 zM139 q139_24 (tgt := 146) (by decide) rfl rfl ?_
        refine zl zM139 q139_146 rfl ?_
        refine zgR (a := 94) zM139 q139_147 (by decide) g12_85 s82 rfl ?_
        refine zl zM139 q139_150 rfl ?_
        obtain ⟨hb, hw⟩ := hw
        refine zbA zM139 q139_151 (by decide) s94 (by decide) hb (v := (h4 94 (Int32.toNatClampNeg a1))) rfl ?_
        refine zb1_eq zM139 q139_152 (tgt := 159) rfl (fun hc => ?_) (fun hc => ?_)
        · have hw := hw.1 hc
          refine zkI zM139 q139_159 kI0 ?_
          exact zri zM139 q139_160 rfl rfl hw
        · have hw := hw.2 hc
          refine zkI zM139 q139_155 kI1 ?_
          refine zl zM139 q139_156 (pc' := 160) (ls' := _) (st' := _) rfl ?_
          exact zri zM139 q139_160 rfl rfl hw
      have hw := hw.2.2.2.2.2.2.2.2.2.2.2.2.2 ⟨hs5, hs6, hs7, hs8, hs9, hs13, hs17, hs21, hs25, hs29, hs33, hs34, hs35⟩
      have hs5 := z_neI hs5
      have hs6 := z_neI hs6
      have hs7 := z_neI hs7
      have hs8 := z_neI hs8
      have hs9 := z_neI hs9
      have hs13 := z_neI hs13
      have hs17 := z_neI hs17
      have hs21 := z_neI hs21
      have hs25 := z_neI hs25
      have hs29 := z_neI hs29
      have hs33 := z_neI hs33
      have hs34 := z_neI hs34
      have hs35 := z_neI hs35
      refine ztd (tgt := 161) ?_ zM139 q139_24 rfl ?_
      · simp only [show (0 : Int32).toInt = 0 from rfl, show (1 : Int32).toInt = 1 from rfl, show (2 : Int32).toInt = 2 from rfl, show (3 : Int32).toInt = 3 from rfl, show (4 : Int32).toInt = 4 from rfl, show (5 : Int32).toInt = 5 from rfl, show (6 : Int32).toInt = 6 from rfl, show (7 : Int32).toInt = 7 from rfl, show (8 : Int32).toInt = 8 from rfl, show (9 : Int32).toInt = 9 from rfl, show (10 : Int32).toInt = 10 from rfl, show (11 : Int32).toInt = 11 from rfl, show (12 : Int32).toInt = 12 from rfl] at hs5 hs6 hs7 hs8 hs9 hs13 hs17 hs21 hs25 hs29 hs33 hs34 hs35; omega
      refine zl zM139 q139_161 rfl ?_
      refine zl zM139 q139_162 rfl ?_
      refine zl zM139 q139_163 rfl ?_
      refine zkI zM139 q139_164 kI5 ?_
      refine zl zM139 q139_165 (pc' := 166) (st' := .int (a2 - 5) :: _) rfl ?_
      refine zl zM139 q139_166 rfl ?_
      refine zgR (a := 92) zM139 q139_167 (by decide) g12_57 s82 rfl ?_
      refine zl zM139 q139_170 rfl ?_
      obtain ⟨hb, hw⟩ := hw
      refine ziA zM139 q139_171 (by decide) s92 hb (v := (h4 92 (Int32.toNatClampNeg a1))) rfl ?_
      refine zcV zM139 q139_172 kl12_66 rfl rfl (Nat.le_of_ble_eq_true rfl) rfl zM136 (Nat.le_of_ble_eq_true rfl) (hw.mono (fun r0 h37 hr38 => ?_))
      obtain ⟨v36, rfl, hw⟩ := hr38
      show zP X (d + 1) 139 175 [some (.ref 82), some (.int a1), some (.int a2)] [.int v36] z_S0 h37 (zI A)
      exact zri zM139 q139_175 rfl rfl hw
    · have hw := hw.1 hc
      refine zkB zM139 q139_20 kBm2 ?_
      exact zri zM139 q139_22 rfl rfl hw

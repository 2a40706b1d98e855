-- X12_text
theorem b165 {X : Option (List Int32)} {d : Nat} {h : zH} {A : Int32 → zH → Prop}  (hw : (((h 82 23) = 6 → A (-4) h) ∧ (¬ (h 82 23) = 6 → zP X (d + 4) 164 0 (z_ent [.ref 82, .int (h 82 23)] 3) [] z_S0 h (zI fun v1 h3 => ((v1 = (-1) → A (((h3 82 23) + 1) - 1) (z_up (z_up h3 82 22 0) 82 23 ((h3 82 23) + 1))) ∧ (¬ v1 = (-1) → A ((-100) - v1) (z_up h3 82 22 0))))))) : zP X (d + 5) 165 0 (z_ent [.ref 82] 2) [] z_S0 h (zI A) := by
  show zP X (d + 5) 165 0 [some (.ref 82), none] [] z_S0 h (zI A)
  refine zl zM165 q165_0 rfl ?_
  refine zgI zM165 q165_1 (by decide) g12_229 s82 rfl (v := (h 82 23)) rfl ?_
  refine zkB zM165 q165_4 kB6 ?_
  refine zb2_ne zM165 q165_6 (tgt := 12) rfl (fun hc => ?_) (fun hc => ?_)
  · have hw := hw.2 hc
    refine zl zM165 q165_12 rfl ?_
    refine zl zM165 q165_13 rfl ?_
    refine zgI zM165 q165_14 (by decide) g12_229 s82 rfl (v := (h 82 23)) rfl ?_
    refine zcV zM165 q165_17 kl12_232 rfl rfl (Nat.le_of_ble_eq_true rfl) rfl zM164 (Nat.le_of_ble_eq_true rfl) (hw.mono (fun r0 h3 hr4 => ?_))
    obtain ⟨v1, rfl, hw⟩ := hr4
    show zP X (d + 5) 165 20 [some (.ref 82), none] [.int v1] z_S0 h3 (zI A)
    refine zl zM165 q165_20 (ls' := [some (.ref 82), some (.int v1)]) rfl ?_
    refine zl zM165 q165_21 rfl ?_
    refine zkI zM165 q165_22 kI0 ?_
    refine zpi zM165 q165_23 (by decide) g12_127 s82 rfl rfl ?_
    refine zl zM165 q165_26 rfl ?_
    refine zkI zM165 q165_27 kIm1 ?_
    refine zb2_eq zM165 q165_28 (tgt := 36) rfl (fun hc => ?_) (fun hc => ?_)
    · have hw := hw.1 hc
      refine zl zM165 q165_36 rfl ?_
      refine zl zM165 q165_37 rfl ?_
      refine zgI zM165 q165_38 (by decide) g12_229 s82 rfl (v := (h3 82 23)) rfl ?_
      refine zkI zM165 q165_41 kI1 ?_
      refine zl zM165 q165_42 (pc' := 43) (st' := .int ((h3 82 23) + 1) :: _) rfl ?_
      refine zpi zM165 q165_43 (by decide) g12_229 s82 rfl rfl ?_
      refine zl zM165 q165_46 rfl ?_
      refine zgI zM165 q165_47 (by decide) g12_229 s82 rfl (v := ((h3 82 23) + 1)) rfl ?_
      refine zkI zM165 q165_50 kI1 ?_
      refine zl zM165 q165_51 (pc' := 52) (st' := .int (((h3 82 23) + 1) - 1) :: _) rfl ?_
      exact zri zM165 q165_52 rfl rfl hw
    · have hw := hw.2 hc
      refine zkB zM165 q165_31 kBm100 ?_
      refine zl zM165 q165_33 rfl ?_
      refine zl zM165 q165_34 (pc' := 35) (st' := .int ((-100) - v1) :: _) rfl ?_
      exact zri zM165 q165_35 rfl rfl hw
  · have hw := hw.1 hc
    refine zkB zM165 q165_9 kBm4 ?_
    exact zri zM165 q165_11 rfl rfl hw
-- X12_nameOf
theorem b166 {X : Option (List Int32)} {d : Nat} {h : zH} {A : Int32 → zH → Prop} {a1 : Int32} {a2 : Int32} (hw : ((a1 = 0 → (z_ib a2 40 ∧ A (h 88 (Int32.toNatClampNeg a2)) h)) ∧ (a1 = 1 → (z_ib a2 40 ∧ A (h 91 (Int32.toNatClampNeg a2)) h)) ∧ (a1 = 2 → (z_ib a2 40 ∧ A (h 89 (Int32.toNatClampNeg a2)) h)) ∧ (a1 = 3 → (z_ib a2 40 ∧ A (h 85 (Int32.toNatClampNeg a2)) h)) ∧ (a1 = 4 → (z_ib a2 40 ∧ (z_ib a2 40 ∧ zP X d 182 0 (z_ent [.ref 82, .int (h 86 (Int32.toNatClampNeg a2)), .int (h 91 (Int32.toNatClampNeg a2))] 5) [] z_S0 h (zI fun v5 h6 => A v5 h6)))) ∧ ((¬ a1 = 0 ∧ ¬ a1 = 1 ∧ ¬ a1 = 2 ∧ ¬ a1 = 3 ∧ ¬ a1 = 4) → (z_ib a2 40 ∧ zP X d 146 0 (z_ent [.ref 82, .int 0, .int (h 91 (Int32.toNatClampNeg a2)), .int (h 82 0)] 8) [] z_S0 h (zI fun v9 h10 => A v9 h10))))) : zP X (d + 1) 166 0 (z_ent [.ref 82, .int a1, .int a2] 3) [] z_S0 h (zI A) := by
  show zP X (d + 1) 166 0 [some (.ref 82), some (.int a1), some (.int a2)] [] z_S0 h (zI A)
  refine zl zM166 q166_0 rfl ?_
  by_cases hs1 : a1 = 0
  · have hw := hw.1 hs1
    refine zts 0 hs1 zM166 q166_1 (tgt := 36) (by decide) rfl rfl ?_
    refine zl zM166 q166_36 rfl ?_
    refine zgR (a := 88) zM166 q166_37 (by decide) g12_45 s82 rfl ?_
    refine zl zM166 q166_40 rfl ?_
    obtain ⟨hb, hw⟩ := hw
    refine ziA zM166 q166_41 (by decide) s88 hb (v := (h 88 (Int32.toNatClampNeg a2))) rfl ?_
    exact zri zM166 q166_42 rfl rfl hw
  by_cases hs2 : a1 = 1
  · have hw := hw.2.1 hs2
    refine zts 1 hs2 zM166 q166_1 (tgt := 43) (by decide) rfl rfl ?_
    refine zl zM166 q166_43 rfl ?_
    refine zgR (a := 91) zM166 q166_44 (by decide) g12_54 s82 rfl ?_
    refine zl zM166 q166_47 rfl ?_
    obtain ⟨hb, hw⟩ := hw
    refine ziA zM166 q166_48 (by decide) s91 hb (v := (h 91 (Int32.toNatClampNeg a2))) rfl ?_
    exact zri zM166 q166_49 rfl rfl hw
  by_cases hs3 : a1 = 2
  · have hw := hw.2.2.1 hs3
    refine zts 2 hs3 zM166 q166_1 (tgt := 50) (by decide) rfl rfl ?_
    refine zl zM166 q166_50 rfl ?_
    refine zgR (a := 89) zM166 q166_51 (by decide) g12_48 s82 rfl ?_
    refine zl zM166 q166_54 rfl ?_
    obtain ⟨hb, hw⟩ := hw
    refine ziA zM166 q166_55 (by decide) s89 hb (v := (h 89 (Int32.toNatClampNeg a2))) rfl ?_
    exact zri zM166 q166_56 rfl rfl hw
  by_cases hs4 : a1 = 3
  · have hw := hw.2.2.2.1 hs4
    refine zts 3 hs4 zM166 q166_1 (tgt := 57) (by decide) rfl rfl ?_
    refine zl zM166 q166_57 rfl ?_
    refine zgR (a := 85) zM166 q166_58 (by decide) g12_35 s82 rfl ?_
    refine zl zM166 q166_61 rfl ?_
    obtain ⟨hb, hw⟩ := hw
    refine ziA zM166 q166_62 (by decide) s85 hb (v := (h 85 (Int32.toNatClampNeg a2))) rfl ?_
    exact zri zM166 q166_63 rfl rfl hw
  by_cases hs8 : a1 = 4
  · have hw := hw.2.2.2.2.1 hs8
    refine zts 4 hs8 zM166 q166_1 (tgt := 64) (by decide) rfl rfl ?_
    refine zl zM166 q166_64 rfl ?_
    refine zl zM166 q166_65 rfl ?_
    refine zgR (a := 86) zM166 q166_66 (by decide) g12_39 s82 rfl ?_
    refine zl zM166 q166_69 rfl ?_
    obtain ⟨hb, hw⟩ := hw
    refine ziA zM166 q166_70 (by decide) s86 hb (v := (h 86 (Int32.toNatClampNeg a2))) rfl ?_
    refine zl zM166 q166_71 rfl ?_
    refine zgR (a := 91) zM166 q166_72 (by decide) g12_54 s82 rfl ?_
    refine zl zM166 q166_75 rfl ?_
    obtain ⟨hb, hw⟩ := hw
    refine ziA zM166 q166_76 (by decide) s91 hb (v := (h 91 (Int32.toNatClampNeg a2))) rfl ?_
    refine zcV zM166 q166_77 kl12_235 rfl rfl (Nat.le_of_ble_eq_true rfl) rfl zM182 (Nat.le_of_ble_eq_true rfl) (hw.mono (fun r0 h6 hr7 => ?_))
    obtain ⟨v5, rfl, hw⟩ := hr7
    show zP X (d + 1) 166 80 [some (.ref 82), some (.int a1), some (.int a2)] [.int v5] z_S0 h6 (zI A)
    exact zri zM166 q166_80 rfl rfl hw
  have hw := hw.2.2.2.2.2 ⟨hs1, hs2, hs3, hs4, hs8⟩
  have hs1 := z_neI hs1
  have hs2 := z_neI hs2
  have hs3 := z_neI hs3
  have hs4 := z_neI hs4
  have hs8 := z_neI hs8
  refine ztd (tgt := 81) ?_ zM166 q166_1 rfl ?_
  · simp only [show (0 : Int32).toInt = 0 from rfl, show (1 : Int32).toInt = 1 from rfl, show (2 : Int32).toInt = 2 from rfl, show (3 : Int32).toInt = 3 from rfl, show (4 : Int32).toInt = 4 from rfl] at hs1 hs2 hs3 hs4 hs8; omega
  refine zl zM166 q166_81 rfl ?_
  refine zkI zM166 q166_82 kI0 ?_
  refine zl zM166 q166_83 rfl ?_
  refine zgR (a := 91) zM166 q166_84 (by decide) g12_54 s82 rfl ?_
  refine zl zM166 q166_87 rfl ?_
  obtain ⟨hb, hw⟩ := hw
  refine ziA zM166 q166_88 (by decide) s91 hb (v := (h 91 (Int32.toNatClampNeg a2))) rfl ?_
  refine zl zM166 q166_89 rfl ?_
  refine zgI zM166 q166_90 (by decide) g12_9 s82 rfl (v := (h 82 0)) rfl ?_
  refine zcV zM166 q166_93 kl12_99 rfl rfl (Nat.le_of_ble_eq_true rfl) rfl zM146 (Nat.le_of_ble_eq_true rfl) (hw.mono (fun r0 h10 hr11 => ?_))
  obtain ⟨v9, rfl, hw⟩ := hr11
  show zP X (d + 1) 166 96 [some (.ref 82), some (.int a1), some (.int a2)] [.int v9] z_S0 h10 (zI A)
  exact zri zM166 q166_96 rfl rfl hw
-- X12_done
theorem b167 {X : Option (List Int32)} {d : Nat} {h : zH} {A : Int32 → zH → Prop} {a1 : Int32} {a2 : Int32} {a3 : Int32} (hw : ((a1 = 6 → A (a2 + a3) h) ∧ (a1 = 7 → A (a2 - a3) h) ∧ (a1 = 8 → A (a2 * a3) h) ∧ (a1 = 9 → ((a2 < a3 → A 1 h) ∧ (¬ a2 < a3 → A 0 h))) ∧ (a1 = 10 → ((a2 = a3 → A 1 h) ∧ (¬ a2 = a3 → A 0 h))) ∧ (a1 = 11 → ((a2 = 0 → A 0 h) ∧ (¬ a2 = 0 → ((a3 = 0 → A 0 h) ∧ (¬ a3 = 0 → A 1 h))))) ∧ ((¬ a1 = 6 ∧ ¬ a1 = 7 ∧ ¬ a1 = 8 ∧ ¬ a1 = 9 ∧ ¬ a1 = 10 ∧ ¬ a1 = 11) → ((a2 = 0 → ((a3 = 0 → A 0 h) ∧ (¬ a3 = 0 → A 1 h))) ∧ (¬ a2 = 0 → A 1 h))))) : zP X d 167 0 (z_ent [.int a1, .int a2, .int a3] 3) [] z_S0 h (zI A) := by
  show zP X d 167 0 [some (.int a1), some (.int a2), some (.int a3)] [] z_S0 h (zI A)
  refine zl zM167 q167_0 rfl ?_
  by_cases hs1 : a1 = 6
  · have hw := hw.1 hs1
    refine zts 6 hs1 zM167 q167_1 (tgt := 40) (by decide) rfl rfl ?_
    refine zl zM167 q167_40 rfl ?_
    refine zl zM167 q167_41 rfl ?_
    refine zl zM167 q167_42 (pc' := 43) (st' := .int (a2 + a3) :: _) rfl ?_
    exact zri zM167 q167_43 rfl rfl hw
  by_cases hs2 : a1 = 7
  · have hw := hw.2.1 hs2
    refine zts 7 hs2 zM167 q167_1 (tgt := 44) (by decide) rfl rfl ?_
    refine zl zM167 q167_44 rfl ?_
    refine zl zM167 q167_45 rfl ?_
    refine zl zM167 q167_46 (pc' := 47) (st' := .int (a2 - a3) :: _) rfl ?_
    exact zri zM167 q167_47 rfl rfl hw
  by_cases hs3 : a1 = 8
  · have hw := hw.2.2.1 hs3
    refine zts 8 hs3 zM167 q167_1 (tgt := 48) (by decide) rfl rfl ?_
    refine zl zM167 q167_48 rfl ?_
    refine zl zM167 q167_49 rfl ?_
    refine zl zM167 q167_50 (pc' := 51) (st' := .int (a2 * a3) :: _) rfl ?_
    exact zri zM167 q167_51 rfl rfl hw
  by_cases hs4 : a1 = 9
  · have hw := hw.2.2.2.1 hs4
    refine zts 9 hs4 zM167 q167_1 (tgt := 52) (by decide) rfl rfl ?_
    refine zl zM167 q167_52 rfl ?_
    refine zl zM167 q167_53 rfl ?_
    refine zb2_ge zM167 q167_54 (tgt := 61) rfl (fun hc => ?_) (fun hc => ?_)
    · have hw := hw.2 hc
      refine zkI zM167 q167_61 kI0 ?_
      exact zri zM167 q167_62 rfl rfl hw
    · have hw := hw.1 hc
      refine zkI zM167 q167_57 kI1 ?_
      refine zl zM167 q167_58 (pc' := 62) (ls' := _) (st' := _) rfl ?_
      exact zri zM167 q167_62 rfl rfl hw
  by_cases hs5 : a1 = 10
  · have hw := hw.2.2.2.2.1 hs5
    refine zts 10 hs5 zM167 q167_1 (tgt := 63) (by decide) rfl rfl ?_
    refine zl zM167 q167_63 rfl ?_
    refine zl zM167 q167_64 rfl ?_
    refine zb2_ne zM167 q167_65 (tgt := 72) rfl (fun hc => ?_) (fun hc => ?_)
    · have hw := hw.2 hc
      refine zkI zM167 q167_72 kI0 ?_
      exact zri zM167 q167_73 rfl rfl hw
    · have hw := hw.1 hc
      refine zkI zM167 q167_68 kI1 ?_
      refine zl zM167 q167_69 (pc' := 73) (ls' := _) (st' := _) rfl ?_
      exact zri zM167 q167_73 rfl rfl hw
  by_cases hs6 : a1 = 11
  · have hw := hw.2.2.2.2.2.1 hs6
    refine zts 11 hs6 zM167 q167_1 (tgt := 74) (by decide) rfl rfl ?_
    refine zl zM167 q167_74 rfl ?_
    refine zb1_eq zM167 q167_75 (tgt := 86) rfl (fun hc => ?_) (fun hc => ?_)
    · have hw := hw.1 hc
      refine zkI zM167 q167_86 kI0 ?_
      exact zri zM167 q167_87 rfl rfl hw
    · have hw := hw.2 hc
      refine zl zM167 q167_78 rfl ?_
      refine zb1_eq zM167 q167_79 (tgt := 86) rfl (fun hc => ?_) (fun hc => ?_)
      · have hw := hw.1 hc
        refine zkI zM167 q167_86 kI0 ?_
        exact zri zM167 q167_87 rfl rfl hw
      · have hw := hw.2 hc
        refine zkI zM167 q167_82 kI1 ?_
        refine zl zM167 q167_83 (pc' := 87) (ls' := _) (st' := _) rfl ?_
        exact zri zM167 q167_87 rfl rfl hw
  have hw := hw.2.2.2.2.2.2 ⟨hs1, hs2, hs3, hs4, hs5, hs6⟩
  have hs1 := z_neI hs1
  have hs2 := z_neI hs2
  have hs3 := z_neI hs3
  have hs4 := z_neI hs4
  have hs5 := z_neI hs5
  have hs6 := z_neI hs6
  refine ztd (tgt := 88) ?_ zM167 q167_1 rfl ?_
  · simp only [show (6 : Int32).toInt = 6 from rfl, show (7 : Int32).toInt = 7 from rfl, show (8 : Int32).toInt = 8 from rfl, show (9 : Int32).toInt = 9 from rfl, show (10 : Int32).toInt = 10 from rfl, show (11 : Int32).toInt = 11 from rfl] at hs1 hs2 hs3 hs4 hs5 hs6; omega
  refine zl zM167 q167_88 rfl ?_
  refine zb1_ne zM167 q167_89 (tgt := 96) rfl (fun hc => ?_) (fun hc => ?_)
  · have hw := hw.2 hc
    refine zkI zM167 q167_96 kI1 ?_
    refine zl zM167 q167_97 (pc' := 101) (ls' := _) (st' := _) rfl ?_
    exact zri zM167 q167_101 rfl rfl hw
  · have hw := hw.1 hc
    refine zl zM167 q167_92 rfl ?_
    refine zb1_eq zM167 q167_93 (tgt := 100) rfl (fun hc => ?_) (fun hc => ?_)
    · have hw := hw.1 hc
      refine zkI zM167 q167_100 kI0 ?_
      exact zri zM167 q167_101 rfl rfl hw
    · have hw := hw.2 hc
      refine zkI zM167 q167_96 kI1 ?_
      refine zl zM167 q167_97 (pc' := 101) (ls' := _) (st' := _) rfl ?_
      exact zri zM167 q167_101 rfl rfl hw
-- X12_worthOf
theorem b168 {X : Option (List Int32)} {d : Nat} {h : zH} {A : Int32 → zH → Prop} {a1 : Int32} {a2 : Int32} (hw : (z_ib a2 40 ∧ (z_ib a2 40 ∧ zP X (d + 1) 171 0 (z_ent [.ref 82, .int (h 86 (Int32.toNatClampNeg a2)), .int (h 91 (Int32.toNatClampNeg a2))] 6) [] z_S0 h (zI fun v1 h2 => zP X (d + 2) 168 27 [some (.ref 82), none, some (.int a2), some (.int ((3 * v1) + a1)), some (.int 0), some (.int 0), none] [] z_S0 h2 (zI A))))) : zP X (d + 2) 168 0 (z_ent [.ref 82, .int a1, .int a2] 7) [] z_S0 h (zI A) := by
  show zP X (d + 2) 168 0 [some (.ref 82), some (.int a1), some (.int a2), none, none, none, none] [] z_S0 h (zI A)
  refine zkI zM168 q168_0 kI3 ?_
  refine zl zM168 q168_1 rfl ?_
  refine zl zM168 q168_2 rfl ?_
  refine zgR (a := 86) zM168 q168_3 (by decide) g12_39 s82 rfl ?_
  refine zl zM168 q168_6 rfl ?_
  obtain ⟨hb, hw⟩ := hw
  refine ziA zM168 q168_7 (by decide) s86 hb (v := (h 86 (Int32.toNatClampNeg a2))) rfl ?_
  refine zl zM168 q168_8 rfl ?_
  refine zgR (a := 91) zM168 q168_9 (by decide) g12_54 s82 rfl ?_
  refine zl zM168 q168_12 rfl ?_
  obtain ⟨hb, hw⟩ := hw
  refine ziA zM168 q168_13 (by decide) s91 hb (v := (h 91 (Int32.toNatClampNeg a2))) rfl ?_
  refine zcV zM168 q168_14 kl12_239 rfl rfl (Nat.le_of_ble_eq_true rfl) rfl zM171 (Nat.le_of_ble_eq_true rfl) (hw.mono (fun r0 h2 hr3 => ?_))
  obtain ⟨v1, rfl, hw⟩ := hr3
  show zP X (d + 2) 168 17 [some (.ref 82), some (.int a1), some (.int a2), none, none, none, none] [.int v1, .int 3] z_S0 h2 (zI A)
  refine zl zM168 q168_17 (pc' := 18) (st' := .int (3 * v1) :: _) rfl ?_
  refine zl zM168 q168_18 rfl ?_
  refine zl zM168 q168_19 (pc' := 20) (st' := .int ((3 * v1) + a1) :: _) rfl ?_
  refine zl zM168 q168_20 (ls' := [some (.ref 82), some (.int a1), some (.int a2), some (.int ((3 * v1) + a1)), none, none, none]) rfl ?_
  refine zkI zM168 q168_21 kI0 ?_
  refine zl zM168 q168_22 (ls' := [some (.ref 82), some (.int a1), some (.int a2), some (.int ((3 * v1) + a1)), some (.int 0), none, none]) rfl ?_
  refine zkI zM168 q168_24 kI0 ?_
  refine zl zM168 q168_25 (ls' := [some (.ref 82), some (.int a1), some (.int a2), some (.int ((3 * v1) + a1)), some (.int 0), some (.int 0), none]) rfl ?_
  refine zweak (a := [some (.ref 82), none, some (.int a2), some (.int ((3 * v1) + a1)), some (.int 0), some (.int 0), none]) ?_ hw
  exact ⟨rfl, ⟨rfl, ⟨rfl, ⟨rfl, ⟨rfl, trivial⟩⟩⟩⟩⟩
theorem b168_27 {X : Option (List Int32)} {d : Nat} {h : zH} {A : Int32 → zH → Prop} {l2 : Int32} {l3 : Int32} {l4 : Int32} {l5 : Int32} (hw : (z_ib l3 18 ∧ ((l5 < (h 102 (Int32.toNatClampNeg l3)) → (z_ib ((160 * l3) + l5) 2880 ∧ (((h 101 (Int32.toNatClampNeg ((160 * l3) + l5))) < 0 → (z_ib l4 170 ∧ zP X (d + 2) 168 200 [some (.ref 82), none, some (.int l2), some (.int l3), some (.int (l4 + 1)), some (.int l5), none] [] z_S0 (z_up h 107 (Int32.toNatClampNeg l4) ((-1) - (h 101 (Int32.toNatClampNeg ((160 * l3) + l5))))) (zI A))) ∧ (¬ (h 101 (Int32.toNatClampNeg ((160 * l3) + l5))) < 0 → (((h 101 (Int32.toNatClampNeg ((160 * l3) + l5))) < 6 → zP X (d + 1) 166 0 (z_ent [.ref 82, .int (h 101 (Int32.toNatClampNeg ((160 * l3) + l5))), .int l2] 3) [] z_S0 h (zI fun v7 h8 => (z_ib l4 170 ∧ zP X (d + 2) 168 200 [some (.ref 82), none, some (.int l2), some (.int l3), some (.int (l4 + 1)), some (.int l5), none] [] z_S0 (z_up h8 107 (Int32.toNatClampNeg l4) v7) (zI A)))) ∧ (¬ (h 101 (Int32.toNatClampNeg ((160 * l3) + l5))) < 6 → (((h 101 (Int32.toNatClampNeg ((160 * l3) + l5))) = 13 → (z_ib (l4 - 1) 170 ∧ (((h 107 (Int32.toNatClampNeg (l4 - 1))) = 0 → zP X (d + 2) 168 134 [some (.ref 82), none, some (.int l2), some (.int l3), some (.int l4), some (.int l5), none] [.int 1, .int (l4 - 1), .ref 107] z_S0 h (zI A)) ∧ (¬ (h 107 (Int32.toNatClampNeg (l4 - 1))) = 0 → zP X (d + 2) 168 134 [some (.ref 82), none, some (.int l2), some (.int l3), some (.int l4), some (.int l5), none] [.int 0, .int (l4 - 1), .ref 107] z_S0 h (zI A))))) ∧ (¬ (h 101 (Int32.toNatClampNeg ((160 * l3) + l5))) = 13 → (((h 101 (Int32.toNatClampNeg ((160 * l3) + l5))) = 14 → (z_ib (l4 - 1) 170 ∧ (z_ib (l4 - 1) 170 ∧ zP X (d + 2) 168 200 [some (.ref 82), none, some (.int l2), some (.int l3), some (.int l4), some (.int l5), none] [] z_S0 (z_up h 107 (Int32.toNatClampNeg (l4 - 1)) (-(h 107 (Int32.toNatClampNeg (l4 - 1))))) (zI A)))) ∧ (¬ (h 101 (Int32.toNatClampNeg ((160 * l3) + l5))) = 14 → (z_ib ((l4 + (-1)) - 1) 170 ∧ (z_ib (l4 + (-1)) 170 ∧ zP X (d + 1) 167 0 (z_ent [.int (h 101 (Int32.toNatClampNeg ((160 * l3) + l5))), .int (h 107 (Int32.toNatClampNeg ((l4 + (-1)) - 1))), .int (h 107 (Int32.toNatClampNeg (l4 + (-1))))] 3) [] z_S0 h (zI fun v4 h5 => (z_ib ((l4 + (-1)) - 1) 170 ∧ zP X (d + 2) 168 200 [some (.ref 82), none, some (.int l2), some (.int l3), some (.int (l4 + (-1))), some (.int l5), none] [] z_S0 (z_up h5 107 (Int32.toNatClampNeg ((l4 + (-1)) - 1)) v4) (zI A))))))))))))))) ∧ (¬ l5 < (h 102 (Int32.toNatClampNeg l3)) → A (h 107 0) h)))) : zP X (d + 2) 168 27 [some (.ref 82), none, some (.int l2), some (.int l3), some (.int l4), some (.int l5), none] [] z_S0 h (zI A) := by
  refine zl zM168 q168_27 rfl ?_
  refine zl zM168 q168_29 rfl ?_
  refine zgR (a := 102) zM168 q168_30 (by decide) g12_213 s82 rfl ?_
  refine zl zM168 q168_33 rfl ?_
  obtain ⟨hb, hw⟩ := hw
  refine ziA zM168 q168_34 (by decide) s102 hb (v := (h 102 (Int32.toNatClampNeg l3))) rfl ?_
  refine zb2_ge zM168 q168_35 (tgt := 206) rfl (fun hc => ?_) (fun hc => ?_)
  · have hw := hw.2 hc
    refine zl zM168 q168_206 rfl ?_
    refine zgR (a := 107) zM168 q168_207 (by decide) g12_242 s82 rfl ?_
    refine zkI zM168 q168_210 kI0 ?_
    refine ziA zM168 q168_211 (by decide) s107 (by decide) (v := (h 107 0)) rfl ?_
    exact zri zM168 q168_212 rfl rfl hw
  · have hw := hw.1 hc
    refine zl zM168 q168_38 rfl ?_
    refine zgR (a := 101) zM168 q168_39 (by decide) g12_166 s82 rfl ?_
    refine zkS zM168 q168_42 kS160 ?_
    refine zl zM168 q168_45 rfl ?_
    refine zl zM168 q168_46 (pc' := 47) (st' := .int (160 * l3) :: _) rfl ?_
    refine zl zM168 q168_47 rfl ?_
    refine zl zM168 q168_49 (pc' := 50) (st' := .int ((160 * l3) + l5) :: _) rfl ?_
    obtain ⟨hb, hw⟩ := hw
    refine ziA zM168 q168_50 (by decide) s101 hb (v := (h 101 (Int32.toNatClampNeg ((160 * l3) + l5)))) rfl ?_
    refine zl zM168 q168_51 (ls' := [some (.ref 82), none, some (.int l2), some (.int l3), some (.int l4), some (.int l5), some (.int (h 101 (Int32.toNatClampNeg ((160 * l3) + l5))))]) rfl ?_
    refine zl zM168 q168_53 rfl ?_
    refine zb1_ge zM168 q168_55 (tgt := 75) rfl (fun hc => ?_) (fun hc => ?_)
    · have hw := hw.2 hc
      refine zl zM168 q168_75 rfl ?_
      refine zkB zM168 q168_77 kB6 ?_
      refine zb2_ge zM168 q168_79 (tgt := 102) rfl (fun hc => ?_) (fun hc => ?_)
      · have hw := hw.2 hc
        refine zl zM168 q168_102 rfl ?_
        refine zkB zM168 q168_104 kB13 ?_
        refine zb2_ne zM168 q168_106 (tgt := 138) rfl (fun hc => ?_) (fun hc => ?_)
        · have hw := hw.2 hc
          refine zl zM168 q168_138 rfl ?_
          refine zkB zM168 q168_140 kB14 ?_
          refine zb2_ne zM168 q168_142 (tgt := 167) rfl (fun hc => ?_) (fun hc => ?_)
          · have hw := hw.2 hc
            refine zl zM168 q168_167 (ls' := [some (.ref 82), none, some (.int l2), some (.int l3), some (.int (l4 + (-1))), some (.int l5), some (.int (h 101 (Int32.toNatClampNeg ((160 * l3) + l5))))]) rfl ?_
            refine zl zM168 q168_170 rfl ?_
            refine zgR (a := 107) zM168 q168_171 (by decide) g12_242 s82 rfl ?_
            refine zl zM168 q168_174 rfl ?_
            refine zkI zM168 q168_176 kI1 ?_
            refine zl zM168 q168_177 (pc' := 178) (st' := .int ((l4 + (-1)) - 1) :: _) rfl ?_
            refine zl zM168 q168_178 rfl ?_
            refine zl zM168 q168_180 rfl ?_
            refine zgR (a := 107) zM168 q168_181 (by decide) g12_242 s82 rfl ?_
            refine zl zM168 q168_184 rfl ?_
            refine zkI zM168 q168_186 kI1 ?_
            refine zl zM168 q168_187 (pc' := 188) (st' := .int ((l4 + (-1)) - 1) :: _) rfl ?_
            obtain ⟨hb, hw⟩ := hw
            refine ziA zM168 q168_188 (by decide) s107 hb (v := (h 107 (Int32.toNatClampNeg ((l4 + (-1)) - 1)))) rfl ?_
            refine zl zM168 q168_189 rfl ?_
            refine zgR (a := 107) zM168 q168_190 (by decide) g12_242 s82 rfl ?_
            refine zl zM168 q168_193 rfl ?_
            obtain ⟨hb, hw⟩ := hw
            refine ziA zM168 q168_195 (by decide) s107 hb (v := (h 107 (Int32.toNatClampNeg (l4 + (-1))))) rfl ?_
            refine zcS zM168 q168_196 ky12_248 kl12_248 (by decide) rfl (Nat.le_of_ble_eq_true rfl) zM167 (Nat.le_of_ble_eq_true rfl) (hw.mono (fun r0 h5 hr6 => ?_))
            obtain ⟨v4, rfl, hw⟩ := hr6
            show zP X (d + 2) 168 199 [some (.ref 82), none, some (.int l2), some (.int l3), some (.int (l4 + (-1))), some (.int l5), some (.int (h 101 (Int32.toNatClampNeg ((160 * l3) + l5))))] [.int v4, .int ((l4 + (-1)) - 1), .ref 107] z_S0 h5 (zI A)
            obtain ⟨hb, hw⟩ := hw
            refine ziS zM168 q168_199 (by decide) s107 hb rfl ?_
            refine zweak (a := [some (.ref 82), none, some (.int l2), some (.int l3), some (.int (l4 + (-1))), some (.int l5), none]) ?_ hw
            exact ⟨rfl, ⟨rfl, ⟨rfl, ⟨rfl, ⟨rfl, trivial⟩⟩⟩⟩⟩
          · have hw := hw.1 hc
            refine zl zM168 q168_145 rfl ?_
            refine zgR (a := 107) zM168 q168_146 (by decide) g12_242 s82 rfl ?_
            refine zl zM168 q168_149 rfl ?_
            refine zkI zM168 q168_151 kI1 ?_
            refine zl zM168 q168_152 (pc' := 153) (st' := .int (l4 - 1) :: _) rfl ?_
            refine zl zM168 q168_153 rfl ?_
            refine zgR (a := 107) zM168 q168_154 (by decide) g12_242 s82 rfl ?_
            refine zl zM168 q168_157 rfl ?_
            refine zkI zM168 q168_159 kI1 ?_
            refine zl zM168 q168_160 (pc' := 161) (st' := .int (l4 - 1) :: _) rfl ?_
            obtain ⟨hb, hw⟩ := hw
            refine ziA zM168 q168_161 (by decide) s107 hb (v := (h 107 (Int32.toNatClampNeg (l4 - 1)))) rfl ?_
            refine zl zM168 q168_162 (pc' := 163) (st' := .int (-(h 107 (Int32.toNatClampNeg (l4 - 1)))) :: _) rfl ?_
            obtain ⟨hb, hw⟩ := hw
            refine ziS zM168 q168_163 (by decide) s107 hb rfl ?_
            refine zl zM168 q168_164 (pc' := 200) (ls' := _) (st' := _) rfl ?_
            refine zweak (a := [some (.ref 82), none, some (.int l2), some (.int l3), some (.int l4), some (.int l5), none]) ?_ hw
            exact ⟨rfl, ⟨rfl, ⟨rfl, ⟨rfl, ⟨rfl, trivial⟩⟩⟩⟩⟩
        · have hw := hw.1 hc
          refine zl zM168 q168_109 rfl ?_
          refine zgR (a := 107) zM168 q168_110 (by decide) g12_242 s82 rfl ?_
          refine zl zM168 q168_113 rfl ?_
          refine zkI zM168 q168_115 kI1 ?_
          refine zl zM168 q168_116 (pc' := 117) (st' := .int (l4 - 1) :: _) rfl ?_
          refine zl zM168 q168_117 rfl ?_
          refine zgR (a := 107) zM168 q168_118 (by decide) g12_242 s82 rfl ?_
          refine zl zM168 q168_121 rfl ?_
          refine zkI zM168 q168_123 kI1 ?_
          refine zl zM168 q168_124 (pc' := 125) (st' := .int (l4 - 1) :: _) rfl ?_
          obtain ⟨hb, hw⟩ := hw
          refine ziA zM168 q168_125 (by decide) s107 hb (v := (h 107 (Int32.toNatClampNeg (l4 - 1)))) rfl ?_
          refine zb1_ne zM168 q168_126 (tgt := 133) rfl (fun hc => ?_) (fun hc => ?_)
          · have hw := hw.2 hc
            refine zkI zM168 q168_133 kI0 ?_
            refine zweak (a := [some (.ref 82), none, some (.int l2), some (.int l3), some (.int l4), some (.int l5), none]) ?_ hw
            exact ⟨rfl, ⟨rfl, ⟨rfl, ⟨rfl, ⟨rfl, trivial⟩⟩⟩⟩⟩
          · have hw := hw.1 hc
            refine zkI zM168 q168_129 kI1 ?_
            refine zl zM168 q168_130 (pc' := 134) (ls' := _) (st' := _) rfl ?_
            refine zweak (a := [some (.ref 82), none, some (.int l2), some (.int l3), some (.int l4), some (.int l5), none]) ?_ hw
            exact ⟨rfl, ⟨rfl, ⟨rfl, ⟨rfl, ⟨rfl, trivial⟩⟩⟩⟩⟩
      · have hw := hw.1 hc
        refine zl zM168 q168_82 rfl ?_
        refine zgR (a := 107) zM168 q168_83 (by decide) g12_242 s82 rfl ?_
        refine zl zM168 q168_86 rfl ?_
        refine zl zM168 q168_88 rfl ?_
        refine zl zM168 q168_89 rfl ?_
        refine zl zM168 q168_91 rfl ?_
        refine zcV zM168 q168_92 kl12_245 rfl rfl (Nat.le_of_ble_eq_true rfl) rfl zM166 (Nat.le_of_ble_eq_true rfl) (hw.mono (fun r0 h8 hr9 => ?_))
        obtain ⟨v7, rfl, hw⟩ := hr9
        show zP X (d + 2) 168 95 [some (.ref 82), none, some (.int l2), some (.int l3), some (.int l4), some (.int l5), some (.int (h 101 (Int32.toNatClampNeg ((160 * l3) + l5))))] [.int v7, .int l4, .ref 107] z_S0 h8 (zI A)
        obtain ⟨hb, hw⟩ := hw
        refine ziS zM168 q168_95 (by decide) s107 hb rfl ?_
        refine zl zM168 q168_96 (ls' := [some (.ref 82), none, some (.int l2), some (.int l3), some (.int (l4 + 1)), some (.int l5), some (.int (h 101 (Int32.toNatClampNeg ((160 * l3) + l5))))]) rfl ?_
        refine zl zM168 q168_99 (pc' := 200) (ls' := _) (st' := _) rfl ?_
        refine zweak (a := [some (.ref 82), none, some (.int l2), some (.int l3), some (.int (l4 + 1)), some (.int l5), none]) ?_ hw
        exact ⟨rfl, ⟨rfl, ⟨rfl, ⟨rfl, ⟨rfl, trivial⟩⟩⟩⟩⟩
    · have hw := hw.1 hc
      refine zl zM168 q168_58 rfl ?_
      refine zgR (a := 107) zM168 q168_59 (by decide) g12_242 s82 rfl ?_
      refine zl zM168 q168_62 rfl ?_
      refine zkI zM168 q168_64 kIm1 ?_
      refine zl zM168 q168_65 rfl ?_
      refine zl zM168 q168_67 (pc' := 68) (st' := .int ((-1) - (h 101 (Int32.toNatClampNeg ((160 * l3) + l5)))) :: _) rfl ?_
      obtain ⟨hb, hw⟩ := hw
      refine ziS zM168 q168_68 (by decide) s107 hb rfl ?_
      refine zl zM168 q168_69 (ls' := [some (.ref 82), none, some (.int l2), some (.int l3), some (.int (l4 + 1)), some (.int l5), some (.int (h 101 (Int32.toNatClampNeg ((160 * l3) + l5))))]) rfl ?_
      refine zl zM168 q168_72 (pc' := 200) (ls' := _) (st' := _) rfl ?_
      refine zweak (a := [some (.ref 82), none, some (.int l2), some (.int l3), some (.int (l4 + 1)), some (.int l5), none]) ?_ hw
      exact ⟨rfl, ⟨rfl, ⟨rfl, ⟨rfl, ⟨rfl, trivial⟩⟩⟩⟩⟩
theorem b168_200 {X : Option (List Int32)} {d : Nat} {h : zH} {A : Int32 → zH → Prop} {l2 : Int32} {l3 : Int32} {l4 : Int32} {l5 : Int32} (hw : zP X (d + 2) 168 27 [some (.ref 82), none, some (.int l2), some (.int l3), some (.int l4), some (.int (l5 + 1)), none] [] z_S0 h (zI A)) : zP X (d + 2) 168 200 [some (.ref 82), none, some (.int l2), some (.int l3), some (.int l4), some (.int l5), none] [] z_S0 h (zI A) := by
  refine zl zM168 q168_200 (ls' := [some (.ref 82), none, some (.int l2), some (.int l3), some (.int l4), some (.int (l5 + 1)), none]) rfl ?_
  refine zl zM168 q168_203 (pc' := 27) (ls' := _) (st' := _) rfl ?_
  exact hw
theorem b168_134 {X : Option (List Int32)} {d : Nat} {h : zH} {A : Int32 → zH → Prop} {l2 : Int32} {l3 : Int32} {l4 : Int32} {l5 : Int32} {w1 : Int32} {w2 : Int32} (hw : (z_ib w1 170 ∧ zP X (d + 2) 168 200 [some (.ref 82), none, some (.int l2), some (.int l3), some (.int l4), some (.int l5), none] [] z_S0 (z_up h 107 (Int32.toNatClampNeg w1) w2) (zI A))) : zP X (d + 2) 168 134 [some (.ref 82), none, some (.int l2), some (.int l3), some (.int l4), some (.int l5), none] [.int w2, .int w1, .ref 107] z_S0 h (zI A) := by
  obtain ⟨hb, hw⟩ := hw
  refine ziS zM168 q168_134 (by decide) s107 hb rfl ?_
  refine zl zM168 q168_135 (pc' := 200) (ls' := _) (st' := _) rfl ?_
  exact hw
-- X12_contract
theorem b170 {X : Option (List Int32)} {d : Nat} {h : zH} {A : Int32 → zH → Prop} {a1 : Int32} {a2 : Int32} {a3 : Int32} (hw : zP X (d + 1) 131 0 (z_ent [.int a1] 1) [] z_S0 h (zI fun v1 h2 => ((v1 = 0 → A (-2) h2) ∧ (¬ v1 = 0 → zP X (d + 1) 130 0 (z_ent [.int a2] 1) [] z_S0 h2 (zI fun v3 h4 => ((v3 = 0 → A (-2) h4) ∧ (¬ v3 = 0 → zP X (d + 1) 128 0 (z_ent [.long (Int32.toInt64 a3), .long 0, .long (Int32.toInt64 ((h4 82 23) - 1))] 6) [] z_S0 h4 (zI fun v5 h6 => ((v5 = 0 → A (-2) h6) ∧ (¬ v5 = 0 → (((h6 82 40) = 20 → A (-4) h6) ∧ (¬ (h6 82 40) = 20 → (z_ib (h6 82 40) 20 ∧ (z_ib (h6 82 40) 20 ∧ (z_ib (h6 82 40) 20 ∧ A ((h6 82 40) + 1) (z_up (z_up (z_up (z_up h6 108 (Int32.toNatClampNeg (h6 82 40)) a1) 109 (Int32.toNatClampNeg (h6 82 40)) a2) 110 (Int32.toNatClampNeg (h6 82 40)) a3) 82 40 ((h6 82 40) + 1))))))))))))))))) : zP X (d + 2) 170 0 (z_ent [.ref 82, .int a1, .int a2, .int a3] 4) [] z_S0 h (zI A) := by
  show zP X (d + 2) 170 0 [some (.ref 82), some (.int a1), some (.int a2), some (.int a3)] [] z_S0 h (zI A)
  refine zl zM170 q170_0 rfl ?_
  refine zcS zM170 q170_1 ky12_24 kl12_24 (by decide) rfl (Nat.le_of_ble_eq_true rfl) zM131 (Nat.le_of_ble_eq_true rfl) (hw.mono (fun r0 h2 hr9 => ?_))
  obtain ⟨v1, rfl, hw⟩ := hr9
  show zP X (d + 2) 170 4 [some (.ref 82), some (.int a1), some (.int a2), some (.int a3)] [.int v1] z_S0 h2 (zI A)
  refine zb1_eq zM170 q170_4 (tgt := 30) rfl (fun hc => ?_) (fun hc => ?_)
  · have hw := hw.1 hc
    refine zkB zM170 q170_30 kBm2 ?_
    exact zri zM170 q170_32 rfl rfl hw
  · have hw := hw.2 hc
    refine zl zM170 q170_7 rfl ?_
    refine zcS zM170 q170_8 ky12_105 kl12_105 (by decide) rfl (Nat.le_of_ble_eq_true rfl) zM130 (Nat.le_of_ble_eq_true rfl) (hw.mono (fun r0 h4 hr8 => ?_))
    obtain ⟨v3, rfl, hw⟩ := hr8
    show zP X (d + 2) 170 11 [some (.ref 82), some (.int a1), some (.int a2), some (.int a3)] [.int v3] z_S0 h4 (zI A)
    refine zb1_eq zM170 q170_11 (tgt := 30) rfl (fun hc => ?_) (fun hc => ?_)
    · have hw := hw.1 hc
      refine zkB zM170 q170_30 kBm2 ?_
      exact zri zM170 q170_32 rfl rfl hw
    · have hw := hw.2 hc
      refine zl zM170 q170_14 rfl ?_
      refine zl zM170 q170_15 (pc' := 16) (st' := .long (Int32.toInt64 a3) :: _) rfl ?_
      refine zkL (v := 0) zM170 q170_16 rfl ?_
      refine zl zM170 q170_17 rfl ?_
      refine zgI zM170 q170_18 (by decide) g12_229 s82 rfl (v := (h4 82 23)) rfl ?_
      refine zkI zM170 q170_21 kI1 ?_
      refine zl zM170 q170_22 (pc' := 23) (st' := .int ((h4 82 23) - 1) :: _) rfl ?_
      refine zl zM170 q170_23 (pc' := 24) (st' := .long (Int32.toInt64 ((h4 82 23) - 1)) :: _) rfl ?_
      refine zcS zM170 q170_24 ky12_3 kl12_3 (by decide) rfl (Nat.le_of_ble_eq_true rfl) zM128 (Nat.le_of_ble_eq_true rfl) (hw.mono (fun r0 h6 hr7 => ?_))
      obtain ⟨v5, rfl, hw⟩ := hr7
      show zP X (d + 2) 170 27 [some (.ref 82), some (.int a1), some (.int a2), some (.int a3)] [.int v5] z_S0 h6 (zI A)
      refine zb1_ne zM170 q170_27 (tgt := 33) rfl (fun hc => ?_) (fun hc => ?_)
      · have hw := hw.2 hc
        refine zl zM170 q170_33 rfl ?_
        refine zgI zM170 q170_34 (by decide) g12_355 s82 rfl (v := (h6 82 40)) rfl ?_
        refine zkB zM170 q170_37 kB20 ?_
        refine zb2_ne zM170 q170_39 (tgt := 45) rfl (fun hc => ?_) (fun hc => ?_)
        · have hw := hw.2 hc
          refine zl zM170 q170_45 rfl ?_
          refine zgR (a := 108) zM170 q170_46 (by decide) g12_256 s82 rfl ?_
          refine zl zM170 q170_49 rfl ?_
          refine zgI zM170 q170_50 (by decide) g12_355 s82 rfl (v := (h6 82 40)) rfl ?_
          refine zl zM170 q170_53 rfl ?_
          obtain ⟨hb, hw⟩ := hw
          refine ziS zM170 q170_54 (by decide) s108 hb rfl ?_
          refine zl zM170 q170_55 rfl ?_
          refine zgR (a := 109) zM170 q170_56 (by decide) g12_259 s82 rfl ?_
          refine zl zM170 q170_59 rfl ?_
          refine zgI zM170 q170_60 (by decide) g12_355 s82 rfl (v := (h6 82 40)) rfl ?_
          refine zl zM170 q170_63 rfl ?_
          obtain ⟨hb, hw⟩ := hw
          refine ziS zM170 q170_64 (by decide) s109 hb rfl ?_
          refine zl zM170 q170_65 rfl ?_
          refine zgR (a := 110) zM170 q170_66 (by decide) g12_262 s82 rfl ?_
          refine zl zM170 q170_69 rfl ?_
          refine zgI zM170 q170_70 (by decide) g12_355 s82 rfl (v := (h6 82 40)) rfl ?_
          refine zl zM170 q170_73 rfl ?_
          obtain ⟨hb, hw⟩ := hw
          refine ziS zM170 q170_74 (by decide) s110 hb rfl ?_
          refine zl zM170 q170_75 rfl ?_
          refine zl zM170 q170_76 rfl ?_
          refine zgI zM170 q170_77 (by decide) g12_355 s82 rfl (v := (h6 82 40)) rfl ?_
          refine zkI zM170 q170_80 kI1 ?_
          refine zl zM170 q170_81 (pc' := 82) (st' := .int ((h6 82 40) + 1) :: _) rfl ?_
          refine zpi zM170 q170_82 (by decide) g12_355 s82 rfl rfl ?_
          refine zl zM170 q170_85 rfl ?_
          refine zgI zM170 q170_86 (by decide) g12_355 s82 rfl (v := ((h6 82 40) + 1)) rfl ?_
          exact zri zM170 q170_89 rfl rfl hw
        · have hw := hw.1 hc
          refine zkB zM170 q170_42 kBm4 ?_
          exact zri zM170 q170_44 rfl rfl hw
      · have hw := hw.1 hc
        refine zkB zM170 q170_30 kBm2 ?_
        exact zri zM170 q170_32 rfl rfl hw
-- X12_textFor
theorem b171 {X : Option (List Int32)} {d : Nat} {h : zH} {A : Int32 → zH → Prop} {a1 : Int32} {a2 : Int32} (hw : zP X d 171 8 [some (.ref 82), some (.int a1), some (.int a2), some (.int (-1)), some (.int 0), some (.int 0)] [] z_S0 h (zI A)) : zP X d 171 0 (z_ent [.ref 82, .int a1, .int a2] 6) [] z_S0 h (zI A) := by
  show zP X d 171 0 [some (.ref 82), some (.int a1), some (.int a2), none, none, none] [] z_S0 h (zI A)
  refine zkI zM171 q171_0 kIm1 ?_
  refine zl zM171 q171_1 (ls' := [some (.ref 82), some (.int a1), some (.int a2), some (.int (-1)), none, none]) rfl ?_
  refine zkI zM171 q171_2 kI0 ?_
  refine zl zM171 q171_3 (ls' := [some (.ref 82), some (.int a1), some (.int a2), some (.int (-1)), some (.int 0), none]) rfl ?_
  refine zkI zM171 q171_5 kI0 ?_
  refine zl zM171 q171_6 (ls' := [some (.ref 82), some (.int a1), some (.int a2), some (.int (-1)), some (.int 0), some (.int 0)]) rfl ?_
  exact hw
theorem b171_8 {X : Option (List Int32)} {d : Nat} {h : zH} {A : Int32 → zH → Prop} {l1 : Int32} {l2 : Int32} {l3 : Int32} {l4 : Int32} {l5 : Int32} (hw : ((l5 < (h 82 40) → (z_ib l5 20 ∧ (((h 108 (Int32.toNatClampNeg l5)) = l1 → (z_ib l5 20 ∧ ((l2 < (h 109 (Int32.toNatClampNeg l5)) → zP X d 171 67 [some (.ref 82), some (.int l1), some (.int l2), some (.int l3), some (.int l4), some (.int l5)] [] z_S0 h (zI A)) ∧ (¬ l2 < (h 109 (Int32.toNatClampNeg l5)) → (z_ib l5 20 ∧ (((h 109 (Int32.toNatClampNeg l5)) < l3 → zP X d 171 67 [some (.ref 82), some (.int l1), some (.int l2), some (.int l3), some (.int l4), some (.int l5)] [] z_S0 h (zI A)) ∧ (¬ (h 109 (Int32.toNatClampNeg l5)) < l3 → (z_ib l5 20 ∧ (z_ib l5 20 ∧ zP X d 171 67 [some (.ref 82), some (.int l1), some (.int l2), some (.int (h 109 (Int32.toNatClampNeg l5))), some (.int (h 110 (Int32.toNatClampNeg l5))), some (.int l5)] [] z_S0 h (zI A)))))))))) ∧ (¬ (h 108 (Int32.toNatClampNeg l5)) = l1 → zP X d 171 67 [some (.ref 82), some (.int l1), some (.int l2), some (.int l3), some (.int l4), some (.int l5)] [] z_S0 h (zI A))))) ∧ (¬ l5 < (h 82 40) → A l4 h))) : zP X d 171 8 [some (.ref 82), some (.int l1), some (.int l2), some (.int l3), some (.int l4), some (.int l5)] [] z_S0 h (zI A) := by
  refine zl zM171 q171_8 rfl ?_
  refine zl zM171 q171_10 rfl ?_
  refine zgI zM171 q171_11 (by decide) g12_355 s82 rfl (v := (h 82 40)) rfl ?_
  refine zb2_ge zM171 q171_14 (tgt := 73) rfl (fun hc => ?_) (fun hc => ?_)
  · have hw := hw.2 hc
    refine zl zM171 q171_73 rfl ?_
    exact zri zM171 q171_75 rfl rfl hw
  · have hw := hw.1 hc
    refine zl zM171 q171_17 rfl ?_
    refine zgR (a := 108) zM171 q171_18 (by decide) g12_256 s82 rfl ?_
    refine zl zM171 q171_21 rfl ?_
    obtain ⟨hb, hw⟩ := hw
    refine ziA zM171 q171_23 (by decide) s108 hb (v := (h 108 (Int32.toNatClampNeg l5))) rfl ?_
    refine zl zM171 q171_24 rfl ?_
    refine zb2_ne zM171 q171_25 (tgt := 67) rfl (fun hc => ?_) (fun hc => ?_)
    · have hw := hw.2 hc
      exact hw
    · have hw := hw.1 hc
      refine zl zM171 q171_28 rfl ?_
      refine zgR (a := 109) zM171 q171_29 (by decide) g12_259 s82 rfl ?_
      refine zl zM171 q171_32 rfl ?_
      obtain ⟨hb, hw⟩ := hw
      refine ziA zM171 q171_34 (by decide) s109 hb (v := (h 109 (Int32.toNatClampNeg l5))) rfl ?_
      refine zl zM171 q171_35 rfl ?_
      refine zb2_gt zM171 q171_36 (tgt := 67) rfl (fun hc => ?_) (fun hc => ?_)
      · have hw := hw.1 hc
        exact hw
      · have hw := hw.2 hc
        refine zl zM171 q171_39 rfl ?_
        refine zgR (a := 109) zM171 q171_40 (by decide) g12_259 s82 rfl ?_
        refine zl zM171 q171_43 rfl ?_
        obtain ⟨hb, hw⟩ := hw
        refine ziA zM171 q171_45 (by decide) s109 hb (v := (h 109 (Int32.toNatClampNeg l5))) rfl ?_
        refine zl zM171 q171_46 rfl ?_
        refine zb2_lt zM171 q171_47 (tgt := 67) rfl (fun hc => ?_) (fun hc => ?_)
        · have hw := hw.1 hc
          exact hw
        · have hw := hw.2 hc
          refine zl zM171 q171_50 rfl ?_
          refine zgR (a := 109) zM171 q171_51 (by decide) g12_259 s82 rfl ?_
          refine zl zM171 q171_54 rfl ?_
          obtain ⟨hb, hw⟩ := hw
          refine ziA zM171 q171_56 (by decide) s109 hb (v := (h 109 (Int32.toNatClampNeg l5))) rfl ?_
          refine zl zM171 q171_57 (ls' := [some (.ref 82), some (.int l1), some (.int l2), some (.int (h 109 (Int32.toNatClampNeg l5))), some (.int l4), some (.int l5)]) rfl ?_
          refine zl zM171 q171_58 rfl ?_
          refine zgR (a := 110) zM171 q171_59 (by decide) g12_262 s82 rfl ?_
          refine zl zM171 q171_62 rfl ?_
          obtain ⟨hb, hw⟩ := hw
          refine ziA zM171 q171_64 (by decide) s110 hb (v := (h 110 (Int32.toNatClampNeg l5))) rfl ?_
          refine zl zM171 q171_65 (ls' := [some (.ref 82), some (.int l1), some (.int l2), some (.int (h 109 (Int32.toNatClampNeg l5))), some (.int (h 110 (Int32.toNatClampNeg l5))), some (.int l5)]) rfl ?_
          exact hw
theorem b171_67 {X : Option (List Int32)} {d : Nat} {h : zH} {A : Int32 → zH → Prop} {l1 : Int32} {l2 : Int32} {l3 : Int32} {l4 : Int32} {l5 : Int32} (hw : zP X d 171 8 [some (.ref 82), some (.int l1), some (.int l2), some (.int l3), some (.int l4), some (.int (l5 + 1))] [] z_S0 h (zI A)) : zP X d 171 67 [some (.ref 82), some (.int l1), some (.int l2), some (.int l3), some (.int l4), some (.int l5)] [] z_S0 h (zI A) := by
  refine zl zM171 q171_67 (ls' := [some (.ref 82), some (.int l1), some (.int l2), some (.int l3), some (.int l4), some (.int (l5 + 1))]) rfl ?_
  refine zl zM171 q171_70 (pc' := 8) (ls' := _) (st' := _) rfl ?_
  exact hw
-- X12_contractOf
theorem b172 {X : Option (List Int32)} {d : Nat} {h : zH} {A : Int32 → zH → Prop} {a1 : Int32} {a2 : Int32} (hw : zP X (d + 1) 131 0 (z_ent [.int a1] 1) [] z_S0 h (zI fun v1 h2 => ((v1 = 0 → A (-2) h2) ∧ (¬ v1 = 0 → zP X (d + 1) 130 0 (z_ent [.int a2] 1) [] z_S0 h2 (zI fun v3 h4 => ((v3 = 0 → A (-2) h4) ∧ (¬ v3 = 0 → zP X (d + 1) 171 0 (z_ent [.ref 82, .int a1, .int a2] 6) [] z_S0 h4 (zI fun v5 h6 => A v5 h6)))))))) : zP X (d + 2) 172 0 (z_ent [.ref 82, .int a1, .int a2] 3) [] z_S0 h (zI A) := by
  show zP X (d + 2) 172 0 [some (.ref 82), some (.int a1), some (.int a2)] [] z_S0 h (zI A)
  refine zl zM172 q172_0 rfl ?_
  refine zcS zM172 q172_1 ky12_24 kl12_24 (by decide) rfl (Nat.le_of_ble_eq_true rfl) zM131 (Nat.le_of_ble_eq_true rfl) (hw.mono (fun r0 h2 hr9 => ?_))
  obtain ⟨v1, rfl, hw⟩ := hr9
  show zP X (d + 2) 172 4 [some (.ref 82), some (.int a1), some (.int a2)] [.int v1] z_S0 h2 (zI A)
  refine zb1_eq zM172 q172_4 (tgt := 23) rfl (fun hc => ?_) (fun hc => ?_)
  · have hw := hw.1 hc
    refine zkB zM172 q172_23 kBm2 ?_
    exact zri zM172 q172_25 rfl rfl hw
  · have hw := hw.2 hc
    refine zl zM172 q172_7 rfl ?_
    refine zcS zM172 q172_8 ky12_105 kl12_105 (by decide) rfl (Nat.le_of_ble_eq_true rfl) zM130 (Nat.le_of_ble_eq_true rfl) (hw.mono (fun r0 h4 hr8 => ?_))
    obtain ⟨v3, rfl, hw⟩ := hr8
    show zP X (d + 2) 172 11 [some (.ref 82), some (.int a1), some (.int a2)] [.int v3] z_S0 h4 (zI A)
    refine zb1_eq zM172 q172_11 (tgt := 23) rfl (fun hc => ?_) (fun hc => ?_)
    · have hw := hw.1 hc
      refine zkB zM172 q172_23 kBm2 ?_
      exact zri zM172 q172_25 rfl rfl hw
    · have hw := hw.2 hc
      refine zl zM172 q172_14 rfl ?_
      refine zl zM172 q172_15 rfl ?_
      refine zl zM172 q172_16 rfl ?_
      refine zcV zM172 q172_17 kl12_239 rfl rfl (Nat.le_of_ble_eq_true rfl) rfl zM171 (Nat.le_of_ble_eq_true rfl) (hw.mono (fun r0 h6 hr7 => ?_))
      obtain ⟨v5, rfl, hw⟩ := hr7
      show zP X (d + 2) 172 20 [some (.ref 82), some (.int a1), some (.int a2)] [.int v5] z_S0 h6 (zI A)
      refine zl zM172 q172_20 (pc' := 25) (ls' := _) (st' := _) rfl ?_
      exact zri zM172 q172_25 rfl rfl hw
-- X12_says
theorem b173 {X : Option (List Int32)} {d : Nat} {h : zH} {A : Int64 → zH → Prop} {a1 : Int32} {a2 : Int32} (hw : zP X (d + 2) 134 0 (z_ent [.ref 82, .int a1] 2) [] z_S0 h (zI fun v1 h2 => ((v1 = 0 → A (-4611686018427387904) h2) ∧ (¬ v1 = 0 → zP X (d + 2) 128 0 (z_ent [.long (Int32.toInt64 a2), .long 0, .long 2] 6) [] z_S0 h2 (zI fun v3 h4 => ((v3 = 0 → A (-4611686018427387904) h4) ∧ (¬ v3 = 0 → zP X (d + 2) 168 0 (z_ent [.ref 82, .int a2, .int a1] 7) [] z_S0 h4 (zI fun v5 h7 => A (Int32.toInt64 v5) h7)))))))) : zP X (d + 3) 173 0 (z_ent [.ref 82, .int a1, .int a2] 3) [] z_S0 h (zJ A) := by
  show zP X (d + 3) 173 0 [some (.ref 82), some (.int a1), some (.int a2)] [] z_S0 h (zJ A)
  refine zl zM173 q173_0 rfl ?_
  refine zl zM173 q173_1 rfl ?_
  refine zcV zM173 q173_2 kl12_73 rfl rfl (Nat.le_of_ble_eq_true rfl) rfl zM134 (Nat.le_of_ble_eq_true rfl) (hw.mono (fun r0 h2 hr10 => ?_))
  obtain ⟨v1, rfl, hw⟩ := hr10
  show zP X (d + 3) 173 5 [some (.ref 82), some (.int a1), some (.int a2)] [.int v1] z_S0 h2 (zJ A)
  refine zb1_eq zM173 q173_5 (tgt := 30) rfl (fun hc => ?_) (fun hc => ?_)
  · have hw := hw.1 hc
    refine zkJ zM173 q173_30 kc12_363 ?_
    exact zrj zM173 q173_33 rfl hw
  · have hw := hw.2 hc
    refine zl zM173 q173_8 rfl ?_
    refine zl zM173 q173_9 (pc' := 10) (st' := .long (Int32.toInt64 a2) :: _) rfl ?_
    refine zkL (v := 0) zM173 q173_10 rfl ?_
    refine zkJ zM173 q173_11 kc12_358 ?_
    refine zcS zM173 q173_14 ky12_3 kl12_3 (by decide) rfl (Nat.le_of_ble_eq_true rfl) zM128 (Nat.le_of_ble_eq_true rfl) (hw.mono (fun r0 h4 hr9 => ?_))
    obtain ⟨v3, rfl, hw⟩ := hr9
    show zP X (d + 3) 173 17 [some (.ref 82), some (.int a1), some (.int a2)] [.int v3] z_S0 h4 (zJ A)
    refine zb1_eq zM173 q173_17 (tgt := 30) rfl (fun hc => ?_) (fun hc => ?_)
    · have hw := hw.1 hc
      refine zkJ zM173 q173_30 kc12_363 ?_
      exact zrj zM173 q173_33 rfl hw
    · have hw := hw.2 hc
      refine zl zM173 q173_20 rfl ?_
      refine zl zM173 q173_21 rfl ?_
      refine zl zM173 q173_22 rfl ?_
      refine zcV zM173 q173_23 kl12_360 rfl rfl (Nat.le_of_ble_eq_true rfl) rfl zM168 (Nat.le_of_ble_eq_true rfl) (hw.mono (fun r0 h7 hr8 => ?_))
      obtain ⟨v5, rfl, hw⟩ := hr8
      show zP X (d + 3) 173 26 [some (.ref 82), some (.int a1), some (.int a2)] [.int v5] z_S0 h7 (zJ A)
      refine zl zM173 q173_26 (pc' := 27) (st' := .long (Int32.toInt64 v5) :: _) rfl ?_
      refine zl zM173 q173_27 (pc' := 33) (ls' := _) (st' := _) rfl ?_
      exact zrj zM173 q173_33 rfl hw
-- X12_areDays
theorem b174 {X : Option (List Int32)} {d : Nat} {h : zH} {A : Int32 → zH → Prop} {a1 : Int32} {a2 : Int32} (hw : zP X (d + 1) 130 0 (z_ent [.int a1] 1) [] z_S0 h (zI fun v1 h2 => ((v1 = 0 → A 0 h2) ∧ (¬ v1 = 0 → zP X (d + 1) 130 0 (z_ent [.int a2] 1) [] z_S0 h2 (zI fun v3 h4 => ((v3 = 0 → A 0 h4) ∧ (¬ v3 = 0 → ((a2 < a1 → A 0 h4) ∧ (¬ a2 < a1 → A 1 h4))))))))) : zP X (d + 2) 174 0 (z_ent [.int a1, .int a2] 2) [] z_S0 h (zI A) := by
  show zP X (d + 2) 174 0 [some (.int a1), some (.int a2)] [] z_S0 h (zI A)
  refine zl zM174 q174_0 rfl ?_
  refine zcS zM174 q174_1 ky12_105 kl12_105 (by decide) rfl (Nat.le_of_ble_eq_true rfl) zM130 (Nat.le_of_ble_eq_true rfl) (hw.mono (fun r0 h2 hr6 => ?_))
  obtain ⟨v1, rfl, hw⟩ := hr6
  show zP X (d + 2) 174 4 [some (.int a1), some (.int a2)] [.int v1] z_S0 h2 (zI A)
  refine zb1_eq zM174 q174_4 (tgt := 23) rfl (fun hc => ?_) (fun hc => ?_)
  · have hw := hw.1 hc
    refine zkI zM174 q174_23 kI0 ?_
    exact zri zM174 q174_24 rfl rfl hw
  · have hw := hw.2 hc
    refine zl zM174 q174_7 rfl ?_
    refine zcS zM174 q174_8 ky12_105 kl12_105 (by decide) rfl (Nat.le_of_ble_eq_true rfl) zM130 (Nat.le_of_ble_eq_true rfl) (hw.mono (fun r0 h4 hr5 => ?_))
    obtain ⟨v3, rfl, hw⟩ := hr5
    show zP X (d + 2) 174 11 [some (.int a1), some (.int a2)] [.int v3] z_S0 h4 (zI A)
    refine zb1_eq zM174 q174_11 (tgt := 23) rfl (fun hc => ?_) (fun hc => ?_)
    · have hw := hw.1 hc
      refine zkI zM174 q174_23 kI0 ?_
      exact zri zM174 q174_24 rfl rfl hw
    · have hw := hw.2 hc
      refine zl zM174 q174_14 rfl ?_
      refine zl zM174 q174_15 rfl ?_
      refine zb2_gt zM174 q174_16 (tgt := 23) rfl (fun hc => ?_) (fun hc => ?_)
      · have hw := hw.1 hc
        refine zkI zM174 q174_23 kI0 ?_
        exact zri zM174 q174_24 rfl rfl hw
      · have hw := hw.2 hc
        refine zkI zM174 q174_19 kI1 ?_
        refine zl zM174 q174_20 (pc' := 24) (ls' := _) (st' := _) rfl ?_
        exact zri zM174 q174_24 rfl rfl hw
-- X12_isOf
theorem b175 {X : Option (List Int32)} {d : Nat} {h : zH} {A : Int32 → zH → Prop} {a1 : Int32} {a2 : Int32} {a3 : Int32} {a4 : Int32} (hw : (z_ib a1 40 ∧ (((h 86 (Int32.toNatClampNeg a1)) = a2 → (z_ib a1 40 ∧ (((h 91 (Int32.toNatClampNeg a1)) < a3 → A 0 h) ∧ (¬ (h 91 (Int32.toNatClampNeg a1)) < a3 → (z_ib a1 40 ∧ ((a4 < (h 91 (Int32.toNatClampNeg a1)) → A 0 h) ∧ (¬ a4 < (h 91 (Int32.toNatClampNeg a1)) → A 1 h))))))) ∧ (¬ (h 86 (Int32.toNatClampNeg a1)) = a2 → A 0 h)))) : zP X d 175 0 (z_ent [.ref 82, .int a1, .int a2, .int a3, .int a4] 5) [] z_S0 h (zI A) := by
  show zP X d 175 0 [some (.ref 82), some (.int a1), some (.int a2), some (.int a3), some (.int a4)] [] z_S0 h (zI A)
  refine zl zM175 q175_0 rfl ?_
  refine zgR (a := 86) zM175 q175_1 (by decide) g12_39 s82 rfl ?_
  refine zl zM175 q175_4 rfl ?_
  obtain ⟨hb, hw⟩ := hw
  refine ziA zM175 q175_5 (by decide) s86 hb (v := (h 86 (Int32.toNatClampNeg a1))) rfl ?_
  refine zl zM175 q175_6 rfl ?_
  refine zb2_ne zM175 q175_7 (tgt := 35) rfl (fun hc => ?_) (fun hc => ?_)
  · have hw := hw.2 hc
    refine zkI zM175 q175_35 kI0 ?_
    exact zri zM175 q175_36 rfl rfl hw
  · have hw := hw.1 hc
    refine zl zM175 q175_10 rfl ?_
    refine zgR (a := 91) zM175 q175_11 (by decide) g12_54 s82 rfl ?_
    refine zl zM175 q175_14 rfl ?_
    obtain ⟨hb, hw⟩ := hw
    refine ziA zM175 q175_15 (by decide) s91 hb (v := (h 91 (Int32.toNatClampNeg a1))) rfl ?_
    refine zl zM175 q175_16 rfl ?_
    refine zb2_lt zM175 q175_17 (tgt := 35) rfl (fun hc => ?_) (fun hc => ?_)
    · have hw := hw.1 hc
      refine zkI zM175 q175_35 kI0 ?_
      exact zri zM175 q175_36 rfl rfl hw
    · have hw := hw.2 hc
      refine zl zM175 q175_20 rfl ?_
      refine zgR (a := 91) zM175 q175_21 (by decide) g12_54 s82 rfl ?_
      refine zl zM175 q175_24 rfl ?_
      obtain ⟨hb, hw⟩ := hw
      refine ziA zM175 q175_25 (by decide) s91 hb (v := (h 91 (Int32.toNatClampNeg a1))) rfl ?_
      refine zl zM175 q175_26 rfl ?_
      refine zb2_gt zM175 q175_28 (tgt := 35) rfl (fun hc => ?_) (fun hc => ?_)
      · have hw := hw.1 hc
        refine zkI zM175 q175_35 kI0 ?_
        exact zri zM175 q175_36 rfl rfl hw
      · have hw := hw.2 hc
        refine zkI zM175 q175_31 kI1 ?_
        refine zl zM175 q175_32 (pc' := 36) (ls' := _) (st' := _) rfl ?_
        exact zri zM175 q175_36 rfl rfl hw
-- X12_owed
theorem b176 {X : Option (List Int32)} {d : Nat} {h : zH} {A : Int64 → zH → Prop} {a1 : Int32} {a2 : Int32} {a3 : Int32} (hw : zP X (d + 2) 131 0 (z_ent [.int a1] 1) [] z_S0 h (zI fun v1 h2 => ((v1 = 0 → A (-4611686018427387904) h2) ∧ (¬ v1 = 0 → zP X (d + 2) 174 0 (z_ent [.int a2, .int a3] 2) [] z_S0 h2 (zI fun v3 h4 => ((v3 = 0 → A (-4611686018427387904) h4) ∧ (¬ v3 = 0 → zP X (d + 3) 176 25 [some (.ref 82), some (.int a1), some (.int a2), some (.int a3), some (.long 0), none, some (.int 0)] [] z_S0 h4 (zJ A)))))))) : zP X (d + 3) 176 0 (z_ent [.ref 82, .int a1, .int a2, .int a3] 7) [] z_S0 h (zJ A) := by
  show zP X (d + 3) 176 0 [some (.ref 82), some (.int a1), some (.int a2), some (.int a3), none, none, none] [] z_S0 h (zJ A)
  refine zl zM176 q176_0 rfl ?_
  refine zcS zM176 q176_1 ky12_24 kl12_24 (by decide) rfl (Nat.le_of_ble_eq_true rfl) zM131 (Nat.le_of_ble_eq_true rfl) (hw.mono (fun r0 h2 hr6 => ?_))
  obtain ⟨v1, rfl, hw⟩ := hr6
  show zP X (d + 3) 176 4 [some (.ref 82), some (.int a1), some (.int a2), some (.int a3), none, none, none] [.int v1] z_S0 h2 (zJ A)
  refine zb1_eq zM176 q176_4 (tgt := 15) rfl (fun hc => ?_) (fun hc => ?_)
  · have hw := hw.1 hc
    refine zkJ zM176 q176_15 kc12_363 ?_
    exact zrj zM176 q176_18 rfl hw
  · have hw := hw.2 hc
    refine zl zM176 q176_7 rfl ?_
    refine zl zM176 q176_8 rfl ?_
    refine zcS zM176 q176_9 ky12_365 kl12_365 (by decide) rfl (Nat.le_of_ble_eq_true rfl) zM174 (Nat.le_of_ble_eq_true rfl) (hw.mono (fun r0 h4 hr5 => ?_))
    obtain ⟨v3, rfl, hw⟩ := hr5
    show zP X (d + 3) 176 12 [some (.ref 82), some (.int a1), some (.int a2), some (.int a3), none, none, none] [.int v3] z_S0 h4 (zJ A)
    refine zb1_ne zM176 q176_12 (tgt := 19) rfl (fun hc => ?_) (fun hc => ?_)
    · have hw := hw.2 hc
      refine zkL (v := 0) zM176 q176_19 rfl ?_
      refine zl zM176 q176_20 (ls' := [some (.ref 82), some (.int a1), some (.int a2), some (.int a3), some (.long 0), none, none]) rfl ?_
      refine zkI zM176 q176_22 kI0 ?_
      refine zl zM176 q176_23 (ls' := [some (.ref 82), some (.int a1), some (.int a2), some (.int a3), some (.long 0), none, some (.int 0)]) rfl ?_
      exact hw
    · have hw := hw.1 hc
      refine zkJ zM176 q176_15 kc12_363 ?_
      exact zrj zM176 q176_18 rfl hw
theorem b176_25 {X : Option (List Int32)} {d : Nat} {h : zH} {A : Int64 → zH → Prop} {l1 : Int32} {l2 : Int32} {l3 : Int32} {l4 : Int64} {l6 : Int32} (hw : ((l6 < (h 82 3) → zP X (d + 2) 175 0 (z_ent [.ref 82, .int l6, .int l1, .int l2, .int l3] 5) [] z_S0 h (zI fun v7 h8 => ((v7 = 0 → zP X (d + 3) 176 76 [some (.ref 82), some (.int l1), some (.int l2), some (.int l3), some (.long l4), none, some (.int l6)] [] z_S0 h8 (zJ A)) ∧ (¬ v7 = 0 → zP X (d + 2) 168 0 (z_ent [.ref 82, .int 0, .int l6] 7) [] z_S0 h8 (zI fun v9 h11 => zP X (d + 2) 168 0 (z_ent [.ref 82, .int 1, .int l6] 7) [] z_S0 h11 (zI fun v12 h14 => zP X (d + 2) 214 0 (z_ent [.int 0, .int v12] 2) [] z_S0 h14 (zI fun v15 h16 => zP X (d + 3) 176 76 [some (.ref 82), some (.int l1), some (.int l2), some (.int l3), some (.long ((l4 + (Int32.toInt64 v9)) - (Int32.toInt64 v15))), none, some (.int l6)] [] z_S0 h16 (zJ A)))))))) ∧ (¬ l6 < (h 82 3) → A l4 h))) : zP X (d + 3) 176 25 [some (.ref 82), some (.int l1), some (.int l2), some (.int l3), some (.long l4), none, some (.int l6)] [] z_S0 h (zJ A) := by
  refine zl zM176 q176_25 rfl ?_
  refine zl zM176 q176_27 rfl ?_
  refine zgI zM176 q176_28 (by decide) g12_21 s82 rfl (v := (h 82 3)) rfl ?_
  refine zb2_ge zM176 q176_31 (tgt := 82) rfl (fun hc => ?_) (fun hc => ?_)
  · have hw := hw.2 hc
    refine zl zM176 q176_82 rfl ?_
    exact zrj zM176 q176_84 rfl hw
  · have hw := hw.1 hc
    refine zl zM176 q176_34 rfl ?_
    refine zl zM176 q176_35 rfl ?_
    refine zl zM176 q176_37 rfl ?_
    refine zl zM176 q176_38 rfl ?_
    refine zl zM176 q176_39 rfl ?_
    refine zcV zM176 q176_40 kl12_369 rfl rfl (Nat.le_of_ble_eq_true rfl) rfl zM175 (Nat.le_of_ble_eq_true rfl) (hw.mono (fun r0 h8 hr20 => ?_))
    obtain ⟨v7, rfl, hw⟩ := hr20
    show zP X (d + 3) 176 43 [some (.ref 82), some (.int l1), some (.int l2), some (.int l3), some (.long l4), none, some (.int l6)] [.int v7] z_S0 h8 (zJ A)
    refine zb1_eq zM176 q176_43 (tgt := 76) rfl (fun hc => ?_) (fun hc => ?_)
    · have hw := hw.1 hc
      exact hw
    · have hw := hw.2 hc
      refine zl zM176 q176_46 rfl ?_
      refine zl zM176 q176_48 rfl ?_
      refine zkI zM176 q176_49 kI0 ?_
      refine zl zM176 q176_50 rfl ?_
      refine zcV zM176 q176_52 kl12_360 rfl rfl (Nat.le_of_ble_eq_true rfl) rfl zM168 (Nat.le_of_ble_eq_true rfl) (hw.mono (fun r0 h11 hr19 => ?_))
      obtain ⟨v9, rfl, hw⟩ := hr19
      show zP X (d + 3) 176 55 [some (.ref 82), some (.int l1), some (.int l2), some (.int l3), some (.long l4), none, some (.int l6)] [.int v9, .long l4] z_S0 h11 (zJ A)
      refine zl zM176 q176_55 (pc' := 56) (st' := .long (Int32.toInt64 v9) :: _) rfl ?_
      refine zl zM176 q176_56 (pc' := 57) (st' := .long (l4 + (Int32.toInt64 v9)) :: _) rfl ?_
      refine zl zM176 q176_57 (ls' := [some (.ref 82), some (.int l1), some (.int l2), some (.int l3), some (.long (l4 + (Int32.toInt64 v9))), none, some (.int l6)]) rfl ?_
      refine zl zM176 q176_59 rfl ?_
      refine zkI zM176 q176_61 kI0 ?_
      refine zl zM176 q176_62 rfl ?_
      refine zkI zM176 q176_63 kI1 ?_
      refine zl zM176 q176_64 rfl ?_
      refine zcV zM176 q176_66 kl12_360 rfl rfl (Nat.le_of_ble_eq_true rfl) rfl zM168 (Nat.le_of_ble_eq_true rfl) (hw.mono (fun r0 h14 hr18 => ?_))
      obtain ⟨v12, rfl, hw⟩ := hr18
      show zP X (d + 3) 176 69 [some (.ref 82), some (.int l1), some (.int l2), some (.int l3), some (.long (l4 + (Int32.toInt64 v9))), none, some (.int l6)] [.int v12, .int 0, .long (l4 + (Int32.toInt64 v9))] z_S0 h14 (zJ A)
      refine zcS zM176 q176_69 ky12_373 kl12_373 (by decide) rfl (Nat.le_of_ble_eq_true rfl) zM214 (Nat.le_of_ble_eq_true rfl) (hw.mono (fun r0 h16 hr17 => ?_))
      obtain ⟨v15, rfl, hw⟩ := hr17
      show zP X (d + 3) 176 72 [some (.ref 82), some (.int l1), some (.int l2), some (.int l3), some (.long (l4 + (Int32.toInt64 v9))), none, some (.int l6)] [.int v15, .long (l4 + (Int32.toInt64 v9))] z_S0 h16 (zJ A)
      refine zl zM176 q176_72 (pc' := 73) (st' := .long (Int32.toInt64 v15) :: _) rfl ?_
      refine zl zM176 q176_73 (pc' := 74) (st' := .long ((l4 + (Int32.toInt64 v9)) - (Int32.toInt64 v15)) :: _) rfl ?_
      refine zl zM176 q176_74 (ls' := [some (.ref 82), some (.int l1), some (.int l2), some (.int l3), some (.long ((l4 + (Int32.toInt64 v9)) - (Int32.toInt64 v15))), none, some (.int l6)]) rfl ?_
      exact hw
theorem b176_76 {X : Option (List Int32)} {d : Nat} {h : zH} {A : Int64 → zH → Prop} {l1 : Int32} {l2 : Int32} {l3 : Int32} {l4 : Int64} {l6 : Int32} (hw : zP X (d + 3) 176 25 [some (.ref 82), some (.int l1), some (.int l2), some (.int l3), some (.long l4), none, some (.int (l6 + 1))] [] z_S0 h (zJ A)) : zP X (d + 3) 176 76 [some (.ref 82), some (.int l1), some (.int l2), some (.int l3), some (.long l4), none, some (.int l6)] [] z_S0 h (zJ A) := by
  refine zl zM176 q176_76 (ls' := [some (.ref 82), some (.int l1), some (.int l2), some (.int l3), some (.long l4), none, some (.int (l6 + 1))]) rfl ?_
  refine zl zM176 q176_79 (pc' := 25) (ls' := _) (st' := _) rfl ?_
  exact hw
-- X12_find
theorem b177 {X : Option (List Int32)} {d : Nat} {h : zH} {A : Int32 → zH → Prop} {a1 : Int32} {a2 : Int32} {a3 : Int32} (hw : zP X d 134 0 (z_ent [.ref 82, .int a1] 2) [] z_S0 h (zI fun v1 h2 => ((v1 = 0 → A (-2) h2) ∧ (¬ v1 = 0 → zP X d 128 0 (z_ent [.long (Int32.toInt64 a2), .long 0, .long 9] 6) [] z_S0 h2 (zI fun v3 h4 => ((v3 = 0 → A (-2) h4) ∧ (¬ v3 = 0 → zP X d 128 0 (z_ent [.long (Int32.toInt64 a3), .long 0, .long 9999] 6) [] z_S0 h4 (zI fun v5 h6 => ((v5 = 0 → A (-2) h6) ∧ (¬ v5 = 0 → (((h6 82 44) = 20 → A (-4) h6) ∧ (¬ (h6 82 44) = 20 → (z_ib (h6 82 44) 20 ∧ (z_ib (h6 82 44) 20 ∧ (z_ib (h6 82 44) 20 ∧ A (((h6 82 44) + 1) - 1) (z_up (z_up (z_up (z_up h6 111 (Int32.toNatClampNeg (h6 82 44)) a1) 112 (Int32.toNatClampNeg (h6 82 44)) a2) 113 (Int32.toNatClampNeg (h6 82 44)) a3) 82 44 ((h6 82 44) + 1))))))))))))))))) : zP X (d + 1) 177 0 (z_ent [.ref 82, .int a1, .int a2, .int a3] 4) [] z_S0 h (zI A) := by
  show zP X (d + 1) 177 0 [some (.ref 82), some (.int a1), some (.int a2), some (.int a3)] [] z_S0 h (zI A)
  refine zl zM177 q177_0 rfl ?_
  refine zl zM177 q177_1 rfl ?_
  refine zcV zM177 q177_2 kl12_73 rfl rfl (Nat.le_of_ble_eq_true rfl) rfl zM134 (Nat.le_of_ble_eq_true rfl) (hw.mono (fun r0 h2 hr9 => ?_))
  obtain ⟨v1, rfl, hw⟩ := hr9
  show zP X (d + 1) 177 5 [some (.ref 82), some (.int a1), some (.int a2), some (.int a3)] [.int v1] z_S0 h2 (zI A)
  refine zb1_eq zM177 q177_5 (tgt := 32) rfl (fun hc => ?_) (fun hc => ?_)
  · have hw := hw.1 hc
    refine zkB zM177 q177_32 kBm2 ?_
    exact zri zM177 q177_34 rfl rfl hw
  · have hw := hw.2 hc
    refine zl zM177 q177_8 rfl ?_
    refine zl zM177 q177_9 (pc' := 10) (st' := .long (Int32.toInt64 a2) :: _) rfl ?_
    refine zkL (v := 0) zM177 q177_10 rfl ?_
    refine zkJ zM177 q177_11 kc12_378 ?_
    refine zcS zM177 q177_14 ky12_3 kl12_3 (by decide) rfl (Nat.le_of_ble_eq_true rfl) zM128 (Nat.le_of_ble_eq_true rfl) (hw.mono (fun r0 h4 hr8 => ?_))
    obtain ⟨v3, rfl, hw⟩ := hr8
    show zP X (d + 1) 177 17 [some (.ref 82), some (.int a1), some (.int a2), some (.int a3)] [.int v3] z_S0 h4 (zI A)
    refine zb1_eq zM177 q177_17 (tgt := 32) rfl (fun hc => ?_) (fun hc => ?_)
    · have hw := hw.1 hc
      refine zkB zM177 q177_32 kBm2 ?_
      exact zri zM177 q177_34 rfl rfl hw
    · have hw := hw.2 hc
      refine zl zM177 q177_20 rfl ?_
      refine zl zM177 q177_21 (pc' := 22) (st' := .long (Int32.toInt64 a3) :: _) rfl ?_
      refine zkL (v := 0) zM177 q177_22 rfl ?_
      refine zkJ zM177 q177_23 kc12_31 ?_
      refine zcS zM177 q177_26 ky12_3 kl12_3 (by decide) rfl (Nat.le_of_ble_eq_true rfl) zM128 (Nat.le_of_ble_eq_true rfl) (hw.mono (fun r0 h6 hr7 => ?_))
      obtain ⟨v5, rfl, hw⟩ := hr7
      show zP X (d + 1) 177 29 [some (.ref 82), some (.int a1), some (.int a2), some (.int a3)] [.int v5] z_S0 h6 (zI A)
      refine zb1_ne zM177 q177_29 (tgt := 35) rfl (fun hc => ?_) (fun hc => ?_)
      · have hw := hw.2 hc
        refine zl zM177 q177_35 rfl ?_
        refine zgI zM177 q177_36 (by decide) g12_380 s82 rfl (v := (h6 82 44)) rfl ?_
        refine zkB zM177 q177_39 kB20 ?_
        refine zb2_ne zM177 q177_41 (tgt := 47) rfl (fun hc => ?_) (fun hc => ?_)
        · have hw := hw.2 hc
          refine zl zM177 q177_47 rfl ?_
          refine zgR (a := 111) zM177 q177_48 (by decide) g12_265 s82 rfl ?_
          refine zl zM177 q177_51 rfl ?_
          refine zgI zM177 q177_52 (by decide) g12_380 s82 rfl (v := (h6 82 44)) rfl ?_
          refine zl zM177 q177_55 rfl ?_
          obtain ⟨hb, hw⟩ := hw
          refine ziS zM177 q177_56 (by decide) s111 hb rfl ?_
          refine zl zM177 q177_57 rfl ?_
          refine zgR (a := 112) zM177 q177_58 (by decide) g12_268 s82 rfl ?_
          refine zl zM177 q177_61 rfl ?_
          refine zgI zM177 q177_62 (by decide) g12_380 s82 rfl (v := (h6 82 44)) rfl ?_
          refine zl zM177 q177_65 rfl ?_
          obtain ⟨hb, hw⟩ := hw
          refine ziS zM177 q177_66 (by decide) s112 hb rfl ?_
          refine zl zM177 q177_67 rfl ?_
          refine zgR (a := 113) zM177 q177_68 (by decide) g12_271 s82 rfl ?_
          refine zl zM177 q177_71 rfl ?_
          refine zgI zM177 q177_72 (by decide) g12_380 s82 rfl (v := (h6 82 44)) rfl ?_
          refine zl zM177 q177_75 rfl ?_
          obtain ⟨hb, hw⟩ := hw
          refine ziS zM177 q177_76 (by decide) s113 hb rfl ?_
          refine zl zM177 q177_77 rfl ?_
          refine zl zM177 q177_78 rfl ?_
          refine zgI zM177 q177_79 (by decide) g12_380 s82 rfl (v := (h6 82 44)) rfl ?_
          refine zkI zM177 q177_82 kI1 ?_
          refine zl zM177 q177_83 (pc' := 84) (st' := .int ((h6 82 44) + 1) :: _) rfl ?_
          refine zpi zM177 q177_84 (by decide) g12_380 s82 rfl rfl ?_
          refine zl zM177 q177_87 rfl ?_
          refine zgI zM177 q177_88 (by decide) g12_380 s82 rfl (v := ((h6 82 44) + 1)) rfl ?_
          refine zkI zM177 q177_91 kI1 ?_
          refine zl zM177 q177_92 (pc' := 93) (st' := .int (((h6 82 44) + 1) - 1) :: _) rfl ?_
          exact zri zM177 q177_93 rfl rfl hw
        · have hw := hw.1 hc
          refine zkB zM177 q177_44 kBm4 ?_
          exact zri zM177 q177_46 rfl rfl hw
      · have hw := hw.1 hc
        refine zkB zM177 q177_32 kBm2 ?_
        exact zri zM177 q177_34 rfl rfl hw
-- X12_ownerOf
theorem b178 {X : Option (List Int32)} {d : Nat} {h : zH} {A : Int32 → zH → Prop} {a1 : Int32} (hw : (z_ib a1 20 ∧ zP X (d + 2) 168 0 (z_ent [.ref 82, .int 2, .int (h 111 (Int32.toNatClampNeg a1))] 7) [] z_S0 h (zI fun v1 h3 => zP X (d + 2) 213 0 (z_ent [.int v1, .int 3] 3) [] z_S0 h3 (zI fun v4 h5 => A v4 h5)))) : zP X (d + 3) 178 0 (z_ent [.ref 82, .int a1] 2) [] z_S0 h (zI A) := by
  show zP X (d + 3) 178 0 [some (.ref 82), some (.int a1)] [] z_S0 h (zI A)
  refine zl zM178 q178_0 rfl ?_
  refine zkI zM178 q178_1 kI2 ?_
  refine zl zM178 q178_2 rfl ?_
  refine zgR (a := 111) zM178 q178_3 (by decide) g12_265 s82 rfl ?_
  refine zl zM178 q178_6 rfl ?_
  obtain ⟨hb, hw⟩ := hw
  refine ziA zM178 q178_7 (by decide) s111 hb (v := (h 111 (Int32.toNatClampNeg a1))) rfl ?_
  refine zcV zM178 q178_8 kl12_360 rfl rfl (Nat.le_of_ble_eq_true rfl) rfl zM168 (Nat.le_of_ble_eq_true rfl) (hw.mono (fun r0 h3 hr7 => ?_))
  obtain ⟨v1, rfl, hw⟩ := hr7
  show zP X (d + 3) 178 11 [some (.ref 82), some (.int a1)] [.int v1] z_S0 h3 (zI A)
  refine zkI zM178 q178_11 kI3 ?_
  refine zcS zM178 q178_12 ky12_383 kl12_383 (by decide) rfl (Nat.le_of_ble_eq_true rfl) zM213 (Nat.le_of_ble_eq_true rfl) (hw.mono (fun r0 h5 hr6 => ?_))
  obtain ⟨v4, rfl, hw⟩ := hr6
  show zP X (d + 3) 178 15 [some (.ref 82), some (.int a1)] [.int v4] z_S0 h5 (zI A)
  exact zri zM178 q178_15 rfl rfl hw
-- X12_whose
theorem b179 {X : Option (List Int32)} {d : Nat} {h : zH} {A : Int32 → zH → Prop} {a1 : Int32} (hw : ((a1 < 0 → A (-2) h) ∧ (¬ a1 < 0 → ((a1 < (h 82 44) → zP X (d + 3) 178 0 (z_ent [.ref 82, .int a1] 2) [] z_S0 h (zI fun v1 h3 => A v1 h3)) ∧ (¬ a1 < (h 82 44) → A (-2) h))))) : zP X (d + 4) 179 0 (z_ent [.ref 82, .int a1] 2) [] z_S0 h (zI A) := by
  show zP X (d + 4) 179 0 [some (.ref 82), some (.int a1)] [] z_S0 h (zI A)
  refine zl zM179 q179_0 rfl ?_
  refine zb1_lt zM179 q179_1 (tgt := 20) rfl (fun hc => ?_) (fun hc => ?_)
  · have hw := hw.1 hc
    refine zkB zM179 q179_20 kBm2 ?_
    exact zri zM179 q179_22 rfl rfl hw
  · have hw := hw.2 hc
    refine zl zM179 q179_4 rfl ?_
    refine zl zM179 q179_5 rfl ?_
    refine zgI zM179 q179_6 (by decide) g12_380 s82 rfl (v := (h 82 44)) rfl ?_
    refine zb2_ge zM179 q179_9 (tgt := 20) rfl (fun hc => ?_) (fun hc => ?_)
    · have hw := hw.2 hc
      refine zkB zM179 q179_20 kBm2 ?_
      exact zri zM179 q179_22 rfl rfl hw
    · have hw := hw.1 hc
      refine zl zM179 q179_12 rfl ?_
      refine zl zM179 q179_13 rfl ?_
      refine zcV zM179 q179_14 kl12_386 rfl rfl (Nat.le_of_ble_eq_true rfl) rfl zM178 (Nat.le_of_ble_eq_true rfl) (hw.mono (fun r0 h3 hr4 => ?_))
      obtain ⟨v1, rfl, hw⟩ := hr4
      show zP X (d + 4) 179 17 [some (.ref 82), some (.int a1)] [.int v1] z_S0 h3 (zI A)
      refine zl zM179 q179_17 (pc' := 22) (ls' := _) (st' := _) rfl ?_
      exact zri zM179 q179_22 rfl rfl hw
-- X12_finds
theorem b180 {X : Option (List Int32)} {d : Nat} {h : zH} {A : Int64 → zH → Prop} {a1 : Int32} (hw : zP X (d + 3) 128 0 (z_ent [.long (Int32.toInt64 a1), .long 0, .long 16] 6) [] z_S0 h (zI fun v1 h2 => ((v1 = 0 → A (-4611686018427387904) h2) ∧ (¬ v1 = 0 → zP X (d + 4) 180 21 [some (.ref 82), some (.int a1), some (.long 0), none, some (.int 0), none, none] [] z_S0 h2 (zJ A))))) : zP X (d + 4) 180 0 (z_ent [.ref 82, .int a1] 7) [] z_S0 h (zJ A) := by
  show zP X (d + 4) 180 0 [some (.ref 82), some (.int a1), none, none, none, none, none] [] z_S0 h (zJ A)
  refine zl zM180 q180_0 rfl ?_
  refine zl zM180 q180_1 (pc' := 2) (st' := .long (Int32.toInt64 a1) :: _) rfl ?_
  refine zkL (v := 0) zM180 q180_2 rfl ?_
  refine zkJ zM180 q180_3 kc12_389 ?_
  refine zcS zM180 q180_6 ky12_3 kl12_3 (by decide) rfl (Nat.le_of_ble_eq_true rfl) zM128 (Nat.le_of_ble_eq_true rfl) (hw.mono (fun r0 h2 hr3 => ?_))
  obtain ⟨v1, rfl, hw⟩ := hr3
  show zP X (d + 4) 180 9 [some (.ref 82), some (.int a1), none, none, none, none, none] [.int v1] z_S0 h2 (zJ A)
  refine zb1_ne zM180 q180_9 (tgt := 16) rfl (fun hc => ?_) (fun hc => ?_)
  · have hw := hw.2 hc
    refine zkL (v := 0) zM180 q180_16 rfl ?_
    refine zl zM180 q180_17 (ls' := [some (.ref 82), some (.int a1), some (.long 0), none, none, none, none]) rfl ?_
    refine zkI zM180 q180_18 kI0 ?_
    refine zl zM180 q180_19 (ls' := [some (.ref 82), some (.int a1), some (.long 0), none, some (.int 0), none, none]) rfl ?_
    exact hw
  · have hw := hw.1 hc
    refine zkJ zM180 q180_12 kc12_363 ?_
    exact zrj zM180 q180_15 rfl hw
theorem b180_21 {X : Option (List Int32)} {d : Nat} {h : zH} {A : Int64 → zH → Prop} {l1 : Int32} {l2 : Int64} {l4 : Int32} (hw : ((l4 < (h 82 44) → zP X (d + 3) 178 0 (z_ent [.ref 82, .int l4] 2) [] z_S0 h (zI fun v4 h6 => ((v4 = 0 → (z_ib l4 20 ∧ ((l1 = (h6 112 (Int32.toNatClampNeg l4)) → zP X (d + 4) 180 106 [some (.ref 82), some (.int l1), some (.long l2), none, some (.int l4), none, none] [.int 1] z_S0 h6 (zJ A)) ∧ (¬ l1 = (h6 112 (Int32.toNatClampNeg l4)) → zP X (d + 4) 180 106 [some (.ref 82), some (.int l1), some (.long l2), none, some (.int l4), none, none] [.int 0] z_S0 h6 (zJ A))))) ∧ (¬ v4 = 0 → ((v4 = 1 → ((l1 = 10 → zP X (d + 4) 180 106 [some (.ref 82), some (.int l1), some (.long l2), none, some (.int l4), none, none] [.int 1] z_S0 h6 (zJ A)) ∧ (¬ l1 = 10 → zP X (d + 4) 180 106 [some (.ref 82), some (.int l1), some (.long l2), none, some (.int l4), none, none] [.int 0] z_S0 h6 (zJ A)))) ∧ (¬ v4 = 1 → (z_ib l4 20 ∧ (z_ib (h6 111 (Int32.toNatClampNeg l4)) 40 ∧ ((l1 = (11 + (h6 86 (Int32.toNatClampNeg (h6 111 (Int32.toNatClampNeg l4))))) → zP X (d + 4) 180 106 [some (.ref 82), some (.int l1), some (.long l2), none, some (.int l4), none, none] [.int 1] z_S0 h6 (zJ A)) ∧ (¬ l1 = (11 + (h6 86 (Int32.toNatClampNeg (h6 111 (Int32.toNatClampNeg l4))))) → zP X (d + 4) 180 106 [some (.ref 82), some (.int l1), some (.long l2), none, some (.int l4), none, none] [.int 0] z_S0 h6 (zJ A))))))))))) ∧ (¬ l4 < (h 82 44) → A l2 h))) : zP X (d + 4) 180 21 [some (.ref 82), some (.int l1), some (.long l2), none, some (.int l4), none, none] [] z_S0 h (zJ A) := by
  refine zl zM180 q180_21 rfl ?_
  refine zl zM180 q180_23 rfl ?_
  refine zgI zM180 q180_24 (by decide) g12_380 s82 rfl (v := (h 82 44)) rfl ?_
  refine zb2_ge zM180 q180_27 (tgt := 134) rfl (fun hc => ?_) (fun hc => ?_)
  · have hw := hw.2 hc
    refine zl zM180 q180_134 rfl ?_
    exact zrj zM180 q180_135 rfl hw
  · have hw := hw.1 hc
    refine zl zM180 q180_30 rfl ?_
    refine zl zM180 q180_31 rfl ?_
    refine zcV zM180 q180_33 kl12_386 rfl rfl (Nat.le_of_ble_eq_true rfl) rfl zM178 (Nat.le_of_ble_eq_true rfl) (hw.mono (fun r0 h6 hr7 => ?_))
    obtain ⟨v4, rfl, hw⟩ := hr7
    show zP X (d + 4) 180 36 [some (.ref 82), some (.int l1), some (.long l2), none, some (.int l4), none, none] [.int v4] z_S0 h6 (zJ A)
    refine zl zM180 q180_36 (ls' := [some (.ref 82), some (.int l1), some (.long l2), none, some (.int l4), some (.int v4), none]) rfl ?_
    refine zl zM180 q180_38 rfl ?_
    refine zb1_ne zM180 q180_40 (tgt := 62) rfl (fun hc => ?_) (fun hc => ?_)
    · have hw := hw.2 hc
      refine zl zM180 q180_62 rfl ?_
      refine zkI zM180 q180_64 kI1 ?_
      refine zb2_ne zM180 q180_65 (tgt := 82) rfl (fun hc => ?_) (fun hc => ?_)
      · have hw := hw.2 hc
        refine zl zM180 q180_82 rfl ?_
        refine zkB zM180 q180_83 kB11 ?_
        refine zl zM180 q180_85 rfl ?_
        refine zgR (a := 86) zM180 q180_86 (by decide) g12_39 s82 rfl ?_
        refine zl zM180 q180_89 rfl ?_
        refine zgR (a := 111) zM180 q180_90 (by decide) g12_265 s82 rfl ?_
        refine zl zM180 q180_93 rfl ?_
        obtain ⟨hb, hw⟩ := hw
        refine ziA zM180 q180_95 (by decide) s111 hb (v := (h6 111 (Int32.toNatClampNeg l4))) rfl ?_
        obtain ⟨hb, hw⟩ := hw
        refine ziA zM180 q180_96 (by decide) s86 hb (v := (h6 86 (Int32.toNatClampNeg (h6 111 (Int32.toNatClampNeg l4))))) rfl ?_
        refine zl zM180 q180_97 (pc' := 98) (st' := .int (11 + (h6 86 (Int32.toNatClampNeg (h6 111 (Int32.toNatClampNeg l4))))) :: _) rfl ?_
        refine zb2_ne zM180 q180_98 (tgt := 105) rfl (fun hc => ?_) (fun hc => ?_)
        · have hw := hw.2 hc
          refine zkI zM180 q180_105 kI0 ?_
          refine zweak (a := [some (.ref 82), some (.int l1), some (.long l2), none, some (.int l4), none, none]) ?_ hw
          exact ⟨rfl, ⟨rfl, ⟨rfl, ⟨rfl, trivial⟩⟩⟩⟩
        · have hw := hw.1 hc
          refine zkI zM180 q180_101 kI1 ?_
          refine zl zM180 q180_102 (pc' := 106) (ls' := _) (st' := _) rfl ?_
          refine zweak (a := [some (.ref 82), some (.int l1), some (.long l2), none, some (.int l4), none, none]) ?_ hw
          exact ⟨rfl, ⟨rfl, ⟨rfl, ⟨rfl, trivial⟩⟩⟩⟩
      · have hw := hw.1 hc
        refine zl zM180 q180_68 rfl ?_
        refine zkB zM180 q180_69 kB10 ?_
        refine zb2_ne zM180 q180_71 (tgt := 78) rfl (fun hc => ?_) (fun hc => ?_)
        · have hw := hw.2 hc
          refine zkI zM180 q180_78 kI0 ?_
          refine zl zM180 q180_79 (pc' := 106) (ls' := _) (st' := _) rfl ?_
          refine zweak (a := [some (.ref 82), some (.int l1), some (.long l2), none, some (.int l4), none, none]) ?_ hw
          exact ⟨rfl, ⟨rfl, ⟨rfl, ⟨rfl, trivial⟩⟩⟩⟩
        · have hw := hw.1 hc
          refine zkI zM180 q180_74 kI1 ?_
          refine zl zM180 q180_75 (pc' := 106) (ls' := _) (st' := _) rfl ?_
          refine zweak (a := [some (.ref 82), some (.int l1), some (.long l2), none, some (.int l4), none, none]) ?_ hw
          exact ⟨rfl, ⟨rfl, ⟨rfl, ⟨rfl, trivial⟩⟩⟩⟩
    · have hw := hw.1 hc
      refine zl zM180 q180_43 rfl ?_
      refine zl zM180 q180_44 rfl ?_
      refine zgR (a := 112) zM180 q180_45 (by decide) g12_268 s82 rfl ?_
      refine zl zM180 q180_48 rfl ?_
      obtain ⟨hb, hw⟩ := hw
      refine ziA zM180 q180_50 (by decide) s112 hb (v := (h6 112 (Int32.toNatClampNeg l4))) rfl ?_
      refine zb2_ne zM180 q180_51 (tgt := 58) rfl (fun hc => ?_) (fun hc => ?_)
      · have hw := hw.2 hc
        refine zkI zM180 q180_58 kI0 ?_
        refine zl zM180 q180_59 (pc' := 106) (ls' := _) (st' := _) rfl ?_
        refine zweak (a := [some (.ref 82), some (.int l1), some (.long l2), none, some (.int l4), none, none]) ?_ hw
        exact ⟨rfl, ⟨rfl, ⟨rfl, ⟨rfl, trivial⟩⟩⟩⟩
      · have hw := hw.1 hc
        refine zkI zM180 q180_54 kI1 ?_
        refine zl zM180 q180_55 (pc' := 106) (ls' := _) (st' := _) rfl ?_
        refine zweak (a := [some (.ref 82), some (.int l1), some (.long l2), none, some (.int l4), none, none]) ?_ hw
        exact ⟨rfl, ⟨rfl, ⟨rfl, ⟨rfl, trivial⟩⟩⟩⟩
theorem b180_106 {X : Option (List Int32)} {d : Nat} {h : zH} {A : Int64 → zH → Prop} {l1 : Int32} {l2 : Int64} {l4 : Int32} {w0 : Int32} (hw : ((w0 = 0 → zP X (d + 4) 180 126 [some (.ref 82), some (.int l1), none, none, some (.int l4), none, none] [.long 0, .long l2] z_S0 h (zJ A)) ∧ (¬ w0 = 0 → (z_ib l4 20 ∧ zP X (d + 4) 180 126 [some (.ref 82), some (.int l1), none, none, some (.int l4), none, none] [.long (Int32.toInt64 (h 113 (Int32.toNatClampNeg l4))), .long l2] z_S0 h (zJ A))))) : zP X (d + 4) 180 106 [some (.ref 82), some (.int l1), some (.long l2), none, some (.int l4), none, none] [.int w0] z_S0 h (zJ A) := by
  refine zl zM180 q180_106 (ls' := [some (.ref 82), some (.int l1), some (.long l2), none, some (.int l4), none, some (.int w0)]) rfl ?_
  refine zl zM180 q180_108 rfl ?_
  refine zl zM180 q180_109 rfl ?_
  refine zb1_eq zM180 q180_111 (tgt := 125) rfl (fun hc => ?_) (fun hc => ?_)
  · have hw := hw.1 hc
    refine zkL (v := 0) zM180 q180_125 rfl ?_
    refine zweak (a := [some (.ref 82), some (.int l1), none, none, some (.int l4), none, none]) ?_ hw
    exact ⟨rfl, ⟨rfl, ⟨rfl, trivial⟩⟩⟩
  · have hw := hw.2 hc
    refine zl zM180 q180_114 rfl ?_
    refine zgR (a := 113) zM180 q180_115 (by decide) g12_271 s82 rfl ?_
    refine zl zM180 q180_118 rfl ?_
    obtain ⟨hb, hw⟩ := hw
    refine ziA zM180 q180_120 (by decide) s113 hb (v := (h 113 (Int32.toNatClampNeg l4))) rfl ?_
    refine zl zM180 q180_121 (pc' := 122) (st' := .long (Int32.toInt64 (h 113 (Int32.toNatClampNeg l4))) :: _) rfl ?_
    refine zl zM180 q180_122 (pc' := 126) (ls' := _) (st' := _) rfl ?_
    refine zweak (a := [some (.ref 82), some (.int l1), none, none, some (.int l4), none, none]) ?_ hw
    exact ⟨rfl, ⟨rfl, ⟨rfl, trivial⟩⟩⟩
theorem b180_126 {X : Option (List Int32)} {d : Nat} {h : zH} {A : Int64 → zH → Prop} {l1 : Int32} {l4 : Int32} {w0 : Int64} {w1 : Int64} (hw : zP X (d + 4) 180 21 [some (.ref 82), some (.int l1), some (.long (w0 + w1)), none, some (.int (l4 + 1)), none, none] [] z_S0 h (zJ A)) : zP X (d + 4) 180 126 [some (.ref 82), some (.int l1), none, none, some (.int l4), none, none] [.long w1, .long w0] z_S0 h (zJ A) := by
  refine zl zM180 q180_126 (pc' := 127) (st' := .long (w0 + w1) :: _) rfl ?_
  refine zl zM180 q180_127 (ls' := [some (.ref 82), some (.int l1), some (.long (w0 + w1)), none, some (.int l4), none, none]) rfl ?_
  refine zl zM180 q180_128 (ls' := [some (.ref 82), some (.int l1), some (.long (w0 + w1)), none, some (.int (l4 + 1)), none, none]) rfl ?_
  refine zl zM180 q180_131 (pc' := 21) (ls' := _) (st' := _) rfl ?_
  exact hw
-- X12_door
theorem b181 {X : Option (List Int32)} {d : Nat} {h : zH} {A : Int32 → zH → Prop} {a1 : Int32} {a2 : Int32} {a3 : Int32} {a4 : Int32} (hw : zP X (d + 1) 131 0 (z_ent [.int a1] 1) [] z_S0 h (zI fun v1 h2 => ((v1 = 0 → A (-2) h2) ∧ (¬ v1 = 0 → zP X (d + 1) 128 0 (z_ent [.long (Int32.toInt64 a2), .long 1, .long 999] 6) [] z_S0 h2 (zI fun v3 h4 => ((v3 = 0 → A (-2) h4) ∧ (¬ v3 = 0 → zP X (d + 1) 128 0 (z_ent [.long (Int32.toInt64 a3), .long 0, .long 5] 6) [] z_S0 h4 (zI fun v5 h6 => ((v5 = 0 → A (-2) h6) ∧ (¬ v5 = 0 → zP X (d + 1) 128 0 (z_ent [.long (Int32.toInt64 a4), .long 0, .long 9999] 6) [] z_S0 h6 (zI fun v7 h8 => ((v7 = 0 → A (-2) h8) ∧ (¬ v7 = 0 → (((h8 82 48) = 12 → A (-4) h8) ∧ (¬ (h8 82 48) = 12 → (z_ib (h8 82 48) 12 ∧ (z_ib (h8 82 48) 12 ∧ (z_ib (h8 82 48) 12 ∧ (z_ib (h8 82 48) 12 ∧ A (((h8 82 48) + 1) - 1) (z_up (z_up (z_up (z_up (z_up h8 114 (Int32.toNatClampNeg (h8 82 48)) a1) 115 (Int32.toNatClampNeg (h8 82 48)) a2) 116 (Int32.toNatClampNeg (h8 82 48)) a3) 117 (Int32.toNatClampNeg (h8 82 48)) a4) 82 48 ((h8 82 48) + 1))))))))))))))))))))) : zP X (d + 2) 181 0 (z_ent [.ref 82, .int a1, .int a2, .int a3, .int a4] 5) [] z_S0 h (zI A) := by
  show zP X (d + 2) 181 0 [some (.ref 82), some (.int a1), some (.int a2), some (.int a3), some (.int a4)] [] z_S0 h (zI A)
  refine zl zM181 q181_0 rfl ?_
  refine zcS zM181 q181_1 ky12_24 kl12_24 (by decide) rfl (Nat.le_of_ble_eq_true rfl) zM131 (Nat.le_of_ble_eq_true rfl) (hw.mono (fun r0 h2 hr12 => ?_))
  obtain ⟨v1, rfl, hw⟩ := hr12
  show zP X (d + 2) 181 4 [some (.ref 82), some (.int a1), some (.int a2), some (.int a3), some (.int a4)] [.int v1] z_S0 h2 (zI A)
  refine zb1_eq zM181 q181_4 (tgt := 44) rfl (fun hc => ?_) (fun hc => ?_)
  · have hw := hw.1 hc
    refine zkB zM181 q181_44 kBm2 ?_
    exact zri zM181 q181_46 rfl rfl hw
  · have hw := hw.2 hc
    refine zl zM181 q181_7 rfl ?_
    refine zl zM181 q181_8 (pc' := 9) (st' := .long (Int32.toInt64 a2) :: _) rfl ?_
    refine zkL (v := 1) zM181 q181_9 rfl ?_
    refine zkJ zM181 q181_10 kc12_108 ?_
    refine zcS zM181 q181_13 ky12_3 kl12_3 (by decide) rfl (Nat.le_of_ble_eq_true rfl) zM128 (Nat.le_of_ble_eq_true rfl) (hw.mono (fun r0 h4 hr11 => ?_))
    obtain ⟨v3, rfl, hw⟩ := hr11
    show zP X (d + 2) 181 16 [some (.ref 82), some (.int a1), some (.int a2), some (.int a3), some (.int a4)] [.int v3] z_S0 h4 (zI A)
    refine zb1_eq zM181 q181_16 (tgt := 44) rfl (fun hc => ?_) (fun hc => ?_)
    · have hw := hw.1 hc
      refine zkB zM181 q181_44 kBm2 ?_
      exact zri zM181 q181_46 rfl rfl hw
    · have hw := hw.2 hc
      refine zl zM181 q181_19 rfl ?_
      refine zl zM181 q181_20 (pc' := 21) (st' := .long (Int32.toInt64 a3) :: _) rfl ?_
      refine zkL (v := 0) zM181 q181_21 rfl ?_
      refine zkJ zM181 q181_22 kc12_15 ?_
      refine zcS zM181 q181_25 ky12_3 kl12_3 (by decide) rfl (Nat.le_of_ble_eq_true rfl) zM128 (Nat.le_of_ble_eq_true rfl) (hw.mono (fun r0 h6 hr10 => ?_))
      obtain ⟨v5, rfl, hw⟩ := hr10
      show zP X (d + 2) 181 28 [some (.ref 82), some (.int a1), some (.int a2), some (.int a3), some (.int a4)] [.int v5] z_S0 h6 (zI A)
      refine zb1_eq zM181 q181_28 (tgt := 44) rfl (fun hc => ?_) (fun hc => ?_)
      · have hw := hw.1 hc
        refine zkB zM181 q181_44 kBm2 ?_
        exact zri zM181 q181_46 rfl rfl hw
      · have hw := hw.2 hc
        refine zl zM181 q181_31 rfl ?_
        refine zl zM181 q181_33 (pc' := 34) (st' := .long (Int32.toInt64 a4) :: _) rfl ?_
        refine zkL (v := 0) zM181 q181_34 rfl ?_
        refine zkJ zM181 q181_35 kc12_31 ?_
        refine zcS zM181 q181_38 ky12_3 kl12_3 (by decide) rfl (Nat.le_of_ble_eq_true rfl) zM128 (Nat.le_of_ble_eq_true rfl) (hw.mono (fun r0 h8 hr9 => ?_))
        obtain ⟨v7, rfl, hw⟩ := hr9
        show zP X (d + 2) 181 41 [some (.ref 82), some (.int a1), some (.int a2), some (.int a3), some (.int a4)] [.int v7] z_S0 h8 (zI A)
        refine zb1_ne zM181 q181_41 (tgt := 47) rfl (fun hc => ?_) (fun hc => ?_)
        · have hw := hw.2 hc
          refine zl zM181 q181_47 rfl ?_
          refine zgI zM181 q181_48 (by decide) g12_391 s82 rfl (v := (h8 82 48)) rfl ?_
          refine zkB zM181 q181_51 kB12 ?_
          refine zb2_ne zM181 q181_53 (tgt := 59) rfl (fun hc => ?_) (fun hc => ?_)
          · have hw := hw.2 hc
            refine zl zM181 q181_59 rfl ?_
            refine zgR (a := 114) zM181 q181_60 (by decide) g12_274 s82 rfl ?_
            refine zl zM181 q181_63 rfl ?_
            refine zgI zM181 q181_64 (by decide) g12_391 s82 rfl (v := (h8 82 48)) rfl ?_
            refine zl zM181 q181_67 rfl ?_
            obtain ⟨hb, hw⟩ := hw
            refine ziS zM181 q181_68 (by decide) s114 hb rfl ?_
            refine zl zM181 q181_69 rfl ?_
            refine zgR (a := 115) zM181 q181_70 (by decide) g12_277 s82 rfl ?_
            refine zl zM181 q181_73 rfl ?_
            refine zgI zM181 q181_74 (by decide) g12_391 s82 rfl (v := (h8 82 48)) rfl ?_
            refine zl zM181 q181_77 rfl ?_
            obtain ⟨hb, hw⟩ := hw
            refine ziS zM181 q181_78 (by decide) s115 hb rfl ?_
            refine zl zM181 q181_79 rfl ?_
            refine zgR (a := 116) zM181 q181_80 (by decide) g12_280 s82 rfl ?_
            refine zl zM181 q181_83 rfl ?_
            refine zgI zM181 q181_84 (by decide) g12_391 s82 rfl (v := (h8 82 48)) rfl ?_
            refine zl zM181 q181_87 rfl ?_
            obtain ⟨hb, hw⟩ := hw
            refine ziS zM181 q181_88 (by decide) s116 hb rfl ?_
            refine zl zM181 q181_89 rfl ?_
            refine zgR (a := 117) zM181 q181_90 (by decide) g12_283 s82 rfl ?_
            refine zl zM181 q181_93 rfl ?_
            refine zgI zM181 q181_94 (by decide) g12_391 s82 rfl (v := (h8 82 48)) rfl ?_
            refine zl zM181 q181_97 rfl ?_
            obtain ⟨hb, hw⟩ := hw
            refine ziS zM181 q181_99 (by decide) s117 hb rfl ?_
            refine zl zM181 q181_100 rfl ?_
            refine zl zM181 q181_101 rfl ?_
            refine zgI zM181 q181_102 (by decide) g12_391 s82 rfl (v := (h8 82 48)) rfl ?_
            refine zkI zM181 q181_105 kI1 ?_
            refine zl zM181 q181_106 (pc' := 107) (st' := .int ((h8 82 48) + 1) :: _) rfl ?_
            refine zpi zM181 q181_107 (by decide) g12_391 s82 rfl rfl ?_
            refine zl zM181 q181_110 rfl ?_
            refine zgI zM181 q181_111 (by decide) g12_391 s82 rfl (v := ((h8 82 48) + 1)) rfl ?_
            refine zkI zM181 q181_114 kI1 ?_
            refine zl zM181 q181_115 (pc' := 116) (st' := .int (((h8 82 48) + 1) - 1) :: _) rfl ?_
            exact zri zM181 q181_116 rfl rfl hw
          · have hw := hw.1 hc
            refine zkB zM181 q181_56 kBm4 ?_
            exact zri zM181 q181_58 rfl rfl hw
        · have hw := hw.1 hc
          refine zkB zM181 q181_44 kBm2 ?_
          exact zri zM181 q181_46 rfl rfl hw
-- X12_missedIn
theorem b182 {X : Option (List Int32)} {d : Nat} {h : zH} {A : Int32 → zH → Prop} {a1 : Int32} {a2 : Int32} (hw : zP X d 182 5 [some (.ref 82), some (.int a1), some (.int a2), some (.int 0), some (.int 0)] [] z_S0 h (zI A)) : zP X d 182 0 (z_ent [.ref 82, .int a1, .int a2] 5) [] z_S0 h (zI A) := by
  show zP X d 182 0 [some (.ref 82), some (.int a1), some (.int a2), none, none] [] z_S0 h (zI A)
  refine zkI zM182 q182_0 kI0 ?_
  refine zl zM182 q182_1 (ls' := [some (.ref 82), some (.int a1), some (.int a2), some (.int 0), none]) rfl ?_
  refine zkI zM182 q182_2 kI0 ?_
  refine zl zM182 q182_3 (ls' := [some (.ref 82), some (.int a1), some (.int a2), some (.int 0), some (.int 0)]) rfl ?_
  exact hw
theorem b182_5 {X : Option (List Int32)} {d : Nat} {h : zH} {A : Int32 → zH → Prop} {l1 : Int32} {l2 : Int32} {l3 : Int32} {l4 : Int32} (hw : ((l4 < (h 82 53) → (z_ib l4 60 ∧ (((h 119 (Int32.toNatClampNeg l4)) = l2 → (z_ib l4 60 ∧ (z_ib (h 118 (Int32.toNatClampNeg l4)) 12 ∧ (((h 114 (Int32.toNatClampNeg (h 118 (Int32.toNatClampNeg l4)))) = l1 → zP X d 182 47 [some (.ref 82), some (.int l1), some (.int l2), none, some (.int l4)] [.int 1, .int l3] z_S0 h (zI A)) ∧ (¬ (h 114 (Int32.toNatClampNeg (h 118 (Int32.toNatClampNeg l4)))) = l1 → zP X d 182 46 [some (.ref 82), some (.int l1), some (.int l2), none, some (.int l4)] [.int l3] z_S0 h (zI A)))))) ∧ (¬ (h 119 (Int32.toNatClampNeg l4)) = l2 → zP X d 182 46 [some (.ref 82), some (.int l1), some (.int l2), none, some (.int l4)] [.int l3] z_S0 h (zI A))))) ∧ (¬ l4 < (h 82 53) → A l3 h))) : zP X d 182 5 [some (.ref 82), some (.int l1), some (.int l2), some (.int l3), some (.int l4)] [] z_S0 h (zI A) := by
  refine zl zM182 q182_5 rfl ?_
  refine zl zM182 q182_7 rfl ?_
  refine zgI zM182 q182_8 (by decide) g12_394 s82 rfl (v := (h 82 53)) rfl ?_
  refine zb2_ge zM182 q182_11 (tgt := 55) rfl (fun hc => ?_) (fun hc => ?_)
  · have hw := hw.2 hc
    refine zl zM182 q182_55 rfl ?_
    exact zri zM182 q182_56 rfl rfl hw
  · have hw := hw.1 hc
    refine zl zM182 q182_14 rfl ?_
    refine zl zM182 q182_15 rfl ?_
    refine zgR (a := 119) zM182 q182_16 (by decide) g12_289 s82 rfl ?_
    refine zl zM182 q182_19 rfl ?_
    obtain ⟨hb, hw⟩ := hw
    refine ziA zM182 q182_21 (by decide) s119 hb (v := (h 119 (Int32.toNatClampNeg l4))) rfl ?_
    refine zl zM182 q182_22 rfl ?_
    refine zb2_ne zM182 q182_23 (tgt := 46) rfl (fun hc => ?_) (fun hc => ?_)
    · have hw := hw.2 hc
      refine zweak (a := [some (.ref 82), some (.int l1), some (.int l2), none, some (.int l4)]) ?_ hw
      exact ⟨rfl, ⟨rfl, ⟨rfl, ⟨rfl, trivial⟩⟩⟩⟩
    · have hw := hw.1 hc
      refine zl zM182 q182_26 rfl ?_
      refine zgR (a := 114) zM182 q182_27 (by decide) g12_274 s82 rfl ?_
      refine zl zM182 q182_30 rfl ?_
      refine zgR (a := 118) zM182 q182_31 (by decide) g12_286 s82 rfl ?_
      refine zl zM182 q182_34 rfl ?_
      obtain ⟨hb, hw⟩ := hw
      refine ziA zM182 q182_36 (by decide) s118 hb (v := (h 118 (Int32.toNatClampNeg l4))) rfl ?_
      obtain ⟨hb, hw⟩ := hw
      refine ziA zM182 q182_37 (by decide) s114 hb (v := (h 114 (Int32.toNatClampNeg (h 118 (Int32.toNatClampNeg l4))))) rfl ?_
      refine zl zM182 q182_38 rfl ?_
      refine zb2_ne zM182 q182_39 (tgt := 46) rfl (fun hc => ?_) (fun hc => ?_)
      · have hw := hw.2 hc
        refine zweak (a := [some (.ref 82), some (.int l1), some (.int l2), none, some (.int l4)]) ?_ hw
        exact ⟨rfl, ⟨rfl, ⟨rfl, ⟨rfl, trivial⟩⟩⟩⟩
      · have hw := hw.1 hc
        refine zkI zM182 q182_42 kI1 ?_
        refine zl zM182 q182_43 (pc' := 47) (ls' := _) (st' := _) rfl ?_
        refine zweak (a := [some (.ref 82), some (.int l1), some (.int l2), none, some (.int l4)]) ?_ hw
        exact ⟨rfl, ⟨rfl, ⟨rfl, ⟨rfl, trivial⟩⟩⟩⟩
theorem b182_46 {X : Option (List Int32)} {d : Nat} {h : zH} {A : Int32 → zH → Prop} {l1 : Int32} {l2 : Int32} {l4 : Int32} {w0 : Int32} (hw : zP X d 182 47 [some (.ref 82), some (.int l1), some (.int l2), none, some (.int l4)] [.int 0, .int w0] z_S0 h (zI A)) : zP X d 182 46 [some (.ref 82), some (.int l1), some (.int l2), none, some (.int l4)] [.int w0] z_S0 h (zI A) := by
  refine zkI zM182 q182_46 kI0 ?_
  exact hw
theorem b182_47 {X : Option (List Int32)} {d : Nat} {h : zH} {A : Int32 → zH → Prop} {l1 : Int32} {l2 : Int32} {l4 : Int32} {w0 : Int32} {w1 : Int32} (hw : zP X d 182 5 [some (.ref 82), some (.int l1), some (.int l2), some (.int (w0 + w1)), some (.int (l4 + 1))] [] z_S0 h (zI A)) : zP X d 182 47 [some (.ref 82), some (.int l1), some (.int l2), none, some (.int l4)] [.int w1, .int w0] z_S0 h (zI A) := by
  refine zl zM182 q182_47 (pc' := 48) (st' := .int (w0 + w1) :: _) rfl ?_
  refine zl zM182 q182_48 (ls' := [some (.ref 82), some (.int l1), some (.int l2), some (.int (w0 + w1)), some (.int l4)]) rfl ?_
  refine zl zM182 q182_49 (ls' := [some (.ref 82), some (.int l1), some (.int l2), some (.int (w0 + w1)), some (.int (l4 + 1))]) rfl ?_
  refine zl zM182 q182_52 (pc' := 5) (ls' := _) (st' := _) rfl ?_
  exact hw
-- X12_miss
theorem b183 {X : Option (List Int32)} {d : Nat} {h : zH} {A : Int32 → zH → Prop} {a1 : Int32} (hw : ((a1 < 0 → A (-2) h) ∧ (¬ a1 < 0 → ((a1 < (h 82 48) → (z_ib a1 12 ∧ (((h 116 (Int32.toNatClampNeg a1)) = ((h 82 0) - (h 82 0) / 6 * 6) → zP X (d + 1) 183 36 [some (.ref 82), some (.int a1), none, none] [.int 0] z_S0 h (zI A)) ∧ (¬ (h 116 (Int32.toNatClampNeg a1)) = ((h 82 0) - (h 82 0) / 6 * 6) → zP X (d + 1) 183 36 [some (.ref 82), some (.int a1), none, none] [.int 1] z_S0 h (zI A))))) ∧ (¬ a1 < (h 82 48) → A (-2) h))))) : zP X (d + 1) 183 0 (z_ent [.ref 82, .int a1] 4) [] z_S0 h (zI A) := by
  show zP X (d + 1) 183 0 [some (.ref 82), some (.int a1), none, none] [] z_S0 h (zI A)
  refine zl zM183 q183_0 rfl ?_
  refine zb1_lt zM183 q183_1 (tgt := 12) rfl (fun hc => ?_) (fun hc => ?_)
  · have hw := hw.1 hc
    refine zkB zM183 q183_12 kBm2 ?_
    exact zri zM183 q183_14 rfl rfl hw
  · have hw := hw.2 hc
    refine zl zM183 q183_4 rfl ?_
    refine zl zM183 q183_5 rfl ?_
    refine zgI zM183 q183_6 (by decide) g12_391 s82 rfl (v := (h 82 48)) rfl ?_
    refine zb2_lt zM183 q183_9 (tgt := 15) rfl (fun hc => ?_) (fun hc => ?_)
    · have hw := hw.1 hc
      refine zl zM183 q183_15 rfl ?_
      refine zgR (a := 116) zM183 q183_16 (by decide) g12_280 s82 rfl ?_
      refine zl zM183 q183_19 rfl ?_
      obtain ⟨hb, hw⟩ := hw
      refine ziA zM183 q183_20 (by decide) s116 hb (v := (h 116 (Int32.toNatClampNeg a1))) rfl ?_
      refine zl zM183 q183_21 rfl ?_
      refine zgI zM183 q183_22 (by decide) g12_9 s82 rfl (v := (h 82 0)) rfl ?_
      refine zkB zM183 q183_25 kB6 ?_
      refine zl zM183 q183_27 (pc' := 28) (st' := .int ((h 82 0) - (h 82 0) / 6 * 6) :: _) rfl ?_
      refine zb2_eq zM183 q183_28 (tgt := 35) rfl (fun hc => ?_) (fun hc => ?_)
      · have hw := hw.1 hc
        refine zkI zM183 q183_35 kI0 ?_
        exact hw
      · have hw := hw.2 hc
        refine zkI zM183 q183_31 kI1 ?_
        refine zl zM183 q183_32 (pc' := 36) (ls' := _) (st' := _) rfl ?_
        exact hw
    · have hw := hw.2 hc
      refine zkB zM183 q183_12 kBm2 ?_
      exact zri zM183 q183_14 rfl rfl hw
theorem b183_36 {X : Option (List Int32)} {d : Nat} {h : zH} {A : Int32 → zH → Prop} {l1 : Int32} {w0 : Int32} (hw : zP X (d + 1) 183 39 [some (.ref 82), some (.int l1), some (.int w0), some (.int 0)] [] z_S0 h (zI A)) : zP X (d + 1) 183 36 [some (.ref 82), some (.int l1), none, none] [.int w0] z_S0 h (zI A) := by
  refine zl zM183 q183_36 (ls' := [some (.ref 82), some (.int l1), some (.int w0), none]) rfl ?_
  refine zkI zM183 q183_37 kI0 ?_
  refine zl zM183 q183_38 (ls' := [some (.ref 82), some (.int l1), some (.int w0), some (.int 0)]) rfl ?_
  exact hw
theorem b183_39 {X : Option (List Int32)} {d : Nat} {h : zH} {A : Int32 → zH → Prop} {l1 : Int32} {l2 : Int32} {l3 : Int32} (hw : ((l3 < (h 82 53) → ((l2 = 0 → (z_ib l3 60 ∧ (((h 119 (Int32.toNatClampNeg l3)) = (h 82 0) → (z_ib l3 60 ∧ (((h 118 (Int32.toNatClampNeg l3)) = l1 → zP X (d + 1) 183 74 [some (.ref 82), some (.int l1), none, some (.int l3)] [] z_S0 h (zI A)) ∧ (¬ (h 118 (Int32.toNatClampNeg l3)) = l1 → zP X (d + 1) 183 78 [some (.ref 82), some (.int l1), none, some (.int l3)] [] z_S0 h (zI A))))) ∧ (¬ (h 119 (Int32.toNatClampNeg l3)) = (h 82 0) → zP X (d + 1) 183 78 [some (.ref 82), some (.int l1), none, some (.int l3)] [] z_S0 h (zI A))))) ∧ (¬ l2 = 0 → zP X (d + 1) 183 74 [some (.ref 82), some (.int l1), none, some (.int l3)] [] z_S0 h (zI A)))) ∧ (¬ l3 < (h 82 53) → ((l2 = 0 → (((h 82 53) = 60 → A (-4) h) ∧ (¬ (h 82 53) = 60 → (z_ib (h 82 53) 60 ∧ (z_ib (h 82 53) 60 ∧ (z_ib l1 12 ∧ zP X d 182 0 (z_ent [.ref 82, .int (h 114 (Int32.toNatClampNeg l1)), .int (h 82 0)] 5) [] z_S0 (z_up (z_up (z_up h 118 (Int32.toNatClampNeg (h 82 53)) l1) 119 (Int32.toNatClampNeg (h 82 53)) (h 82 0)) 82 53 ((h 82 53) + 1)) (zI fun v1 h2 => A v1 h2))))))) ∧ (¬ l2 = 0 → A (-3) h))))) : zP X (d + 1) 183 39 [some (.ref 82), some (.int l1), some (.int l2), some (.int l3)] [] z_S0 h (zI A) := by
  refine zl zM183 q183_39 rfl ?_
  refine zl zM183 q183_40 rfl ?_
  refine zgI zM183 q183_41 (by decide) g12_394 s82 rfl (v := (h 82 53)) rfl ?_
  refine zb2_ge zM183 q183_44 (tgt := 86) rfl (fun hc => ?_) (fun hc => ?_)
  · have hw := hw.2 hc
    refine zl zM183 q183_86 rfl ?_
    refine zb1_eq zM183 q183_87 (tgt := 93) rfl (fun hc => ?_) (fun hc => ?_)
    · have hw := hw.1 hc
      refine zl zM183 q183_93 rfl ?_
      refine zgI zM183 q183_94 (by decide) g12_394 s82 rfl (v := (h 82 53)) rfl ?_
      refine zkB zM183 q183_97 kB60 ?_
      refine zb2_ne zM183 q183_99 (tgt := 105) rfl (fun hc => ?_) (fun hc => ?_)
      · have hw := hw.2 hc
        refine zl zM183 q183_105 rfl ?_
        refine zgR (a := 118) zM183 q183_106 (by decide) g12_286 s82 rfl ?_
        refine zl zM183 q183_109 rfl ?_
        refine zgI zM183 q183_110 (by decide) g12_394 s82 rfl (v := (h 82 53)) rfl ?_
        refine zl zM183 q183_113 rfl ?_
        obtain ⟨hb, hw⟩ := hw
        refine ziS zM183 q183_114 (by decide) s118 hb rfl ?_
        refine zl zM183 q183_115 rfl ?_
        refine zgR (a := 119) zM183 q183_116 (by decide) g12_289 s82 rfl ?_
        refine zl zM183 q183_119 rfl ?_
        refine zgI zM183 q183_120 (by decide) g12_394 s82 rfl (v := (h 82 53)) rfl ?_
        refine zl zM183 q183_123 rfl ?_
        refine zgI zM183 q183_124 (by decide) g12_9 s82 rfl (v := (h 82 0)) rfl ?_
        obtain ⟨hb, hw⟩ := hw
        refine ziS zM183 q183_127 (by decide) s119 hb rfl ?_
        refine zl zM183 q183_128 rfl ?_
        refine zl zM183 q183_129 rfl ?_
        refine zgI zM183 q183_130 (by decide) g12_394 s82 rfl (v := (h 82 53)) rfl ?_
        refine zkI zM183 q183_133 kI1 ?_
        refine zl zM183 q183_134 (pc' := 135) (st' := .int ((h 82 53) + 1) :: _) rfl ?_
        refine zpi zM183 q183_135 (by decide) g12_394 s82 rfl rfl ?_
        refine zl zM183 q183_138 rfl ?_
        refine zl zM183 q183_139 rfl ?_
        refine zgR (a := 114) zM183 q183_140 (by decide) g12_274 s82 rfl ?_
        refine zl zM183 q183_143 rfl ?_
        obtain ⟨hb, hw⟩ := hw
        refine ziA zM183 q183_144 (by decide) s114 hb (v := (h 114 (Int32.toNatClampNeg l1))) rfl ?_
        refine zl zM183 q183_145 rfl ?_
        refine zgI zM183 q183_146 (by decide) g12_9 s82 rfl (v := (h 82 0)) rfl ?_
        refine zcV zM183 q183_149 kl12_235 rfl rfl (Nat.le_of_ble_eq_true rfl) rfl zM182 (Nat.le_of_ble_eq_true rfl) (hw.mono (fun r0 h2 hr3 => ?_))
        obtain ⟨v1, rfl, hw⟩ := hr3
        show zP X (d + 1) 183 152 [some (.ref 82), some (.int l1), some (.int l2), some (.int l3)] [.int v1] z_S0 h2 (zI A)
        exact zri zM183 q183_152 rfl rfl hw
      · have hw := hw.1 hc
        refine zkB zM183 q183_102 kBm4 ?_
        exact zri zM183 q183_104 rfl rfl hw
    · have hw := hw.2 hc
      refine zkB zM183 q183_90 kBm3 ?_
      exact zri zM183 q183_92 rfl rfl hw
  · have hw := hw.1 hc
    refine zl zM183 q183_47 rfl ?_
    refine zb1_ne zM183 q183_48 (tgt := 74) rfl (fun hc => ?_) (fun hc => ?_)
    · have hw := hw.2 hc
      refine zweak (a := [some (.ref 82), some (.int l1), none, some (.int l3)]) ?_ hw
      exact ⟨rfl, ⟨rfl, ⟨rfl, trivial⟩⟩⟩
    · have hw := hw.1 hc
      refine zl zM183 q183_51 rfl ?_
      refine zgR (a := 119) zM183 q183_52 (by decide) g12_289 s82 rfl ?_
      refine zl zM183 q183_55 rfl ?_
      obtain ⟨hb, hw⟩ := hw
      refine ziA zM183 q183_56 (by decide) s119 hb (v := (h 119 (Int32.toNatClampNeg l3))) rfl ?_
      refine zl zM183 q183_57 rfl ?_
      refine zgI zM183 q183_58 (by decide) g12_9 s82 rfl (v := (h 82 0)) rfl ?_
      refine zb2_ne zM183 q183_61 (tgt := 78) rfl (fun hc => ?_) (fun hc => ?_)
      · have hw := hw.2 hc
        refine zweak (a := [some (.ref 82), some (.int l1), none, some (.int l3)]) ?_ hw
        exact ⟨rfl, ⟨rfl, ⟨rfl, trivial⟩⟩⟩
      · have hw := hw.1 hc
        refine zl zM183 q183_64 rfl ?_
        refine zgR (a := 118) zM183 q183_65 (by decide) g12_286 s82 rfl ?_
        refine zl zM183 q183_68 rfl ?_
        obtain ⟨hb, hw⟩ := hw
        refine ziA zM183 q183_69 (by decide) s118 hb (v := (h 118 (Int32.toNatClampNeg l3))) rfl ?_
        refine zl zM183 q183_70 rfl ?_
        refine zb2_ne zM183 q183_71 (tgt := 78) rfl (fun hc => ?_) (fun hc => ?_)
        · have hw := hw.2 hc
          refine zweak (a := [some (.ref 82), some (.int l1), none, some (.int l3)]) ?_ hw
          exact ⟨rfl, ⟨rfl, ⟨rfl, trivial⟩⟩⟩
        · have hw := hw.1 hc
          refine zweak (a := [some (.ref 82), some (.int l1), none, some (.int l3)]) ?_ hw
          exact ⟨rfl, ⟨rfl, ⟨rfl, trivial⟩⟩⟩
theorem b183_74 {X : Option (List Int32)} {d : Nat} {h : zH} {A : Int32 → zH → Prop} {l1 : Int32} {l3 : Int32} (hw : zP X (d + 1) 183 79 [some (.ref 82), some (.int l1), none, some (.int l3)] [.int 1] z_S0 h (zI A)) : zP X (d + 1) 183 74 [some (.ref 82), some (.int l1), none, some (.int l3)] [] z_S0 h (zI A) := by
  refine zkI zM183 q183_74 kI1 ?_
  refine zl zM183 q183_75 (pc' := 79) (ls' := _) (st' := _) rfl ?_
  exact hw
theorem b183_78 {X : Option (List Int32)} {d : Nat} {h : zH} {A : Int32 → zH → Prop} {l1 : Int32} {l3 : Int32} (hw : zP X (d + 1) 183 79 [some (.ref 82), some (.int l1), none, some (.int l3)] [.int 0] z_S0 h (zI A)) : zP X (d + 1) 183 78 [some (.ref 82), some (.int l1), none, some (.int l3)] [] z_S0 h (zI A) := by
  refine zkI zM183 q183_78 kI0 ?_
  exact hw
theorem b183_79 {X : Option (List Int32)} {d : Nat} {h : zH} {A : Int32 → zH → Prop} {l1 : Int32} {l3 : Int32} {w0 : Int32} (hw : zP X (d + 1) 183 39 [some (.ref 82), some (.int l1), some (.int w0), some (.int (l3 + 1))] [] z_S0 h (zI A)) : zP X (d + 1) 183 79 [some (.ref 82), some (.int l1), none, some (.int l3)] [.int w0] z_S0 h (zI A) := by
  refine zl zM183 q183_79 (ls' := [some (.ref 82), some (.int l1), some (.int w0), some (.int l3)]) rfl ?_
  refine zl zM183 q183_80 (ls' := [some (.ref 82), some (.int l1), some (.int w0), some (.int (l3 + 1))]) rfl ?_
  refine zl zM183 q183_83 (pc' := 39) (ls' := _) (st' := _) rfl ?_
  exact hw
-- X12_choose
theorem b184 {X : Option (List Int32)} {d : Nat} {h : zH} {A : Int32 → zH → Prop} {a1 : Int32} (hw : zP X d 184 4 [some (.ref 82), some (.int a1), some (.int 0), some (.int 0)] [] z_S0 h (zI A)) : zP X d 184 0 (z_ent [.ref 82, .int a1] 4) [] z_S0 h (zI A) := by
  show zP X d 184 0 [some (.ref 82), some (.int a1), none, none] [] z_S0 h (zI A)
  refine zkI zM184 q184_0 kI0 ?_
  refine zl zM184 q184_1 (ls' := [some (.ref 82), some (.int a1), some (.int 0), none]) rfl ?_
  refine zkI zM184 q184_2 kI0 ?_
  refine zl zM184 q184_3 (ls' := [some (.ref 82), some (.int a1), some (.int 0), some (.int 0)]) rfl ?_
  exact hw
theorem b184_4 {X : Option (List Int32)} {d : Nat} {h : zH} {A : Int32 → zH → Prop} {l1 : Int32} {l2 : Int32} {l3 : Int32} (hw : ((l3 < (h 82 48) → (z_ib l3 12 ∧ (((h 116 (Int32.toNatClampNeg l3)) = l1 → ((l2 = 8 → A 9 h) ∧ (¬ l2 = 8 → (z_ib l2 8 ∧ zP X d 184 41 [some (.ref 82), some (.int l1), some (.int (l2 + 1)), some (.int l3)] [] z_S0 (z_up h 120 (Int32.toNatClampNeg l2) l3) (zI A))))) ∧ (¬ (h 116 (Int32.toNatClampNeg l3)) = l1 → zP X d 184 41 [some (.ref 82), some (.int l1), some (.int l2), some (.int l3)] [] z_S0 h (zI A))))) ∧ (¬ l3 < (h 82 48) → A l2 h))) : zP X d 184 4 [some (.ref 82), some (.int l1), some (.int l2), some (.int l3)] [] z_S0 h (zI A) := by
  refine zl zM184 q184_4 rfl ?_
  refine zl zM184 q184_5 rfl ?_
  refine zgI zM184 q184_6 (by decide) g12_391 s82 rfl (v := (h 82 48)) rfl ?_
  refine zb2_ge zM184 q184_9 (tgt := 47) rfl (fun hc => ?_) (fun hc => ?_)
  · have hw := hw.2 hc
    refine zl zM184 q184_47 rfl ?_
    exact zri zM184 q184_48 rfl rfl hw
  · have hw := hw.1 hc
    refine zl zM184 q184_12 rfl ?_
    refine zgR (a := 116) zM184 q184_13 (by decide) g12_280 s82 rfl ?_
    refine zl zM184 q184_16 rfl ?_
    obtain ⟨hb, hw⟩ := hw
    refine ziA zM184 q184_17 (by decide) s116 hb (v := (h 116 (Int32.toNatClampNeg l3))) rfl ?_
    refine zl zM184 q184_18 rfl ?_
    refine zb2_ne zM184 q184_19 (tgt := 41) rfl (fun hc => ?_) (fun hc => ?_)
    · have hw := hw.2 hc
      exact hw
    · have hw := hw.1 hc
      refine zl zM184 q184_22 rfl ?_
      refine zkB zM184 q184_23 kB8 ?_
      refine zb2_ne zM184 q184_25 (tgt := 31) rfl (fun hc => ?_) (fun hc => ?_)
      · have hw := hw.2 hc
        refine zl zM184 q184_31 rfl ?_
        refine zgR (a := 120) zM184 q184_32 (by decide) g12_292 s82 rfl ?_
        refine zl zM184 q184_35 rfl ?_
        refine zl zM184 q184_36 rfl ?_
        obtain ⟨hb, hw⟩ := hw
        refine ziS zM184 q184_37 (by decide) s120 hb rfl ?_
        refine zl zM184 q184_38 (ls' := [some (.ref 82), some (.int l1), some (.int (l2 + 1)), some (.int l3)]) rfl ?_
        exact hw
      · have hw := hw.1 hc
        refine zkB zM184 q184_28 kB9 ?_
        exact zri zM184 q184_30 rfl rfl hw
theorem b184_41 {X : Option (List Int32)} {d : Nat} {h : zH} {A : Int32 → zH → Prop} {l1 : Int32} {l2 : Int32} {l3 : Int32} (hw : zP X d 184 4 [some (.ref 82), some (.int l1), some (.int l2), some (.int (l3 + 1))] [] z_S0 h (zI A)) : zP X d 184 41 [some (.ref 82), some (.int l1), some (.int l2), some (.int l3)] [] z_S0 h (zI A) := by
  refine zl zM184 q184_41 (ls' := [some (.ref 82), some (.int l1), some (.int l2), some (.int (l3 + 1))]) rfl ?_
  refine zl zM184 q184_44 (pc' := 4) (ls' := _) (st' := _) rfl ?_
  exact hw
-- X12_weighSets
theorem b185 {X : Option (List Int32)} {d : Nat} {h : zH} {A : zH → Prop} {a1 : Int32} (hw : zP X d 185 2 [some (.ref 82), some (.int a1), some (.int 1), none] [] z_S0 h (zV A)) : zP X d 185 0 (z_ent [.ref 82, .int a1] 4) [] z_S0 h (zV A) := by
  show zP X d 185 0 [some (.ref 82), some (.int a1), none, none] [] z_S0 h (zV A)
  refine zkI zM185 q185_0 kI1 ?_
  refine zl zM185 q185_1 (ls' := [some (.ref 82), some (.int a1), some (.int 1), none]) rfl ?_
  exact hw
theorem b185_2 {X : Option (List Int32)} {d : Nat} {h : zH} {A : zH → Prop} {l1 : Int32} {l2 : Int32} (hw : ((l2 < (1 <<< (l1 &&& 31)) → zP X d 185 11 [some (.ref 82), some (.int l1), some (.int l2), some (.int 0)] [] z_S0 h (zV A)) ∧ (¬ l2 < (1 <<< (l1 &&& 31)) → A h))) : zP X d 185 2 [some (.ref 82), some (.int l1), some (.int l2), none] [] z_S0 h (zV A) := by
  refine zl zM185 q185_2 rfl ?_
  refine zkI zM185 q185_3 kI1 ?_
  refine zl zM185 q185_4 rfl ?_
  refine zl zM185 q185_5 (pc' := 6) (st' := .int (1 <<< (l1 &&& 31)) :: _) rfl ?_
  refine zb2_ge zM185 q185_6 (tgt := 59) rfl (fun hc => ?_) (fun hc => ?_)
  · have hw := hw.2 hc
    exact zrv zM185 q185_59 rfl hw
  · have hw := hw.1 hc
    refine zkI zM185 q185_9 kI0 ?_
    refine zl zM185 q185_10 (ls' := [some (.ref 82), some (.int l1), some (.int l2), some (.int 0)]) rfl ?_
    exact hw
theorem b185_11 {X : Option (List Int32)} {d : Nat} {h : zH} {A : zH → Prop} {l1 : Int32} {l2 : Int32} {l3 : Int32} (hw : ((((l2 >>> (l3 &&& 31)) &&& 1) = 0 → zP X d 185 11 [some (.ref 82), some (.int l1), some (.int l2), some (.int (l3 + 1))] [] z_S0 h (zV A)) ∧ (¬ ((l2 >>> (l3 &&& 31)) &&& 1) = 0 → (z_ib (l2 &&& (l2 - 1)) 256 ∧ (z_ib l3 8 ∧ (z_ib (h 120 (Int32.toNatClampNeg l3)) 12 ∧ (z_ib l2 256 ∧ zP X d 185 2 [some (.ref 82), some (.int l1), some (.int (l2 + 1)), none] [] z_S0 (z_up h 121 (Int32.toNatClampNeg l2) ((h 121 (Int32.toNatClampNeg (l2 &&& (l2 - 1)))) + (h 115 (Int32.toNatClampNeg (h 120 (Int32.toNatClampNeg l3)))))) (zV A)))))))) : zP X d 185 11 [some (.ref 82), some (.int l1), some (.int l2), some (.int l3)] [] z_S0 h (zV A) := by
  refine zl zM185 q185_11 rfl ?_
  refine zl zM185 q185_12 rfl ?_
  refine zl zM185 q185_13 (pc' := 14) (st' := .int (l2 >>> (l3 &&& 31)) :: _) rfl ?_
  refine zkI zM185 q185_14 kI1 ?_
  refine zl zM185 q185_15 (pc' := 16) (st' := .int ((l2 >>> (l3 &&& 31)) &&& 1) :: _) rfl ?_
  refine zb1_ne zM185 q185_16 (tgt := 25) rfl (fun hc => ?_) (fun hc => ?_)
  · have hw := hw.2 hc
    refine zl zM185 q185_25 rfl ?_
    refine zgR (a := 121) zM185 q185_26 (by decide) g12_295 s82 rfl ?_
    refine zl zM185 q185_29 rfl ?_
    refine zl zM185 q185_30 rfl ?_
    refine zgR (a := 121) zM185 q185_31 (by decide) g12_295 s82 rfl ?_
    refine zl zM185 q185_34 rfl ?_
    refine zl zM185 q185_35 rfl ?_
    refine zkI zM185 q185_36 kI1 ?_
    refine zl zM185 q185_37 (pc' := 38) (st' := .int (l2 - 1) :: _) rfl ?_
    refine zl zM185 q185_38 (pc' := 39) (st' := .int (l2 &&& (l2 - 1)) :: _) rfl ?_
    obtain ⟨hb, hw⟩ := hw
    refine ziA zM185 q185_39 (by decide) s121 hb (v := (h 121 (Int32.toNatClampNeg (l2 &&& (l2 - 1))))) rfl ?_
    refine zl zM185 q185_40 rfl ?_
    refine zgR (a := 115) zM185 q185_41 (by decide) g12_277 s82 rfl ?_
    refine zl zM185 q185_44 rfl ?_
    refine zgR (a := 120) zM185 q185_45 (by decide) g12_292 s82 rfl ?_
    refine zl zM185 q185_48 rfl ?_
    obtain ⟨hb, hw⟩ := hw
    refine ziA zM185 q185_49 (by decide) s120 hb (v := (h 120 (Int32.toNatClampNeg l3))) rfl ?_
    obtain ⟨hb, hw⟩ := hw
    refine ziA zM185 q185_50 (by decide) s115 hb (v := (h 115 (Int32.toNatClampNeg (h 120 (Int32.toNatClampNeg l3))))) rfl ?_
    refine zl zM185 q185_51 (pc' := 52) (st' := .int ((h 121 (Int32.toNatClampNeg (l2 &&& (l2 - 1)))) + (h 115 (Int32.toNatClampNeg (h 120 (Int32.toNatClampNeg l3))))) :: _) rfl ?_
    obtain ⟨hb, hw⟩ := hw
    refine ziS zM185 q185_52 (by decide) s121 hb rfl ?_
    refine zl zM185 q185_53 (ls' := [some (.ref 82), some (.int l1), some (.int (l2 + 1)), some (.int l3)]) rfl ?_
    refine zl zM185 q185_56 (pc' := 2) (ls' := _) (st' := _) rfl ?_
    refine zweak (a := [some (.ref 82), some (.int l1), some (.int (l2 + 1)), none]) ?_ hw
    exact ⟨rfl, ⟨rfl, ⟨rfl, trivial⟩⟩⟩
  · have hw := hw.1 hc
    refine zl zM185 q185_19 (ls' := [some (.ref 82), some (.int l1), some (.int l2), some (.int (l3 + 1))]) rfl ?_
    refine zl zM185 q185_22 (pc' := 11) (ls' := _) (st' := _) rfl ?_
    exact hw

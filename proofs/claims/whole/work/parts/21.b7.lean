-- X12_find
theorem b177 {X : Option (List Int32)} {d : Nat} {h : zH} {A : Int32 → zH → Prop} {a1 : Int32} {a2 : Int32} {a3 : Int32} (hw : zP X d 134 0 (z_ent [.ref 82, .int a1] 2) [] z_S0 h (zI fun v1 h2 => ((v1 = 0 → A (-2) h2) ∧ (¬ v1 = 0 → zP X d 128 0 (z_ent [.long (Int32.toInt64 a2), .long 0, .long 9] 6) [] z_S0 h2 (zI fun v3 h4 => ((v3 = 0 → A (-2) h4) ∧ (¬ v3 = 0 → zP X d 128 0 (z_ent [.long (Int32.toInt64 a3), .long 0, .long 9999] 6) [] z_S0 h4 (zI fun v5 h6 => ((v5 = 0 → A (-2) h6) ∧ (¬ v5 = 0 → (((h6 82 44) = 20 → A (-4) h6) ∧ (¬ (h6 82 44) = 20 → (z_ib (h6 82 44) 20 ∧ (z_ib (h6 82 44) 20 ∧ (z_ib (h6 82 44) 20 ∧ A (((h6 82 44) + 1) - 1) (z_up (z_up (z_up (z_up h6 111 (Int32.toNatClampNeg (h6 82 44)) a1) 112 (Int32.toNatClampNeg (h6 82 44)) a2) 113 (Int32.toNatClampNeg (h6 82 44)) a3) 82 44 ((h6 82 44) + 1))))))))))))))))) : zP X (d + 1) 177 0 (z_ent [.ref 82, .int a1, .int a2, .int a3] 4) [] z_S0 h (zI A) := by
  show zP X (d + 1) 177 0 [some (.ref 82), some (.int a1), some (.int a2), some (.int a3)] [] z_S0 h (zI A)
  refine zl zM177 q177_0 rfl ?_
  refine zl zM177 q177_1 rfl ?_
  refine zcV zM177 q177_2 kl12_73 rfl rfl (Nat.le_of_ble_eq_true rfl) rfl zM134 (Nat.le_of_ble_eq_true rfl) (hw.mono (fun r0 h2 hr9 => ?_))
  obtain ⟨v1, rfl, hw⟩ := hr9
  show zP X (d + 1) 177 5 [some (.ref 82), some (.int a1), some (.int a2), some (.int a3)] [.int v1] z_S0 h2 (zI A)
  refine zb1_eq zM177 q177_5 (tgt := 32) rfl (fun hc => ?_) (fun hc => ?_)
  · have hw := hw.1 hc
    refine zkB zM177 q177_32 kBm2 ?_
    exact zri zM177 q177_34 rfl rfl hw
  · have hw := hw.2 hc
    refine zl zM177 q177_8 rfl ?_
    refine zl zM177 q177_9 (pc' := 10) (st' := .long (Int32.toInt64 a2) :: _) rfl ?_
    refine zkL (v := 0) zM177 q177_10 rfl ?_
    refine zkJ zM177 q177_11 kc12_378 ?_
    refine zcS zM177 q177_14 ky12_3 kl12_3 (by decide) rfl (Nat.le_of_ble_eq_true rfl) zM128 (Nat.le_of_ble_eq_true rfl) (hw.mono (fun r0 h4 hr8 => ?_))
    obtain ⟨v3, rfl, hw⟩ := hr8
    show zP X (d + 1) 177 17 [some (.ref 82), some (.int a1), some (.int a2), some (.int a3)] [.int v3] z_S0 h4 (zI A)
    refine zb1_eq zM177 q177_17 (tgt := 32) rfl (fun hc => ?_) (fun hc => ?_)
    · have hw := hw.1 hc
      refine zkB zM177 q177_32 kBm2 ?_
      exact zri zM177 q177_34 rfl rfl hw
    · have hw := hw.2 hc
      refine zl zM177 q177_20 rfl ?_
      refine zl zM177 q177_21 (pc' := 22) (st' := .long (Int32.toInt64 a3) :: _) rfl ?_
      refine zkL (v := 0) zM177 q177_22 rfl ?_
      refine zkJ zM177 q177_23 kc12_31 ?_
      refine zcS zM177 q177_26 ky12_3 kl12_3 (by decide) rfl (Nat.le_of_ble_eq_true rfl) zM128 (Nat.le_of_ble_eq_true rfl) (hw.mono (fun r0 h6 hr7 => ?_))
      obtain ⟨v5, rfl, hw⟩ := hr7
      show zP X (d + 1) 177 29 [some (.ref 82), some (.int a1), some (.int a2), some (.int a3)] [.int v5] z_S0 h6 (zI A)
      refine zb1_ne zM177 q177_29 (tgt := 35) rfl (fun hc => ?_) (fun hc => ?_)
      · have hw := hw.2 hc
        refine zl zM177 q177_35 rfl ?_
        refine zgI zM177 q177_36 (by decide) g12_380 s82 rfl (v := (h6 82 44)) rfl ?_
        refine zkB zM177 q177_39 kB20 ?_
        refine zb2_ne zM177 q177_41 (tgt := 47) rfl (fun hc => ?_) (fun hc => ?_)
        · have hw := hw.2 hc
          refine zl zM177 q177_47 rfl ?_
          refine zgR (a := 111) zM177 q177_48 (by decide) g12_265 s82 rfl ?_
          refine zl zM177 q177_51 rfl ?_
          refine zgI zM177 q177_52 (by decide) g12_380 s82 rfl (v := (h6 82 44)) rfl ?_
          refine zl zM177 q177_55 rfl ?_
          obtain ⟨hb, hw⟩ := hw
          refine ziS zM177 q177_56 (by decide) s111 hb rfl ?_
          refine zl zM177 q177_57 rfl ?_
          refine zgR (a := 112) zM177 q177_58 (by decide) g12_268 s82 rfl ?_
          refine zl zM177 q177_61 rfl ?_
          refine zgI zM177 q177_62 (by decide) g12_380 s82 rfl (v := (h6 82 44)) rfl ?_
          refine zl zM177 q177_65 rfl ?_
          obtain ⟨hb, hw⟩ := hw
          refine ziS zM177 q177_66 (by decide) s112 hb rfl ?_
          refine zl zM177 q177_67 rfl ?_
          refine zgR (a := 113) zM177 q177_68 (by decide) g12_271 s82 rfl ?_
          refine zl zM177 q177_71 rfl ?_
          refine zgI zM177 q177_72 (by decide) g12_380 s82 rfl (v := (h6 82 44)) rfl ?_
          refine zl zM177 q177_75 rfl ?_
          obtain ⟨hb, hw⟩ := hw
          refine ziS zM177 q177_76 (by decide) s113 hb rfl ?_
          refine zl zM177 q177_77 rfl ?_
          refine zl zM177 q177_78 rfl ?_
          refine zgI zM177 q177_79 (by decide) g12_380 s82 rfl (v := (h6 82 44)) rfl ?_
          refine zkI zM177 q177_82 kI1 ?_
          refine zl zM177 q177_83 (pc' := 84) (st' := .int ((h6 82 44) + 1) :: _) rfl ?_
          refine zpi zM177 q177_84 (by decide) g12_380 s82 rfl rfl ?_
          refine zl zM177 q177_87 rfl ?_
          refine zgI zM177 q177_88 (by decide) g12_380 s82 rfl (v := ((h6 82 44) + 1)) rfl ?_
          refine zkI zM177 q177_91 kI1 ?_
          refine zl zM177 q177_92 (pc' := 93) (st' := .int (((h6 82 44) + 1) - 1) :: _) rfl ?_
          exact zri zM177 q177_93 rfl rfl hw
        · have hw := hw.1 hc
          refine zkB zM177 q177_44 kBm4 ?_
          exact zri zM177 q177_46 rfl rfl hw
      · have hw := hw.1 hc
        refine zkB zM177 q177_32 kBm2 ?_
        exact zri zM177 q177_34 rfl rfl hw
-- X12_ownerOf
theorem b178 {X : Option (List Int32)} {d : Nat} {h : zH} {A : Int32 → zH → Prop} {a1 : Int32} (hw : (z_ib a1 20 ∧ zP X d 168 0 (z_ent [.ref 82, .int 2, .int (h 111 (Int32.toNatClampNeg a1))] 7) [] z_S0 h (zI fun v1 h3 => zP X d 213 0 (z_ent [.int v1, .int 3] 3) [] z_S0 h3 (zI fun v4 h5 => A v4 h5)))) : zP X (d + 1) 178 0 (z_ent [.ref 82, .int a1] 2) [] z_S0 h (zI A) := by
  show zP X (d + 1) 178 0 [some (.ref 82), some (.int a1)] [] z_S0 h (zI A)
  refine zl zM178 q178_0 rfl ?_
  refine zkI zM178 q178_1 kI2 ?_
  refine zl zM178 q178_2 rfl ?_
  refine zgR (a := 111) zM178 q178_3 (by decide) g12_265 s82 rfl ?_
  refine zl zM178 q178_6 rfl ?_
  obtain ⟨hb, hw⟩ := hw
  refine ziA zM178 q178_7 (by decide) s111 hb (v := (h 111 (Int32.toNatClampNeg a1))) rfl ?_
  refine zcV zM178 q178_8 kl12_360 rfl rfl (Nat.le_of_ble_eq_true rfl) rfl zM168 (Nat.le_of_ble_eq_true rfl) (hw.mono (fun r0 h3 hr7 => ?_))
  obtain ⟨v1, rfl, hw⟩ := hr7
  show zP X (d + 1) 178 11 [some (.ref 82), some (.int a1)] [.int v1] z_S0 h3 (zI A)
  refine zkI zM178 q178_11 kI3 ?_
  refine zcS zM178 q178_12 ky12_383 kl12_383 (by decide) rfl (Nat.le_of_ble_eq_true rfl) zM213 (Nat.le_of_ble_eq_true rfl) (hw.mono (fun r0 h5 hr6 => ?_))
  obtain ⟨v4, rfl, hw⟩ := hr6
  show zP X (d + 1) 178 15 [some (.ref 82), some (.int a1)] [.int v4] z_S0 h5 (zI A)
  exact zri zM178 q178_15 rfl rfl hw
-- X12_whose
theorem b179 {X : Option (List Int32)} {d : Nat} {h : zH} {A : Int32 → zH → Prop} {a1 : Int32} (hw : ((a1 < 0 → A (-2) h) ∧ (¬ a1 < 0 → ((a1 < (h 82 44) → zP X d 178 0 (z_ent [.ref 82, .int a1] 2) [] z_S0 h (zI fun v1 h3 => A v1 h3)) ∧ (¬ a1 < (h 82 44) → A (-2) h))))) : zP X (d + 1) 179 0 (z_ent [.ref 82, .int a1] 2) [] z_S0 h (zI A) := by
  show zP X (d + 1) 179 0 [some (.ref 82), some (.int a1)] [] z_S0 h (zI A)
  refine zl zM179 q179_0 rfl ?_
  refine zb1_lt zM179 q179_1 (tgt := 20) rfl (fun hc => ?_) (fun hc => ?_)
  · have hw := hw.1 hc
    refine zkB zM179 q179_20 kBm2 ?_
    exact zri zM179 q179_22 rfl rfl hw
  · have hw := hw.2 hc
    refine zl zM179 q179_4 rfl ?_
    refine zl zM179 q179_5 rfl ?_
    refine zgI zM179 q179_6 (by decide) g12_380 s82 rfl (v := (h 82 44)) rfl ?_
    refine zb2_ge zM179 q179_9 (tgt := 20) rfl (fun hc => ?_) (fun hc => ?_)
    · have hw := hw.2 hc
      refine zkB zM179 q179_20 kBm2 ?_
      exact zri zM179 q179_22 rfl rfl hw
    · have hw := hw.1 hc
      refine zl zM179 q179_12 rfl ?_
      refine zl zM179 q179_13 rfl ?_
      refine zcV zM179 q179_14 kl12_386 rfl rfl (Nat.le_of_ble_eq_true rfl) rfl zM178 (Nat.le_of_ble_eq_true rfl) (hw.mono (fun r0 h3 hr4 => ?_))
      obtain ⟨v1, rfl, hw⟩ := hr4
      show zP X (d + 1) 179 17 [some (.ref 82), some (.int a1)] [.int v1] z_S0 h3 (zI A)
      refine zl zM179 q179_17 (pc' := 22) (ls' := _) (st' := _) rfl ?_
      exact zri zM179 q179_22 rfl rfl hw
-- X12_finds
theorem b180 {X : Option (List Int32)} {d : Nat} {h : zH} {A : Int64 → zH → Prop} {a1 : Int32} (hw : zP X d 128 0 (z_ent [.long (Int32.toInt64 a1), .long 0, .long 16] 6) [] z_S0 h (zI fun v1 h2 => ((v1 = 0 → A (-4611686018427387904) h2) ∧ (¬ v1 = 0 → zP X (d + 1) 180 21 [some (.ref 82), some (.int a1), some (.long 0), none, some (.int 0), none, none] [] z_S0 h2 (zJ A))))) : zP X (d + 1) 180 0 (z_ent [.ref 82, .int a1] 7) [] z_S0 h (zJ A) := by
  show zP X (d + 1) 180 0 [some (.ref 82), some (.int a1), none, none, none, none, none] [] z_S0 h (zJ A)
  refine zl zM180 q180_0 rfl ?_
  refine zl zM180 q180_1 (pc' := 2) (st' := .long (Int32.toInt64 a1) :: _) rfl ?_
  refine zkL (v := 0) zM180 q180_2 rfl ?_
  refine zkJ zM180 q180_3 kc12_389 ?_
  refine zcS zM180 q180_6 ky12_3 kl12_3 (by decide) rfl (Nat.le_of_ble_eq_true rfl) zM128 (Nat.le_of_ble_eq_true rfl) (hw.mono (fun r0 h2 hr3 => ?_))
  obtain ⟨v1, rfl, hw⟩ := hr3
  show zP X (d + 1) 180 9 [some (.ref 82), some (.int a1), none, none, none, none, none] [.int v1] z_S0 h2 (zJ A)
  refine zb1_ne zM180 q180_9 (tgt := 16) rfl (fun hc => ?_) (fun hc => ?_)
  · have hw := hw.2 hc
    refine zkL (v := 0) zM180 q180_16 rfl ?_
    refine zl zM180 q180_17 (ls' := [some (.ref 82), some (.int a1), some (.long 0), none, none, none, none]) rfl ?_
    refine zkI zM180 q180_18 kI0 ?_
    refine zl zM180 q180_19 (ls' := [some (.ref 82), some (.int a1), some (.long 0), none, some (.int 0), none, none]) rfl ?_
    exact hw
  · have hw := hw.1 hc
    refine zkJ zM180 q180_12 kc12_363 ?_
    exact zrj zM180 q180_15 rfl hw
theorem b180_21 {X : Option (List Int32)} {d : Nat} {h : zH} {A : Int64 → zH → Prop} {l1 : Int32} {l2 : Int64} {l4 : Int32} (hw : ((l4 < (h 82 44) → zP X d 178 0 (z_ent [.ref 82, .int l4] 2) [] z_S0 h (zI fun v4 h6 => ((v4 = 0 → (z_ib l4 20 ∧ ((l1 = (h6 112 (Int32.toNatClampNeg l4)) → zP X (d + 1) 180 106 [some (.ref 82), some (.int l1), some (.long l2), none, some (.int l4), none, none] [.int 1] z_S0 h6 (zJ A)) ∧ (¬ l1 = (h6 112 (Int32.toNatClampNeg l4)) → zP X (d + 1) 180 106 [some (.ref 82), some (.int l1), some (.long l2), none, some (.int l4), none, none] [.int 0] z_S0 h6 (zJ A))))) ∧ (¬ v4 = 0 → ((v4 = 1 → ((l1 = 10 → zP X (d + 1) 180 106 [some (.ref 82), some (.int l1), some (.long l2), none, some (.int l4), none, none] [.int 1] z_S0 h6 (zJ A)) ∧ (¬ l1 = 10 → zP X (d + 1) 180 106 [some (.ref 82), some (.int l1), some (.long l2), none, some (.int l4), none, none] [.int 0] z_S0 h6 (zJ A)))) ∧ (¬ v4 = 1 → (z_ib l4 20 ∧ (z_ib (h6 111 (Int32.toNatClampNeg l4)) 40 ∧ ((l1 = (11 + (h6 86 (Int32.toNatClampNeg (h6 111 (Int32.toNatClampNeg l4))))) → zP X (d + 1) 180 106 [some (.ref 82), some (.int l1), some (.long l2), none, some (.int l4), none, none] [.int 1] z_S0 h6 (zJ A)) ∧ (¬ l1 = (11 + (h6 86 (Int32.toNatClampNeg (h6 111 (Int32.toNatClampNeg l4))))) → zP X (d + 1) 180 106 [some (.ref 82), some (.int l1), some (.long l2), none, some (.int l4), none, none] [.int 0] z_S0 h6 (zJ A))))))))))) ∧ (¬ l4 < (h 82 44) → A l2 h))) : zP X (d + 1) 180 21 [some (.ref 82), some (.int l1), some (.long l2), none, some (.int l4), none, none] [] z_S0 h (zJ A) := by
  refine zl zM180 q180_21 rfl ?_
  refine zl zM180 q180_23 rfl ?_
  refine zgI zM180 q180_24 (by decide) g12_380 s82 rfl (v := (h 82 44)) rfl ?_
  refine zb2_ge zM180 q180_27 (tgt := 134) rfl (fun hc => ?_) (fun hc => ?_)
  · have hw := hw.2 hc
    refine zl zM180 q180_134 rfl ?_
    exact zrj zM180 q180_135 rfl hw
  · have hw := hw.1 hc
    refine zl zM180 q180_30 rfl ?_
    refine zl zM180 q180_31 rfl ?_
    refine zcV zM180 q180_33 kl12_386 rfl rfl (Nat.le_of_ble_eq_true rfl) rfl zM178 (Nat.le_of_ble_eq_true rfl) (hw.mono (fun r0 h6 hr7 => ?_))
    obtain ⟨v4, rfl, hw⟩ := hr7
    show zP X (d + 1) 180 36 [some (.ref 82), some (.int l1), some (.long l2), none, some (.int l4), none, none] [.int v4] z_S0 h6 (zJ A)
    refine zl zM180 q180_36 (ls' := [some (.ref 82), some (.int l1), some (.long l2), none, some (.int l4), some (.int v4), none]) rfl ?_
    refine zl zM180 q180_38 rfl ?_
    refine zb1_ne zM180 q180_40 (tgt := 62) rfl (fun hc => ?_) (fun hc => ?_)
    · have hw := hw.2 hc
      refine zl zM180 q180_62 rfl ?_
      refine zkI zM180 q180_64 kI1 ?_
      refine zb2_ne zM180 q180_65 (tgt := 82) rfl (fun hc => ?_) (fun hc => ?_)
      · have hw := hw.2 hc
        refine zl zM180 q180_82 rfl ?_
        refine zkB zM180 q180_83 kB11 ?_
        refine zl zM180 q180_85 rfl ?_
        refine zgR (a := 86) zM180 q180_86 (by decide) g12_39 s82 rfl ?_
        refine zl zM180 q180_89 rfl ?_
        refine zgR (a := 111) zM180 q180_90 (by decide) g12_265 s82 rfl ?_
        refine zl zM180 q180_93 rfl ?_
        obtain ⟨hb, hw⟩ := hw
        refine ziA zM180 q180_95 (by decide) s111 hb (v := (h6 111 (Int32.toNatClampNeg l4))) rfl ?_
        obtain ⟨hb, hw⟩ := hw
        refine ziA zM180 q180_96 (by decide) s86 hb (v := (h6 86 (Int32.toNatClampNeg (h6 111 (Int32.toNatClampNeg l4))))) rfl ?_
        refine zl zM180 q180_97 (pc' := 98) (st' := .int (11 + (h6 86 (Int32.toNatClampNeg (h6 111 (Int32.toNatClampNeg l4))))) :: _) rfl ?_
        refine zb2_ne zM180 q180_98 (tgt := 105) rfl (fun hc => ?_) (fun hc => ?_)
        · have hw := hw.2 hc
          refine zkI zM180 q180_105 kI0 ?_
          refine zweak (a := [some (.ref 82), some (.int l1), some (.long l2), none, some (.int l4), none, none]) ?_ hw
          exact ⟨rfl, ⟨rfl, ⟨rfl, ⟨rfl, trivial⟩⟩⟩⟩
        · have hw := hw.1 hc
          refine zkI zM180 q180_101 kI1 ?_
          refine zl zM180 q180_102 (pc' := 106) (ls' := _) (st' := _) rfl ?_
          refine zweak (a := [some (.ref 82), some (.int l1), some (.long l2), none, some (.int l4), none, none]) ?_ hw
          exact ⟨rfl, ⟨rfl, ⟨rfl, ⟨rfl, trivial⟩⟩⟩⟩
      · have hw := hw.1 hc
        refine zl zM180 q180_68 rfl ?_
        refine zkB zM180 q180_69 kB10 ?_
        refine zb2_ne zM180 q180_71 (tgt := 78) rfl (fun hc => ?_) (fun hc => ?_)
        · have hw := hw.2 hc
          refine zkI zM180 q180_78 kI0 ?_
          refine zl zM180 q180_79 (pc' := 106) (ls' := _) (st' := _) rfl ?_
          refine zweak (a := [some (.ref 82), some (.int l1), some (.long l2), none, some (.int l4), none, none]) ?_ hw
          exact ⟨rfl, ⟨rfl, ⟨rfl, ⟨rfl, trivial⟩⟩⟩⟩
        · have hw := hw.1 hc
          refine zkI zM180 q180_74 kI1 ?_
          refine zl zM180 q180_75 (pc' := 106) (ls' := _) (st' := _) rfl ?_
          refine zweak (a := [some (.ref 82), some (.int l1), some (.long l2), none, some (.int l4), none, none]) ?_ hw
          exact ⟨rfl, ⟨rfl, ⟨rfl, ⟨rfl, trivial⟩⟩⟩⟩
    · have hw := hw.1 hc
      refine zl zM180 q180_43 rfl ?_
      refine zl zM180 q180_44 rfl ?_
      refine zgR (a := 112) zM180 q180_45 (by decide) g12_268 s82 rfl ?_
      refine zl zM180 q180_48 rfl ?_
      obtain ⟨hb, hw⟩ := hw
      refine ziA zM180 q180_50 (by decide) s112 hb (v := (h6 112 (Int32.toNatClampNeg l4))) rfl ?_
      refine zb2_ne zM180 q180_51 (tgt := 58) rfl (fun hc => ?_) (fun hc => ?_)
      · have hw := hw.2 hc
        refine zkI zM180 q180_58 kI0 ?_
        refine zl zM180 q180_59 (pc' := 106) (ls' := _) (st' := _) rfl ?_
        refine zweak (a := [some (.ref 82), some (.int l1), some (.long l2), none, some (.int l4), none, none]) ?_ hw
        exact ⟨rfl, ⟨rfl, ⟨rfl, ⟨rfl, trivial⟩⟩⟩⟩
      · have hw := hw.1 hc
        refine zkI zM180 q180_54 kI1 ?_
        refine zl zM180 q180_55 (pc' := 106) (ls' := _) (st' := _) rfl ?_
        refine zweak (a := [some (.ref 82), some (.int l1), some (.long l2), none, some (.int l4), none, none]) ?_ hw
        exact ⟨rfl, ⟨rfl, ⟨rfl, ⟨rfl, trivial⟩⟩⟩⟩
theorem b180_106 {X : Option (List Int32)} {d : Nat} {h : zH} {A : Int64 → zH → Prop} {l1 : Int32} {l2 : Int64} {l4 : Int32} {w0 : Int32} (hw : ((w0 = 0 → zP X (d + 1) 180 126 [some (.ref 82), some (.int l1), none, none, some (.int l4), none, none] [.long 0, .long l2] z_S0 h (zJ A)) ∧ (¬ w0 = 0 → (z_ib l4 20 ∧ zP X (d + 1) 180 126 [some (.ref 82), some (.int l1), none, none, some (.int l4), none, none] [.long (Int32.toInt64 (h 113 (Int32.toNatClampNeg l4))), .long l2] z_S0 h (zJ A))))) : zP X (d + 1) 180 106 [some (.ref 82), some (.int l1), some (.long l2), none, some (.int l4), none, none] [.int w0] z_S0 h (zJ A) := by
  refine zl zM180 q180_106 (ls' := [some (.ref 82), some (.int l1), some (.long l2), none, some (.int l4), none, some (.int w0)]) rfl ?_
  refine zl zM180 q180_108 rfl ?_
  refine zl zM180 q180_109 rfl ?_
  refine zb1_eq zM180 q180_111 (tgt := 125) rfl (fun hc => ?_) (fun hc => ?_)
  · have hw := hw.1 hc
    refine zkL (v := 0) zM180 q180_125 rfl ?_
    refine zweak (a := [some (.ref 82), some (.int l1), none, none, some (.int l4), none, none]) ?_ hw
    exact ⟨rfl, ⟨rfl, ⟨rfl, trivial⟩⟩⟩
  · have hw := hw.2 hc
    refine zl zM180 q180_114 rfl ?_
    refine zgR (a := 113) zM180 q180_115 (by decide) g12_271 s82 rfl ?_
    refine zl zM180 q180_118 rfl ?_
    obtain ⟨hb, hw⟩ := hw
    refine ziA zM180 q180_120 (by decide) s113 hb (v := (h 113 (Int32.toNatClampNeg l4))) rfl ?_
    refine zl zM180 q180_121 (pc' := 122) (st' := .long (Int32.toInt64 (h 113 (Int32.toNatClampNeg l4))) :: _) rfl ?_
    refine zl zM180 q180_122 (pc' := 126) (ls' := _) (st' := _) rfl ?_
    refine zweak (a := [some (.ref 82), some (.int l1), none, none, some (.int l4), none, none]) ?_ hw
    exact ⟨rfl, ⟨rfl, ⟨rfl, trivial⟩⟩⟩
theorem b180_126 {X : Option (List Int32)} {d : Nat} {h : zH} {A : Int64 → zH → Prop} {l1 : Int32} {l4 : Int32} {w0 : Int64} {w1 : Int64} (hw : zP X (d + 1) 180 21 [some (.ref 82), some (.int l1), some (.long (w0 + w1)), none, some (.int (l4 + 1)), none, none] [] z_S0 h (zJ A)) : zP X (d + 1) 180 126 [some (.ref 82), some (.int l1), none, none, some (.int l4), none, none] [.long w1, .long w0] z_S0 h (zJ A) := by
  refine zl zM180 q180_126 (pc' := 127) (st' := .long (w0 + w1) :: _) rfl ?_
  refine zl zM180 q180_127 (ls' := [some (.ref 82), some (.int l1), some (.long (w0 + w1)), none, some (.int l4), none, none]) rfl ?_
  refine zl zM180 q180_128 (ls' := [some (.ref 82), some (.int l1), some (.long (w0 + w1)), none, some (.int (l4 + 1)), none, none]) rfl ?_
  refine zl zM180 q180_131 (pc' := 21) (ls' := _) (st' := _) rfl ?_
  exact hw
-- X12_door
theorem b181 {X : Option (List Int32)} {d : Nat} {h : zH} {A : Int32 → zH → Prop} {a1 : Int32} {a2 : Int32} {a3 : Int32} {a4 : Int32} (hw : zP X d 131 0 (z_ent [.int a1] 1) [] z_S0 h (zI fun v1 h2 => ((v1 = 0 → A (-2) h2) ∧ (¬ v1 = 0 → zP X d 128 0 (z_ent [.long (Int32.toInt64 a2), .long 1, .long 999] 6) [] z_S0 h2 (zI fun v3 h4 => ((v3 = 0 → A (-2) h4) ∧ (¬ v3 = 0 → zP X d 128 0 (z_ent [.long (Int32.toInt64 a3), .long 0, .long 5] 6) [] z_S0 h4 (zI fun v5 h6 => ((v5 = 0 → A (-2) h6) ∧ (¬ v5 = 0 → zP X d 128 0 (z_ent [.long (Int32.toInt64 a4), .long 0, .long 9999] 6) [] z_S0 h6 (zI fun v7 h8 => ((v7 = 0 → A (-2) h8) ∧ (¬ v7 = 0 → (((h8 82 48) = 12 → A (-4) h8) ∧ (¬ (h8 82 48) = 12 → (z_ib (h8 82 48) 12 ∧ (z_ib (h8 82 48) 12 ∧ (z_ib (h8 82 48) 12 ∧ (z_ib (h8 82 48) 12 ∧ A (((h8 82 48) + 1) - 1) (z_up (z_up (z_up (z_up (z_up h8 114 (Int32.toNatClampNeg (h8 82 48)) a1) 115 (Int32.toNatClampNeg (h8 82 48)) a2) 116 (Int32.toNatClampNeg (h8 82 48)) a3) 117 (Int32.toNatClampNeg (h8 82 48)) a4) 82 48 ((h8 82 48) + 1))))))))))))))))))))) : zP X (d + 1) 181 0 (z_ent [.ref 82, .int a1, .int a2, .int a3, .int a4] 5) [] z_S0 h (zI A) := by
  show zP X (d + 1) 181 0 [some (.ref 82), some (.int a1), some (.int a2), some (.int a3), some (.int a4)] [] z_S0 h (zI A)
  refine zl zM181 q181_0 rfl ?_
  refine zcS zM181 q181_1 ky12_24 kl12_24 (by decide) rfl (Nat.le_of_ble_eq_true rfl) zM131 (Nat.le_of_ble_eq_true rfl) (hw.mono (fun r0 h2 hr12 => ?_))
  obtain ⟨v1, rfl, hw⟩ := hr12
  show zP X (d + 1) 181 4 [some (.ref 82), some (.int a1), some (.int a2), some (.int a3), some (.int a4)] [.int v1] z_S0 h2 (zI A)
  refine zb1_eq zM181 q181_4 (tgt := 44) rfl (fun hc => ?_) (fun hc => ?_)
  · have hw := hw.1 hc
    refine zkB zM181 q181_44 kBm2 ?_
    exact zri zM181 q181_46 rfl rfl hw
  · have hw := hw.2 hc
    refine zl zM181 q181_7 rfl ?_
    refine zl zM181 q181_8 (pc' := 9) (st' := .long (Int32.toInt64 a2) :: _) rfl ?_
    refine zkL (v := 1) zM181 q181_9 rfl ?_
    refine zkJ zM181 q181_10 kc12_108 ?_
    refine zcS zM181 q181_13 ky12_3 kl12_3 (by decide) rfl (Nat.le_of_ble_eq_true rfl) zM128 (Nat.le_of_ble_eq_true rfl) (hw.mono (fun r0 h4 hr11 => ?_))
    obtain ⟨v3, rfl, hw⟩ := hr11
    show zP X (d + 1) 181 16 [some (.ref 82), some (.int a1), some (.int a2), some (.int a3), some (.int a4)] [.int v3] z_S0 h4 (zI A)
    refine zb1_eq zM181 q181_16 (tgt := 44) rfl (fun hc => ?_) (fun hc => ?_)
    · have hw := hw.1 hc
      refine zkB zM181 q181_44 kBm2 ?_
      exact zri zM181 q181_46 rfl rfl hw
    · have hw := hw.2 hc
      refine zl zM181 q181_19 rfl ?_
      refine zl zM181 q181_20 (pc' := 21) (st' := .long (Int32.toInt64 a3) :: _) rfl ?_
      refine zkL (v := 0) zM181 q181_21 rfl ?_
      refine zkJ zM181 q181_22 kc12_15 ?_
      refine zcS zM181 q181_25 ky12_3 kl12_3 (by decide) rfl (Nat.le_of_ble_eq_true rfl) zM128 (Nat.le_of_ble_eq_true rfl) (hw.mono (fun r0 h6 hr10 => ?_))
      obtain ⟨v5, rfl, hw⟩ := hr10
      show zP X (d + 1) 181 28 [some (.ref 82), some (.int a1), some (.int a2), some (.int a3), some (.int a4)] [.int v5] z_S0 h6 (zI A)
      refine zb1_eq zM181 q181_28 (tgt := 44) rfl (fun hc => ?_) (fun hc => ?_)
      · have hw := hw.1 hc
        refine zkB zM181 q181_44 kBm2 ?_
        exact zri zM181 q181_46 rfl rfl hw
      · have hw := hw.2 hc
        refine zl zM181 q181_31 rfl ?_
        refine zl zM181 q181_33 (pc' := 34) (st' := .long (Int32.toInt64 a4) :: _) rfl ?_
        refine zkL (v := 0) zM181 q181_34 rfl ?_
        refine zkJ zM181 q181_35 kc12_31 ?_
        refine zcS zM181 q181_38 ky12_3 kl12_3 (by decide) rfl (Nat.le_of_ble_eq_true rfl) zM128 (Nat.le_of_ble_eq_true rfl) (hw.mono (fun r0 h8 hr9 => ?_))
        obtain ⟨v7, rfl, hw⟩ := hr9
        show zP X (d + 1) 181 41 [some (.ref 82), some (.int a1), some (.int a2), some (.int a3), some (.int a4)] [.int v7] z_S0 h8 (zI A)
        refine zb1_ne zM181 q181_41 (tgt := 47) rfl (fun hc => ?_) (fun hc => ?_)
        · have hw := hw.2 hc
          refine zl zM181 q181_47 rfl ?_
          refine zgI zM181 q181_48 (by decide) g12_391 s82 rfl (v := (h8 82 48)) rfl ?_
          refine zkB zM181 q181_51 kB12 ?_
          refine zb2_ne zM181 q181_53 (tgt := 59) rfl (fun hc => ?_) (fun hc => ?_)
          · have hw := hw.2 hc
            refine zl zM181 q181_59 rfl ?_
            refine zgR (a := 114) zM181 q181_60 (by decide) g12_274 s82 rfl ?_
            refine zl zM181 q181_63 rfl ?_
            refine zgI zM181 q181_64 (by decide) g12_391 s82 rfl (v := (h8 82 48)) rfl ?_
            refine zl zM181 q181_67 rfl ?_
            obtain ⟨hb, hw⟩ := hw
            refine ziS zM181 q181_68 (by decide) s114 hb rfl ?_
            refine zl zM181 q181_69 rfl ?_
            refine zgR (a := 115) zM181 q181_70 (by decide) g12_277 s82 rfl ?_
            refine zl zM181 q181_73 rfl ?_
            refine zgI zM181 q181_74 (by decide) g12_391 s82 rfl (v := (h8 82 48)) rfl ?_
            refine zl zM181 q181_77 rfl ?_
            obtain ⟨hb, hw⟩ := hw
            refine ziS zM181 q181_78 (by decide) s115 hb rfl ?_
            refine zl zM181 q181_79 rfl ?_
            refine zgR (a := 116) zM181 q181_80 (by decide) g12_280 s82 rfl ?_
            refine zl zM181 q181_83 rfl ?_
            refine zgI zM181 q181_84 (by decide) g12_391 s82 rfl (v := (h8 82 48)) rfl ?_
            refine zl zM181 q181_87 rfl ?_
            obtain ⟨hb, hw⟩ := hw
            refine ziS zM181 q181_88 (by decide) s116 hb rfl ?_
            refine zl zM181 q181_89 rfl ?_
            refine zgR (a := 117) zM181 q181_90 (by decide) g12_283 s82 rfl ?_
            refine zl zM181 q181_93 rfl ?_
            refine zgI zM181 q181_94 (by decide) g12_391 s82 rfl (v := (h8 82 48)) rfl ?_
            refine zl zM181 q181_97 rfl ?_
            obtain ⟨hb, hw⟩ := hw
            refine ziS zM181 q181_99 (by decide) s117 hb rfl ?_
            refine zl zM181 q181_100 rfl ?_
            refine zl zM181 q181_101 rfl ?_
            refine zgI zM181 q181_102 (by decide) g12_391 s82 rfl (v := (h8 82 48)) rfl ?_
            refine zkI zM181 q181_105 kI1 ?_
            refine zl zM181 q181_106 (pc' := 107) (st' := .int ((h8 82 48) + 1) :: _) rfl ?_
            refine zpi zM181 q181_107 (by decide) g12_391 s82 rfl rfl ?_
            refine zl zM181 q181_110 rfl ?_
            refine zgI zM181 q181_111 (by decide) g12_391 s82 rfl (v := ((h8 82 48) + 1)) rfl ?_
            refine zkI zM181 q181_114 kI1 ?_
            refine zl zM181 q181_115 (pc' := 116) (st' := .int (((h8 82 48) + 1) - 1) :: _) rfl ?_
            exact zri zM181 q181_116 rfl rfl hw
          · have hw := hw.1 hc
            refine zkB zM181 q181_56 kBm4 ?_
            exact zri zM181 q181_58 rfl rfl hw
        · have hw := hw.1 hc
          refine zkB zM181 q181_44 kBm2 ?_
          exact zri zM181 q181_46 rfl rfl hw
-- X12_missedIn
theorem b182 {X : Option (List Int32)} {d : Nat} {h : zH} {A : Int32 → zH → Prop} {a1 : Int32} {a2 : Int32} (hw : zP X d 182 5 [some (.ref 82), some (.int a1), some (.int a2), some (.int 0), some (.int 0)] [] z_S0 h (zI A)) : zP X d 182 0 (z_ent [.ref 82, .int a1, .int a2] 5) [] z_S0 h (zI A) := by
  show zP X d 182 0 [some (.ref 82), some (.int a1), some (.int a2), none, none] [] z_S0 h (zI A)
  refine zkI zM182 q182_0 kI0 ?_
  refine zl zM182 q182_1 (ls' := [some (.ref 82), some (.int a1), some (.int a2), some (.int 0), none]) rfl ?_
  refine zkI zM182 q182_2 kI0 ?_
  refine zl zM182 q182_3 (ls' := [some (.ref 82), some (.int a1), some (.int a2), some (.int 0), some (.int 0)]) rfl ?_
  exact hw
theorem b182_5 {X : Option (List Int32)} {d : Nat} {h : zH} {A : Int32 → zH → Prop} {l1 : Int32} {l2 : Int32} {l3 : Int32} {l4 : Int32} (hw : ((l4 < (h 82 53) → (z_ib l4 60 ∧ (((h 119 (Int32.toNatClampNeg l4)) = l2 → (z_ib l4 60 ∧ (z_ib (h 118 (Int32.toNatClampNeg l4)) 12 ∧ (((h 114 (Int32.toNatClampNeg (h 118 (Int32.toNatClampNeg l4)))) = l1 → zP X d 182 47 [some (.ref 82), some (.int l1), some (.int l2), none, some (.int l4)] [.int 1, .int l3] z_S0 h (zI A)) ∧ (¬ (h 114 (Int32.toNatClampNeg (h 118 (Int32.toNatClampNeg l4)))) = l1 → zP X d 182 46 [some (.ref 82), some (.int l1), some (.int l2), none, some (.int l4)] [.int l3] z_S0 h (zI A)))))) ∧ (¬ (h 119 (Int32.toNatClampNeg l4)) = l2 → zP X d 182 46 [some (.ref 82), some (.int l1), some (.int l2), none, some (.int l4)] [.int l3] z_S0 h (zI A))))) ∧ (¬ l4 < (h 82 53) → A l3 h))) : zP X d 182 5 [some (.ref 82), some (.int l1), some (.int l2), some (.int l3), some (.int l4)] [] z_S0 h (zI A) := by
  refine zl zM182 q182_5 rfl ?_
  refine zl zM182 q182_7 rfl ?_
  refine zgI zM182 q182_8 (by decide) g12_394 s82 rfl (v := (h 82 53)) rfl ?_
  refine zb2_ge zM182 q182_11 (tgt := 55) rfl (fun hc => ?_) (fun hc => ?_)
  · have hw := hw.2 hc
    refine zl zM182 q182_55 rfl ?_
    exact zri zM182 q182_56 rfl rfl hw
  · have hw := hw.1 hc
    refine zl zM182 q182_14 rfl ?_
    refine zl zM182 q182_15 rfl ?_
    refine zgR (a := 119) zM182 q182_16 (by decide) g12_289 s82 rfl ?_
    refine zl zM182 q182_19 rfl ?_
    obtain ⟨hb, hw⟩ := hw
    refine ziA zM182 q182_21 (by decide) s119 hb (v := (h 119 (Int32.toNatClampNeg l4))) rfl ?_
    refine zl zM182 q182_22 rfl ?_
    refine zb2_ne zM182 q182_23 (tgt := 46) rfl (fun hc => ?_) (fun hc => ?_)
    · have hw := hw.2 hc
      refine zweak (a := [some (.ref 82), some (.int l1), some (.int l2), none, some (.int l4)]) ?_ hw
      exact ⟨rfl, ⟨rfl, ⟨rfl, ⟨rfl, trivial⟩⟩⟩⟩
    · have hw := hw.1 hc
      refine zl zM182 q182_26 rfl ?_
      refine zgR (a := 114) zM182 q182_27 (by decide) g12_274 s82 rfl ?_
      refine zl zM182 q182_30 rfl ?_
      refine zgR (a := 118) zM182 q182_31 (by decide) g12_286 s82 rfl ?_
      refine zl zM182 q182_34 rfl ?_
      obtain ⟨hb, hw⟩ := hw
      refine ziA zM182 q182_36 (by decide) s118 hb (v := (h 118 (Int32.toNatClampNeg l4))) rfl ?_
      obtain ⟨hb, hw⟩ := hw
      refine ziA zM182 q182_37 (by decide) s114 hb (v := (h 114 (Int32.toNatClampNeg (h 118 (Int32.toNatClampNeg l4))))) rfl ?_
      refine zl zM182 q182_38 rfl ?_
      refine zb2_ne zM182 q182_39 (tgt := 46) rfl (fun hc => ?_) (fun hc => ?_)
      · have hw := hw.2 hc
        refine zweak (a := [some (.ref 82), some (.int l1), some (.int l2), none, some (.int l4)]) ?_ hw
        exact ⟨rfl, ⟨rfl, ⟨rfl, ⟨rfl, trivial⟩⟩⟩⟩
      · have hw := hw.1 hc
        refine zkI zM182 q182_42 kI1 ?_
        refine zl zM182 q182_43 (pc' := 47) (ls' := _) (st' := _) rfl ?_
        refine zweak (a := [some (.ref 82), some (.int l1), some (.int l2), none, some (.int l4)]) ?_ hw
        exact ⟨rfl, ⟨rfl, ⟨rfl, ⟨rfl, trivial⟩⟩⟩⟩
theorem b182_46 {X : Option (List Int32)} {d : Nat} {h : zH} {A : Int32 → zH → Prop} {l1 : Int32} {l2 : Int32} {l4 : Int32} {w0 : Int32} (hw : zP X d 182 47 [some (.ref 82), some (.int l1), some (.int l2), none, some (.int l4)] [.int 0, .int w0] z_S0 h (zI A)) : zP X d 182 46 [some (.ref 82), some (.int l1), some (.int l2), none, some (.int l4)] [.int w0] z_S0 h (zI A) := by
  refine zkI zM182 q182_46 kI0 ?_
  exact hw
theorem b182_47 {X : Option (List Int32)} {d : Nat} {h : zH} {A : Int32 → zH → Prop} {l1 : Int32} {l2 : Int32} {l4 : Int32} {w0 : Int32} {w1 : Int32} (hw : zP X d 182 5 [some (.ref 82), some (.int l1), some (.int l2), some (.int (w0 + w1)), some (.int (l4 + 1))] [] z_S0 h (zI A)) : zP X d 182 47 [some (.ref 82), some (.int l1), some (.int l2), none, some (.int l4)] [.int w1, .int w0] z_S0 h (zI A) := by
  refine zl zM182 q182_47 (pc' := 48) (st' := .int (w0 + w1) :: _) rfl ?_
  refine zl zM182 q182_48 (ls' := [some (.ref 82), some (.int l1), some (.int l2), some (.int (w0 + w1)), some (.int l4)]) rfl ?_
  refine zl zM182 q182_49 (ls' := [some (.ref 82), some (.int l1), some (.int l2), some (.int (w0 + w1)), some (.int (l4 + 1))]) rfl ?_
  refine zl zM182 q182_52 (pc' := 5) (ls' := _) (st' := _) rfl ?_
  exact hw
-- X12_miss
theorem b183 {X : Option (List Int32)} {d : Nat} {h : zH} {A : Int32 → zH → Prop} {a1 : Int32} (hw : ((a1 < 0 → A (-2) h) ∧ (¬ a1 < 0 → ((a1 < (h 82 48) → (z_ib a1 12 ∧ (((h 116 (Int32.toNatClampNeg a1)) = ((h 82 0) - (h 82 0) / 6 * 6) → zP X (d + 1) 183 36 [some (.ref 82), some (.int a1), none, none] [.int 0] z_S0 h (zI A)) ∧ (¬ (h 116 (Int32.toNatClampNeg a1)) = ((h 82 0) - (h 82 0) / 6 * 6) → zP X (d + 1) 183 36 [some (.ref 82), some (.int a1), none, none] [.int 1] z_S0 h (zI A))))) ∧ (¬ a1 < (h 82 48) → A (-2) h))))) : zP X (d + 1) 183 0 (z_ent [.ref 82, .int a1] 4) [] z_S0 h (zI A) := by
  show zP X (d + 1) 183 0 [some (.ref 82), some (.int a1), none, none] [] z_S0 h (zI A)
  refine zl zM183 q183_0 rfl ?_
  refine zb1_lt zM183 q183_1 (tgt := 12) rfl (fun hc => ?_) (fun hc => ?_)
  · have hw := hw.1 hc
    refine zkB zM183 q183_12 kBm2 ?_
    exact zri zM183 q183_14 rfl rfl hw
  · have hw := hw.2 hc
    refine zl zM183 q183_4 rfl ?_
    refine zl zM183 q183_5 rfl ?_
    refine zgI zM183 q183_6 (by decide) g12_391 s82 rfl (v := (h 82 48)) rfl ?_
    refine zb2_lt zM183 q183_9 (tgt := 15) rfl (fun hc => ?_) (fun hc => ?_)
    · have hw := hw.1 hc
      refine zl zM183 q183_15 rfl ?_
      refine zgR (a := 116) zM183 q183_16 (by decide) g12_280 s82 rfl ?_
      refine zl zM183 q183_19 rfl ?_
      obtain ⟨hb, hw⟩ := hw
      refine ziA zM183 q183_20 (by decide) s116 hb (v := (h 116 (Int32.toNatClampNeg a1))) rfl ?_
      refine zl zM183 q183_21 rfl ?_
      refine zgI zM183 q183_22 (by decide) g12_9 s82 rfl (v := (h 82 0)) rfl ?_
      refine zkB zM183 q183_25 kB6 ?_
      refine zl zM183 q183_27 (pc' := 28) (st' := .int ((h 82 0) - (h 82 0) / 6 * 6) :: _) rfl ?_
      refine zb2_eq zM183 q183_28 (tgt := 35) rfl (fun hc => ?_) (fun hc => ?_)
      · have hw := hw.1 hc
        refine zkI zM183 q183_35 kI0 ?_
        exact hw
      · have hw := hw.2 hc
        refine zkI zM183 q183_31 kI1 ?_
        refine zl zM183 q183_32 (pc' := 36) (ls' := _) (st' := _) rfl ?_
        exact hw
    · have hw := hw.2 hc
      refine zkB zM183 q183_12 kBm2 ?_
      exact zri zM183 q183_14 rfl rfl hw
theorem b183_36 {X : Option (List Int32)} {d : Nat} {h : zH} {A : Int32 → zH → Prop} {l1 : Int32} {w0 : Int32} (hw : zP X (d + 1) 183 39 [some (.ref 82), some (.int l1), some (.int w0), some (.int 0)] [] z_S0 h (zI A)) : zP X (d + 1) 183 36 [some (.ref 82), some (.int l1), none, none] [.int w0] z_S0 h (zI A) := by
  refine zl zM183 q183_36 (ls' := [some (.ref 82), some (.int l1), some (.int w0), none]) rfl ?_
  refine zkI zM183 q183_37 kI0 ?_
  refine zl zM183 q183_38 (ls' := [some (.ref 82), some (.int l1), some (.int w0), some (.int 0)]) rfl ?_
  exact hw
theorem b183_39 {X : Option (List Int32)} {d : Nat} {h : zH} {A : Int32 → zH → Prop} {l1 : Int32} {l2 : Int32} {l3 : Int32} (hw : ((l3 < (h 82 53) → ((l2 = 0 → (z_ib l3 60 ∧ (((h 119 (Int32.toNatClampNeg l3)) = (h 82 0) → (z_ib l3 60 ∧ (((h 118 (Int32.toNatClampNeg l3)) = l1 → zP X (d + 1) 183 74 [some (.ref 82), some (.int l1), none, some (.int l3)] [] z_S0 h (zI A)) ∧ (¬ (h 118 (Int32.toNatClampNeg l3)) = l1 → zP X (d + 1) 183 78 [some (.ref 82), some (.int l1), none, some (.int l3)] [] z_S0 h (zI A))))) ∧ (¬ (h 119 (Int32.toNatClampNeg l3)) = (h 82 0) → zP X (d + 1) 183 78 [some (.ref 82), some (.int l1), none, some (.int l3)] [] z_S0 h (zI A))))) ∧ (¬ l2 = 0 → zP X (d + 1) 183 74 [some (.ref 82), some (.int l1), none, some (.int l3)] [] z_S0 h (zI A)))) ∧ (¬ l3 < (h 82 53) → ((l2 = 0 → (((h 82 53) = 60 → A (-4) h) ∧ (¬ (h 82 53) = 60 → (z_ib (h 82 53) 60 ∧ (z_ib (h 82 53) 60 ∧ (z_ib l1 12 ∧ zP X d 182 0 (z_ent [.ref 82, .int (h 114 (Int32.toNatClampNeg l1)), .int (h 82 0)] 5) [] z_S0 (z_up (z_up (z_up h 118 (Int32.toNatClampNeg (h 82 53)) l1) 119 (Int32.toNatClampNeg (h 82 53)) (h 82 0)) 82 53 ((h 82 53) + 1)) (zI fun v1 h2 => A v1 h2))))))) ∧ (¬ l2 = 0 → A (-3) h))))) : zP X (d + 1) 183 39 [some (.ref 82), some (.int l1), some (.int l2), some (.int l3)] [] z_S0 h (zI A) := by
  refine zl zM183 q183_39 rfl ?_
  refine zl zM183 q183_40 rfl ?_
  refine zgI zM183 q183_41 (by decide) g12_394 s82 rfl (v := (h 82 53)) rfl ?_
  refine zb2_ge zM183 q183_44 (tgt := 86) rfl (fun hc => ?_) (fun hc => ?_)
  · have hw := hw.2 hc
    refine zl zM183 q183_86 rfl ?_
    refine zb1_eq zM183 q183_87 (tgt := 93) rfl (fun hc => ?_) (fun hc => ?_)
    · have hw := hw.1 hc
      refine zl zM183 q183_93 rfl ?_
      refine zgI zM183 q183_94 (by decide) g12_394 s82 rfl (v := (h 82 53)) rfl ?_
      refine zkB zM183 q183_97 kB60 ?_
      refine zb2_ne zM183 q183_99 (tgt := 105) rfl (fun hc => ?_) (fun hc => ?_)
      · have hw := hw.2 hc
        refine zl zM183 q183_105 rfl ?_
        refine zgR (a := 118) zM183 q183_106 (by decide) g12_286 s82 rfl ?_
        refine zl zM183 q183_109 rfl ?_
        refine zgI zM183 q183_110 (by decide) g12_394 s82 rfl (v := (h 82 53)) rfl ?_
        refine zl zM183 q183_113 rfl ?_
        obtain ⟨hb, hw⟩ := hw
        refine ziS zM183 q183_114 (by decide) s118 hb rfl ?_
        refine zl zM183 q183_115 rfl ?_
        refine zgR (a := 119) zM183 q183_116 (by decide) g12_289 s82 rfl ?_
        refine zl zM183 q183_119 rfl ?_
        refine zgI zM183 q183_120 (by decide) g12_394 s82 rfl (v := (h 82 53)) rfl ?_
        refine zl zM183 q183_123 rfl ?_
        refine zgI zM183 q183_124 (by decide) g12_9 s82 rfl (v := (h 82 0)) rfl ?_
        obtain ⟨hb, hw⟩ := hw
        refine ziS zM183 q183_127 (by decide) s119 hb rfl ?_
        refine zl zM183 q183_128 rfl ?_
        refine zl zM183 q183_129 rfl ?_
        refine zgI zM183 q183_130 (by decide) g12_394 s82 rfl (v := (h 82 53)) rfl ?_
        refine zkI zM183 q183_133 kI1 ?_
        refine zl zM183 q183_134 (pc' := 135) (st' := .int ((h 82 53) + 1) :: _) rfl ?_
        refine zpi zM183 q183_135 (by decide) g12_394 s82 rfl rfl ?_
        refine zl zM183 q183_138 rfl ?_
        refine zl zM183 q183_139 rfl ?_
        refine zgR (a := 114) zM183 q183_140 (by decide) g12_274 s82 rfl ?_
        refine zl zM183 q183_143 rfl ?_
        obtain ⟨hb, hw⟩ := hw
        refine ziA zM183 q183_144 (by decide) s114 hb (v := (h 114 (Int32.toNatClampNeg l1))) rfl ?_
        refine zl zM183 q183_145 rfl ?_
        refine zgI zM183 q183_146 (by decide) g12_9 s82 rfl (v := (h 82 0)) rfl ?_
        refine zcV zM183 q183_149 kl12_235 rfl rfl (Nat.le_of_ble_eq_true rfl) rfl zM182 (Nat.le_of_ble_eq_true rfl) (hw.mono (fun r0 h2 hr3 => ?_))
        obtain ⟨v1, rfl, hw⟩ := hr3
        show zP X (d + 1) 183 152 [some (.ref 82), some (.int l1), some (.int l2), some (.int l3)] [.int v1] z_S0 h2 (zI A)
        exact zri zM183 q183_152 rfl rfl hw
      · have hw := hw.1 hc
        refine zkB zM183 q183_102 kBm4 ?_
        exact zri zM183 q183_104 rfl rfl hw
    · have hw := hw.2 hc
      refine zkB zM183 q183_90 kBm3 ?_
      exact zri zM183 q183_92 rfl rfl hw
  · have hw := hw.1 hc
    refine zl zM183 q183_47 rfl ?_
    refine zb1_ne zM183 q183_48 (tgt := 74) rfl (fun hc => ?_) (fun hc => ?_)
    · have hw := hw.2 hc
      refine zweak (a := [some (.ref 82), some (.int l1), none, some (.int l3)]) ?_ hw
      exact ⟨rfl, ⟨rfl, ⟨rfl, trivial⟩⟩⟩
    · have hw := hw.1 hc
      refine zl zM183 q183_51 rfl ?_
      refine zgR (a := 119) zM183 q183_52 (by decide) g12_289 s82 rfl ?_
      refine zl zM183 q183_55 rfl ?_
      obtain ⟨hb, hw⟩ := hw
      refine ziA zM183 q183_56 (by decide) s119 hb (v := (h 119 (Int32.toNatClampNeg l3))) rfl ?_
      refine zl zM183 q183_57 rfl ?_
      refine zgI zM183 q183_58 (by decide) g12_9 s82 rfl (v := (h 82 0)) rfl ?_
      refine zb2_ne zM183 q183_61 (tgt := 78) rfl (fun hc => ?_) (fun hc => ?_)
      · have hw := hw.2 hc
        refine zweak (a := [some (.ref 82), some (.int l1), none, some (.int l3)]) ?_ hw
        exact ⟨rfl, ⟨rfl, ⟨rfl, trivial⟩⟩⟩
      · have hw := hw.1 hc
        refine zl zM183 q183_64 rfl ?_
        refine zgR (a := 118) zM183 q183_65 (by decide) g12_286 s82 rfl ?_
        refine zl zM183 q183_68 rfl ?_
        obtain ⟨hb, hw⟩ := hw
        refine ziA zM183 q183_69 (by decide) s118 hb (v := (h 118 (Int32.toNatClampNeg l3))) rfl ?_
        refine zl zM183 q183_70 rfl ?_
        refine zb2_ne zM183 q183_71 (tgt := 78) rfl (fun hc => ?_) (fun hc => ?_)
        · have hw := hw.2 hc
          refine zweak (a := [some (.ref 82), some (.int l1), none, some (.int l3)]) ?_ hw
          exact ⟨rfl, ⟨rfl, ⟨rfl, trivial⟩⟩⟩
        · have hw := hw.1 hc
          refine zweak (a := [some (.ref 82), some (.int l1), none, some (.int l3)]) ?_ hw
          exact ⟨rfl, ⟨rfl, ⟨rfl, trivial⟩⟩⟩
theorem b183_74 {X : Option (List Int32)} {d : Nat} {h : zH} {A : Int32 → zH → Prop} {l1 : Int32} {l3 : Int32} (hw : zP X (d + 1) 183 79 [some (.ref 82), some (.int l1), none, some (.int l3)] [.int 1] z_S0 h (zI A)) : zP X (d + 1) 183 74 [some (.ref 82), some (.int l1), none, some (.int l3)] [] z_S0 h (zI A) := by
  refine zkI zM183 q183_74 kI1 ?_
  refine zl zM183 q183_75 (pc' := 79) (ls' := _) (st' := _) rfl ?_
  exact hw
theorem b183_78 {X : Option (List Int32)} {d : Nat} {h : zH} {A : Int32 → zH → Prop} {l1 : Int32} {l3 : Int32} (hw : zP X (d + 1) 183 79 [some (.ref 82), some (.int l1), none, some (.int l3)] [.int 0] z_S0 h (zI A)) : zP X (d + 1) 183 78 [some (.ref 82), some (.int l1), none, some (.int l3)] [] z_S0 h (zI A) := by
  refine zkI zM183 q183_78 kI0 ?_
  exact hw
theorem b183_79 {X : Option (List Int32)} {d : Nat} {h : zH} {A : Int32 → zH → Prop} {l1 : Int32} {l3 : Int32} {w0 : Int32} (hw : zP X (d + 1) 183 39 [some (.ref 82), some (.int l1), some (.int w0), some (.int (l3 + 1))] [] z_S0 h (zI A)) : zP X (d + 1) 183 79 [some (.ref 82), some (.int l1), none, some (.int l3)] [.int w0] z_S0 h (zI A) := by
  refine zl zM183 q183_79 (ls' := [some (.ref 82), some (.int l1), some (.int w0), some (.int l3)]) rfl ?_
  refine zl zM183 q183_80 (ls' := [some (.ref 82), some (.int l1), some (.int w0), some (.int (l3 + 1))]) rfl ?_
  refine zl zM183 q183_83 (pc' := 39) (ls' := _) (st' := _) rfl ?_
  exact hw
-- X12_choose
theorem b184 {X : Option (List Int32)} {d : Nat} {h : zH} {A : Int32 → zH → Prop} {a1 : Int32} (hw : zP X d 184 4 [some (.ref 82), some (.int a1), some (.int 0), some (.int 0)] [] z_S0 h (zI A)) : zP X d 184 0 (z_ent [.ref 82, .int a1] 4) [] z_S0 h (zI A) := by
  show zP X d 184 0 [some (.ref 82), some (.int a1), none, none] [] z_S0 h (zI A)
  refine zkI zM184 q184_0 kI0 ?_
  refine zl zM184 q184_1 (ls' := [some (.ref 82), some (.int a1), some (.int 0), none]) rfl ?_
  refine zkI zM184 q184_2 kI0 ?_
  refine zl zM184 q184_3 (ls' := [some (.ref 82), some (.int a1), some (.int 0), some (.int 0)]) rfl ?_
  exact hw
theorem b184_4 {X : Option (List Int32)} {d : Nat} {h : zH} {A : Int32 → zH → Prop} {l1 : Int32} {l2 : Int32} {l3 : Int32} (hw : ((l3 < (h 82 48) → (z_ib l3 12 ∧ (((h 116 (Int32.toNatClampNeg l3)) = l1 → ((l2 = 8 → A 9 h) ∧ (¬ l2 = 8 → (z_ib l2 8 ∧ zP X d 184 41 [some (.ref 82), some (.int l1), some (.int (l2 + 1)), some (.int l3)] [] z_S0 (z_up h 120 (Int32.toNatClampNeg l2) l3) (zI A))))) ∧ (¬ (h 116 (Int32.toNatClampNeg l3)) = l1 → zP X d 184 41 [some (.ref 82), some (.int l1), some (.int l2), some (.int l3)] [] z_S0 h (zI A))))) ∧ (¬ l3 < (h 82 48) → A l2 h))) : zP X d 184 4 [some (.ref 82), some (.int l1), some (.int l2), some (.int l3)] [] z_S0 h (zI A) := by
  refine zl zM184 q184_4 rfl ?_
  refine zl zM184 q184_5 rfl ?_
  refine zgI zM184 q184_6 (by decide) g12_391 s82 rfl (v := (h 82 48)) rfl ?_
  refine zb2_ge zM184 q184_9 (tgt := 47) rfl (fun hc => ?_) (fun hc => ?_)
  · have hw := hw.2 hc
    refine zl zM184 q184_47 rfl ?_
    exact zri zM184 q184_48 rfl rfl hw
  · have hw := hw.1 hc
    refine zl zM184 q184_12 rfl ?_
    refine zgR (a := 116) zM184 q184_13 (by decide) g12_280 s82 rfl ?_
    refine zl zM184 q184_16 rfl ?_
    obtain ⟨hb, hw⟩ := hw
    refine ziA zM184 q184_17 (by decide) s116 hb (v := (h 116 (Int32.toNatClampNeg l3))) rfl ?_
    refine zl zM184 q184_18 rfl ?_
    refine zb2_ne zM184 q184_19 (tgt := 41) rfl (fun hc => ?_) (fun hc => ?_)
    · have hw := hw.2 hc
      exact hw
    · have hw := hw.1 hc
      refine zl zM184 q184_22 rfl ?_
      refine zkB zM184 q184_23 kB8 ?_
      refine zb2_ne zM184 q184_25 (tgt := 31) rfl (fun hc => ?_) (fun hc => ?_)
      · have hw := hw.2 hc
        refine zl zM184 q184_31 rfl ?_
        refine zgR (a := 120) zM184 q184_32 (by decide) g12_292 s82 rfl ?_
        refine zl zM184 q184_35 rfl ?_
        refine zl zM184 q184_36 rfl ?_
        obtain ⟨hb, hw⟩ := hw
        refine ziS zM184 q184_37 (by decide) s120 hb rfl ?_
        refine zl zM184 q184_38 (ls' := [some (.ref 82), some (.int l1), some (.int (l2 + 1)), some (.int l3)]) rfl ?_
        exact hw
      · have hw := hw.1 hc
        refine zkB zM184 q184_28 kB9 ?_
        exact zri zM184 q184_30 rfl rfl hw
theorem b184_41 {X : Option (List Int32)} {d : Nat} {h : zH} {A : Int32 → zH → Prop} {l1 : Int32} {l2 : Int32} {l3 : Int32} (hw : zP X d 184 4 [some (.ref 82), some (.int l1), some (.int l2), some (.int (l3 + 1))] [] z_S0 h (zI A)) : zP X d 184 41 [some (.ref 82), some (.int l1), some (.int l2), some (.int l3)] [] z_S0 h (zI A) := by
  refine zl zM184 q184_41 (ls' := [some (.ref 82), some (.int l1), some (.int l2), some (.int (l3 + 1))]) rfl ?_
  refine zl zM184 q184_44 (pc' := 4) (ls' := _) (st' := _) rfl ?_
  exact hw
-- X12_weighSets
theorem b185 {X : Option (List Int32)} {d : Nat} {h : zH} {A : zH → Prop} {a1 : Int32} (hw : zP X d 185 2 [some (.ref 82), some (.int a1), some (.int 1), none] [] z_S0 h (zV A)) : zP X d 185 0 (z_ent [.ref 82, .int a1] 4) [] z_S0 h (zV A) := by
  show zP X d 185 0 [some (.ref 82), some (.int a1), none, none] [] z_S0 h (zV A)
  refine zkI zM185 q185_0 kI1 ?_
  refine zl zM185 q185_1 (ls' := [some (.ref 82), some (.int a1), some (.int 1), none]) rfl ?_
  exact hw
theorem b185_2 {X : Option (List Int32)} {d : Nat} {h : zH} {A : zH → Prop} {l1 : Int32} {l2 : Int32} (hw : ((l2 < (1 <<< (l1 &&& 31)) → zP X d 185 11 [some (.ref 82), some (.int l1), some (.int l2), some (.int 0)] [] z_S0 h (zV A)) ∧ (¬ l2 < (1 <<< (l1 &&& 31)) → A h))) : zP X d 185 2 [some (.ref 82), some (.int l1), some (.int l2), none] [] z_S0 h (zV A) := by
  refine zl zM185 q185_2 rfl ?_
  refine zkI zM185 q185_3 kI1 ?_
  refine zl zM185 q185_4 rfl ?_
  refine zl zM185 q185_5 (pc' := 6) (st' := .int (1 <<< (l1 &&& 31)) :: _) rfl ?_
  refine zb2_ge zM185 q185_6 (tgt := 59) rfl (fun hc => ?_) (fun hc => ?_)
  · have hw := hw.2 hc
    exact zrv zM185 q185_59 rfl hw
  · have hw := hw.1 hc
    refine zkI zM185 q185_9 kI0 ?_
    refine zl zM185 q185_10 (ls' := [some (.ref 82), some (.int l1), some (.int l2), some (.int 0)]) rfl ?_
    exact hw
theorem b185_11 {X : Option (List Int32)} {d : Nat} {h : zH} {A : zH → Prop} {l1 : Int32} {l2 : Int32} {l3 : Int32} (hw : ((((l2 >>> (l3 &&& 31)) &&& 1) = 0 → zP X d 185 11 [some (.ref 82), some (.int l1), some (.int l2), some (.int (l3 + 1))] [] z_S0 h (zV A)) ∧ (¬ ((l2 >>> (l3 &&& 31)) &&& 1) = 0 → (z_ib (l2 &&& (l2 - 1)) 256 ∧ (z_ib l3 8 ∧ (z_ib (h 120 (Int32.toNatClampNeg l3)) 12 ∧ (z_ib l2 256 ∧ zP X d 185 2 [some (.ref 82), some (.int l1), some (.int (l2 + 1)), none] [] z_S0 (z_up h 121 (Int32.toNatClampNeg l2) ((h 121 (Int32.toNatClampNeg (l2 &&& (l2 - 1)))) + (h 115 (Int32.toNatClampNeg (h 120 (Int32.toNatClampNeg l3)))))) (zV A)))))))) : zP X d 185 11 [some (.ref 82), some (.int l1), some (.int l2), some (.int l3)] [] z_S0 h (zV A) := by
  refine zl zM185 q185_11 rfl ?_
  refine zl zM185 q185_12 rfl ?_
  refine zl zM185 q185_13 (pc' := 14) (st' := .int (l2 >>> (l3 &&& 31)) :: _) rfl ?_
  refine zkI zM185 q185_14 kI1 ?_
  refine zl zM185 q185_15 (pc' := 16) (st' := .int ((l2 >>> (l3 &&& 31)) &&& 1) :: _) rfl ?_
  refine zb1_ne zM185 q185_16 (tgt := 25) rfl (fun hc => ?_) (fun hc => ?_)
  · have hw := hw.2 hc
    refine zl zM185 q185_25 rfl ?_
    refine zgR (a := 121) zM185 q185_26 (by decide) g12_295 s82 rfl ?_
    refine zl zM185 q185_29 rfl ?_
    refine zl zM185 q185_30 rfl ?_
    refine zgR (a := 121) zM185 q185_31 (by decide) g12_295 s82 rfl ?_
    refine zl zM185 q185_34 rfl ?_
    refine zl zM185 q185_35 rfl ?_
    refine zkI zM185 q185_36 kI1 ?_
    refine zl zM185 q185_37 (pc' := 38) (st' := .int (l2 - 1) :: _) rfl ?_
    refine zl zM185 q185_38 (pc' := 39) (st' := .int (l2 &&& (l2 - 1)) :: _) rfl ?_
    obtain ⟨hb, hw⟩ := hw
    refine ziA zM185 q185_39 (by decide) s121 hb (v := (h 121 (Int32.toNatClampNeg (l2 &&& (l2 - 1))))) rfl ?_
    refine zl zM185 q185_40 rfl ?_
    refine zgR (a := 115) zM185 q185_41 (by decide) g12_277 s82 rfl ?_
    refine zl zM185 q185_44 rfl ?_
    refine zgR (a := 120) zM185 q185_45 (by decide) g12_292 s82 rfl ?_
    refine zl zM185 q185_48 rfl ?_
    obtain ⟨hb, hw⟩ := hw
    refine ziA zM185 q185_49 (by decide) s120 hb (v := (h 120 (Int32.toNatClampNeg l3))) rfl ?_
    obtain ⟨hb, hw⟩ := hw
    refine ziA zM185 q185_50 (by decide) s115 hb (v := (h 115 (Int32.toNatClampNeg (h 120 (Int32.toNatClampNeg l3))))) rfl ?_
    refine zl zM185 q185_51 (pc' := 52) (st' := .int ((h 121 (Int32.toNatClampNeg (l2 &&& (l2 - 1)))) + (h 115 (Int32.toNatClampNeg (h 120 (Int32.toNatClampNeg l3))))) :: _) rfl ?_
    obtain ⟨hb, hw⟩ := hw
    refine ziS zM185 q185_52 (by decide) s121 hb rfl ?_
    refine zl zM185 q185_53 (ls' := [some (.ref 82), some (.int l1), some (.int (l2 + 1)), some (.int l3)]) rfl ?_
    refine zl zM185 q185_56 (pc' := 2) (ls' := _) (st' := _) rfl ?_
    refine zweak (a := [some (.ref 82), some (.int l1), some (.int (l2 + 1)), none]) ?_ hw
    exact ⟨rfl, ⟨rfl, ⟨rfl, trivial⟩⟩⟩
  · have hw := hw.1 hc
    refine zl zM185 q185_19 (ls' := [some (.ref 82), some (.int l1), some (.int l2), some (.int (l3 + 1))]) rfl ?_
    refine zl zM185 q185_22 (pc' := 11) (ls' := _) (st' := _) rfl ?_
    exact hw
-- X12_fewestCarts
theorem b186 {X : Option (List Int32)} {d : Nat} {h : zH} {A : Int32 → zH → Prop} {a1 : Int32} {a2 : Int32} (hw : zP X d 185 0 (z_ent [.ref 82, .int a1] 4) [] z_S0 (z_up h 121 0 0) (zV fun h3 => zP X (d + 1) 186 21 [some (.ref 82), some (.int a1), some (.int a2), some (.int 1), none, none, none, none, none] [] z_S0 (z_up h3 122 0 0) (zI A))) : zP X (d + 1) 186 0 (z_ent [.ref 82, .int a1, .int a2] 9) [] z_S0 h (zI A) := by
  show zP X (d + 1) 186 0 [some (.ref 82), some (.int a1), some (.int a2), none, none, none, none, none, none] [] z_S0 h (zI A)
  refine zl zM186 q186_0 rfl ?_
  refine zgR (a := 121) zM186 q186_1 (by decide) g12_295 s82 rfl ?_
  refine zkI zM186 q186_4 kI0 ?_
  refine zkI zM186 q186_5 kI0 ?_
  refine ziS (j := 0) zM186 q186_6 (by decide) s121 (by decide) rfl ?_
  refine zl zM186 q186_7 rfl ?_
  refine zl zM186 q186_8 rfl ?_
  refine zcV zM186 q186_9 kl12_397 rfl rfl (Nat.le_of_ble_eq_true rfl) rfl zM185 (Nat.le_of_ble_eq_true rfl) (hw.mono (fun r0 h3 hr4 => ?_))
  obtain ⟨rfl, hw⟩ := hr4
  show zP X (d + 1) 186 12 [some (.ref 82), some (.int a1), some (.int a2), none, none, none, none, none, none] [] z_S0 h3 (zI A)
  refine zl zM186 q186_12 rfl ?_
  refine zgR (a := 122) zM186 q186_13 (by decide) g12_298 s82 rfl ?_
  refine zkI zM186 q186_16 kI0 ?_
  refine zkI zM186 q186_17 kI0 ?_
  refine ziS (j := 0) zM186 q186_18 (by decide) s122 (by decide) rfl ?_
  refine zkI zM186 q186_19 kI1 ?_
  refine zl zM186 q186_20 (ls' := [some (.ref 82), some (.int a1), some (.int a2), some (.int 1), none, none, none, none, none]) rfl ?_
  exact hw
theorem b186_21 {X : Option (List Int32)} {d : Nat} {h : zH} {A : Int32 → zH → Prop} {l1 : Int32} {l2 : Int32} {l3 : Int32} (hw : ((l3 < (1 <<< (l1 &&& 31)) → (z_ib l3 256 ∧ zP X (d + 1) 186 54 [some (.ref 82), some (.int l1), some (.int l2), some (.int l3), some (.int (l3 &&& (-l3))), some (.int (l3 &&& ((l3 &&& (-l3)) ^^^ (-1)))), some (.int (l3 &&& ((l3 &&& (-l3)) ^^^ (-1)))), none, none] [] z_S0 (z_up h 122 (Int32.toNatClampNeg l3) 9) (zI A))) ∧ (¬ l3 < (1 <<< (l1 &&& 31)) → (z_ib ((1 <<< (l1 &&& 31)) - 1) 256 ∧ A (h 122 (Int32.toNatClampNeg ((1 <<< (l1 &&& 31)) - 1))) h)))) : zP X (d + 1) 186 21 [some (.ref 82), some (.int l1), some (.int l2), some (.int l3), none, none, none, none, none] [] z_S0 h (zI A) := by
  refine zl zM186 q186_21 rfl ?_
  refine zkI zM186 q186_22 kI1 ?_
  refine zl zM186 q186_23 rfl ?_
  refine zl zM186 q186_24 (pc' := 25) (st' := .int (1 <<< (l1 &&& 31)) :: _) rfl ?_
  refine zb2_ge zM186 q186_25 (tgt := 166) rfl (fun hc => ?_) (fun hc => ?_)
  · have hw := hw.2 hc
    refine zl zM186 q186_166 rfl ?_
    refine zgR (a := 122) zM186 q186_167 (by decide) g12_298 s82 rfl ?_
    refine zkI zM186 q186_170 kI1 ?_
    refine zl zM186 q186_171 rfl ?_
    refine zl zM186 q186_172 (pc' := 173) (st' := .int (1 <<< (l1 &&& 31)) :: _) rfl ?_
    refine zkI zM186 q186_173 kI1 ?_
    refine zl zM186 q186_174 (pc' := 175) (st' := .int ((1 <<< (l1 &&& 31)) - 1) :: _) rfl ?_
    obtain ⟨hb, hw⟩ := hw
    refine ziA zM186 q186_175 (by decide) s122 hb (v := (h 122 (Int32.toNatClampNeg ((1 <<< (l1 &&& 31)) - 1)))) rfl ?_
    exact zri zM186 q186_176 rfl rfl hw
  · have hw := hw.1 hc
    refine zl zM186 q186_28 rfl ?_
    refine zgR (a := 122) zM186 q186_29 (by decide) g12_298 s82 rfl ?_
    refine zl zM186 q186_32 rfl ?_
    refine zkB zM186 q186_33 kB9 ?_
    obtain ⟨hb, hw⟩ := hw
    refine ziS zM186 q186_35 (by decide) s122 hb rfl ?_
    refine zl zM186 q186_36 rfl ?_
    refine zl zM186 q186_37 rfl ?_
    refine zl zM186 q186_38 (pc' := 39) (st' := .int (-l3) :: _) rfl ?_
    refine zl zM186 q186_39 (pc' := 40) (st' := .int (l3 &&& (-l3)) :: _) rfl ?_
    refine zl zM186 q186_40 (ls' := [some (.ref 82), some (.int l1), some (.int l2), some (.int l3), some (.int (l3 &&& (-l3))), none, none, none, none]) rfl ?_
    refine zl zM186 q186_42 rfl ?_
    refine zl zM186 q186_43 rfl ?_
    refine zkI zM186 q186_45 kIm1 ?_
    refine zl zM186 q186_46 (pc' := 47) (st' := .int ((l3 &&& (-l3)) ^^^ (-1)) :: _) rfl ?_
    refine zl zM186 q186_47 (pc' := 48) (st' := .int (l3 &&& ((l3 &&& (-l3)) ^^^ (-1))) :: _) rfl ?_
    refine zl zM186 q186_48 (ls' := [some (.ref 82), some (.int l1), some (.int l2), some (.int l3), some (.int (l3 &&& (-l3))), some (.int (l3 &&& ((l3 &&& (-l3)) ^^^ (-1)))), none, none, none]) rfl ?_
    refine zl zM186 q186_50 rfl ?_
    refine zl zM186 q186_52 (ls' := [some (.ref 82), some (.int l1), some (.int l2), some (.int l3), some (.int (l3 &&& (-l3))), some (.int (l3 &&& ((l3 &&& (-l3)) ^^^ (-1)))), some (.int (l3 &&& ((l3 &&& (-l3)) ^^^ (-1)))), none, none]) rfl ?_
    exact hw
theorem b186_54 {X : Option (List Int32)} {d : Nat} {h : zH} {A : Int32 → zH → Prop} {l1 : Int32} {l2 : Int32} {l3 : Int32} {l4 : Int32} {l5 : Int32} {l6 : Int32} (hw : ((l6 < 0 → zP X (d + 1) 186 21 [some (.ref 82), some (.int l1), some (.int l2), some (.int (l3 + 1)), none, none, none, none, none] [] z_S0 h (zI A)) ∧ (¬ l6 < 0 → (z_ib (l6 ||| l4) 256 ∧ ((l2 < (h 121 (Int32.toNatClampNeg (l6 ||| l4))) → zP X (d + 1) 186 103 [some (.ref 82), some (.int l1), some (.int l2), some (.int l3), some (.int l4), some (.int l5), some (.int l6), some (.int (l6 ||| l4)), none] [] z_S0 h (zI A)) ∧ (¬ l2 < (h 121 (Int32.toNatClampNeg (l6 ||| l4))) → (z_ib (l3 &&& ((l6 ||| l4) ^^^ (-1))) 256 ∧ (z_ib l3 256 ∧ ((((h 122 (Int32.toNatClampNeg (l3 &&& ((l6 ||| l4) ^^^ (-1))))) + 1) < (h 122 (Int32.toNatClampNeg l3)) → zP X (d + 1) 186 104 [some (.ref 82), some (.int l1), some (.int l2), some (.int l3), some (.int l4), some (.int l5), some (.int l6), some (.int (l6 ||| l4)), none] [.int 1] z_S0 h (zI A)) ∧ (¬ ((h 122 (Int32.toNatClampNeg (l3 &&& ((l6 ||| l4) ^^^ (-1))))) + 1) < (h 122 (Int32.toNatClampNeg l3)) → zP X (d + 1) 186 103 [some (.ref 82), some (.int l1), some (.int l2), some (.int l3), some (.int l4), some (.int l5), some (.int l6), some (.int (l6 ||| l4)), none] [] z_S0 h (zI A))))))))))) : zP X (d + 1) 186 54 [some (.ref 82), some (.int l1), some (.int l2), some (.int l3), some (.int l4), some (.int l5), some (.int l6), none, none] [] z_S0 h (zI A) := by
  refine zl zM186 q186_54 rfl ?_
  refine zb1_lt zM186 q186_56 (tgt := 160) rfl (fun hc => ?_) (fun hc => ?_)
  · have hw := hw.1 hc
    refine zl zM186 q186_160 (ls' := [some (.ref 82), some (.int l1), some (.int l2), some (.int (l3 + 1)), some (.int l4), some (.int l5), some (.int l6), none, none]) rfl ?_
    refine zl zM186 q186_163 (pc' := 21) (ls' := _) (st' := _) rfl ?_
    refine zweak (a := [some (.ref 82), some (.int l1), some (.int l2), some (.int (l3 + 1)), none, none, none, none, none]) ?_ hw
    exact ⟨rfl, ⟨rfl, ⟨rfl, ⟨rfl, trivial⟩⟩⟩⟩
  · have hw := hw.2 hc
    refine zl zM186 q186_59 rfl ?_
    refine zl zM186 q186_61 rfl ?_
    refine zl zM186 q186_63 (pc' := 64) (st' := .int (l6 ||| l4) :: _) rfl ?_
    refine zl zM186 q186_64 (ls' := [some (.ref 82), some (.int l1), some (.int l2), some (.int l3), some (.int l4), some (.int l5), some (.int l6), some (.int (l6 ||| l4)), none]) rfl ?_
    refine zl zM186 q186_66 rfl ?_
    refine zgR (a := 121) zM186 q186_67 (by decide) g12_295 s82 rfl ?_
    refine zl zM186 q186_70 rfl ?_
    obtain ⟨hb, hw⟩ := hw
    refine ziA zM186 q186_72 (by decide) s121 hb (v := (h 121 (Int32.toNatClampNeg (l6 ||| l4)))) rfl ?_
    refine zl zM186 q186_73 rfl ?_
    refine zb2_gt zM186 q186_74 (tgt := 103) rfl (fun hc => ?_) (fun hc => ?_)
    · have hw := hw.1 hc
      exact hw
    · have hw := hw.2 hc
      refine zl zM186 q186_77 rfl ?_
      refine zgR (a := 122) zM186 q186_78 (by decide) g12_298 s82 rfl ?_
      refine zl zM186 q186_81 rfl ?_
      refine zl zM186 q186_82 rfl ?_
      refine zkI zM186 q186_84 kIm1 ?_
      refine zl zM186 q186_85 (pc' := 86) (st' := .int ((l6 ||| l4) ^^^ (-1)) :: _) rfl ?_
      refine zl zM186 q186_86 (pc' := 87) (st' := .int (l3 &&& ((l6 ||| l4) ^^^ (-1))) :: _) rfl ?_
      obtain ⟨hb, hw⟩ := hw
      refine ziA zM186 q186_87 (by decide) s122 hb (v := (h 122 (Int32.toNatClampNeg (l3 &&& ((l6 ||| l4) ^^^ (-1)))))) rfl ?_
      refine zkI zM186 q186_88 kI1 ?_
      refine zl zM186 q186_89 (pc' := 90) (st' := .int ((h 122 (Int32.toNatClampNeg (l3 &&& ((l6 ||| l4) ^^^ (-1))))) + 1) :: _) rfl ?_
      refine zl zM186 q186_90 rfl ?_
      refine zgR (a := 122) zM186 q186_91 (by decide) g12_298 s82 rfl ?_
      refine zl zM186 q186_94 rfl ?_
      obtain ⟨hb, hw⟩ := hw
      refine ziA zM186 q186_95 (by decide) s122 hb (v := (h 122 (Int32.toNatClampNeg l3))) rfl ?_
      refine zb2_ge zM186 q186_96 (tgt := 103) rfl (fun hc => ?_) (fun hc => ?_)
      · have hw := hw.2 hc
        exact hw
      · have hw := hw.1 hc
        refine zkI zM186 q186_99 kI1 ?_
        refine zl zM186 q186_100 (pc' := 104) (ls' := _) (st' := _) rfl ?_
        exact hw
theorem b186_103 {X : Option (List Int32)} {d : Nat} {h : zH} {A : Int32 → zH → Prop} {l1 : Int32} {l2 : Int32} {l3 : Int32} {l4 : Int32} {l5 : Int32} {l6 : Int32} {l7 : Int32} (hw : zP X (d + 1) 186 104 [some (.ref 82), some (.int l1), some (.int l2), some (.int l3), some (.int l4), some (.int l5), some (.int l6), some (.int l7), none] [.int 0] z_S0 h (zI A)) : zP X (d + 1) 186 103 [some (.ref 82), some (.int l1), some (.int l2), some (.int l3), some (.int l4), some (.int l5), some (.int l6), some (.int l7), none] [] z_S0 h (zI A) := by
  refine zkI zM186 q186_103 kI0 ?_
  exact hw
theorem b186_104 {X : Option (List Int32)} {d : Nat} {h : zH} {A : Int32 → zH → Prop} {l1 : Int32} {l2 : Int32} {l3 : Int32} {l4 : Int32} {l5 : Int32} {l6 : Int32} {l7 : Int32} {w0 : Int32} (hw : ((w0 = 0 → (z_ib l3 256 ∧ zP X (d + 1) 186 138 [some (.ref 82), some (.int l1), some (.int l2), some (.int l3), some (.int l4), some (.int l5), some (.int l6), none, none] [.int (h 122 (Int32.toNatClampNeg l3)), .int l3, .ref 122] z_S0 h (zI A))) ∧ (¬ w0 = 0 → (z_ib (l3 &&& (l7 ^^^ (-1))) 256 ∧ zP X (d + 1) 186 138 [some (.ref 82), some (.int l1), some (.int l2), some (.int l3), some (.int l4), some (.int l5), some (.int l6), none, none] [.int ((h 122 (Int32.toNatClampNeg (l3 &&& (l7 ^^^ (-1))))) + 1), .int l3, .ref 122] z_S0 h (zI A))))) : zP X (d + 1) 186 104 [some (.ref 82), some (.int l1), some (.int l2), some (.int l3), some (.int l4), some (.int l5), some (.int l6), some (.int l7), none] [.int w0] z_S0 h (zI A) := by
  refine zl zM186 q186_104 (ls' := [some (.ref 82), some (.int l1), some (.int l2), some (.int l3), some (.int l4), some (.int l5), some (.int l6), some (.int l7), some (.int w0)]) rfl ?_
  refine zl zM186 q186_106 rfl ?_
  refine zgR (a := 122) zM186 q186_107 (by decide) g12_298 s82 rfl ?_
  refine zl zM186 q186_110 rfl ?_
  refine zl zM186 q186_111 rfl ?_
  refine zb1_eq zM186 q186_113 (tgt := 132) rfl (fun hc => ?_) (fun hc => ?_)
  · have hw := hw.1 hc
    refine zl zM186 q186_132 rfl ?_
    refine zgR (a := 122) zM186 q186_133 (by decide) g12_298 s82 rfl ?_
    refine zl zM186 q186_136 rfl ?_
    obtain ⟨hb, hw⟩ := hw
    refine ziA zM186 q186_137 (by decide) s122 hb (v := (h 122 (Int32.toNatClampNeg l3))) rfl ?_
    refine zweak (a := [some (.ref 82), some (.int l1), some (.int l2), some (.int l3), some (.int l4), some (.int l5), some (.int l6), none, none]) ?_ hw
    exact ⟨rfl, ⟨rfl, ⟨rfl, ⟨rfl, ⟨rfl, ⟨rfl, ⟨rfl, trivial⟩⟩⟩⟩⟩⟩⟩
  · have hw := hw.2 hc
    refine zl zM186 q186_116 rfl ?_
    refine zgR (a := 122) zM186 q186_117 (by decide) g12_298 s82 rfl ?_
    refine zl zM186 q186_120 rfl ?_
    refine zl zM186 q186_121 rfl ?_
    refine zkI zM186 q186_123 kIm1 ?_
    refine zl zM186 q186_124 (pc' := 125) (st' := .int (l7 ^^^ (-1)) :: _) rfl ?_
    refine zl zM186 q186_125 (pc' := 126) (st' := .int (l3 &&& (l7 ^^^ (-1))) :: _) rfl ?_
    obtain ⟨hb, hw⟩ := hw
    refine ziA zM186 q186_126 (by decide) s122 hb (v := (h 122 (Int32.toNatClampNeg (l3 &&& (l7 ^^^ (-1)))))) rfl ?_
    refine zkI zM186 q186_127 kI1 ?_
    refine zl zM186 q186_128 (pc' := 129) (st' := .int ((h 122 (Int32.toNatClampNeg (l3 &&& (l7 ^^^ (-1))))) + 1) :: _) rfl ?_
    refine zl zM186 q186_129 (pc' := 138) (ls' := _) (st' := _) rfl ?_
    refine zweak (a := [some (.ref 82), some (.int l1), some (.int l2), some (.int l3), some (.int l4), some (.int l5), some (.int l6), none, none]) ?_ hw
    exact ⟨rfl, ⟨rfl, ⟨rfl, ⟨rfl, ⟨rfl, ⟨rfl, ⟨rfl, trivial⟩⟩⟩⟩⟩⟩⟩
theorem b186_138 {X : Option (List Int32)} {d : Nat} {h : zH} {A : Int32 → zH → Prop} {l1 : Int32} {l2 : Int32} {l3 : Int32} {l4 : Int32} {l5 : Int32} {l6 : Int32} {w1 : Int32} {w2 : Int32} (hw : (z_ib w1 256 ∧ ((l6 = 0 → zP X (d + 1) 186 155 [some (.ref 82), some (.int l1), some (.int l2), some (.int l3), some (.int l4), some (.int l5), none, none, none] [.int (-1)] z_S0 (z_up h 122 (Int32.toNatClampNeg w1) w2) (zI A)) ∧ (¬ l6 = 0 → zP X (d + 1) 186 155 [some (.ref 82), some (.int l1), some (.int l2), some (.int l3), some (.int l4), some (.int l5), none, none, none] [.int ((l6 - 1) &&& l5)] z_S0 (z_up h 122 (Int32.toNatClampNeg w1) w2) (zI A))))) : zP X (d + 1) 186 138 [some (.ref 82), some (.int l1), some (.int l2), some (.int l3), some (.int l4), some (.int l5), some (.int l6), none, none] [.int w2, .int w1, .ref 122] z_S0 h (zI A) := by
  obtain ⟨hb, hw⟩ := hw
  refine ziS zM186 q186_138 (by decide) s122 hb rfl ?_
  refine zl zM186 q186_139 rfl ?_
  refine zb1_ne zM186 q186_141 (tgt := 148) rfl (fun hc => ?_) (fun hc => ?_)
  · have hw := hw.2 hc
    refine zl zM186 q186_148 rfl ?_
    refine zkI zM186 q186_150 kI1 ?_
    refine zl zM186 q186_151 (pc' := 152) (st' := .int (l6 - 1) :: _) rfl ?_
    refine zl zM186 q186_152 rfl ?_
    refine zl zM186 q186_154 (pc' := 155) (st' := .int ((l6 - 1) &&& l5) :: _) rfl ?_
    refine zweak (a := [some (.ref 82), some (.int l1), some (.int l2), some (.int l3), some (.int l4), some (.int l5), none, none, none]) ?_ hw
    exact ⟨rfl, ⟨rfl, ⟨rfl, ⟨rfl, ⟨rfl, ⟨rfl, trivial⟩⟩⟩⟩⟩⟩
  · have hw := hw.1 hc
    refine zkI zM186 q186_144 kIm1 ?_
    refine zl zM186 q186_145 (pc' := 155) (ls' := _) (st' := _) rfl ?_
    refine zweak (a := [some (.ref 82), some (.int l1), some (.int l2), some (.int l3), some (.int l4), some (.int l5), none, none, none]) ?_ hw
    exact ⟨rfl, ⟨rfl, ⟨rfl, ⟨rfl, ⟨rfl, ⟨rfl, trivial⟩⟩⟩⟩⟩⟩
theorem b186_155 {X : Option (List Int32)} {d : Nat} {h : zH} {A : Int32 → zH → Prop} {l1 : Int32} {l2 : Int32} {l3 : Int32} {l4 : Int32} {l5 : Int32} {w0 : Int32} (hw : zP X (d + 1) 186 54 [some (.ref 82), some (.int l1), some (.int l2), some (.int l3), some (.int l4), some (.int l5), some (.int w0), none, none] [] z_S0 h (zI A)) : zP X (d + 1) 186 155 [some (.ref 82), some (.int l1), some (.int l2), some (.int l3), some (.int l4), some (.int l5), none, none, none] [.int w0] z_S0 h (zI A) := by
  refine zl zM186 q186_155 (ls' := [some (.ref 82), some (.int l1), some (.int l2), some (.int l3), some (.int l4), some (.int l5), some (.int w0), none, none]) rfl ?_
  refine zl zM186 q186_157 (pc' := 54) (ls' := _) (st' := _) rfl ?_
  exact hw
-- X12_rounds
theorem b187 {X : Option (List Int32)} {d : Nat} {h : zH} {A : Int32 → zH → Prop} {a1 : Int32} {a2 : Int32} {a3 : Int32} (hw : zP X d 128 0 (z_ent [.long (Int32.toInt64 a1), .long 0, .long 5] 6) [] z_S0 h (zI fun v1 h2 => ((v1 = 0 → A (-2) h2) ∧ (¬ v1 = 0 → zP X d 128 0 (z_ent [.long (Int32.toInt64 a2), .long 1, .long 9999] 6) [] z_S0 h2 (zI fun v3 h4 => ((v3 = 0 → A (-2) h4) ∧ (¬ v3 = 0 → zP X d 128 0 (z_ent [.long (Int32.toInt64 a3), .long 0, .long 99999] 6) [] z_S0 h4 (zI fun v5 h6 => ((v5 = 0 → A (-2) h6) ∧ (¬ v5 = 0 → zP X d 184 0 (z_ent [.ref 82, .int a1] 4) [] z_S0 h6 (zI fun v7 h9 => (((8 : Int32) < v7 → A (-3) h9) ∧ (¬ (8 : Int32) < v7 → zP X (d + 1) 187 59 [some (.ref 82), none, some (.int a2), some (.int a3), some (.int v7), some (.int 0)] [] z_S0 h9 (zI A)))))))))))))) : zP X (d + 1) 187 0 (z_ent [.ref 82, .int a1, .int a2, .int a3] 6) [] z_S0 h (zI A) := by
  show zP X (d + 1) 187 0 [some (.ref 82), some (.int a1), some (.int a2), some (.int a3), none, none] [] z_S0 h (zI A)
  refine zl zM187 q187_0 rfl ?_
  refine zl zM187 q187_1 (pc' := 2) (st' := .long (Int32.toInt64 a1) :: _) rfl ?_
  refine zkL (v := 0) zM187 q187_2 rfl ?_
  refine zkJ zM187 q187_3 kc12_15 ?_
  refine zcS zM187 q187_6 ky12_3 kl12_3 (by decide) rfl (Nat.le_of_ble_eq_true rfl) zM128 (Nat.le_of_ble_eq_true rfl) (hw.mono (fun r0 h2 hr13 => ?_))
  obtain ⟨v1, rfl, hw⟩ := hr13
  show zP X (d + 1) 187 9 [some (.ref 82), some (.int a1), some (.int a2), some (.int a3), none, none] [.int v1] z_S0 h2 (zI A)
  refine zb1_eq zM187 q187_9 (tgt := 36) rfl (fun hc => ?_) (fun hc => ?_)
  · have hw := hw.1 hc
    refine zkB zM187 q187_36 kBm2 ?_
    exact zri zM187 q187_38 rfl rfl hw
  · have hw := hw.2 hc
    refine zl zM187 q187_12 rfl ?_
    refine zl zM187 q187_13 (pc' := 14) (st' := .long (Int32.toInt64 a2) :: _) rfl ?_
    refine zkL (v := 1) zM187 q187_14 rfl ?_
    refine zkJ zM187 q187_15 kc12_31 ?_
    refine zcS zM187 q187_18 ky12_3 kl12_3 (by decide) rfl (Nat.le_of_ble_eq_true rfl) zM128 (Nat.le_of_ble_eq_true rfl) (hw.mono (fun r0 h4 hr12 => ?_))
    obtain ⟨v3, rfl, hw⟩ := hr12
    show zP X (d + 1) 187 21 [some (.ref 82), some (.int a1), some (.int a2), some (.int a3), none, none] [.int v3] z_S0 h4 (zI A)
    refine zb1_eq zM187 q187_21 (tgt := 36) rfl (fun hc => ?_) (fun hc => ?_)
    · have hw := hw.1 hc
      refine zkB zM187 q187_36 kBm2 ?_
      exact zri zM187 q187_38 rfl rfl hw
    · have hw := hw.2 hc
      refine zl zM187 q187_24 rfl ?_
      refine zl zM187 q187_25 (pc' := 26) (st' := .long (Int32.toInt64 a3) :: _) rfl ?_
      refine zkL (v := 0) zM187 q187_26 rfl ?_
      refine zkJ zM187 q187_27 kc12_89 ?_
      refine zcS zM187 q187_30 ky12_3 kl12_3 (by decide) rfl (Nat.le_of_ble_eq_true rfl) zM128 (Nat.le_of_ble_eq_true rfl) (hw.mono (fun r0 h6 hr11 => ?_))
      obtain ⟨v5, rfl, hw⟩ := hr11
      show zP X (d + 1) 187 33 [some (.ref 82), some (.int a1), some (.int a2), some (.int a3), none, none] [.int v5] z_S0 h6 (zI A)
      refine zb1_ne zM187 q187_33 (tgt := 39) rfl (fun hc => ?_) (fun hc => ?_)
      · have hw := hw.2 hc
        refine zl zM187 q187_39 rfl ?_
        refine zl zM187 q187_40 rfl ?_
        refine zcV zM187 q187_41 kl12_400 rfl rfl (Nat.le_of_ble_eq_true rfl) rfl zM184 (Nat.le_of_ble_eq_true rfl) (hw.mono (fun r0 h9 hr10 => ?_))
        obtain ⟨v7, rfl, hw⟩ := hr10
        show zP X (d + 1) 187 44 [some (.ref 82), some (.int a1), some (.int a2), some (.int a3), none, none] [.int v7] z_S0 h9 (zI A)
        refine zl zM187 q187_44 (ls' := [some (.ref 82), some (.int a1), some (.int a2), some (.int a3), some (.int v7), none]) rfl ?_
        refine zl zM187 q187_46 rfl ?_
        refine zkB zM187 q187_48 kB8 ?_
        refine zb2_le zM187 q187_50 (tgt := 56) rfl (fun hc => ?_) (fun hc => ?_)
        · have hw := hw.2 hc
          refine zkI zM187 q187_56 kI0 ?_
          refine zl zM187 q187_57 (ls' := [some (.ref 82), some (.int a1), some (.int a2), some (.int a3), some (.int v7), some (.int 0)]) rfl ?_
          refine zweak (a := [some (.ref 82), none, some (.int a2), some (.int a3), some (.int v7), some (.int 0)]) ?_ hw
          exact ⟨rfl, ⟨rfl, ⟨rfl, ⟨rfl, ⟨rfl, trivial⟩⟩⟩⟩⟩
        · have hw := hw.1 hc
          refine zkB zM187 q187_53 kBm3 ?_
          exact zri zM187 q187_55 rfl rfl hw
      · have hw := hw.1 hc
        refine zkB zM187 q187_36 kBm2 ?_
        exact zri zM187 q187_38 rfl rfl hw
theorem b187_59 {X : Option (List Int32)} {d : Nat} {h : zH} {A : Int32 → zH → Prop} {l2 : Int32} {l3 : Int32} {l4 : Int32} {l5 : Int32} (hw : ((l5 < l4 → (z_ib l5 8 ∧ (z_ib (h 120 (Int32.toNatClampNeg l5)) 12 ∧ ((l2 < (h 115 (Int32.toNatClampNeg (h 120 (Int32.toNatClampNeg l5)))) → A (-1) h) ∧ (¬ l2 < (h 115 (Int32.toNatClampNeg (h 120 (Int32.toNatClampNeg l5)))) → (z_ib l5 8 ∧ (z_ib (h 120 (Int32.toNatClampNeg l5)) 12 ∧ ((l3 < (2 * (h 117 (Int32.toNatClampNeg (h 120 (Int32.toNatClampNeg l5))))) → A (-1) h) ∧ (¬ l3 < (2 * (h 117 (Int32.toNatClampNeg (h 120 (Int32.toNatClampNeg l5))))) → zP X (d + 1) 187 59 [some (.ref 82), none, some (.int l2), some (.int l3), some (.int l4), some (.int (l5 + 1))] [] z_S0 h (zI A)))))))))) ∧ (¬ l5 < l4 → zP X d 186 0 (z_ent [.ref 82, .int l4, .int l2] 9) [] z_S0 h (zI fun v14 h16 => A v14 h16)))) : zP X (d + 1) 187 59 [some (.ref 82), none, some (.int l2), some (.int l3), some (.int l4), some (.int l5)] [] z_S0 h (zI A) := by
  refine zl zM187 q187_59 rfl ?_
  refine zl zM187 q187_61 rfl ?_
  refine zb2_ge zM187 q187_63 (tgt := 108) rfl (fun hc => ?_) (fun hc => ?_)
  · have hw := hw.2 hc
    refine zl zM187 q187_108 rfl ?_
    refine zl zM187 q187_109 rfl ?_
    refine zl zM187 q187_111 rfl ?_
    refine zcV zM187 q187_112 kl12_403 rfl rfl (Nat.le_of_ble_eq_true rfl) rfl zM186 (Nat.le_of_ble_eq_true rfl) (hw.mono (fun r0 h16 hr17 => ?_))
    obtain ⟨v14, rfl, hw⟩ := hr17
    show zP X (d + 1) 187 115 [some (.ref 82), none, some (.int l2), some (.int l3), some (.int l4), some (.int l5)] [.int v14] z_S0 h16 (zI A)
    exact zri zM187 q187_115 rfl rfl hw
  · have hw := hw.1 hc
    refine zl zM187 q187_66 rfl ?_
    refine zgR (a := 115) zM187 q187_67 (by decide) g12_277 s82 rfl ?_
    refine zl zM187 q187_70 rfl ?_
    refine zgR (a := 120) zM187 q187_71 (by decide) g12_292 s82 rfl ?_
    refine zl zM187 q187_74 rfl ?_
    obtain ⟨hb, hw⟩ := hw
    refine ziA zM187 q187_76 (by decide) s120 hb (v := (h 120 (Int32.toNatClampNeg l5))) rfl ?_
    obtain ⟨hb, hw⟩ := hw
    refine ziA zM187 q187_77 (by decide) s115 hb (v := (h 115 (Int32.toNatClampNeg (h 120 (Int32.toNatClampNeg l5))))) rfl ?_
    refine zl zM187 q187_78 rfl ?_
    refine zb2_gt zM187 q187_79 (tgt := 100) rfl (fun hc => ?_) (fun hc => ?_)
    · have hw := hw.1 hc
      refine zkI zM187 q187_100 kIm1 ?_
      exact zri zM187 q187_101 rfl rfl hw
    · have hw := hw.2 hc
      refine zkI zM187 q187_82 kI2 ?_
      refine zl zM187 q187_83 rfl ?_
      refine zgR (a := 117) zM187 q187_84 (by decide) g12_283 s82 rfl ?_
      refine zl zM187 q187_87 rfl ?_
      refine zgR (a := 120) zM187 q187_88 (by decide) g12_292 s82 rfl ?_
      refine zl zM187 q187_91 rfl ?_
      obtain ⟨hb, hw⟩ := hw
      refine ziA zM187 q187_93 (by decide) s120 hb (v := (h 120 (Int32.toNatClampNeg l5))) rfl ?_
      obtain ⟨hb, hw⟩ := hw
      refine ziA zM187 q187_94 (by decide) s117 hb (v := (h 117 (Int32.toNatClampNeg (h 120 (Int32.toNatClampNeg l5))))) rfl ?_
      refine zl zM187 q187_95 (pc' := 96) (st' := .int (2 * (h 117 (Int32.toNatClampNeg (h 120 (Int32.toNatClampNeg l5))))) :: _) rfl ?_
      refine zl zM187 q187_96 rfl ?_
      refine zb2_le zM187 q187_97 (tgt := 102) rfl (fun hc => ?_) (fun hc => ?_)
      · have hw := hw.2 hc
        refine zl zM187 q187_102 (ls' := [some (.ref 82), none, some (.int l2), some (.int l3), some (.int l4), some (.int (l5 + 1))]) rfl ?_
        refine zl zM187 q187_105 (pc' := 59) (ls' := _) (st' := _) rfl ?_
        exact hw
      · have hw := hw.1 hc
        refine zkI zM187 q187_100 kIm1 ?_
        exact zri zM187 q187_101 rfl rfl hw
-- X12_row
theorem b188 {X : Option (List Int32)} {d : Nat} {h : zH} {A : Int32 → zH → Prop} {a1 : Int32} {a2 : Int32} (hw : zP X d 128 0 (z_ent [.long (Int32.toInt64 a1), .long 0, .long 999] 6) [] z_S0 h (zI fun v1 h2 => ((v1 = 0 → A (-2) h2) ∧ (¬ v1 = 0 → zP X d 128 0 (z_ent [.long (Int32.toInt64 a2), .long 0, .long 999] 6) [] z_S0 h2 (zI fun v3 h4 => ((v3 = 0 → A (-2) h4) ∧ (¬ v3 = 0 → (((h4 82 59) = 5 → A (-4) h4) ∧ (¬ (h4 82 59) = 5 → (z_ib (h4 82 59) 5 ∧ (z_ib (h4 82 59) 5 ∧ A (((h4 82 59) + 1) - 1) (z_up (z_up (z_up h4 123 (Int32.toNatClampNeg (h4 82 59)) a1) 124 (Int32.toNatClampNeg (h4 82 59)) a2) 82 59 ((h4 82 59) + 1))))))))))))) : zP X (d + 1) 188 0 (z_ent [.ref 82, .int a1, .int a2] 3) [] z_S0 h (zI A) := by
  show zP X (d + 1) 188 0 [some (.ref 82), some (.int a1), some (.int a2)] [] z_S0 h (zI A)
  refine zl zM188 q188_0 rfl ?_
  refine zl zM188 q188_1 (pc' := 2) (st' := .long (Int32.toInt64 a1) :: _) rfl ?_
  refine zkL (v := 0) zM188 q188_2 rfl ?_
  refine zkJ zM188 q188_3 kc12_108 ?_
  refine zcS zM188 q188_6 ky12_3 kl12_3 (by decide) rfl (Nat.le_of_ble_eq_true rfl) zM128 (Nat.le_of_ble_eq_true rfl) (hw.mono (fun r0 h2 hr6 => ?_))
  obtain ⟨v1, rfl, hw⟩ := hr6
  show zP X (d + 1) 188 9 [some (.ref 82), some (.int a1), some (.int a2)] [.int v1] z_S0 h2 (zI A)
  refine zb1_eq zM188 q188_9 (tgt := 24) rfl (fun hc => ?_) (fun hc => ?_)
  · have hw := hw.1 hc
    refine zkB zM188 q188_24 kBm2 ?_
    exact zri zM188 q188_26 rfl rfl hw
  · have hw := hw.2 hc
    refine zl zM188 q188_12 rfl ?_
    refine zl zM188 q188_13 (pc' := 14) (st' := .long (Int32.toInt64 a2) :: _) rfl ?_
    refine zkL (v := 0) zM188 q188_14 rfl ?_
    refine zkJ zM188 q188_15 kc12_108 ?_
    refine zcS zM188 q188_18 ky12_3 kl12_3 (by decide) rfl (Nat.le_of_ble_eq_true rfl) zM128 (Nat.le_of_ble_eq_true rfl) (hw.mono (fun r0 h4 hr5 => ?_))
    obtain ⟨v3, rfl, hw⟩ := hr5
    show zP X (d + 1) 188 21 [some (.ref 82), some (.int a1), some (.int a2)] [.int v3] z_S0 h4 (zI A)
    refine zb1_ne zM188 q188_21 (tgt := 27) rfl (fun hc => ?_) (fun hc => ?_)
    · have hw := hw.2 hc
      refine zl zM188 q188_27 rfl ?_
      refine zgI zM188 q188_28 (by decide) g12_406 s82 rfl (v := (h4 82 59)) rfl ?_
      refine zkI zM188 q188_31 kI5 ?_
      refine zb2_ne zM188 q188_32 (tgt := 38) rfl (fun hc => ?_) (fun hc => ?_)
      · have hw := hw.2 hc
        refine zl zM188 q188_38 rfl ?_
        refine zgR (a := 123) zM188 q188_39 (by decide) g12_301 s82 rfl ?_
        refine zl zM188 q188_42 rfl ?_
        refine zgI zM188 q188_43 (by decide) g12_406 s82 rfl (v := (h4 82 59)) rfl ?_
        refine zl zM188 q188_46 rfl ?_
        obtain ⟨hb, hw⟩ := hw
        refine ziS zM188 q188_47 (by decide) s123 hb rfl ?_
        refine zl zM188 q188_48 rfl ?_
        refine zgR (a := 124) zM188 q188_49 (by decide) g12_304 s82 rfl ?_
        refine zl zM188 q188_52 rfl ?_
        refine zgI zM188 q188_53 (by decide) g12_406 s82 rfl (v := (h4 82 59)) rfl ?_
        refine zl zM188 q188_56 rfl ?_
        obtain ⟨hb, hw⟩ := hw
        refine ziS zM188 q188_57 (by decide) s124 hb rfl ?_
        refine zl zM188 q188_58 rfl ?_
        refine zl zM188 q188_59 rfl ?_
        refine zgI zM188 q188_60 (by decide) g12_406 s82 rfl (v := (h4 82 59)) rfl ?_
        refine zkI zM188 q188_63 kI1 ?_
        refine zl zM188 q188_64 (pc' := 65) (st' := .int ((h4 82 59) + 1) :: _) rfl ?_
        refine zpi zM188 q188_65 (by decide) g12_406 s82 rfl rfl ?_
        refine zl zM188 q188_68 rfl ?_
        refine zgI zM188 q188_69 (by decide) g12_406 s82 rfl (v := ((h4 82 59) + 1)) rfl ?_
        refine zkI zM188 q188_72 kI1 ?_
        refine zl zM188 q188_73 (pc' := 74) (st' := .int (((h4 82 59) + 1) - 1) :: _) rfl ?_
        exact zri zM188 q188_74 rfl rfl hw
      · have hw := hw.1 hc
        refine zkB zM188 q188_35 kBm4 ?_
        exact zri zM188 q188_37 rfl rfl hw
    · have hw := hw.1 hc
      refine zkB zM188 q188_24 kBm2 ?_
      exact zri zM188 q188_26 rfl rfl hw
-- X12_worthBy
theorem b189 {X : Option (List Int32)} {d : Nat} {h : zH} {A : Int64 → zH → Prop} {a1 : Int32} {a2 : Int32} {a3 : Int32} {a4 : Int32} (hw : zP X (d + 1) 189 6 [some (.ref 82), some (.int a1), some (.int a2), some (.int a3), some (.int a4), some (.long 0), none, some (.int 0)] [] z_S0 h (zJ A)) : zP X (d + 1) 189 0 (z_ent [.ref 82, .int a1, .int a2, .int a3, .int a4] 8) [] z_S0 h (zJ A) := by
  show zP X (d + 1) 189 0 [some (.ref 82), some (.int a1), some (.int a2), some (.int a3), some (.int a4), none, none, none] [] z_S0 h (zJ A)
  refine zkL (v := 0) zM189 q189_0 rfl ?_
  refine zl zM189 q189_1 (ls' := [some (.ref 82), some (.int a1), some (.int a2), some (.int a3), some (.int a4), some (.long 0), none, none]) rfl ?_
  refine zkI zM189 q189_3 kI0 ?_
  refine zl zM189 q189_4 (ls' := [some (.ref 82), some (.int a1), some (.int a2), some (.int a3), some (.int a4), some (.long 0), none, some (.int 0)]) rfl ?_
  exact hw
theorem b189_6 {X : Option (List Int32)} {d : Nat} {h : zH} {A : Int64 → zH → Prop} {l1 : Int32} {l2 : Int32} {l3 : Int32} {l4 : Int32} {l5 : Int64} {l7 : Int32} (hw : ((l7 < (h 82 3) → zP X d 175 0 (z_ent [.ref 82, .int l7, .int l1, .int l2, .int l3] 5) [] z_S0 h (zI fun v1 h2 => ((v1 = 0 → zP X (d + 1) 189 89 [some (.ref 82), some (.int l1), some (.int l2), some (.int l3), some (.int l4), some (.long l5), none, some (.int l7)] [] z_S0 h2 (zJ A)) ∧ (¬ v1 = 0 → (z_ib l7 40 ∧ zP X d 136 0 (z_ent [.ref 82, .int l7, .int 0, .int (h2 93 (Int32.toNatClampNeg l7))] 4) [] z_S0 h2 (zI fun v3 h4 => (z_ib l4 5 ∧ (z_ib l7 40 ∧ zP X d 136 0 (z_ent [.ref 82, .int l7, .int 1, .int (h4 93 (Int32.toNatClampNeg l7))] 4) [] z_S0 h4 (zI fun v5 h6 => (z_ib l4 5 ∧ zP X (d + 1) 189 89 [some (.ref 82), some (.int l1), some (.int l2), some (.int l3), some (.int l4), some (.long ((l5 + (Int32.toInt64 ((v3 * (h4 123 (Int32.toNatClampNeg l4))) / 100))) + (Int32.toInt64 ((v5 * (h6 124 (Int32.toNatClampNeg l4))) / 100)))), none, some (.int l7)] [] z_S0 h6 (zJ A))))))))))) ∧ (¬ l7 < (h 82 3) → A l5 h))) : zP X (d + 1) 189 6 [some (.ref 82), some (.int l1), some (.int l2), some (.int l3), some (.int l4), some (.long l5), none, some (.int l7)] [] z_S0 h (zJ A) := by
  refine zl zM189 q189_6 rfl ?_
  refine zl zM189 q189_8 rfl ?_
  refine zgI zM189 q189_9 (by decide) g12_21 s82 rfl (v := (h 82 3)) rfl ?_
  refine zb2_ge zM189 q189_12 (tgt := 95) rfl (fun hc => ?_) (fun hc => ?_)
  · have hw := hw.2 hc
    refine zl zM189 q189_95 rfl ?_
    exact zrj zM189 q189_97 rfl hw
  · have hw := hw.1 hc
    refine zl zM189 q189_15 rfl ?_
    refine zl zM189 q189_16 rfl ?_
    refine zl zM189 q189_18 rfl ?_
    refine zl zM189 q189_19 rfl ?_
    refine zl zM189 q189_20 rfl ?_
    refine zcV zM189 q189_21 kl12_369 rfl rfl (Nat.le_of_ble_eq_true rfl) rfl zM175 (Nat.le_of_ble_eq_true rfl) (hw.mono (fun r0 h2 hr9 => ?_))
    obtain ⟨v1, rfl, hw⟩ := hr9
    show zP X (d + 1) 189 24 [some (.ref 82), some (.int l1), some (.int l2), some (.int l3), some (.int l4), some (.long l5), none, some (.int l7)] [.int v1] z_S0 h2 (zJ A)
    refine zb1_eq zM189 q189_24 (tgt := 89) rfl (fun hc => ?_) (fun hc => ?_)
    · have hw := hw.1 hc
      exact hw
    · have hw := hw.2 hc
      refine zl zM189 q189_27 rfl ?_
      refine zl zM189 q189_29 rfl ?_
      refine zl zM189 q189_30 rfl ?_
      refine zkI zM189 q189_32 kI0 ?_
      refine zl zM189 q189_33 rfl ?_
      refine zgR (a := 93) zM189 q189_34 (by decide) g12_60 s82 rfl ?_
      refine zl zM189 q189_37 rfl ?_
      obtain ⟨hb, hw⟩ := hw
      refine ziA zM189 q189_39 (by decide) s93 hb (v := (h2 93 (Int32.toNatClampNeg l7))) rfl ?_
      refine zcV zM189 q189_40 kl12_66 rfl rfl (Nat.le_of_ble_eq_true rfl) rfl zM136 (Nat.le_of_ble_eq_true rfl) (hw.mono (fun r0 h4 hr8 => ?_))
      obtain ⟨v3, rfl, hw⟩ := hr8
      show zP X (d + 1) 189 43 [some (.ref 82), some (.int l1), some (.int l2), some (.int l3), some (.int l4), some (.long l5), none, some (.int l7)] [.int v3, .long l5] z_S0 h4 (zJ A)
      refine zl zM189 q189_43 rfl ?_
      refine zgR (a := 123) zM189 q189_44 (by decide) g12_301 s82 rfl ?_
      refine zl zM189 q189_47 rfl ?_
      obtain ⟨hb, hw⟩ := hw
      refine ziA zM189 q189_49 (by decide) s123 hb (v := (h4 123 (Int32.toNatClampNeg l4))) rfl ?_
      refine zl zM189 q189_50 (pc' := 51) (st' := .int (v3 * (h4 123 (Int32.toNatClampNeg l4))) :: _) rfl ?_
      refine zkB zM189 q189_51 kB100 ?_
      refine zl zM189 q189_53 (pc' := 54) (st' := .int ((v3 * (h4 123 (Int32.toNatClampNeg l4))) / 100) :: _) rfl ?_
      refine zl zM189 q189_54 (pc' := 55) (st' := .long (Int32.toInt64 ((v3 * (h4 123 (Int32.toNatClampNeg l4))) / 100)) :: _) rfl ?_
      refine zl zM189 q189_55 (pc' := 56) (st' := .long (l5 + (Int32.toInt64 ((v3 * (h4 123 (Int32.toNatClampNeg l4))) / 100))) :: _) rfl ?_
      refine zl zM189 q189_56 (ls' := [some (.ref 82), some (.int l1), some (.int l2), some (.int l3), some (.int l4), some (.long (l5 + (Int32.toInt64 ((v3 * (h4 123 (Int32.toNatClampNeg l4))) / 100)))), none, some (.int l7)]) rfl ?_
      refine zl zM189 q189_58 rfl ?_
      refine zl zM189 q189_60 rfl ?_
      refine zl zM189 q189_61 rfl ?_
      refine zkI zM189 q189_63 kI1 ?_
      refine zl zM189 q189_64 rfl ?_
      refine zgR (a := 93) zM189 q189_65 (by decide) g12_60 s82 rfl ?_
      refine zl zM189 q189_68 rfl ?_
      obtain ⟨hb, hw⟩ := hw
      refine ziA zM189 q189_70 (by decide) s93 hb (v := (h4 93 (Int32.toNatClampNeg l7))) rfl ?_
      refine zcV zM189 q189_71 kl12_66 rfl rfl (Nat.le_of_ble_eq_true rfl) rfl zM136 (Nat.le_of_ble_eq_true rfl) (hw.mono (fun r0 h6 hr7 => ?_))
      obtain ⟨v5, rfl, hw⟩ := hr7
      show zP X (d + 1) 189 74 [some (.ref 82), some (.int l1), some (.int l2), some (.int l3), some (.int l4), some (.long (l5 + (Int32.toInt64 ((v3 * (h4 123 (Int32.toNatClampNeg l4))) / 100)))), none, some (.int l7)] [.int v5, .long (l5 + (Int32.toInt64 ((v3 * (h4 123 (Int32.toNatClampNeg l4))) / 100)))] z_S0 h6 (zJ A)
      refine zl zM189 q189_74 rfl ?_
      refine zgR (a := 124) zM189 q189_75 (by decide) g12_304 s82 rfl ?_
      refine zl zM189 q189_78 rfl ?_
      obtain ⟨hb, hw⟩ := hw
      refine ziA zM189 q189_80 (by decide) s124 hb (v := (h6 124 (Int32.toNatClampNeg l4))) rfl ?_
      refine zl zM189 q189_81 (pc' := 82) (st' := .int (v5 * (h6 124 (Int32.toNatClampNeg l4))) :: _) rfl ?_
      refine zkB zM189 q189_82 kB100 ?_
      refine zl zM189 q189_84 (pc' := 85) (st' := .int ((v5 * (h6 124 (Int32.toNatClampNeg l4))) / 100) :: _) rfl ?_
      refine zl zM189 q189_85 (pc' := 86) (st' := .long (Int32.toInt64 ((v5 * (h6 124 (Int32.toNatClampNeg l4))) / 100)) :: _) rfl ?_
      refine zl zM189 q189_86 (pc' := 87) (st' := .long ((l5 + (Int32.toInt64 ((v3 * (h4 123 (Int32.toNatClampNeg l4))) / 100))) + (Int32.toInt64 ((v5 * (h6 124 (Int32.toNatClampNeg l4))) / 100))) :: _) rfl ?_
      refine zl zM189 q189_87 (ls' := [some (.ref 82), some (.int l1), some (.int l2), some (.int l3), some (.int l4), some (.long ((l5 + (Int32.toInt64 ((v3 * (h4 123 (Int32.toNatClampNeg l4))) / 100))) + (Int32.toInt64 ((v5 * (h6 124 (Int32.toNatClampNeg l4))) / 100)))), none, some (.int l7)]) rfl ?_
      exact hw
theorem b189_89 {X : Option (List Int32)} {d : Nat} {h : zH} {A : Int64 → zH → Prop} {l1 : Int32} {l2 : Int32} {l3 : Int32} {l4 : Int32} {l5 : Int64} {l7 : Int32} (hw : zP X (d + 1) 189 6 [some (.ref 82), some (.int l1), some (.int l2), some (.int l3), some (.int l4), some (.long l5), none, some (.int (l7 + 1))] [] z_S0 h (zJ A)) : zP X (d + 1) 189 89 [some (.ref 82), some (.int l1), some (.int l2), some (.int l3), some (.int l4), some (.long l5), none, some (.int l7)] [] z_S0 h (zJ A) := by
  refine zl zM189 q189_89 (ls' := [some (.ref 82), some (.int l1), some (.int l2), some (.int l3), some (.int l4), some (.long l5), none, some (.int (l7 + 1))]) rfl ?_
  refine zl zM189 q189_92 (pc' := 6) (ls' := _) (st' := _) rfl ?_
  exact hw
-- X12_bid
theorem b190 {X : Option (List Int32)} {d : Nat} {h : zH} {A : Int64 → zH → Prop} {a1 : Int32} {a2 : Int32} {a3 : Int32} {a4 : Int32} (hw : zP X d 131 0 (z_ent [.int a1] 1) [] z_S0 h (zI fun v1 h2 => ((v1 = 0 → A (-4611686018427387904) h2) ∧ (¬ v1 = 0 → zP X d 174 0 (z_ent [.int a2, .int a3] 2) [] z_S0 h2 (zI fun v3 h4 => ((v3 = 0 → A (-4611686018427387904) h4) ∧ (¬ v3 = 0 → ((a4 < (-1) → A (-4611686018427387904) h4) ∧ (¬ a4 < (-1) → ((a4 < (h4 82 59) → ((a4 = (-1) → zP X (d + 1) 190 56 [some (.ref 82), some (.int a1), some (.int a2), some (.int a3), none, some (.long 0), none, some (.int 0), none, none] [] z_S0 h4 (zJ A)) ∧ (¬ a4 = (-1) → zP X d 189 0 (z_ent [.ref 82, .int a1, .int a2, .int a3, .int a4] 8) [] z_S0 h4 (zJ fun v5 h6 => A v5 h6)))) ∧ (¬ a4 < (h4 82 59) → A (-4611686018427387904) h4))))))))))) : zP X (d + 1) 190 0 (z_ent [.ref 82, .int a1, .int a2, .int a3, .int a4] 10) [] z_S0 h (zJ A) := by
  show zP X (d + 1) 190 0 [some (.ref 82), some (.int a1), some (.int a2), some (.int a3), some (.int a4), none, none, none, none, none] [] z_S0 h (zJ A)
  refine zl zM190 q190_0 rfl ?_
  refine zcS zM190 q190_1 ky12_24 kl12_24 (by decide) rfl (Nat.le_of_ble_eq_true rfl) zM131 (Nat.le_of_ble_eq_true rfl) (hw.mono (fun r0 h2 hr9 => ?_))
  obtain ⟨v1, rfl, hw⟩ := hr9
  show zP X (d + 1) 190 4 [some (.ref 82), some (.int a1), some (.int a2), some (.int a3), some (.int a4), none, none, none, none, none] [.int v1] z_S0 h2 (zJ A)
  refine zb1_eq zM190 q190_4 (tgt := 30) rfl (fun hc => ?_) (fun hc => ?_)
  · have hw := hw.1 hc
    refine zkJ zM190 q190_30 kc12_363 ?_
    exact zrj zM190 q190_33 rfl hw
  · have hw := hw.2 hc
    refine zl zM190 q190_7 rfl ?_
    refine zl zM190 q190_8 rfl ?_
    refine zcS zM190 q190_9 ky12_365 kl12_365 (by decide) rfl (Nat.le_of_ble_eq_true rfl) zM174 (Nat.le_of_ble_eq_true rfl) (hw.mono (fun r0 h4 hr8 => ?_))
    obtain ⟨v3, rfl, hw⟩ := hr8
    show zP X (d + 1) 190 12 [some (.ref 82), some (.int a1), some (.int a2), some (.int a3), some (.int a4), none, none, none, none, none] [.int v3] z_S0 h4 (zJ A)
    refine zb1_eq zM190 q190_12 (tgt := 30) rfl (fun hc => ?_) (fun hc => ?_)
    · have hw := hw.1 hc
      refine zkJ zM190 q190_30 kc12_363 ?_
      exact zrj zM190 q190_33 rfl hw
    · have hw := hw.2 hc
      refine zl zM190 q190_15 rfl ?_
      refine zkI zM190 q190_17 kIm1 ?_
      refine zb2_lt zM190 q190_18 (tgt := 30) rfl (fun hc => ?_) (fun hc => ?_)
      · have hw := hw.1 hc
        refine zkJ zM190 q190_30 kc12_363 ?_
        exact zrj zM190 q190_33 rfl hw
      · have hw := hw.2 hc
        refine zl zM190 q190_21 rfl ?_
        refine zl zM190 q190_23 rfl ?_
        refine zgI zM190 q190_24 (by decide) g12_406 s82 rfl (v := (h4 82 59)) rfl ?_
        refine zb2_lt zM190 q190_27 (tgt := 34) rfl (fun hc => ?_) (fun hc => ?_)
        · have hw := hw.1 hc
          refine zl zM190 q190_34 rfl ?_
          refine zkI zM190 q190_36 kIm1 ?_
          refine zb2_eq zM190 q190_37 (tgt := 50) rfl (fun hc => ?_) (fun hc => ?_)
          · have hw := hw.1 hc
            refine zkL (v := 0) zM190 q190_50 rfl ?_
            refine zl zM190 q190_51 (ls' := [some (.ref 82), some (.int a1), some (.int a2), some (.int a3), some (.int a4), some (.long 0), none, none, none, none]) rfl ?_
            refine zkI zM190 q190_53 kI0 ?_
            refine zl zM190 q190_54 (ls' := [some (.ref 82), some (.int a1), some (.int a2), some (.int a3), some (.int a4), some (.long 0), none, some (.int 0), none, none]) rfl ?_
            refine zweak (a := [some (.ref 82), some (.int a1), some (.int a2), some (.int a3), none, some (.long 0), none, some (.int 0), none, none]) ?_ hw
            exact ⟨rfl, ⟨rfl, ⟨rfl, ⟨rfl, ⟨rfl, ⟨rfl, trivial⟩⟩⟩⟩⟩⟩
          · have hw := hw.2 hc
            refine zl zM190 q190_40 rfl ?_
            refine zl zM190 q190_41 rfl ?_
            refine zl zM190 q190_42 rfl ?_
            refine zl zM190 q190_43 rfl ?_
            refine zl zM190 q190_44 rfl ?_
            refine zcV zM190 q190_46 kl12_409 rfl rfl (Nat.le_of_ble_eq_true rfl) rfl zM189 (Nat.le_of_ble_eq_true rfl) (hw.mono (fun r0 h6 hr7 => ?_))
            obtain ⟨v5, rfl, hw⟩ := hr7
            show zP X (d + 1) 190 49 [some (.ref 82), some (.int a1), some (.int a2), some (.int a3), some (.int a4), none, none, none, none, none] [.long v5] z_S0 h6 (zJ A)
            exact zrj zM190 q190_49 rfl hw
        · have hw := hw.2 hc
          refine zkJ zM190 q190_30 kc12_363 ?_
          exact zrj zM190 q190_33 rfl hw
theorem b190_56 {X : Option (List Int32)} {d : Nat} {h : zH} {A : Int64 → zH → Prop} {l1 : Int32} {l2 : Int32} {l3 : Int32} {l5 : Int64} {l7 : Int32} (hw : ((l7 < (h 82 59) → zP X d 189 0 (z_ent [.ref 82, .int l1, .int l2, .int l3, .int l7] 8) [] z_S0 h (zJ fun v10 h11 => ((l7 = 0 → zP X (d + 1) 190 89 [some (.ref 82), some (.int l1), some (.int l2), some (.int l3), none, none, none, some (.int l7), some (.long v10), none] [] z_S0 h11 (zJ A)) ∧ (¬ l7 = 0 → (((lg_cmp v10 l5) < 0 → zP X (d + 1) 190 89 [some (.ref 82), some (.int l1), some (.int l2), some (.int l3), none, none, none, some (.int l7), some (.long v10), none] [] z_S0 h11 (zJ A)) ∧ (¬ (lg_cmp v10 l5) < 0 → zP X (d + 1) 190 96 [some (.ref 82), some (.int l1), some (.int l2), some (.int l3), none, none, none, some (.int l7), none, none] [.long l5] z_S0 h11 (zJ A))))))) ∧ (¬ l7 < (h 82 59) → A l5 h))) : zP X (d + 1) 190 56 [some (.ref 82), some (.int l1), some (.int l2), some (.int l3), none, some (.long l5), none, some (.int l7), none, none] [] z_S0 h (zJ A) := by
  refine zl zM190 q190_56 rfl ?_
  refine zl zM190 q190_58 rfl ?_
  refine zgI zM190 q190_59 (by decide) g12_406 s82 rfl (v := (h 82 59)) rfl ?_
  refine zb2_ge zM190 q190_62 (tgt := 104) rfl (fun hc => ?_) (fun hc => ?_)
  · have hw := hw.2 hc
    refine zl zM190 q190_104 rfl ?_
    exact zrj zM190 q190_106 rfl hw
  · have hw := hw.1 hc
    refine zl zM190 q190_65 rfl ?_
    refine zl zM190 q190_66 rfl ?_
    refine zl zM190 q190_67 rfl ?_
    refine zl zM190 q190_68 rfl ?_
    refine zl zM190 q190_69 rfl ?_
    refine zcV zM190 q190_71 kl12_409 rfl rfl (Nat.le_of_ble_eq_true rfl) rfl zM189 (Nat.le_of_ble_eq_true rfl) (hw.mono (fun r0 h11 hr12 => ?_))
    obtain ⟨v10, rfl, hw⟩ := hr12
    show zP X (d + 1) 190 74 [some (.ref 82), some (.int l1), some (.int l2), some (.int l3), none, some (.long l5), none, some (.int l7), none, none] [.long v10] z_S0 h11 (zJ A)
    refine zl zM190 q190_74 (ls' := [some (.ref 82), some (.int l1), some (.int l2), some (.int l3), none, some (.long l5), none, some (.int l7), some (.long v10), none]) rfl ?_
    refine zl zM190 q190_76 rfl ?_
    refine zb1_eq zM190 q190_78 (tgt := 89) rfl (fun hc => ?_) (fun hc => ?_)
    · have hw := hw.1 hc
      refine zweak (a := [some (.ref 82), some (.int l1), some (.int l2), some (.int l3), none, none, none, some (.int l7), some (.long v10), none]) ?_ hw
      exact ⟨rfl, ⟨rfl, ⟨rfl, ⟨rfl, ⟨rfl, ⟨rfl, trivial⟩⟩⟩⟩⟩⟩
    · have hw := hw.2 hc
      refine zl zM190 q190_81 rfl ?_
      refine zl zM190 q190_83 rfl ?_
      refine zl zM190 q190_85 (pc' := 86) (st' := .int (lg_cmp v10 l5) :: _) rfl ?_
      refine zb1_ge zM190 q190_86 (tgt := 94) rfl (fun hc => ?_) (fun hc => ?_)
      · have hw := hw.2 hc
        refine zl zM190 q190_94 rfl ?_
        refine zweak (a := [some (.ref 82), some (.int l1), some (.int l2), some (.int l3), none, none, none, some (.int l7), none, none]) ?_ hw
        exact ⟨rfl, ⟨rfl, ⟨rfl, ⟨rfl, ⟨rfl, trivial⟩⟩⟩⟩⟩
      · have hw := hw.1 hc
        refine zweak (a := [some (.ref 82), some (.int l1), some (.int l2), some (.int l3), none, none, none, some (.int l7), some (.long v10), none]) ?_ hw
        exact ⟨rfl, ⟨rfl, ⟨rfl, ⟨rfl, ⟨rfl, ⟨rfl, trivial⟩⟩⟩⟩⟩⟩
theorem b190_89 {X : Option (List Int32)} {d : Nat} {h : zH} {A : Int64 → zH → Prop} {l1 : Int32} {l2 : Int32} {l3 : Int32} {l7 : Int32} {l8 : Int64} (hw : zP X (d + 1) 190 96 [some (.ref 82), some (.int l1), some (.int l2), some (.int l3), none, none, none, some (.int l7), none, none] [.long l8] z_S0 h (zJ A)) : zP X (d + 1) 190 89 [some (.ref 82), some (.int l1), some (.int l2), some (.int l3), none, none, none, some (.int l7), some (.long l8), none] [] z_S0 h (zJ A) := by
  refine zl zM190 q190_89 rfl ?_
  refine zl zM190 q190_91 (pc' := 96) (ls' := _) (st' := _) rfl ?_
  refine zweak (a := [some (.ref 82), some (.int l1), some (.int l2), some (.int l3), none, none, none, some (.int l7), none, none]) ?_ hw
  exact ⟨rfl, ⟨rfl, ⟨rfl, ⟨rfl, ⟨rfl, trivial⟩⟩⟩⟩⟩
theorem b190_96 {X : Option (List Int32)} {d : Nat} {h : zH} {A : Int64 → zH → Prop} {l1 : Int32} {l2 : Int32} {l3 : Int32} {l7 : Int32} {w0 : Int64} (hw : zP X (d + 1) 190 56 [some (.ref 82), some (.int l1), some (.int l2), some (.int l3), none, some (.long w0), none, some (.int (l7 + 1)), none, none] [] z_S0 h (zJ A)) : zP X (d + 1) 190 96 [some (.ref 82), some (.int l1), some (.int l2), some (.int l3), none, none, none, some (.int l7), none, none] [.long w0] z_S0 h (zJ A) := by
  refine zl zM190 q190_96 (ls' := [some (.ref 82), some (.int l1), some (.int l2), some (.int l3), none, some (.long w0), none, some (.int l7), none, none]) rfl ?_
  refine zl zM190 q190_98 (ls' := [some (.ref 82), some (.int l1), some (.int l2), some (.int l3), none, some (.long w0), none, some (.int (l7 + 1)), none, none]) rfl ?_
  refine zl zM190 q190_101 (pc' := 56) (ls' := _) (st' := _) rfl ?_
  exact hw
-- X12_wins
theorem b191 {X : Option (List Int32)} {d : Nat} {h : zH} {A : Int32 → zH → Prop} {a1 : Int32} {a2 : Int32} {a3 : Int32} (hw : zP X d 128 0 (z_ent [.long (Int32.toInt64 a1), .long 0, .long 9] 6) [] z_S0 h (zI fun v1 h2 => ((v1 = 0 → A (-2) h2) ∧ (¬ v1 = 0 → zP X d 132 0 (z_ent [.int a2] 1) [] z_S0 h2 (zI fun v3 h4 => ((v3 = 0 → A (-2) h4) ∧ (¬ v3 = 0 → zP X d 128 0 (z_ent [.long (Int32.toInt64 a3), .long 0, .long 999] 6) [] z_S0 h4 (zI fun v5 h6 => ((v5 = 0 → A (-2) h6) ∧ (¬ v5 = 0 → (z_ib ((5 * a1) + a2) 50 ∧ (z_ib ((5 * a1) + a2) 50 ∧ A (h6 125 (Int32.toNatClampNeg ((5 * a1) + a2))) (z_up h6 125 (Int32.toNatClampNeg ((5 * a1) + a2)) a3))))))))))))) : zP X (d + 1) 191 0 (z_ent [.ref 82, .int a1, .int a2, .int a3] 5) [] z_S0 h (zI A) := by
  show zP X (d + 1) 191 0 [some (.ref 82), some (.int a1), some (.int a2), some (.int a3), none] [] z_S0 h (zI A)
  refine zl zM191 q191_0 rfl ?_
  refine zl zM191 q191_1 (pc' := 2) (st' := .long (Int32.toInt64 a1) :: _) rfl ?_
  refine zkL (v := 0) zM191 q191_2 rfl ?_
  refine zkJ zM191 q191_3 kc12_378 ?_
  refine zcS zM191 q191_6 ky12_3 kl12_3 (by decide) rfl (Nat.le_of_ble_eq_true rfl) zM128 (Nat.le_of_ble_eq_true rfl) (hw.mono (fun r0 h2 hr9 => ?_))
  obtain ⟨v1, rfl, hw⟩ := hr9
  show zP X (d + 1) 191 9 [some (.ref 82), some (.int a1), some (.int a2), some (.int a3), none] [.int v1] z_S0 h2 (zI A)
  refine zb1_eq zM191 q191_9 (tgt := 31) rfl (fun hc => ?_) (fun hc => ?_)
  · have hw := hw.1 hc
    refine zkB zM191 q191_31 kBm2 ?_
    exact zri zM191 q191_33 rfl rfl hw
  · have hw := hw.2 hc
    refine zl zM191 q191_12 rfl ?_
    refine zcS zM191 q191_13 ky12_28 kl12_28 (by decide) rfl (Nat.le_of_ble_eq_true rfl) zM132 (Nat.le_of_ble_eq_true rfl) (hw.mono (fun r0 h4 hr8 => ?_))
    obtain ⟨v3, rfl, hw⟩ := hr8
    show zP X (d + 1) 191 16 [some (.ref 82), some (.int a1), some (.int a2), some (.int a3), none] [.int v3] z_S0 h4 (zI A)
    refine zb1_eq zM191 q191_16 (tgt := 31) rfl (fun hc => ?_) (fun hc => ?_)
    · have hw := hw.1 hc
      refine zkB zM191 q191_31 kBm2 ?_
      exact zri zM191 q191_33 rfl rfl hw
    · have hw := hw.2 hc
      refine zl zM191 q191_19 rfl ?_
      refine zl zM191 q191_20 (pc' := 21) (st' := .long (Int32.toInt64 a3) :: _) rfl ?_
      refine zkL (v := 0) zM191 q191_21 rfl ?_
      refine zkJ zM191 q191_22 kc12_108 ?_
      refine zcS zM191 q191_25 ky12_3 kl12_3 (by decide) rfl (Nat.le_of_ble_eq_true rfl) zM128 (Nat.le_of_ble_eq_true rfl) (hw.mono (fun r0 h6 hr7 => ?_))
      obtain ⟨v5, rfl, hw⟩ := hr7
      show zP X (d + 1) 191 28 [some (.ref 82), some (.int a1), some (.int a2), some (.int a3), none] [.int v5] z_S0 h6 (zI A)
      refine zb1_ne zM191 q191_28 (tgt := 34) rfl (fun hc => ?_) (fun hc => ?_)
      · have hw := hw.2 hc
        refine zl zM191 q191_34 rfl ?_
        refine zgR (a := 125) zM191 q191_35 (by decide) g12_307 s82 rfl ?_
        refine zkI zM191 q191_38 kI5 ?_
        refine zl zM191 q191_39 rfl ?_
        refine zl zM191 q191_40 (pc' := 41) (st' := .int (5 * a1) :: _) rfl ?_
        refine zl zM191 q191_41 rfl ?_
        refine zl zM191 q191_42 (pc' := 43) (st' := .int ((5 * a1) + a2) :: _) rfl ?_
        obtain ⟨hb, hw⟩ := hw
        refine ziA zM191 q191_43 (by decide) s125 hb (v := (h6 125 (Int32.toNatClampNeg ((5 * a1) + a2)))) rfl ?_
        refine zl zM191 q191_44 (ls' := [some (.ref 82), some (.int a1), some (.int a2), some (.int a3), some (.int (h6 125 (Int32.toNatClampNeg ((5 * a1) + a2))))]) rfl ?_
        refine zl zM191 q191_46 rfl ?_
        refine zgR (a := 125) zM191 q191_47 (by decide) g12_307 s82 rfl ?_
        refine zkI zM191 q191_50 kI5 ?_
        refine zl zM191 q191_51 rfl ?_
        refine zl zM191 q191_52 (pc' := 53) (st' := .int (5 * a1) :: _) rfl ?_
        refine zl zM191 q191_53 rfl ?_
        refine zl zM191 q191_54 (pc' := 55) (st' := .int ((5 * a1) + a2) :: _) rfl ?_
        refine zl zM191 q191_55 rfl ?_
        obtain ⟨hb, hw⟩ := hw
        refine ziS zM191 q191_56 (by decide) s125 hb rfl ?_
        refine zl zM191 q191_57 rfl ?_
        exact zri zM191 q191_59 rfl rfl hw
      · have hw := hw.1 hc
        refine zkB zM191 q191_31 kBm2 ?_
        exact zri zM191 q191_33 rfl rfl hw
-- X12_layFrom
theorem b192 {X : Option (List Int32)} {d : Nat} {h : zH} {A : zH → Prop} {a1 : Int32} {a2 : Int32} {a3 : Int32} {a4 : Int32} (hw : ((a1 = a2 → (((h 82 66) < a4 → zP X (d + 1) 192 23 [some (.ref 82), none, some (.int a2), none, none, some (.int 0)] [] z_S0 (z_up h 82 66 a4) (zV A)) ∧ (¬ (h 82 66) < a4 → A h))) ∧ (¬ a1 = a2 → zP X (d + 1) 192 53 [some (.ref 82), some (.int a1), some (.int a2), some (.int a3), some (.int a4), some (.int 0)] [] z_S0 h (zV A)))) : zP X (d + 1) 192 0 (z_ent [.ref 82, .int a1, .int a2, .int a3, .int a4] 6) [] z_S0 h (zV A) := by
  show zP X (d + 1) 192 0 [some (.ref 82), some (.int a1), some (.int a2), some (.int a3), some (.int a4), none] [] z_S0 h (zV A)
  refine zl zM192 q192_0 rfl ?_
  refine zl zM192 q192_1 rfl ?_
  refine zb2_ne zM192 q192_2 (tgt := 50) rfl (fun hc => ?_) (fun hc => ?_)
  · have hw := hw.2 hc
    refine zkI zM192 q192_50 kI0 ?_
    refine zl zM192 q192_51 (ls' := [some (.ref 82), some (.int a1), some (.int a2), some (.int a3), some (.int a4), some (.int 0)]) rfl ?_
    exact hw
  · have hw := hw.1 hc
    refine zl zM192 q192_5 rfl ?_
    refine zl zM192 q192_7 rfl ?_
    refine zgI zM192 q192_8 (by decide) g12_413 s82 rfl (v := (h 82 66)) rfl ?_
    refine zb2_le zM192 q192_11 (tgt := 49) rfl (fun hc => ?_) (fun hc => ?_)
    · have hw := hw.2 hc
      exact zrv zM192 q192_49 rfl hw
    · have hw := hw.1 hc
      refine zl zM192 q192_14 rfl ?_
      refine zl zM192 q192_15 rfl ?_
      refine zpi zM192 q192_17 (by decide) g12_413 s82 rfl rfl ?_
      refine zkI zM192 q192_20 kI0 ?_
      refine zl zM192 q192_21 (ls' := [some (.ref 82), some (.int a1), some (.int a2), some (.int a3), some (.int a4), some (.int 0)]) rfl ?_
      refine zweak (a := [some (.ref 82), none, some (.int a2), none, none, some (.int 0)]) ?_ hw
      exact ⟨rfl, ⟨rfl, ⟨rfl, trivial⟩⟩⟩
theorem b192_53 {X : Option (List Int32)} {d : Nat} {h : zH} {A : zH → Prop} {l1 : Int32} {l2 : Int32} {l3 : Int32} {l4 : Int32} {l5 : Int32} (hw : ((l5 < 5 → ((((l3 >>> (l5 &&& 31)) &&& 1) = 0 → (z_ib l1 5 ∧ (z_ib l1 5 ∧ (z_ib ((5 * (h 126 (Int32.toNatClampNeg l1))) + l5) 50 ∧ zP X d 192 0 (z_ent [.ref 82, .int (l1 + 1), .int l2, .int (l3 ||| (1 <<< (l5 &&& 31))), .int (l4 + (h 125 (Int32.toNatClampNeg ((5 * (h 126 (Int32.toNatClampNeg l1))) + l5))))] 6) [] z_S0 (z_up h 128 (Int32.toNatClampNeg l1) l5) (zV fun h3 => zP X (d + 1) 192 109 [some (.ref 82), some (.int l1), some (.int l2), some (.int l3), some (.int l4), some (.int l5)] [] z_S0 h3 (zV A)))))) ∧ (¬ ((l3 >>> (l5 &&& 31)) &&& 1) = 0 → zP X (d + 1) 192 109 [some (.ref 82), some (.int l1), some (.int l2), some (.int l3), some (.int l4), some (.int l5)] [] z_S0 h (zV A)))) ∧ (¬ l5 < 5 → A h))) : zP X (d + 1) 192 53 [some (.ref 82), some (.int l1), some (.int l2), some (.int l3), some (.int l4), some (.int l5)] [] z_S0 h (zV A) := by
  refine zl zM192 q192_53 rfl ?_
  refine zkI zM192 q192_55 kI5 ?_
  refine zb2_ge zM192 q192_56 (tgt := 115) rfl (fun hc => ?_) (fun hc => ?_)
  · have hw := hw.2 hc
    exact zrv zM192 q192_115 rfl hw
  · have hw := hw.1 hc
    refine zl zM192 q192_59 rfl ?_
    refine zl zM192 q192_60 rfl ?_
    refine zl zM192 q192_62 (pc' := 63) (st' := .int (l3 >>> (l5 &&& 31)) :: _) rfl ?_
    refine zkI zM192 q192_63 kI1 ?_
    refine zl zM192 q192_64 (pc' := 65) (st' := .int ((l3 >>> (l5 &&& 31)) &&& 1) :: _) rfl ?_
    refine zb1_ne zM192 q192_65 (tgt := 109) rfl (fun hc => ?_) (fun hc => ?_)
    · have hw := hw.2 hc
      exact hw
    · have hw := hw.1 hc
      refine zl zM192 q192_68 rfl ?_
      refine zgR (a := 128) zM192 q192_69 (by decide) g12_316 s82 rfl ?_
      refine zl zM192 q192_72 rfl ?_
      refine zl zM192 q192_73 rfl ?_
      obtain ⟨hb, hw⟩ := hw
      refine ziS zM192 q192_75 (by decide) s128 hb rfl ?_
      refine zl zM192 q192_76 rfl ?_
      refine zl zM192 q192_77 rfl ?_
      refine zkI zM192 q192_78 kI1 ?_
      refine zl zM192 q192_79 (pc' := 80) (st' := .int (l1 + 1) :: _) rfl ?_
      refine zl zM192 q192_80 rfl ?_
      refine zl zM192 q192_81 rfl ?_
      refine zkI zM192 q192_82 kI1 ?_
      refine zl zM192 q192_83 rfl ?_
      refine zl zM192 q192_85 (pc' := 86) (st' := .int (1 <<< (l5 &&& 31)) :: _) rfl ?_
      refine zl zM192 q192_86 (pc' := 87) (st' := .int (l3 ||| (1 <<< (l5 &&& 31))) :: _) rfl ?_
      refine zl zM192 q192_87 rfl ?_
      refine zl zM192 q192_89 rfl ?_
      refine zgR (a := 125) zM192 q192_90 (by decide) g12_307 s82 rfl ?_
      refine zkI zM192 q192_93 kI5 ?_
      refine zl zM192 q192_94 rfl ?_
      refine zgR (a := 126) zM192 q192_95 (by decide) g12_310 s82 rfl ?_
      refine zl zM192 q192_98 rfl ?_
      obtain ⟨hb, hw⟩ := hw
      refine ziA zM192 q192_99 (by decide) s126 hb (v := (h 126 (Int32.toNatClampNeg l1))) rfl ?_
      refine zl zM192 q192_100 (pc' := 101) (st' := .int (5 * (h 126 (Int32.toNatClampNeg l1))) :: _) rfl ?_
      refine zl zM192 q192_101 rfl ?_
      refine zl zM192 q192_103 (pc' := 104) (st' := .int ((5 * (h 126 (Int32.toNatClampNeg l1))) + l5) :: _) rfl ?_
      obtain ⟨hb, hw⟩ := hw
      refine ziA zM192 q192_104 (by decide) s125 hb (v := (h 125 (Int32.toNatClampNeg ((5 * (h 126 (Int32.toNatClampNeg l1))) + l5)))) rfl ?_
      refine zl zM192 q192_105 (pc' := 106) (st' := .int (l4 + (h 125 (Int32.toNatClampNeg ((5 * (h 126 (Int32.toNatClampNeg l1))) + l5)))) :: _) rfl ?_
      refine zcV zM192 q192_106 kl12_416 rfl rfl (Nat.le_of_ble_eq_true rfl) rfl zM192 (Nat.le_of_ble_eq_true rfl) (hw.mono (fun r0 h3 hr4 => ?_))
      obtain ⟨rfl, hw⟩ := hr4
      show zP X (d + 1) 192 109 [some (.ref 82), some (.int l1), some (.int l2), some (.int l3), some (.int l4), some (.int l5)] [] z_S0 h3 (zV A)
      exact hw
theorem b192_23 {X : Option (List Int32)} {d : Nat} {h : zH} {A : zH → Prop} {l2 : Int32} {l5 : Int32} (hw : ((l5 < l2 → (z_ib l5 5 ∧ (z_ib l5 5 ∧ zP X (d + 1) 192 23 [some (.ref 82), none, some (.int l2), none, none, some (.int (l5 + 1))] [] z_S0 (z_up h 127 (Int32.toNatClampNeg l5) (h 128 (Int32.toNatClampNeg l5))) (zV A)))) ∧ (¬ l5 < l2 → A h))) : zP X (d + 1) 192 23 [some (.ref 82), none, some (.int l2), none, none, some (.int l5)] [] z_S0 h (zV A) := by
  refine zl zM192 q192_23 rfl ?_
  refine zl zM192 q192_25 rfl ?_
  refine zb2_ge zM192 q192_26 (tgt := 49) rfl (fun hc => ?_) (fun hc => ?_)
  · have hw := hw.2 hc
    exact zrv zM192 q192_49 rfl hw
  · have hw := hw.1 hc
    refine zl zM192 q192_29 rfl ?_
    refine zgR (a := 127) zM192 q192_30 (by decide) g12_313 s82 rfl ?_
    refine zl zM192 q192_33 rfl ?_
    refine zl zM192 q192_35 rfl ?_
    refine zgR (a := 128) zM192 q192_36 (by decide) g12_316 s82 rfl ?_
    refine zl zM192 q192_39 rfl ?_
    obtain ⟨hb, hw⟩ := hw
    refine ziA zM192 q192_41 (by decide) s128 hb (v := (h 128 (Int32.toNatClampNeg l5))) rfl ?_
    obtain ⟨hb, hw⟩ := hw
    refine ziS zM192 q192_42 (by decide) s127 hb rfl ?_
    refine zl zM192 q192_43 (ls' := [some (.ref 82), none, some (.int l2), none, none, some (.int (l5 + 1))]) rfl ?_
    refine zl zM192 q192_46 (pc' := 23) (ls' := _) (st' := _) rfl ?_
    exact hw
theorem b192_109 {X : Option (List Int32)} {d : Nat} {h : zH} {A : zH → Prop} {l1 : Int32} {l2 : Int32} {l3 : Int32} {l4 : Int32} {l5 : Int32} (hw : zP X (d + 1) 192 53 [some (.ref 82), some (.int l1), some (.int l2), some (.int l3), some (.int l4), some (.int (l5 + 1))] [] z_S0 h (zV A)) : zP X (d + 1) 192 109 [some (.ref 82), some (.int l1), some (.int l2), some (.int l3), some (.int l4), some (.int l5)] [] z_S0 h (zV A) := by
  refine zl zM192 q192_109 (ls' := [some (.ref 82), some (.int l1), some (.int l2), some (.int l3), some (.int l4), some (.int (l5 + 1))]) rfl ?_
  refine zl zM192 q192_112 (pc' := 53) (ls' := _) (st' := _) rfl ?_
  exact hw
-- X12_layAll
theorem b193 {X : Option (List Int32)} {d : Nat} {h : zH} {A : Int32 → zH → Prop} {a1 : Int32} (hw : zP X d 192 0 (z_ent [.ref 82, .int 0, .int a1, .int 0, .int 0] 6) [] z_S0 (z_up h 82 66 (-1)) (zV fun h3 => A (h3 82 66) h3)) : zP X (d + 1) 193 0 (z_ent [.ref 82, .int a1] 2) [] z_S0 h (zI A) := by
  show zP X (d + 1) 193 0 [some (.ref 82), some (.int a1)] [] z_S0 h (zI A)
  refine zl zM193 q193_0 rfl ?_
  refine zkI zM193 q193_1 kIm1 ?_
  refine zpi zM193 q193_2 (by decide) g12_413 s82 rfl rfl ?_
  refine zl zM193 q193_5 rfl ?_
  refine zkI zM193 q193_6 kI0 ?_
  refine zl zM193 q193_7 rfl ?_
  refine zkI zM193 q193_8 kI0 ?_
  refine zkI zM193 q193_9 kI0 ?_
  refine zcV zM193 q193_10 kl12_416 rfl rfl (Nat.le_of_ble_eq_true rfl) rfl zM192 (Nat.le_of_ble_eq_true rfl) (hw.mono (fun r0 h3 hr4 => ?_))
  obtain ⟨rfl, hw⟩ := hr4
  show zP X (d + 1) 193 13 [some (.ref 82), some (.int a1)] [] z_S0 h3 (zI A)
  refine zl zM193 q193_13 rfl ?_
  refine zgI zM193 q193_14 (by decide) g12_413 s82 rfl (v := (h3 82 66)) rfl ?_
  exact zri zM193 q193_17 rfl rfl hw
-- X12_laid
theorem b194 {X : Option (List Int32)} {d : Nat} {h : zH} {A : Int32 → zH → Prop} {a1 : Int32} {a2 : Int32} (hw : zP X d 128 0 (z_ent [.long (Int32.toInt64 a1), .long 0, .long 1023] 6) [] z_S0 h (zI fun v1 h2 => ((v1 = 0 → A (-2) h2) ∧ (¬ v1 = 0 → zP X (d + 1) 194 20 [some (.ref 82), some (.int a1), some (.int a2), some (.int 0), some (.int 0)] [] z_S0 h2 (zI A))))) : zP X (d + 1) 194 0 (z_ent [.ref 82, .int a1, .int a2] 5) [] z_S0 h (zI A) := by
  show zP X (d + 1) 194 0 [some (.ref 82), some (.int a1), some (.int a2), none, none] [] z_S0 h (zI A)
  refine zl zM194 q194_0 rfl ?_
  refine zl zM194 q194_1 (pc' := 2) (st' := .long (Int32.toInt64 a1) :: _) rfl ?_
  refine zkL (v := 0) zM194 q194_2 rfl ?_
  refine zkJ zM194 q194_3 kc12_420 ?_
  refine zcS zM194 q194_6 ky12_3 kl12_3 (by decide) rfl (Nat.le_of_ble_eq_true rfl) zM128 (Nat.le_of_ble_eq_true rfl) (hw.mono (fun r0 h2 hr3 => ?_))
  obtain ⟨v1, rfl, hw⟩ := hr3
  show zP X (d + 1) 194 9 [some (.ref 82), some (.int a1), some (.int a2), none, none] [.int v1] z_S0 h2 (zI A)
  refine zb1_ne zM194 q194_9 (tgt := 15) rfl (fun hc => ?_) (fun hc => ?_)
  · have hw := hw.2 hc
    refine zkI zM194 q194_15 kI0 ?_
    refine zl zM194 q194_16 (ls' := [some (.ref 82), some (.int a1), some (.int a2), some (.int 0), none]) rfl ?_
    refine zkI zM194 q194_17 kI0 ?_
    refine zl zM194 q194_18 (ls' := [some (.ref 82), some (.int a1), some (.int a2), some (.int 0), some (.int 0)]) rfl ?_
    exact hw
  · have hw := hw.1 hc
    refine zkB zM194 q194_12 kBm2 ?_
    exact zri zM194 q194_14 rfl rfl hw
theorem b194_20 {X : Option (List Int32)} {d : Nat} {h : zH} {A : Int32 → zH → Prop} {l1 : Int32} {l2 : Int32} {l3 : Int32} {l4 : Int32} (hw : ((l4 < 10 → ((((l1 >>> (l4 &&& 31)) &&& 1) = 1 → ((l3 = 5 → A (-2) h) ∧ (¬ l3 = 5 → (z_ib l3 5 ∧ zP X (d + 1) 194 56 [some (.ref 82), some (.int l1), some (.int l2), some (.int (l3 + 1)), some (.int l4)] [] z_S0 (z_up h 126 (Int32.toNatClampNeg l3) l4) (zI A))))) ∧ (¬ ((l1 >>> (l4 &&& 31)) &&& 1) = 1 → zP X (d + 1) 194 56 [some (.ref 82), some (.int l1), some (.int l2), some (.int l3), some (.int l4)] [] z_S0 h (zI A)))) ∧ (¬ l4 < 10 → ((l2 < (-1) → A (-1) h) ∧ (¬ l2 < (-1) → ((l2 < l3 → zP X d 193 0 (z_ent [.ref 82, .int l3] 2) [] z_S0 h (zI fun v4 h6 => ((l2 = (-1) → A v4 h6) ∧ (¬ l2 = (-1) → (z_ib l2 5 ∧ A (h6 127 (Int32.toNatClampNeg l2)) h6))))) ∧ (¬ l2 < l3 → A (-1) h))))))) : zP X (d + 1) 194 20 [some (.ref 82), some (.int l1), some (.int l2), some (.int l3), some (.int l4)] [] z_S0 h (zI A) := by
  refine zl zM194 q194_20 rfl ?_
  refine zkB zM194 q194_22 kB10 ?_
  refine zb2_ge zM194 q194_24 (tgt := 62) rfl (fun hc => ?_) (fun hc => ?_)
  · have hw := hw.2 hc
    refine zl zM194 q194_62 rfl ?_
    refine zkI zM194 q194_63 kIm1 ?_
    refine zb2_lt zM194 q194_64 (tgt := 72) rfl (fun hc => ?_) (fun hc => ?_)
    · have hw := hw.1 hc
      refine zkI zM194 q194_72 kIm1 ?_
      exact zri zM194 q194_73 rfl rfl hw
    · have hw := hw.2 hc
      refine zl zM194 q194_67 rfl ?_
      refine zl zM194 q194_68 rfl ?_
      refine zb2_lt zM194 q194_69 (tgt := 74) rfl (fun hc => ?_) (fun hc => ?_)
      · have hw := hw.1 hc
        refine zl zM194 q194_74 rfl ?_
        refine zl zM194 q194_75 rfl ?_
        refine zcV zM194 q194_76 kl12_422 rfl rfl (Nat.le_of_ble_eq_true rfl) rfl zM193 (Nat.le_of_ble_eq_true rfl) (hw.mono (fun r0 h6 hr7 => ?_))
        obtain ⟨v4, rfl, hw⟩ := hr7
        show zP X (d + 1) 194 79 [some (.ref 82), some (.int l1), some (.int l2), some (.int l3), some (.int l4)] [.int v4] z_S0 h6 (zI A)
        refine zl zM194 q194_79 (ls' := [some (.ref 82), some (.int l1), some (.int l2), some (.int l3), some (.int v4)]) rfl ?_
        refine zl zM194 q194_81 rfl ?_
        refine zkI zM194 q194_82 kIm1 ?_
        refine zb2_ne zM194 q194_83 (tgt := 91) rfl (fun hc => ?_) (fun hc => ?_)
        · have hw := hw.2 hc
          refine zl zM194 q194_91 rfl ?_
          refine zgR (a := 127) zM194 q194_92 (by decide) g12_313 s82 rfl ?_
          refine zl zM194 q194_95 rfl ?_
          obtain ⟨hb, hw⟩ := hw
          refine ziA zM194 q194_96 (by decide) s127 hb (v := (h6 127 (Int32.toNatClampNeg l2))) rfl ?_
          exact zri zM194 q194_97 rfl rfl hw
        · have hw := hw.1 hc
          refine zl zM194 q194_86 rfl ?_
          refine zl zM194 q194_88 (pc' := 97) (ls' := _) (st' := _) rfl ?_
          exact zri zM194 q194_97 rfl rfl hw
      · have hw := hw.2 hc
        refine zkI zM194 q194_72 kIm1 ?_
        exact zri zM194 q194_73 rfl rfl hw
  · have hw := hw.1 hc
    refine zl zM194 q194_27 rfl ?_
    refine zl zM194 q194_28 rfl ?_
    refine zl zM194 q194_30 (pc' := 31) (st' := .int (l1 >>> (l4 &&& 31)) :: _) rfl ?_
    refine zkI zM194 q194_31 kI1 ?_
    refine zl zM194 q194_32 (pc' := 33) (st' := .int ((l1 >>> (l4 &&& 31)) &&& 1) :: _) rfl ?_
    refine zkI zM194 q194_33 kI1 ?_
    refine zb2_ne zM194 q194_34 (tgt := 56) rfl (fun hc => ?_) (fun hc => ?_)
    · have hw := hw.2 hc
      exact hw
    · have hw := hw.1 hc
      refine zl zM194 q194_37 rfl ?_
      refine zkI zM194 q194_38 kI5 ?_
      refine zb2_ne zM194 q194_39 (tgt := 45) rfl (fun hc => ?_) (fun hc => ?_)
      · have hw := hw.2 hc
        refine zl zM194 q194_45 rfl ?_
        refine zgR (a := 126) zM194 q194_46 (by decide) g12_310 s82 rfl ?_
        refine zl zM194 q194_49 rfl ?_
        refine zl zM194 q194_50 rfl ?_
        obtain ⟨hb, hw⟩ := hw
        refine ziS zM194 q194_52 (by decide) s126 hb rfl ?_
        refine zl zM194 q194_53 (ls' := [some (.ref 82), some (.int l1), some (.int l2), some (.int (l3 + 1)), some (.int l4)]) rfl ?_
        exact hw
      · have hw := hw.1 hc
        refine zkB zM194 q194_42 kBm2 ?_
        exact zri zM194 q194_44 rfl rfl hw
theorem b194_56 {X : Option (List Int32)} {d : Nat} {h : zH} {A : Int32 → zH → Prop} {l1 : Int32} {l2 : Int32} {l3 : Int32} {l4 : Int32} (hw : zP X (d + 1) 194 20 [some (.ref 82), some (.int l1), some (.int l2), some (.int l3), some (.int (l4 + 1))] [] z_S0 h (zI A)) : zP X (d + 1) 194 56 [some (.ref 82), some (.int l1), some (.int l2), some (.int l3), some (.int l4)] [] z_S0 h (zI A) := by
  refine zl zM194 q194_56 (ls' := [some (.ref 82), some (.int l1), some (.int l2), some (.int l3), some (.int (l4 + 1))]) rfl ?_
  refine zl zM194 q194_59 (pc' := 20) (ls' := _) (st' := _) rfl ?_
  exact hw

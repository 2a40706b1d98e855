-- X12_await
theorem b159 {X : Option (List Int32)} {d : Nat} {h : zH} {A : zH → Prop} {a1 : Int32} (hw : (z_ib (h 82 33) 170 ∧ A (z_up (z_up h 105 (Int32.toNatClampNeg (h 82 33)) a1) 82 33 ((h 82 33) + 1)))) : zP X d 159 0 (z_ent [.ref 82, .int a1] 2) [] z_S0 h (zV A) := by
  show zP X d 159 0 [some (.ref 82), some (.int a1)] [] z_S0 h (zV A)
  refine zl zM159 q159_0 rfl ?_
  refine zgR (a := 105) zM159 q159_1 (by decide) g12_178 s82 rfl ?_
  refine zl zM159 q159_4 rfl ?_
  refine zgI zM159 q159_5 (by decide) g12_175 s82 rfl (v := (h 82 33)) rfl ?_
  refine zl zM159 q159_8 rfl ?_
  obtain ⟨hb, hw⟩ := hw
  refine ziS zM159 q159_9 (by decide) s105 hb rfl ?_
  refine zl zM159 q159_10 rfl ?_
  refine zl zM159 q159_11 rfl ?_
  refine zgI zM159 q159_12 (by decide) g12_175 s82 rfl (v := (h 82 33)) rfl ?_
  refine zkI zM159 q159_15 kI1 ?_
  refine zl zM159 q159_16 (pc' := 17) (st' := .int ((h 82 33) + 1) :: _) rfl ?_
  refine zpi zM159 q159_17 (by decide) g12_175 s82 rfl rfl ?_
  exact zrv zM159 q159_20 rfl hw
-- X12_between
theorem b160 {X : Option (List Int32)} {d : Nat} {h : zH} {A : Int32 → zH → Prop}  (hw : zP X d 154 0 (z_ent [.ref 82, .int 43] 2) [] z_S0 h (zI fun v1 h2 => ((v1 = 0 → zP X d 154 0 (z_ent [.ref 82, .int 45] 2) [] z_S0 h2 (zI fun v3 h4 => ((v3 = 0 → zP X d 154 0 (z_ent [.ref 82, .int 42] 2) [] z_S0 h4 (zI fun v5 h6 => ((v5 = 0 → zP X d 154 0 (z_ent [.ref 82, .int 60] 2) [] z_S0 h6 (zI fun v7 h8 => ((v7 = 0 → zP X d 154 0 (z_ent [.ref 82, .int 61] 2) [] z_S0 h8 (zI fun v9 h10 => ((v9 = 0 → zP X d 155 0 (z_ent [.ref 82, .int 4] 2) [] z_S0 h10 (zI fun v11 h12 => ((v11 = 0 → zP X d 155 0 (z_ent [.ref 82, .int 3] 2) [] z_S0 h12 (zI fun v13 h14 => ((v13 = 0 → zP X (d + 1) 160 97 [some (.ref 82), none] [.int (-1)] z_S0 h14 (zI A)) ∧ (¬ v13 = 0 → zP X (d + 1) 160 97 [some (.ref 82), none] [.int 12] z_S0 h14 (zI A))))) ∧ (¬ v11 = 0 → zP X (d + 1) 160 97 [some (.ref 82), none] [.int 11] z_S0 h12 (zI A))))) ∧ (¬ v9 = 0 → zP X (d + 1) 160 97 [some (.ref 82), none] [.int 10] z_S0 h10 (zI A))))) ∧ (¬ v7 = 0 → zP X (d + 1) 160 97 [some (.ref 82), none] [.int 9] z_S0 h8 (zI A))))) ∧ (¬ v5 = 0 → zP X (d + 1) 160 97 [some (.ref 82), none] [.int 8] z_S0 h6 (zI A))))) ∧ (¬ v3 = 0 → zP X (d + 1) 160 97 [some (.ref 82), none] [.int 7] z_S0 h4 (zI A))))) ∧ (¬ v1 = 0 → zP X (d + 1) 160 97 [some (.ref 82), none] [.int 6] z_S0 h2 (zI A))))) : zP X (d + 1) 160 0 (z_ent [.ref 82] 2) [] z_S0 h (zI A) := by
  show zP X (d + 1) 160 0 [some (.ref 82), none] [] z_S0 h (zI A)
  refine zl zM160 q160_0 rfl ?_
  refine zkB zM160 q160_1 kB43 ?_
  refine zcV zM160 q160_3 kl12_191 rfl rfl (Nat.le_of_ble_eq_true rfl) rfl zM154 (Nat.le_of_ble_eq_true rfl) (hw.mono (fun r0 h2 hr21 => ?_))
  obtain ⟨v1, rfl, hw⟩ := hr21
  show zP X (d + 1) 160 6 [some (.ref 82), none] [.int v1] z_S0 h2 (zI A)
  refine zb1_eq zM160 q160_6 (tgt := 14) rfl (fun hc => ?_) (fun hc => ?_)
  · have hw := hw.1 hc
    refine zl zM160 q160_14 rfl ?_
    refine zkB zM160 q160_15 kB45 ?_
    refine zcV zM160 q160_17 kl12_191 rfl rfl (Nat.le_of_ble_eq_true rfl) rfl zM154 (Nat.le_of_ble_eq_true rfl) (hw.mono (fun r0 h4 hr20 => ?_))
    obtain ⟨v3, rfl, hw⟩ := hr20
    show zP X (d + 1) 160 20 [some (.ref 82), none] [.int v3] z_S0 h4 (zI A)
    refine zb1_eq zM160 q160_20 (tgt := 28) rfl (fun hc => ?_) (fun hc => ?_)
    · have hw := hw.1 hc
      refine zl zM160 q160_28 rfl ?_
      refine zkB zM160 q160_29 kB42 ?_
      refine zcV zM160 q160_31 kl12_191 rfl rfl (Nat.le_of_ble_eq_true rfl) rfl zM154 (Nat.le_of_ble_eq_true rfl) (hw.mono (fun r0 h6 hr19 => ?_))
      obtain ⟨v5, rfl, hw⟩ := hr19
      show zP X (d + 1) 160 34 [some (.ref 82), none] [.int v5] z_S0 h6 (zI A)
      refine zb1_eq zM160 q160_34 (tgt := 42) rfl (fun hc => ?_) (fun hc => ?_)
      · have hw := hw.1 hc
        refine zl zM160 q160_42 rfl ?_
        refine zkB zM160 q160_43 kB60 ?_
        refine zcV zM160 q160_45 kl12_191 rfl rfl (Nat.le_of_ble_eq_true rfl) rfl zM154 (Nat.le_of_ble_eq_true rfl) (hw.mono (fun r0 h8 hr18 => ?_))
        obtain ⟨v7, rfl, hw⟩ := hr18
        show zP X (d + 1) 160 48 [some (.ref 82), none] [.int v7] z_S0 h8 (zI A)
        refine zb1_eq zM160 q160_48 (tgt := 56) rfl (fun hc => ?_) (fun hc => ?_)
        · have hw := hw.1 hc
          refine zl zM160 q160_56 rfl ?_
          refine zkB zM160 q160_57 kB61 ?_
          refine zcV zM160 q160_59 kl12_191 rfl rfl (Nat.le_of_ble_eq_true rfl) rfl zM154 (Nat.le_of_ble_eq_true rfl) (hw.mono (fun r0 h10 hr17 => ?_))
          obtain ⟨v9, rfl, hw⟩ := hr17
          show zP X (d + 1) 160 62 [some (.ref 82), none] [.int v9] z_S0 h10 (zI A)
          refine zb1_eq zM160 q160_62 (tgt := 70) rfl (fun hc => ?_) (fun hc => ?_)
          · have hw := hw.1 hc
            refine zl zM160 q160_70 rfl ?_
            refine zkI zM160 q160_71 kI4 ?_
            refine zcV zM160 q160_72 kl12_194 rfl rfl (Nat.le_of_ble_eq_true rfl) rfl zM155 (Nat.le_of_ble_eq_true rfl) (hw.mono (fun r0 h12 hr16 => ?_))
            obtain ⟨v11, rfl, hw⟩ := hr16
            show zP X (d + 1) 160 75 [some (.ref 82), none] [.int v11] z_S0 h12 (zI A)
            refine zb1_eq zM160 q160_75 (tgt := 83) rfl (fun hc => ?_) (fun hc => ?_)
            · have hw := hw.1 hc
              refine zl zM160 q160_83 rfl ?_
              refine zkI zM160 q160_84 kI3 ?_
              refine zcV zM160 q160_85 kl12_194 rfl rfl (Nat.le_of_ble_eq_true rfl) rfl zM155 (Nat.le_of_ble_eq_true rfl) (hw.mono (fun r0 h14 hr15 => ?_))
              obtain ⟨v13, rfl, hw⟩ := hr15
              show zP X (d + 1) 160 88 [some (.ref 82), none] [.int v13] z_S0 h14 (zI A)
              refine zb1_eq zM160 q160_88 (tgt := 96) rfl (fun hc => ?_) (fun hc => ?_)
              · have hw := hw.1 hc
                refine zkI zM160 q160_96 kIm1 ?_
                exact hw
              · have hw := hw.2 hc
                refine zkB zM160 q160_91 kB12 ?_
                refine zl zM160 q160_93 (pc' := 97) (ls' := _) (st' := _) rfl ?_
                exact hw
            · have hw := hw.2 hc
              refine zkB zM160 q160_78 kB11 ?_
              refine zl zM160 q160_80 (pc' := 97) (ls' := _) (st' := _) rfl ?_
              exact hw
          · have hw := hw.2 hc
            refine zkB zM160 q160_65 kB10 ?_
            refine zl zM160 q160_67 (pc' := 97) (ls' := _) (st' := _) rfl ?_
            exact hw
        · have hw := hw.2 hc
          refine zkB zM160 q160_51 kB9 ?_
          refine zl zM160 q160_53 (pc' := 97) (ls' := _) (st' := _) rfl ?_
          exact hw
      · have hw := hw.2 hc
        refine zkB zM160 q160_37 kB8 ?_
        refine zl zM160 q160_39 (pc' := 97) (ls' := _) (st' := _) rfl ?_
        exact hw
    · have hw := hw.2 hc
      refine zkB zM160 q160_23 kB7 ?_
      refine zl zM160 q160_25 (pc' := 97) (ls' := _) (st' := _) rfl ?_
      exact hw
  · have hw := hw.2 hc
    refine zkB zM160 q160_9 kB6 ?_
    refine zl zM160 q160_11 (pc' := 97) (ls' := _) (st' := _) rfl ?_
    exact hw
theorem b160_97 {X : Option (List Int32)} {d : Nat} {h : zH} {A : Int32 → zH → Prop} {w0 : Int32} (hw : ((w0 = (-1) → A 0 h) ∧ (¬ w0 = (-1) → zP X d 157 0 (z_ent [.int w0] 1) [] z_S0 h (zI fun v22 h23 => ((v22 = 4 → (z_ib (h23 82 35) 8 ∧ (((h23 106 (Int32.toNatClampNeg (h23 82 35))) = 0 → zP X (d + 1) 160 125 [some (.ref 82), some (.int w0)] [] z_S0 h23 (zI A)) ∧ (¬ (h23 106 (Int32.toNatClampNeg (h23 82 35))) = 0 → A 0 h23)))) ∧ (¬ v22 = 4 → zP X (d + 1) 160 125 [some (.ref 82), some (.int w0)] [] z_S0 h23 (zI A))))))) : zP X (d + 1) 160 97 [some (.ref 82), none] [.int w0] z_S0 h (zI A) := by
  refine zl zM160 q160_97 (ls' := [some (.ref 82), some (.int w0)]) rfl ?_
  refine zl zM160 q160_98 rfl ?_
  refine zkI zM160 q160_99 kIm1 ?_
  refine zb2_eq zM160 q160_100 (tgt := 123) rfl (fun hc => ?_) (fun hc => ?_)
  · have hw := hw.1 hc
    refine zkI zM160 q160_123 kI0 ?_
    exact zri zM160 q160_124 rfl rfl hw
  · have hw := hw.2 hc
    refine zl zM160 q160_103 rfl ?_
    refine zcS zM160 q160_104 ky12_181 kl12_181 (by decide) rfl (Nat.le_of_ble_eq_true rfl) zM157 (Nat.le_of_ble_eq_true rfl) (hw.mono (fun r0 h23 hr24 => ?_))
    obtain ⟨v22, rfl, hw⟩ := hr24
    show zP X (d + 1) 160 107 [some (.ref 82), some (.int w0)] [.int v22] z_S0 h23 (zI A)
    refine zkI zM160 q160_107 kI4 ?_
    refine zb2_ne zM160 q160_108 (tgt := 125) rfl (fun hc => ?_) (fun hc => ?_)
    · have hw := hw.2 hc
      exact hw
    · have hw := hw.1 hc
      refine zl zM160 q160_111 rfl ?_
      refine zgR (a := 106) zM160 q160_112 (by decide) g12_197 s82 rfl ?_
      refine zl zM160 q160_115 rfl ?_
      refine zgI zM160 q160_116 (by decide) g12_200 s82 rfl (v := (h23 82 35)) rfl ?_
      obtain ⟨hb, hw⟩ := hw
      refine zbA zM160 q160_119 (by decide) s106 (by decide) hb (v := (h23 106 (Int32.toNatClampNeg (h23 82 35)))) rfl ?_
      refine zb1_eq zM160 q160_120 (tgt := 125) rfl (fun hc => ?_) (fun hc => ?_)
      · have hw := hw.1 hc
        exact hw
      · have hw := hw.2 hc
        refine zkI zM160 q160_123 kI0 ?_
        exact zri zM160 q160_124 rfl rfl hw
theorem b160_125 {X : Option (List Int32)} {d : Nat} {h : zH} {A : Int32 → zH → Prop} {l1 : Int32} (hw : zP X d 157 0 (z_ent [.int l1] 1) [] z_S0 h (zI fun v25 h26 => zP X d 158 0 (z_ent [.ref 82, .int v25] 2) [] z_S0 h26 (zV fun h29 => zP X d 159 0 (z_ent [.ref 82, .int l1] 2) [] z_S0 h29 (zV fun h32 => zP X d 157 0 (z_ent [.int l1] 1) [] z_S0 h32 (zI fun v33 h34 => ((v33 = 4 → zP X (d + 1) 160 174 [none, none] [.int (h32 82 35), .ref 106] z_S0 h34 (zI A)) ∧ (¬ v33 = 4 → zP X d 157 0 (z_ent [.int l1] 1) [] z_S0 h34 (zI fun v35 h36 => (((4 : Int32) < v35 → (z_ib (h36 82 35) 8 ∧ (((h36 106 (Int32.toNatClampNeg (h36 82 35))) = 0 → zP X (d + 1) 160 178 [none, none] [.int (h32 82 35), .ref 106] z_S0 h36 (zI A)) ∧ (¬ (h36 106 (Int32.toNatClampNeg (h36 82 35))) = 0 → zP X (d + 1) 160 174 [none, none] [.int (h32 82 35), .ref 106] z_S0 h36 (zI A))))) ∧ (¬ (4 : Int32) < v35 → zP X (d + 1) 160 178 [none, none] [.int (h32 82 35), .ref 106] z_S0 h36 (zI A))))))))))) : zP X (d + 1) 160 125 [some (.ref 82), some (.int l1)] [] z_S0 h (zI A) := by
  refine zl zM160 q160_125 rfl ?_
  refine zl zM160 q160_126 rfl ?_
  refine zcS zM160 q160_127 ky12_181 kl12_181 (by decide) rfl (Nat.le_of_ble_eq_true rfl) zM157 (Nat.le_of_ble_eq_true rfl) (hw.mono (fun r0 h26 hr41 => ?_))
  obtain ⟨v25, rfl, hw⟩ := hr41
  show zP X (d + 1) 160 130 [some (.ref 82), some (.int l1)] [.int v25, .ref 82] z_S0 h26 (zI A)
  refine zcV zM160 q160_130 kl12_203 rfl rfl (Nat.le_of_ble_eq_true rfl) rfl zM158 (Nat.le_of_ble_eq_true rfl) (hw.mono (fun r0 h29 hr40 => ?_))
  obtain ⟨rfl, hw⟩ := hr40
  show zP X (d + 1) 160 133 [some (.ref 82), some (.int l1)] [] z_S0 h29 (zI A)
  refine zl zM160 q160_133 rfl ?_
  refine zl zM160 q160_134 rfl ?_
  refine zcV zM160 q160_135 kl12_206 rfl rfl (Nat.le_of_ble_eq_true rfl) rfl zM159 (Nat.le_of_ble_eq_true rfl) (hw.mono (fun r0 h32 hr39 => ?_))
  obtain ⟨rfl, hw⟩ := hr39
  show zP X (d + 1) 160 138 [some (.ref 82), some (.int l1)] [] z_S0 h32 (zI A)
  refine zl zM160 q160_138 rfl ?_
  refine zgR (a := 106) zM160 q160_139 (by decide) g12_197 s82 rfl ?_
  refine zl zM160 q160_142 rfl ?_
  refine zgI zM160 q160_143 (by decide) g12_200 s82 rfl (v := (h32 82 35)) rfl ?_
  refine zl zM160 q160_146 rfl ?_
  refine zcS zM160 q160_147 ky12_181 kl12_181 (by decide) rfl (Nat.le_of_ble_eq_true rfl) zM157 (Nat.le_of_ble_eq_true rfl) (hw.mono (fun r0 h34 hr38 => ?_))
  obtain ⟨v33, rfl, hw⟩ := hr38
  show zP X (d + 1) 160 150 [some (.ref 82), some (.int l1)] [.int v33, .int (h32 82 35), .ref 106] z_S0 h34 (zI A)
  refine zkI zM160 q160_150 kI4 ?_
  refine zb2_eq zM160 q160_151 (tgt := 174) rfl (fun hc => ?_) (fun hc => ?_)
  · have hw := hw.1 hc
    refine zweak (a := [none, none]) ?_ hw
    exact trivial
  · have hw := hw.2 hc
    refine zl zM160 q160_154 rfl ?_
    refine zcS zM160 q160_155 ky12_181 kl12_181 (by decide) rfl (Nat.le_of_ble_eq_true rfl) zM157 (Nat.le_of_ble_eq_true rfl) (hw.mono (fun r0 h36 hr37 => ?_))
    obtain ⟨v35, rfl, hw⟩ := hr37
    show zP X (d + 1) 160 158 [some (.ref 82), some (.int l1)] [.int v35, .int (h32 82 35), .ref 106] z_S0 h36 (zI A)
    refine zkI zM160 q160_158 kI4 ?_
    refine zb2_le zM160 q160_159 (tgt := 178) rfl (fun hc => ?_) (fun hc => ?_)
    · have hw := hw.2 hc
      refine zweak (a := [none, none]) ?_ hw
      exact trivial
    · have hw := hw.1 hc
      refine zl zM160 q160_162 rfl ?_
      refine zgR (a := 106) zM160 q160_163 (by decide) g12_197 s82 rfl ?_
      refine zl zM160 q160_166 rfl ?_
      refine zgI zM160 q160_167 (by decide) g12_200 s82 rfl (v := (h36 82 35)) rfl ?_
      obtain ⟨hb, hw⟩ := hw
      refine zbA zM160 q160_170 (by decide) s106 (by decide) hb (v := (h36 106 (Int32.toNatClampNeg (h36 82 35)))) rfl ?_
      refine zb1_eq zM160 q160_171 (tgt := 178) rfl (fun hc => ?_) (fun hc => ?_)
      · have hw := hw.1 hc
        refine zweak (a := [none, none]) ?_ hw
        exact trivial
      · have hw := hw.2 hc
        refine zweak (a := [none, none]) ?_ hw
        exact trivial
theorem b160_174 {X : Option (List Int32)} {d : Nat} {h : zH} {A : Int32 → zH → Prop} {w1 : Int32} (hw : (z_ib w1 8 ∧ A 1 (z_up h 106 (Int32.toNatClampNeg w1) 1))) : zP X (d + 1) 160 174 [none, none] [.int w1, .ref 106] z_S0 h (zI A) := by
  refine zkI zM160 q160_174 kI1 ?_
  refine zl zM160 q160_175 (pc' := 179) (ls' := _) (st' := _) rfl ?_
  obtain ⟨hb, hw⟩ := hw
  refine zbS zM160 q160_179 (by decide) s106 (by decide) hb rfl (w := 1) rfl ?_
  refine zkI zM160 q160_180 kI1 ?_
  exact zri zM160 q160_181 rfl rfl hw
theorem b160_178 {X : Option (List Int32)} {d : Nat} {h : zH} {A : Int32 → zH → Prop} {w1 : Int32} (hw : (z_ib w1 8 ∧ A 1 (z_up h 106 (Int32.toNatClampNeg w1) 0))) : zP X (d + 1) 160 178 [none, none] [.int w1, .ref 106] z_S0 h (zI A) := by
  refine zkI zM160 q160_178 kI0 ?_
  obtain ⟨hb, hw⟩ := hw
  refine zbS zM160 q160_179 (by decide) s106 (by decide) hb rfl (w := 0) rfl ?_
  refine zkI zM160 q160_180 kI1 ?_
  exact zri zM160 q160_181 rfl rfl hw
-- X12_closes
theorem b161 {X : Option (List Int32)} {d : Nat} {h : zH} {A : Int32 → zH → Prop}  (hw : zP X d 154 0 (z_ent [.ref 82, .int 41] 2) [] z_S0 h (zI fun v1 h2 => ((v1 = 0 → A 0 h2) ∧ (¬ v1 = 0 → (((h2 82 35) = 0 → A 0 h2) ∧ (¬ (h2 82 35) = 0 → zP X d 158 0 (z_ent [.ref 82, .int 1] 2) [] z_S0 h2 (zV fun h5 => zP X d 158 0 (z_ent [.ref 82, .int 7] 2) [] z_S0 (z_up (z_up (z_up h5 82 33 ((h5 82 33) - 1)) 82 35 ((h5 82 35) - 1)) 82 34 ((h5 82 34) - 1)) (zV fun h8 => A 1 h8)))))))) : zP X (d + 1) 161 0 (z_ent [.ref 82] 1) [] z_S0 h (zI A) := by
  show zP X (d + 1) 161 0 [some (.ref 82)] [] z_S0 h (zI A)
  refine zl zM161 q161_0 rfl ?_
  refine zkB zM161 q161_1 kB41 ?_
  refine zcV zM161 q161_3 kl12_191 rfl rfl (Nat.le_of_ble_eq_true rfl) rfl zM154 (Nat.le_of_ble_eq_true rfl) (hw.mono (fun r0 h2 hr11 => ?_))
  obtain ⟨v1, rfl, hw⟩ := hr11
  show zP X (d + 1) 161 6 [some (.ref 82)] [.int v1] z_S0 h2 (zI A)
  refine zb1_eq zM161 q161_6 (tgt := 16) rfl (fun hc => ?_) (fun hc => ?_)
  · have hw := hw.1 hc
    refine zkI zM161 q161_16 kI0 ?_
    exact zri zM161 q161_17 rfl rfl hw
  · have hw := hw.2 hc
    refine zl zM161 q161_9 rfl ?_
    refine zgI zM161 q161_10 (by decide) g12_200 s82 rfl (v := (h2 82 35)) rfl ?_
    refine zb1_ne zM161 q161_13 (tgt := 18) rfl (fun hc => ?_) (fun hc => ?_)
    · have hw := hw.2 hc
      refine zl zM161 q161_18 rfl ?_
      refine zkI zM161 q161_19 kI1 ?_
      refine zcV zM161 q161_20 kl12_203 rfl rfl (Nat.le_of_ble_eq_true rfl) rfl zM158 (Nat.le_of_ble_eq_true rfl) (hw.mono (fun r0 h5 hr10 => ?_))
      obtain ⟨rfl, hw⟩ := hr10
      show zP X (d + 1) 161 23 [some (.ref 82)] [] z_S0 h5 (zI A)
      refine zl zM161 q161_23 rfl ?_
      refine zl zM161 q161_24 rfl ?_
      refine zgI zM161 q161_25 (by decide) g12_175 s82 rfl (v := (h5 82 33)) rfl ?_
      refine zkI zM161 q161_28 kI1 ?_
      refine zl zM161 q161_29 (pc' := 30) (st' := .int ((h5 82 33) - 1) :: _) rfl ?_
      refine zpi zM161 q161_30 (by decide) g12_175 s82 rfl rfl ?_
      refine zl zM161 q161_33 rfl ?_
      refine zl zM161 q161_34 rfl ?_
      refine zgI zM161 q161_35 (by decide) g12_200 s82 rfl (v := (h5 82 35)) rfl ?_
      refine zkI zM161 q161_38 kI1 ?_
      refine zl zM161 q161_39 (pc' := 40) (st' := .int ((h5 82 35) - 1) :: _) rfl ?_
      refine zpi zM161 q161_40 (by decide) g12_200 s82 rfl rfl ?_
      refine zl zM161 q161_43 rfl ?_
      refine zl zM161 q161_44 rfl ?_
      refine zgI zM161 q161_45 (by decide) g12_184 s82 rfl (v := (h5 82 34)) rfl ?_
      refine zkI zM161 q161_48 kI1 ?_
      refine zl zM161 q161_49 (pc' := 50) (st' := .int ((h5 82 34) - 1) :: _) rfl ?_
      refine zpi zM161 q161_50 (by decide) g12_184 s82 rfl rfl ?_
      refine zl zM161 q161_53 rfl ?_
      refine zkB zM161 q161_54 kB7 ?_
      refine zcV zM161 q161_56 kl12_203 rfl rfl (Nat.le_of_ble_eq_true rfl) rfl zM158 (Nat.le_of_ble_eq_true rfl) (hw.mono (fun r0 h8 hr9 => ?_))
      obtain ⟨rfl, hw⟩ := hr9
      show zP X (d + 1) 161 59 [some (.ref 82)] [] z_S0 h8 (zI A)
      refine zkI zM161 q161_59 kI1 ?_
      exact zri zM161 q161_60 rfl rfl hw
    · have hw := hw.1 hc
      refine zkI zM161 q161_16 kI0 ?_
      exact zri zM161 q161_17 rfl rfl hw
-- X12_ahead
theorem b162 {X : Option (List Int32)} {d : Nat} {h : zH} {A : Int32 → zH → Prop} {a1 : Int32} (hw : zP X d 154 0 (z_ent [.ref 82, .int 40] 2) [] z_S0 h (zI fun v1 h2 => ((v1 = 0 → zP X d 154 0 (z_ent [.ref 82, .int 45] 2) [] z_S0 h2 (zI fun v3 h4 => ((v3 = 0 → ((a1 = 0 → zP X (d + 1) 162 34 [some (.ref 82), none, none] [] z_S0 h4 (zI A)) ∧ (¬ a1 = 0 → zP X d 155 0 (z_ent [.ref 82, .int 5] 2) [] z_S0 h4 (zI fun v5 h6 => ((v5 = 0 → zP X (d + 1) 162 34 [some (.ref 82), none, none] [] z_S0 h6 (zI A)) ∧ (¬ v5 = 0 → zP X (d + 1) 162 30 [some (.ref 82), none, none] [] z_S0 h6 (zI A))))))) ∧ (¬ v3 = 0 → zP X (d + 1) 162 30 [some (.ref 82), none, none] [] z_S0 h4 (zI A))))) ∧ (¬ v1 = 0 → zP X (d + 1) 162 30 [some (.ref 82), none, none] [] z_S0 h2 (zI A))))) : zP X (d + 1) 162 0 (z_ent [.ref 82, .int a1] 3) [] z_S0 h (zI A) := by
  show zP X (d + 1) 162 0 [some (.ref 82), some (.int a1), none] [] z_S0 h (zI A)
  refine zl zM162 q162_0 rfl ?_
  refine zkB zM162 q162_1 kB40 ?_
  refine zcV zM162 q162_3 kl12_191 rfl rfl (Nat.le_of_ble_eq_true rfl) rfl zM154 (Nat.le_of_ble_eq_true rfl) (hw.mono (fun r0 h2 hr9 => ?_))
  obtain ⟨v1, rfl, hw⟩ := hr9
  show zP X (d + 1) 162 6 [some (.ref 82), some (.int a1), none] [.int v1] z_S0 h2 (zI A)
  refine zb1_ne zM162 q162_6 (tgt := 30) rfl (fun hc => ?_) (fun hc => ?_)
  · have hw := hw.2 hc
    refine zweak (a := [some (.ref 82), none, none]) ?_ hw
    exact ⟨rfl, trivial⟩
  · have hw := hw.1 hc
    refine zl zM162 q162_9 rfl ?_
    refine zkB zM162 q162_10 kB45 ?_
    refine zcV zM162 q162_12 kl12_191 rfl rfl (Nat.le_of_ble_eq_true rfl) rfl zM154 (Nat.le_of_ble_eq_true rfl) (hw.mono (fun r0 h4 hr8 => ?_))
    obtain ⟨v3, rfl, hw⟩ := hr8
    show zP X (d + 1) 162 15 [some (.ref 82), some (.int a1), none] [.int v3] z_S0 h4 (zI A)
    refine zb1_ne zM162 q162_15 (tgt := 30) rfl (fun hc => ?_) (fun hc => ?_)
    · have hw := hw.2 hc
      refine zweak (a := [some (.ref 82), none, none]) ?_ hw
      exact ⟨rfl, trivial⟩
    · have hw := hw.1 hc
      refine zl zM162 q162_18 rfl ?_
      refine zb1_eq zM162 q162_19 (tgt := 34) rfl (fun hc => ?_) (fun hc => ?_)
      · have hw := hw.1 hc
        refine zweak (a := [some (.ref 82), none, none]) ?_ hw
        exact ⟨rfl, trivial⟩
      · have hw := hw.2 hc
        refine zl zM162 q162_22 rfl ?_
        refine zkI zM162 q162_23 kI5 ?_
        refine zcV zM162 q162_24 kl12_194 rfl rfl (Nat.le_of_ble_eq_true rfl) rfl zM155 (Nat.le_of_ble_eq_true rfl) (hw.mono (fun r0 h6 hr7 => ?_))
        obtain ⟨v5, rfl, hw⟩ := hr7
        show zP X (d + 1) 162 27 [some (.ref 82), some (.int a1), none] [.int v5] z_S0 h6 (zI A)
        refine zb1_eq zM162 q162_27 (tgt := 34) rfl (fun hc => ?_) (fun hc => ?_)
        · have hw := hw.1 hc
          refine zweak (a := [some (.ref 82), none, none]) ?_ hw
          exact ⟨rfl, trivial⟩
        · have hw := hw.2 hc
          refine zweak (a := [some (.ref 82), none, none]) ?_ hw
          exact ⟨rfl, trivial⟩
theorem b162_30 {X : Option (List Int32)} {d : Nat} {h : zH} {A : Int32 → zH → Prop}  (hw : zP X (d + 1) 162 35 [some (.ref 82), none, none] [.int 1] z_S0 h (zI A)) : zP X (d + 1) 162 30 [some (.ref 82), none, none] [] z_S0 h (zI A) := by
  refine zkI zM162 q162_30 kI1 ?_
  refine zl zM162 q162_31 (pc' := 35) (ls' := _) (st' := _) rfl ?_
  exact hw
theorem b162_34 {X : Option (List Int32)} {d : Nat} {h : zH} {A : Int32 → zH → Prop}  (hw : zP X (d + 1) 162 35 [some (.ref 82), none, none] [.int 0] z_S0 h (zI A)) : zP X (d + 1) 162 34 [some (.ref 82), none, none] [] z_S0 h (zI A) := by
  refine zkI zM162 q162_34 kI0 ?_
  exact hw
theorem b162_35 {X : Option (List Int32)} {d : Nat} {h : zH} {A : Int32 → zH → Prop} {w0 : Int32} (hw : ((w0 = 0 → A 0 h) ∧ (¬ w0 = 0 → (((h 82 34) = 5 → A 0 h) ∧ (¬ (h 82 34) = 5 → zP X d 154 0 (z_ent [.ref 82, .int 40] 2) [] z_S0 (z_up h 82 34 ((h 82 34) + 1)) (zI fun v10 h11 => ((v10 = 0 → (((h11 82 27) = 4 → zP X d 159 0 (z_ent [.ref 82, .int 13] 2) [] z_S0 h11 (zV fun h18 => A 1 h18)) ∧ (¬ (h11 82 27) = 4 → zP X d 159 0 (z_ent [.ref 82, .int 14] 2) [] z_S0 h11 (zV fun h14 => A 1 h14)))) ∧ (¬ v10 = 0 → zP X d 159 0 (z_ent [.ref 82, .int 15] 2) [] z_S0 h11 (zV fun h22 => (z_ib ((h22 82 35) + 1) 8 ∧ A 1 (z_up (z_up h22 82 35 ((h22 82 35) + 1)) 106 (Int32.toNatClampNeg ((h22 82 35) + 1)) 0))))))))))) : zP X (d + 1) 162 35 [some (.ref 82), none, none] [.int w0] z_S0 h (zI A) := by
  refine zl zM162 q162_35 (ls' := [some (.ref 82), none, some (.int w0)]) rfl ?_
  refine zl zM162 q162_36 rfl ?_
  refine zb1_eq zM162 q162_37 (tgt := 48) rfl (fun hc => ?_) (fun hc => ?_)
  · have hw := hw.1 hc
    refine zkI zM162 q162_48 kI0 ?_
    exact zri zM162 q162_49 rfl rfl hw
  · have hw := hw.2 hc
    refine zl zM162 q162_40 rfl ?_
    refine zgI zM162 q162_41 (by decide) g12_184 s82 rfl (v := (h 82 34)) rfl ?_
    refine zkI zM162 q162_44 kI5 ?_
    refine zb2_ne zM162 q162_45 (tgt := 50) rfl (fun hc => ?_) (fun hc => ?_)
    · have hw := hw.2 hc
      refine zl zM162 q162_50 rfl ?_
      refine zl zM162 q162_51 rfl ?_
      refine zgI zM162 q162_52 (by decide) g12_184 s82 rfl (v := (h 82 34)) rfl ?_
      refine zkI zM162 q162_55 kI1 ?_
      refine zl zM162 q162_56 (pc' := 57) (st' := .int ((h 82 34) + 1) :: _) rfl ?_
      refine zpi zM162 q162_57 (by decide) g12_184 s82 rfl rfl ?_
      refine zl zM162 q162_60 rfl ?_
      refine zkB zM162 q162_61 kB40 ?_
      refine zcV zM162 q162_63 kl12_191 rfl rfl (Nat.le_of_ble_eq_true rfl) rfl zM154 (Nat.le_of_ble_eq_true rfl) (hw.mono (fun r0 h11 hr24 => ?_))
      obtain ⟨v10, rfl, hw⟩ := hr24
      show zP X (d + 1) 162 66 [some (.ref 82), none, some (.int w0)] [.int v10] z_S0 h11 (zI A)
      refine zb1_eq zM162 q162_66 (tgt := 98) rfl (fun hc => ?_) (fun hc => ?_)
      · have hw := hw.1 hc
        refine zl zM162 q162_98 rfl ?_
        refine zl zM162 q162_99 rfl ?_
        refine zgI zM162 q162_100 (by decide) g12_140 s82 rfl (v := (h11 82 27)) rfl ?_
        refine zkI zM162 q162_103 kI4 ?_
        refine zb2_ne zM162 q162_104 (tgt := 112) rfl (fun hc => ?_) (fun hc => ?_)
        · have hw := hw.2 hc
          refine zkB zM162 q162_112 kB14 ?_
          refine zcV zM162 q162_114 kl12_206 rfl rfl (Nat.le_of_ble_eq_true rfl) rfl zM159 (Nat.le_of_ble_eq_true rfl) (hw.mono (fun r0 h14 hr15 => ?_))
          obtain ⟨rfl, hw⟩ := hr15
          show zP X (d + 1) 162 117 [some (.ref 82), none, some (.int w0)] [] z_S0 h14 (zI A)
          refine zkI zM162 q162_117 kI1 ?_
          exact zri zM162 q162_118 rfl rfl hw
        · have hw := hw.1 hc
          refine zkB zM162 q162_107 kB13 ?_
          refine zl zM162 q162_109 (pc' := 114) (ls' := _) (st' := _) rfl ?_
          refine zcV zM162 q162_114 kl12_206 rfl rfl (Nat.le_of_ble_eq_true rfl) rfl zM159 (Nat.le_of_ble_eq_true rfl) (hw.mono (fun r0 h18 hr19 => ?_))
          obtain ⟨rfl, hw⟩ := hr19
          show zP X (d + 1) 162 117 [some (.ref 82), none, some (.int w0)] [] z_S0 h18 (zI A)
          refine zkI zM162 q162_117 kI1 ?_
          exact zri zM162 q162_118 rfl rfl hw
      · have hw := hw.2 hc
        refine zl zM162 q162_69 rfl ?_
        refine zkB zM162 q162_70 kB15 ?_
        refine zcV zM162 q162_72 kl12_206 rfl rfl (Nat.le_of_ble_eq_true rfl) rfl zM159 (Nat.le_of_ble_eq_true rfl) (hw.mono (fun r0 h22 hr23 => ?_))
        obtain ⟨rfl, hw⟩ := hr23
        show zP X (d + 1) 162 75 [some (.ref 82), none, some (.int w0)] [] z_S0 h22 (zI A)
        refine zl zM162 q162_75 rfl ?_
        refine zl zM162 q162_76 rfl ?_
        refine zgI zM162 q162_77 (by decide) g12_200 s82 rfl (v := (h22 82 35)) rfl ?_
        refine zkI zM162 q162_80 kI1 ?_
        refine zl zM162 q162_81 (pc' := 82) (st' := .int ((h22 82 35) + 1) :: _) rfl ?_
        refine zpi zM162 q162_82 (by decide) g12_200 s82 rfl rfl ?_
        refine zl zM162 q162_85 rfl ?_
        refine zgR (a := 106) zM162 q162_86 (by decide) g12_197 s82 rfl ?_
        refine zl zM162 q162_89 rfl ?_
        refine zgI zM162 q162_90 (by decide) g12_200 s82 rfl (v := ((h22 82 35) + 1)) rfl ?_
        refine zkI zM162 q162_93 kI0 ?_
        obtain ⟨hb, hw⟩ := hw
        refine zbS zM162 q162_94 (by decide) s106 (by decide) hb rfl (w := 0) rfl ?_
        refine zl zM162 q162_95 (pc' := 117) (ls' := _) (st' := _) rfl ?_
        refine zkI zM162 q162_117 kI1 ?_
        exact zri zM162 q162_118 rfl rfl hw
    · have hw := hw.1 hc
      refine zkI zM162 q162_48 kI0 ?_
      exact zri zM162 q162_49 rfl rfl hw
-- X12_readE
theorem b163 {X : Option (List Int32)} {d : Nat} {h : zH} {A : Int32 → zH → Prop} {a1 : Int32} (hw : zP X (d + 1) 163 40 [some (.ref 82), some (.int a1), some (.int 1), some (.int 1), none] [] z_S0 (z_up (z_up (z_up (z_up (z_up (z_up h 82 37 (160 * a1)) 82 38 0) 82 33 0) 82 34 0) 82 35 0) 106 0 0) (zI A)) : zP X (d + 1) 163 0 (z_ent [.ref 82, .int a1] 5) [] z_S0 h (zI A) := by
  show zP X (d + 1) 163 0 [some (.ref 82), some (.int a1), none, none, none] [] z_S0 h (zI A)
  refine zl zM163 q163_0 rfl ?_
  refine zkS zM163 q163_1 kS160 ?_
  refine zl zM163 q163_4 rfl ?_
  refine zl zM163 q163_5 (pc' := 6) (st' := .int (160 * a1) :: _) rfl ?_
  refine zpi zM163 q163_6 (by decide) g12_169 s82 rfl rfl ?_
  refine zl zM163 q163_9 rfl ?_
  refine zkI zM163 q163_10 kI0 ?_
  refine zpi zM163 q163_11 (by decide) g12_172 s82 rfl rfl ?_
  refine zl zM163 q163_14 rfl ?_
  refine zkI zM163 q163_15 kI0 ?_
  refine zpi zM163 q163_16 (by decide) g12_175 s82 rfl rfl ?_
  refine zl zM163 q163_19 rfl ?_
  refine zkI zM163 q163_20 kI0 ?_
  refine zpi zM163 q163_21 (by decide) g12_184 s82 rfl rfl ?_
  refine zl zM163 q163_24 rfl ?_
  refine zkI zM163 q163_25 kI0 ?_
  refine zpi zM163 q163_26 (by decide) g12_200 s82 rfl rfl ?_
  refine zl zM163 q163_29 rfl ?_
  refine zgR (a := 106) zM163 q163_30 (by decide) g12_197 s82 rfl ?_
  refine zkI zM163 q163_33 kI0 ?_
  refine zkI zM163 q163_34 kI0 ?_
  refine zbS (j := 0) zM163 q163_35 (by decide) s106 (by decide) (by decide) rfl (w := 0) rfl ?_
  refine zkI zM163 q163_36 kI1 ?_
  refine zl zM163 q163_37 (ls' := [some (.ref 82), some (.int a1), some (.int 1), none, none]) rfl ?_
  refine zkI zM163 q163_38 kI1 ?_
  refine zl zM163 q163_39 (ls' := [some (.ref 82), some (.int a1), some (.int 1), some (.int 1), none]) rfl ?_
  exact hw
theorem b163_40 {X : Option (List Int32)} {d : Nat} {h : zH} {A : Int32 → zH → Prop} {l1 : Int32} {l2 : Int32} {l3 : Int32} (hw : ((l2 = 0 → zP X (d + 1) 163 96 [some (.ref 82), some (.int l1), some (.int l2), some (.int l3), none] [] z_S0 h (zI A)) ∧ (¬ l2 = 0 → (((h 82 27) = 1 → zP X (d + 1) 163 60 [some (.ref 82), some (.int l1), none, some (.int l3), none] [] z_S0 h (zI A)) ∧ (¬ (h 82 27) = 1 → (((h 82 27) = 2 → zP X (d + 1) 163 60 [some (.ref 82), some (.int l1), none, some (.int l3), none] [] z_S0 h (zI A)) ∧ (¬ (h 82 27) = 2 → zP X (d + 1) 163 96 [some (.ref 82), some (.int l1), some (.int l2), some (.int l3), none] [] z_S0 h (zI A)))))))) : zP X (d + 1) 163 40 [some (.ref 82), some (.int l1), some (.int l2), some (.int l3), none] [] z_S0 h (zI A) := by
  refine zl zM163 q163_40 rfl ?_
  refine zb1_eq zM163 q163_41 (tgt := 96) rfl (fun hc => ?_) (fun hc => ?_)
  · have hw := hw.1 hc
    exact hw
  · have hw := hw.2 hc
    refine zl zM163 q163_44 rfl ?_
    refine zgI zM163 q163_45 (by decide) g12_140 s82 rfl (v := (h 82 27)) rfl ?_
    refine zkI zM163 q163_48 kI1 ?_
    refine zb2_eq zM163 q163_49 (tgt := 60) rfl (fun hc => ?_) (fun hc => ?_)
    · have hw := hw.1 hc
      refine zweak (a := [some (.ref 82), some (.int l1), none, some (.int l3), none]) ?_ hw
      exact ⟨rfl, ⟨rfl, ⟨rfl, trivial⟩⟩⟩
    · have hw := hw.2 hc
      refine zl zM163 q163_52 rfl ?_
      refine zgI zM163 q163_53 (by decide) g12_140 s82 rfl (v := (h 82 27)) rfl ?_
      refine zkI zM163 q163_56 kI2 ?_
      refine zb2_ne zM163 q163_57 (tgt := 96) rfl (fun hc => ?_) (fun hc => ?_)
      · have hw := hw.2 hc
        exact hw
      · have hw := hw.1 hc
        refine zweak (a := [some (.ref 82), some (.int l1), none, some (.int l3), none]) ?_ hw
        exact ⟨rfl, ⟨rfl, ⟨rfl, trivial⟩⟩⟩
theorem b163_96 {X : Option (List Int32)} {d : Nat} {h : zH} {A : Int32 → zH → Prop} {l1 : Int32} {l2 : Int32} {l3 : Int32} (hw : ((l2 = 0 → zP X d 154 0 (z_ent [.ref 82, .int 59] 2) [] z_S0 h (zI fun v1 h2 => ((v1 = 0 → zP X (d + 1) 163 165 [some (.ref 82), some (.int l1), some (.int l2), some (.int l3), none] [] z_S0 h2 (zI A)) ∧ (¬ v1 = 0 → (((h2 82 35) = 0 → zP X d 158 0 (z_ent [.ref 82, .int 1] 2) [] z_S0 h2 (zV fun h5 => (z_ib l1 18 ∧ A 1 (z_up h5 102 (Int32.toNatClampNeg l1) (h5 82 38))))) ∧ (¬ (h2 82 35) = 0 → zP X (d + 1) 163 165 [some (.ref 82), some (.int l1), some (.int l2), some (.int l3), none] [] z_S0 h2 (zI A))))))) ∧ (¬ l2 = 0 → zP X d 154 0 (z_ent [.ref 82, .int 45] 2) [] z_S0 h (zI fun v8 h9 => zP X d 162 0 (z_ent [.ref 82, .int l3] 3) [] z_S0 h9 (zI fun v10 h12 => ((v10 = 0 → A 0 h12) ∧ (¬ v10 = 0 → ((v8 = 0 → zP X (d + 1) 163 128 [some (.ref 82), some (.int l1), some (.int l2), none, none] [.int 1] z_S0 h12 (zI A)) ∧ (¬ v8 = 0 → zP X (d + 1) 163 128 [some (.ref 82), some (.int l1), some (.int l2), none, none] [.int 0] z_S0 h12 (zI A)))))))))) : zP X (d + 1) 163 96 [some (.ref 82), some (.int l1), some (.int l2), some (.int l3), none] [] z_S0 h (zI A) := by
  refine zl zM163 q163_96 rfl ?_
  refine zb1_eq zM163 q163_97 (tgt := 132) rfl (fun hc => ?_) (fun hc => ?_)
  · have hw := hw.1 hc
    refine zl zM163 q163_132 rfl ?_
    refine zkB zM163 q163_133 kB59 ?_
    refine zcV zM163 q163_135 kl12_191 rfl rfl (Nat.le_of_ble_eq_true rfl) rfl zM154 (Nat.le_of_ble_eq_true rfl) (hw.mono (fun r0 h2 hr7 => ?_))
    obtain ⟨v1, rfl, hw⟩ := hr7
    show zP X (d + 1) 163 138 [some (.ref 82), some (.int l1), some (.int l2), some (.int l3), none] [.int v1] z_S0 h2 (zI A)
    refine zb1_eq zM163 q163_138 (tgt := 165) rfl (fun hc => ?_) (fun hc => ?_)
    · have hw := hw.1 hc
      exact hw
    · have hw := hw.2 hc
      refine zl zM163 q163_141 rfl ?_
      refine zgI zM163 q163_142 (by decide) g12_200 s82 rfl (v := (h2 82 35)) rfl ?_
      refine zb1_ne zM163 q163_145 (tgt := 165) rfl (fun hc => ?_) (fun hc => ?_)
      · have hw := hw.2 hc
        exact hw
      · have hw := hw.1 hc
        refine zl zM163 q163_148 rfl ?_
        refine zkI zM163 q163_149 kI1 ?_
        refine zcV zM163 q163_150 kl12_203 rfl rfl (Nat.le_of_ble_eq_true rfl) rfl zM158 (Nat.le_of_ble_eq_true rfl) (hw.mono (fun r0 h5 hr6 => ?_))
        obtain ⟨rfl, hw⟩ := hr6
        show zP X (d + 1) 163 153 [some (.ref 82), some (.int l1), some (.int l2), some (.int l3), none] [] z_S0 h5 (zI A)
        refine zl zM163 q163_153 rfl ?_
        refine zgR (a := 102) zM163 q163_154 (by decide) g12_213 s82 rfl ?_
        refine zl zM163 q163_157 rfl ?_
        refine zl zM163 q163_158 rfl ?_
        refine zgI zM163 q163_159 (by decide) g12_172 s82 rfl (v := (h5 82 38)) rfl ?_
        obtain ⟨hb, hw⟩ := hw
        refine ziS zM163 q163_162 (by decide) s102 hb rfl ?_
        refine zkI zM163 q163_163 kI1 ?_
        exact zri zM163 q163_164 rfl rfl hw
  · have hw := hw.2 hc
    refine zl zM163 q163_100 rfl ?_
    refine zkB zM163 q163_101 kB45 ?_
    refine zcV zM163 q163_103 kl12_191 rfl rfl (Nat.le_of_ble_eq_true rfl) rfl zM154 (Nat.le_of_ble_eq_true rfl) (hw.mono (fun r0 h9 hr14 => ?_))
    obtain ⟨v8, rfl, hw⟩ := hr14
    show zP X (d + 1) 163 106 [some (.ref 82), some (.int l1), some (.int l2), some (.int l3), none] [.int v8] z_S0 h9 (zI A)
    refine zl zM163 q163_106 (ls' := [some (.ref 82), some (.int l1), some (.int l2), some (.int l3), some (.int v8)]) rfl ?_
    refine zl zM163 q163_108 rfl ?_
    refine zl zM163 q163_109 rfl ?_
    refine zcV zM163 q163_110 kl12_209 rfl rfl (Nat.le_of_ble_eq_true rfl) rfl zM162 (Nat.le_of_ble_eq_true rfl) (hw.mono (fun r0 h12 hr13 => ?_))
    obtain ⟨v10, rfl, hw⟩ := hr13
    show zP X (d + 1) 163 113 [some (.ref 82), some (.int l1), some (.int l2), some (.int l3), some (.int v8)] [.int v10] z_S0 h12 (zI A)
    refine zb1_ne zM163 q163_113 (tgt := 118) rfl (fun hc => ?_) (fun hc => ?_)
    · have hw := hw.2 hc
      refine zl zM163 q163_118 rfl ?_
      refine zb1_ne zM163 q163_120 (tgt := 127) rfl (fun hc => ?_) (fun hc => ?_)
      · have hw := hw.2 hc
        refine zkI zM163 q163_127 kI0 ?_
        refine zweak (a := [some (.ref 82), some (.int l1), some (.int l2), none, none]) ?_ hw
        exact ⟨rfl, ⟨rfl, ⟨rfl, trivial⟩⟩⟩
      · have hw := hw.1 hc
        refine zkI zM163 q163_123 kI1 ?_
        refine zl zM163 q163_124 (pc' := 128) (ls' := _) (st' := _) rfl ?_
        refine zweak (a := [some (.ref 82), some (.int l1), some (.int l2), none, none]) ?_ hw
        exact ⟨rfl, ⟨rfl, ⟨rfl, trivial⟩⟩⟩
    · have hw := hw.1 hc
      refine zkI zM163 q163_116 kI0 ?_
      exact zri zM163 q163_117 rfl rfl hw
theorem b163_60 {X : Option (List Int32)} {d : Nat} {h : zH} {A : Int32 → zH → Prop} {l1 : Int32} {l3 : Int32} (hw : (((h 82 27) = 1 → zP X (d + 1) 163 82 [some (.ref 82), some (.int l1), none, some (.int l3), none] [.int ((-1) - (h 82 28)), .ref 82] z_S0 h (zI A)) ∧ (¬ (h 82 27) = 1 → zP X (d + 1) 163 82 [some (.ref 82), some (.int l1), none, some (.int l3), none] [.int (h 82 28), .ref 82] z_S0 h (zI A)))) : zP X (d + 1) 163 60 [some (.ref 82), some (.int l1), none, some (.int l3), none] [] z_S0 h (zI A) := by
  refine zl zM163 q163_60 rfl ?_
  refine zl zM163 q163_61 rfl ?_
  refine zgI zM163 q163_62 (by decide) g12_140 s82 rfl (v := (h 82 27)) rfl ?_
  refine zkI zM163 q163_65 kI1 ?_
  refine zb2_ne zM163 q163_66 (tgt := 78) rfl (fun hc => ?_) (fun hc => ?_)
  · have hw := hw.2 hc
    refine zl zM163 q163_78 rfl ?_
    refine zgI zM163 q163_79 (by decide) g12_153 s82 rfl (v := (h 82 28)) rfl ?_
    exact hw
  · have hw := hw.1 hc
    refine zkI zM163 q163_69 kIm1 ?_
    refine zl zM163 q163_70 rfl ?_
    refine zgI zM163 q163_71 (by decide) g12_153 s82 rfl (v := (h 82 28)) rfl ?_
    refine zl zM163 q163_74 (pc' := 75) (st' := .int ((-1) - (h 82 28)) :: _) rfl ?_
    refine zl zM163 q163_75 (pc' := 82) (ls' := _) (st' := _) rfl ?_
    exact hw
theorem b163_165 {X : Option (List Int32)} {d : Nat} {h : zH} {A : Int32 → zH → Prop} {l1 : Int32} {l2 : Int32} {l3 : Int32} (hw : zP X d 160 0 (z_ent [.ref 82] 2) [] z_S0 h (zI fun v15 h17 => ((v15 = 0 → zP X d 161 0 (z_ent [.ref 82] 1) [] z_S0 h17 (zI fun v18 h20 => ((v18 = 0 → A 0 h20) ∧ (¬ v18 = 0 → zP X (d + 1) 163 208 [some (.ref 82), some (.int l1), some (.int l2), some (.int l3), none] [] z_S0 h20 (zI A))))) ∧ (¬ v15 = 0 → zP X d 155 0 (z_ent [.ref 82, .int 4] 2) [] z_S0 h17 (zI fun v22 h23 => ((v22 = 0 → zP X d 155 0 (z_ent [.ref 82, .int 3] 2) [] z_S0 h23 (zI fun v24 h25 => ((v24 = 0 → zP X (d + 1) 163 195 [some (.ref 82), some (.int l1), some (.int 1), none, none] [.int 0] z_S0 h25 (zI A)) ∧ (¬ v24 = 0 → zP X (d + 1) 163 190 [some (.ref 82), some (.int l1), some (.int 1), none, none] [] z_S0 h25 (zI A))))) ∧ (¬ v22 = 0 → zP X (d + 1) 163 190 [some (.ref 82), some (.int l1), some (.int 1), none, none] [] z_S0 h23 (zI A)))))))) : zP X (d + 1) 163 165 [some (.ref 82), some (.int l1), some (.int l2), some (.int l3), none] [] z_S0 h (zI A) := by
  refine zl zM163 q163_165 rfl ?_
  refine zcV zM163 q163_166 kl12_216 rfl rfl (Nat.le_of_ble_eq_true rfl) rfl zM160 (Nat.le_of_ble_eq_true rfl) (hw.mono (fun r0 h17 hr28 => ?_))
  obtain ⟨v15, rfl, hw⟩ := hr28
  show zP X (d + 1) 163 169 [some (.ref 82), some (.int l1), some (.int l2), some (.int l3), none] [.int v15] z_S0 h17 (zI A)
  refine zb1_eq zM163 q163_169 (tgt := 199) rfl (fun hc => ?_) (fun hc => ?_)
  · have hw := hw.1 hc
    refine zl zM163 q163_199 rfl ?_
    refine zcV zM163 q163_200 kl12_220 rfl rfl (Nat.le_of_ble_eq_true rfl) rfl zM161 (Nat.le_of_ble_eq_true rfl) (hw.mono (fun r0 h20 hr21 => ?_))
    obtain ⟨v18, rfl, hw⟩ := hr21
    show zP X (d + 1) 163 203 [some (.ref 82), some (.int l1), some (.int l2), some (.int l3), none] [.int v18] z_S0 h20 (zI A)
    refine zb1_ne zM163 q163_203 (tgt := 208) rfl (fun hc => ?_) (fun hc => ?_)
    · have hw := hw.2 hc
      exact hw
    · have hw := hw.1 hc
      refine zkI zM163 q163_206 kI0 ?_
      exact zri zM163 q163_207 rfl rfl hw
  · have hw := hw.2 hc
    refine zkI zM163 q163_172 kI1 ?_
    refine zl zM163 q163_173 (ls' := [some (.ref 82), some (.int l1), some (.int 1), some (.int l3), none]) rfl ?_
    refine zl zM163 q163_174 rfl ?_
    refine zkI zM163 q163_175 kI4 ?_
    refine zcV zM163 q163_176 kl12_194 rfl rfl (Nat.le_of_ble_eq_true rfl) rfl zM155 (Nat.le_of_ble_eq_true rfl) (hw.mono (fun r0 h23 hr27 => ?_))
    obtain ⟨v22, rfl, hw⟩ := hr27
    show zP X (d + 1) 163 179 [some (.ref 82), some (.int l1), some (.int 1), some (.int l3), none] [.int v22] z_S0 h23 (zI A)
    refine zb1_ne zM163 q163_179 (tgt := 190) rfl (fun hc => ?_) (fun hc => ?_)
    · have hw := hw.2 hc
      refine zweak (a := [some (.ref 82), some (.int l1), some (.int 1), none, none]) ?_ hw
      exact ⟨rfl, ⟨rfl, ⟨rfl, trivial⟩⟩⟩
    · have hw := hw.1 hc
      refine zl zM163 q163_182 rfl ?_
      refine zkI zM163 q163_183 kI3 ?_
      refine zcV zM163 q163_184 kl12_194 rfl rfl (Nat.le_of_ble_eq_true rfl) rfl zM155 (Nat.le_of_ble_eq_true rfl) (hw.mono (fun r0 h25 hr26 => ?_))
      obtain ⟨v24, rfl, hw⟩ := hr26
      show zP X (d + 1) 163 187 [some (.ref 82), some (.int l1), some (.int 1), some (.int l3), none] [.int v24] z_S0 h25 (zI A)
      refine zb1_eq zM163 q163_187 (tgt := 194) rfl (fun hc => ?_) (fun hc => ?_)
      · have hw := hw.1 hc
        refine zkI zM163 q163_194 kI0 ?_
        refine zweak (a := [some (.ref 82), some (.int l1), some (.int 1), none, none]) ?_ hw
        exact ⟨rfl, ⟨rfl, ⟨rfl, trivial⟩⟩⟩
      · have hw := hw.2 hc
        refine zweak (a := [some (.ref 82), some (.int l1), some (.int 1), none, none]) ?_ hw
        exact ⟨rfl, ⟨rfl, ⟨rfl, trivial⟩⟩⟩
theorem b163_128 {X : Option (List Int32)} {d : Nat} {h : zH} {A : Int32 → zH → Prop} {l1 : Int32} {l2 : Int32} {w0 : Int32} (hw : zP X (d + 1) 163 208 [some (.ref 82), some (.int l1), some (.int l2), some (.int w0), none] [] z_S0 h (zI A)) : zP X (d + 1) 163 128 [some (.ref 82), some (.int l1), some (.int l2), none, none] [.int w0] z_S0 h (zI A) := by
  refine zl zM163 q163_128 (ls' := [some (.ref 82), some (.int l1), some (.int l2), some (.int w0), none]) rfl ?_
  refine zl zM163 q163_129 (pc' := 208) (ls' := _) (st' := _) rfl ?_
  exact hw
theorem b163_82 {X : Option (List Int32)} {d : Nat} {h : zH} {A : Int32 → zH → Prop} {l1 : Int32} {l3 : Int32} {w1 : Int32} (hw : zP X d 156 0 (z_ent [.ref 82, .int w1] 2) [] z_S0 h (zV fun h31 => zP X d 158 0 (z_ent [.ref 82, .int 7] 2) [] z_S0 h31 (zV fun h34 => zP X (d + 1) 163 208 [some (.ref 82), some (.int l1), some (.int 0), some (.int l3), none] [] z_S0 h34 (zI A)))) : zP X (d + 1) 163 82 [some (.ref 82), some (.int l1), none, some (.int l3), none] [.int w1, .ref 82] z_S0 h (zI A) := by
  refine zcV zM163 q163_82 kl12_187 rfl rfl (Nat.le_of_ble_eq_true rfl) rfl zM156 (Nat.le_of_ble_eq_true rfl) (hw.mono (fun r0 h31 hr36 => ?_))
  obtain ⟨rfl, hw⟩ := hr36
  show zP X (d + 1) 163 85 [some (.ref 82), some (.int l1), none, some (.int l3), none] [] z_S0 h31 (zI A)
  refine zl zM163 q163_85 rfl ?_
  refine zkB zM163 q163_86 kB7 ?_
  refine zcV zM163 q163_88 kl12_203 rfl rfl (Nat.le_of_ble_eq_true rfl) rfl zM158 (Nat.le_of_ble_eq_true rfl) (hw.mono (fun r0 h34 hr35 => ?_))
  obtain ⟨rfl, hw⟩ := hr35
  show zP X (d + 1) 163 91 [some (.ref 82), some (.int l1), none, some (.int l3), none] [] z_S0 h34 (zI A)
  refine zkI zM163 q163_91 kI0 ?_
  refine zl zM163 q163_92 (ls' := [some (.ref 82), some (.int l1), some (.int 0), some (.int l3), none]) rfl ?_
  refine zl zM163 q163_93 (pc' := 208) (ls' := _) (st' := _) rfl ?_
  exact hw
theorem b163_208 {X : Option (List Int32)} {d : Nat} {h : zH} {A : Int32 → zH → Prop} {l1 : Int32} {l2 : Int32} {l3 : Int32} (hw : zP X d 153 0 (z_ent [.ref 82] 2) [] z_S0 h (zV fun h39 => zP X (d + 1) 163 40 [some (.ref 82), some (.int l1), some (.int l2), some (.int l3), none] [] z_S0 h39 (zI A))) : zP X (d + 1) 163 208 [some (.ref 82), some (.int l1), some (.int l2), some (.int l3), none] [] z_S0 h (zI A) := by
  refine zl zM163 q163_208 rfl ?_
  refine zcV zM163 q163_209 kl12_223 rfl rfl (Nat.le_of_ble_eq_true rfl) rfl zM153 (Nat.le_of_ble_eq_true rfl) (hw.mono (fun r0 h39 hr40 => ?_))
  obtain ⟨rfl, hw⟩ := hr40
  show zP X (d + 1) 163 212 [some (.ref 82), some (.int l1), some (.int l2), some (.int l3), none] [] z_S0 h39 (zI A)
  refine zl zM163 q163_212 (pc' := 40) (ls' := _) (st' := _) rfl ?_
  exact hw
theorem b163_190 {X : Option (List Int32)} {d : Nat} {h : zH} {A : Int32 → zH → Prop} {l1 : Int32} {l2 : Int32} (hw : zP X (d + 1) 163 195 [some (.ref 82), some (.int l1), some (.int l2), none, none] [.int 1] z_S0 h (zI A)) : zP X (d + 1) 163 190 [some (.ref 82), some (.int l1), some (.int l2), none, none] [] z_S0 h (zI A) := by
  refine zkI zM163 q163_190 kI1 ?_
  refine zl zM163 q163_191 (pc' := 195) (ls' := _) (st' := _) rfl ?_
  exact hw
theorem b163_195 {X : Option (List Int32)} {d : Nat} {h : zH} {A : Int32 → zH → Prop} {l1 : Int32} {l2 : Int32} {w0 : Int32} (hw : zP X (d + 1) 163 208 [some (.ref 82), some (.int l1), some (.int l2), some (.int w0), none] [] z_S0 h (zI A)) : zP X (d + 1) 163 195 [some (.ref 82), some (.int l1), some (.int l2), none, none] [.int w0] z_S0 h (zI A) := by
  refine zl zM163 q163_195 (ls' := [some (.ref 82), some (.int l1), some (.int l2), some (.int w0), none]) rfl ?_
  refine zl zM163 q163_196 (pc' := 208) (ls' := _) (st' := _) rfl ?_
  exact hw
-- X12_readAll
theorem b164 {X : Option (List Int32)} {d : Nat} {h : zH} {A : Int32 → zH → Prop} {a1 : Int32} (hw : zP X (d + 1) 164 7 [some (.ref 82), some (.int a1), some (.int 0)] [] z_S0 (z_up h 82 26 0) (zI A)) : zP X (d + 1) 164 0 (z_ent [.ref 82, .int a1] 3) [] z_S0 h (zI A) := by
  show zP X (d + 1) 164 0 [some (.ref 82), some (.int a1), none] [] z_S0 h (zI A)
  refine zl zM164 q164_0 rfl ?_
  refine zkI zM164 q164_1 kI0 ?_
  refine zpi zM164 q164_2 (by decide) g12_134 s82 rfl rfl ?_
  refine zkI zM164 q164_5 kI0 ?_
  refine zl zM164 q164_6 (ls' := [some (.ref 82), some (.int a1), some (.int 0)]) rfl ?_
  exact hw
theorem b164_7 {X : Option (List Int32)} {d : Nat} {h : zH} {A : Int32 → zH → Prop} {l1 : Int32} {l2 : Int32} (hw : ((l2 < 3 → zP X d 153 0 (z_ent [.ref 82] 2) [] z_S0 h (zV fun h7 => zP X d 155 0 (z_ent [.ref 82, .int l2] 2) [] z_S0 h7 (zI fun v8 h9 => ((v8 = 0 → A (h9 82 29) h9) ∧ (¬ v8 = 0 → zP X d 153 0 (z_ent [.ref 82] 2) [] z_S0 h9 (zV fun h12 => zP X d 163 0 (z_ent [.ref 82, .int ((3 * l1) + l2)] 5) [] z_S0 h12 (zI fun v13 h15 => ((v13 = 0 → A (h15 82 29) h15) ∧ (¬ v13 = 0 → zP X (d + 1) 164 7 [some (.ref 82), some (.int l1), some (.int (l2 + 1))] [] z_S0 h15 (zI A)))))))))) ∧ (¬ l2 < 3 → zP X d 153 0 (z_ent [.ref 82] 2) [] z_S0 h (zV fun h3 => (((h3 82 27) = 0 → A (-1) h3) ∧ (¬ (h3 82 27) = 0 → A (h3 82 29) h3)))))) : zP X (d + 1) 164 7 [some (.ref 82), some (.int l1), some (.int l2)] [] z_S0 h (zI A) := by
  refine zl zM164 q164_7 rfl ?_
  refine zkI zM164 q164_8 kI3 ?_
  refine zb2_ge zM164 q164_9 (tgt := 56) rfl (fun hc => ?_) (fun hc => ?_)
  · have hw := hw.2 hc
    refine zl zM164 q164_56 rfl ?_
    refine zcV zM164 q164_57 kl12_223 rfl rfl (Nat.le_of_ble_eq_true rfl) rfl zM153 (Nat.le_of_ble_eq_true rfl) (hw.mono (fun r0 h3 hr4 => ?_))
    obtain ⟨rfl, hw⟩ := hr4
    show zP X (d + 1) 164 60 [some (.ref 82), some (.int l1), some (.int l2)] [] z_S0 h3 (zI A)
    refine zl zM164 q164_60 rfl ?_
    refine zgI zM164 q164_61 (by decide) g12_140 s82 rfl (v := (h3 82 27)) rfl ?_
    refine zb1_ne zM164 q164_64 (tgt := 71) rfl (fun hc => ?_) (fun hc => ?_)
    · have hw := hw.2 hc
      refine zl zM164 q164_71 rfl ?_
      refine zgI zM164 q164_72 (by decide) g12_146 s82 rfl (v := (h3 82 29)) rfl ?_
      exact zri zM164 q164_75 rfl rfl hw
    · have hw := hw.1 hc
      refine zkI zM164 q164_67 kIm1 ?_
      refine zl zM164 q164_68 (pc' := 75) (ls' := _) (st' := _) rfl ?_
      exact zri zM164 q164_75 rfl rfl hw
  · have hw := hw.1 hc
    refine zl zM164 q164_12 rfl ?_
    refine zcV zM164 q164_13 kl12_223 rfl rfl (Nat.le_of_ble_eq_true rfl) rfl zM153 (Nat.le_of_ble_eq_true rfl) (hw.mono (fun r0 h7 hr19 => ?_))
    obtain ⟨rfl, hw⟩ := hr19
    show zP X (d + 1) 164 16 [some (.ref 82), some (.int l1), some (.int l2)] [] z_S0 h7 (zI A)
    refine zl zM164 q164_16 rfl ?_
    refine zl zM164 q164_17 rfl ?_
    refine zcV zM164 q164_18 kl12_194 rfl rfl (Nat.le_of_ble_eq_true rfl) rfl zM155 (Nat.le_of_ble_eq_true rfl) (hw.mono (fun r0 h9 hr18 => ?_))
    obtain ⟨v8, rfl, hw⟩ := hr18
    show zP X (d + 1) 164 21 [some (.ref 82), some (.int l1), some (.int l2)] [.int v8] z_S0 h9 (zI A)
    refine zb1_ne zM164 q164_21 (tgt := 29) rfl (fun hc => ?_) (fun hc => ?_)
    · have hw := hw.2 hc
      refine zl zM164 q164_29 rfl ?_
      refine zcV zM164 q164_30 kl12_223 rfl rfl (Nat.le_of_ble_eq_true rfl) rfl zM153 (Nat.le_of_ble_eq_true rfl) (hw.mono (fun r0 h12 hr17 => ?_))
      obtain ⟨rfl, hw⟩ := hr17
      show zP X (d + 1) 164 33 [some (.ref 82), some (.int l1), some (.int l2)] [] z_S0 h12 (zI A)
      refine zl zM164 q164_33 rfl ?_
      refine zkI zM164 q164_34 kI3 ?_
      refine zl zM164 q164_35 rfl ?_
      refine zl zM164 q164_36 (pc' := 37) (st' := .int (3 * l1) :: _) rfl ?_
      refine zl zM164 q164_37 rfl ?_
      refine zl zM164 q164_38 (pc' := 39) (st' := .int ((3 * l1) + l2) :: _) rfl ?_
      refine zcV zM164 q164_39 kl12_226 rfl rfl (Nat.le_of_ble_eq_true rfl) rfl zM163 (Nat.le_of_ble_eq_true rfl) (hw.mono (fun r0 h15 hr16 => ?_))
      obtain ⟨v13, rfl, hw⟩ := hr16
      show zP X (d + 1) 164 42 [some (.ref 82), some (.int l1), some (.int l2)] [.int v13] z_S0 h15 (zI A)
      refine zb1_ne zM164 q164_42 (tgt := 50) rfl (fun hc => ?_) (fun hc => ?_)
      · have hw := hw.2 hc
        refine zl zM164 q164_50 (ls' := [some (.ref 82), some (.int l1), some (.int (l2 + 1))]) rfl ?_
        refine zl zM164 q164_53 (pc' := 7) (ls' := _) (st' := _) rfl ?_
        exact hw
      · have hw := hw.1 hc
        refine zl zM164 q164_45 rfl ?_
        refine zgI zM164 q164_46 (by decide) g12_146 s82 rfl (v := (h15 82 29)) rfl ?_
        exact zri zM164 q164_49 rfl rfl hw
    · have hw := hw.1 hc
      refine zl zM164 q164_24 rfl ?_
      refine zgI zM164 q164_25 (by decide) g12_146 s82 rfl (v := (h9 82 29)) rfl ?_
      exact zri zM164 q164_28 rfl rfl hw
-- X12_text
theorem b165 {X : Option (List Int32)} {d : Nat} {h : zH} {A : Int32 → zH → Prop}  (hw : (((h 82 23) = 6 → A (-4) h) ∧ (¬ (h 82 23) = 6 → zP X d 164 0 (z_ent [.ref 82, .int (h 82 23)] 3) [] z_S0 h (zI fun v1 h3 => ((v1 = (-1) → A (((h3 82 23) + 1) - 1) (z_up (z_up h3 82 22 0) 82 23 ((h3 82 23) + 1))) ∧ (¬ v1 = (-1) → A ((-100) - v1) (z_up h3 82 22 0))))))) : zP X (d + 1) 165 0 (z_ent [.ref 82] 2) [] z_S0 h (zI A) := by
  show zP X (d + 1) 165 0 [some (.ref 82), none] [] z_S0 h (zI A)
  refine zl zM165 q165_0 rfl ?_
  refine zgI zM165 q165_1 (by decide) g12_229 s82 rfl (v := (h 82 23)) rfl ?_
  refine zkB zM165 q165_4 kB6 ?_
  refine zb2_ne zM165 q165_6 (tgt := 12) rfl (fun hc => ?_) (fun hc => ?_)
  · have hw := hw.2 hc
    refine zl zM165 q165_12 rfl ?_
    refine zl zM165 q165_13 rfl ?_
    refine zgI zM165 q165_14 (by decide) g12_229 s82 rfl (v := (h 82 23)) rfl ?_
    refine zcV zM165 q165_17 kl12_232 rfl rfl (Nat.le_of_ble_eq_true rfl) rfl zM164 (Nat.le_of_ble_eq_true rfl) (hw.mono (fun r0 h3 hr4 => ?_))
    obtain ⟨v1, rfl, hw⟩ := hr4
    show zP X (d + 1) 165 20 [some (.ref 82), none] [.int v1] z_S0 h3 (zI A)
    refine zl zM165 q165_20 (ls' := [some (.ref 82), some (.int v1)]) rfl ?_
    refine zl zM165 q165_21 rfl ?_
    refine zkI zM165 q165_22 kI0 ?_
    refine zpi zM165 q165_23 (by decide) g12_127 s82 rfl rfl ?_
    refine zl zM165 q165_26 rfl ?_
    refine zkI zM165 q165_27 kIm1 ?_
    refine zb2_eq zM165 q165_28 (tgt := 36) rfl (fun hc => ?_) (fun hc => ?_)
    · have hw := hw.1 hc
      refine zl zM165 q165_36 rfl ?_
      refine zl zM165 q165_37 rfl ?_
      refine zgI zM165 q165_38 (by decide) g12_229 s82 rfl (v := (h3 82 23)) rfl ?_
      refine zkI zM165 q165_41 kI1 ?_
      refine zl zM165 q165_42 (pc' := 43) (st' := .int ((h3 82 23) + 1) :: _) rfl ?_
      refine zpi zM165 q165_43 (by decide) g12_229 s82 rfl rfl ?_
      refine zl zM165 q165_46 rfl ?_
      refine zgI zM165 q165_47 (by decide) g12_229 s82 rfl (v := ((h3 82 23) + 1)) rfl ?_
      refine zkI zM165 q165_50 kI1 ?_
      refine zl zM165 q165_51 (pc' := 52) (st' := .int (((h3 82 23) + 1) - 1) :: _) rfl ?_
      exact zri zM165 q165_52 rfl rfl hw
    · have hw := hw.2 hc
      refine zkB zM165 q165_31 kBm100 ?_
      refine zl zM165 q165_33 rfl ?_
      refine zl zM165 q165_34 (pc' := 35) (st' := .int ((-100) - v1) :: _) rfl ?_
      exact zri zM165 q165_35 rfl rfl hw
  · have hw := hw.1 hc
    refine zkB zM165 q165_9 kBm4 ?_
    exact zri zM165 q165_11 rfl rfl hw
-- X12_nameOf
theorem b166 {X : Option (List Int32)} {d : Nat} {h : zH} {A : Int32 → zH → Prop} {a1 : Int32} {a2 : Int32} (hw : ((a1 = 0 → (z_ib a2 40 ∧ A (h 88 (Int32.toNatClampNeg a2)) h)) ∧ (a1 = 1 → (z_ib a2 40 ∧ A (h 91 (Int32.toNatClampNeg a2)) h)) ∧ (a1 = 2 → (z_ib a2 40 ∧ A (h 89 (Int32.toNatClampNeg a2)) h)) ∧ (a1 = 3 → (z_ib a2 40 ∧ A (h 85 (Int32.toNatClampNeg a2)) h)) ∧ (a1 = 4 → (z_ib a2 40 ∧ (z_ib a2 40 ∧ zP X d 182 0 (z_ent [.ref 82, .int (h 86 (Int32.toNatClampNeg a2)), .int (h 91 (Int32.toNatClampNeg a2))] 5) [] z_S0 h (zI fun v5 h6 => A v5 h6)))) ∧ ((¬ a1 = 0 ∧ ¬ a1 = 1 ∧ ¬ a1 = 2 ∧ ¬ a1 = 3 ∧ ¬ a1 = 4) → (z_ib a2 40 ∧ zP X d 146 0 (z_ent [.ref 82, .int 0, .int (h 91 (Int32.toNatClampNeg a2)), .int (h 82 0)] 8) [] z_S0 h (zI fun v9 h10 => A v9 h10))))) : zP X (d + 1) 166 0 (z_ent [.ref 82, .int a1, .int a2] 3) [] z_S0 h (zI A) := by
  show zP X (d + 1) 166 0 [some (.ref 82), some (.int a1), some (.int a2)] [] z_S0 h (zI A)
  refine zl zM166 q166_0 rfl ?_
  by_cases hs1 : a1 = 0
  · have hw := hw.1 hs1
    refine zts 0 hs1 zM166 q166_1 (tgt := 36) (by decide) rfl rfl ?_
    refine zl zM166 q166_36 rfl ?_
    refine zgR (a := 88) zM166 q166_37 (by decide) g12_45 s82 rfl ?_
    refine zl zM166 q166_40 rfl ?_
    obtain ⟨hb, hw⟩ := hw
    refine ziA zM166 q166_41 (by decide) s88 hb (v := (h 88 (Int32.toNatClampNeg a2))) rfl ?_
    exact zri zM166 q166_42 rfl rfl hw
  by_cases hs2 : a1 = 1
  · have hw := hw.2.1 hs2
    refine zts 1 hs2 zM166 q166_1 (tgt := 43) (by decide) rfl rfl ?_
    refine zl zM166 q166_43 rfl ?_
    refine zgR (a := 91) zM166 q166_44 (by decide) g12_54 s82 rfl ?_
    refine zl zM166 q166_47 rfl ?_
    obtain ⟨hb, hw⟩ := hw
    refine ziA zM166 q166_48 (by decide) s91 hb (v := (h 91 (Int32.toNatClampNeg a2))) rfl ?_
    exact zri zM166 q166_49 rfl rfl hw
  by_cases hs3 : a1 = 2
  · have hw := hw.2.2.1 hs3
    refine zts 2 hs3 zM166 q166_1 (tgt := 50) (by decide) rfl rfl ?_
    refine zl zM166 q166_50 rfl ?_
    refine zgR (a := 89) zM166 q166_51 (by decide) g12_48 s82 rfl ?_
    refine zl zM166 q166_54 rfl ?_
    obtain ⟨hb, hw⟩ := hw
    refine ziA zM166 q166_55 (by decide) s89 hb (v := (h 89 (Int32.toNatClampNeg a2))) rfl ?_
    exact zri zM166 q166_56 rfl rfl hw
  by_cases hs4 : a1 = 3
  · have hw := hw.2.2.2.1 hs4
    refine zts 3 hs4 zM166 q166_1 (tgt := 57) (by decide) rfl rfl ?_
    refine zl zM166 q166_57 rfl ?_
    refine zgR (a := 85) zM166 q166_58 (by decide) g12_35 s82 rfl ?_
    refine zl zM166 q166_61 rfl ?_
    obtain ⟨hb, hw⟩ := hw
    refine ziA zM166 q166_62 (by decide) s85 hb (v := (h 85 (Int32.toNatClampNeg a2))) rfl ?_
    exact zri zM166 q166_63 rfl rfl hw
  by_cases hs8 : a1 = 4
  · have hw := hw.2.2.2.2.1 hs8
    refine zts 4 hs8 zM166 q166_1 (tgt := 64) (by decide) rfl rfl ?_
    refine zl zM166 q166_64 rfl ?_
    refine zl zM166 q166_65 rfl ?_
    refine zgR (a := 86) zM166 q166_66 (by decide) g12_39 s82 rfl ?_
    refine zl zM166 q166_69 rfl ?_
    obtain ⟨hb, hw⟩ := hw
    refine ziA zM166 q166_70 (by decide) s86 hb (v := (h 86 (Int32.toNatClampNeg a2))) rfl ?_
    refine zl zM166 q166_71 rfl ?_
    refine zgR (a := 91) zM166 q166_72 (by decide) g12_54 s82 rfl ?_
    refine zl zM166 q166_75 rfl ?_
    obtain ⟨hb, hw⟩ := hw
    refine ziA zM166 q166_76 (by decide) s91 hb (v := (h 91 (Int32.toNatClampNeg a2))) rfl ?_
    refine zcV zM166 q166_77 kl12_235 rfl rfl (Nat.le_of_ble_eq_true rfl) rfl zM182 (Nat.le_of_ble_eq_true rfl) (hw.mono (fun r0 h6 hr7 => ?_))
    obtain ⟨v5, rfl, hw⟩ := hr7
    show zP X (d + 1) 166 80 [some (.ref 82), some (.int a1), some (.int a2)] [.int v5] z_S0 h6 (zI A)
    exact zri zM166 q166_80 rfl rfl hw
  have hw := hw.2.2.2.2.2 ⟨hs1, hs2, hs3, hs4, hs8⟩
  have hs1 := z_neI hs1
  have hs2 := z_neI hs2
  have hs3 := z_neI hs3
  have hs4 := z_neI hs4
  have hs8 := z_neI hs8
  refine ztd (tgt := 81) ?_ zM166 q166_1 rfl ?_
  · simp only [show (0 : Int32).toInt = 0 from rfl, show (1 : Int32).toInt = 1 from rfl, show (2 : Int32).toInt = 2 from rfl, show (3 : Int32).toInt = 3 from rfl, show (4 : Int32).toInt = 4 from rfl] at hs1 hs2 hs3 hs4 hs8; omega
  refine zl zM166 q166_81 rfl ?_
  refine zkI zM166 q166_82 kI0 ?_
  refine zl zM166 q166_83 rfl ?_
  refine zgR (a := 91) zM166 q166_84 (by decide) g12_54 s82 rfl ?_
  refine zl zM166 q166_87 rfl ?_
  obtain ⟨hb, hw⟩ := hw
  refine ziA zM166 q166_88 (by decide) s91 hb (v := (h 91 (Int32.toNatClampNeg a2))) rfl ?_
  refine zl zM166 q166_89 rfl ?_
  refine zgI zM166 q166_90 (by decide) g12_9 s82 rfl (v := (h 82 0)) rfl ?_
  refine zcV zM166 q166_93 kl12_99 rfl rfl (Nat.le_of_ble_eq_true rfl) rfl zM146 (Nat.le_of_ble_eq_true rfl) (hw.mono (fun r0 h10 hr11 => ?_))
  obtain ⟨v9, rfl, hw⟩ := hr11
  show zP X (d + 1) 166 96 [some (.ref 82), some (.int a1), some (.int a2)] [.int v9] z_S0 h10 (zI A)
  exact zri zM166 q166_96 rfl rfl hw
-- X12_done
theorem b167 {X : Option (List Int32)} {d : Nat} {h : zH} {A : Int32 → zH → Prop} {a1 : Int32} {a2 : Int32} {a3 : Int32} (hw : ((a1 = 6 → A (a2 + a3) h) ∧ (a1 = 7 → A (a2 - a3) h) ∧ (a1 = 8 → A (a2 * a3) h) ∧ (a1 = 9 → ((a2 < a3 → A 1 h) ∧ (¬ a2 < a3 → A 0 h))) ∧ (a1 = 10 → ((a2 = a3 → A 1 h) ∧ (¬ a2 = a3 → A 0 h))) ∧ (a1 = 11 → ((a2 = 0 → A 0 h) ∧ (¬ a2 = 0 → ((a3 = 0 → A 0 h) ∧ (¬ a3 = 0 → A 1 h))))) ∧ ((¬ a1 = 6 ∧ ¬ a1 = 7 ∧ ¬ a1 = 8 ∧ ¬ a1 = 9 ∧ ¬ a1 = 10 ∧ ¬ a1 = 11) → ((a2 = 0 → ((a3 = 0 → A 0 h) ∧ (¬ a3 = 0 → A 1 h))) ∧ (¬ a2 = 0 → A 1 h))))) : zP X d 167 0 (z_ent [.int a1, .int a2, .int a3] 3) [] z_S0 h (zI A) := by
  show zP X d 167 0 [some (.int a1), some (.int a2), some (.int a3)] [] z_S0 h (zI A)
  refine zl zM167 q167_0 rfl ?_
  by_cases hs1 : a1 = 6
  · have hw := hw.1 hs1
    refine zts 6 hs1 zM167 q167_1 (tgt := 40) (by decide) rfl rfl ?_
    refine zl zM167 q167_40 rfl ?_
    refine zl zM167 q167_41 rfl ?_
    refine zl zM167 q167_42 (pc' := 43) (st' := .int (a2 + a3) :: _) rfl ?_
    exact zri zM167 q167_43 rfl rfl hw
  by_cases hs2 : a1 = 7
  · have hw := hw.2.1 hs2
    refine zts 7 hs2 zM167 q167_1 (tgt := 44) (by decide) rfl rfl ?_
    refine zl zM167 q167_44 rfl ?_
    refine zl zM167 q167_45 rfl ?_
    refine zl zM167 q167_46 (pc' := 47) (st' := .int (a2 - a3) :: _) rfl ?_
    exact zri zM167 q167_47 rfl rfl hw
  by_cases hs3 : a1 = 8
  · have hw := hw.2.2.1 hs3
    refine zts 8 hs3 zM167 q167_1 (tgt := 48) (by decide) rfl rfl ?_
    refine zl zM167 q167_48 rfl ?_
    refine zl zM167 q167_49 rfl ?_
    refine zl zM167 q167_50 (pc' := 51) (st' := .int (a2 * a3) :: _) rfl ?_
    exact zri zM167 q167_51 rfl rfl hw
  by_cases hs4 : a1 = 9
  · have hw := hw.2.2.2.1 hs4
    refine zts 9 hs4 zM167 q167_1 (tgt := 52) (by decide) rfl rfl ?_
    refine zl zM167 q167_52 rfl ?_
    refine zl zM167 q167_53 rfl ?_
    refine zb2_ge zM167 q167_54 (tgt := 61) rfl (fun hc => ?_) (fun hc => ?_)
    · have hw := hw.2 hc
      refine zkI zM167 q167_61 kI0 ?_
      exact zri zM167 q167_62 rfl rfl hw
    · have hw := hw.1 hc
      refine zkI zM167 q167_57 kI1 ?_
      refine zl zM167 q167_58 (pc' := 62) (ls' := _) (st' := _) rfl ?_
      exact zri zM167 q167_62 rfl rfl hw
  by_cases hs5 : a1 = 10
  · have hw := hw.2.2.2.2.1 hs5
    refine zts 10 hs5 zM167 q167_1 (tgt := 63) (by decide) rfl rfl ?_
    refine zl zM167 q167_63 rfl ?_
    refine zl zM167 q167_64 rfl ?_
    refine zb2_ne zM167 q167_65 (tgt := 72) rfl (fun hc => ?_) (fun hc => ?_)
    · have hw := hw.2 hc
      refine zkI zM167 q167_72 kI0 ?_
      exact zri zM167 q167_73 rfl rfl hw
    · have hw := hw.1 hc
      refine zkI zM167 q167_68 kI1 ?_
      refine zl zM167 q167_69 (pc' := 73) (ls' := _) (st' := _) rfl ?_
      exact zri zM167 q167_73 rfl rfl hw
  by_cases hs6 : a1 = 11
  · have hw := hw.2.2.2.2.2.1 hs6
    refine zts 11 hs6 zM167 q167_1 (tgt := 74) (by decide) rfl rfl ?_
    refine zl zM167 q167_74 rfl ?_
    refine zb1_eq zM167 q167_75 (tgt := 86) rfl (fun hc => ?_) (fun hc => ?_)
    · have hw := hw.1 hc
      refine zkI zM167 q167_86 kI0 ?_
      exact zri zM167 q167_87 rfl rfl hw
    · have hw := hw.2 hc
      refine zl zM167 q167_78 rfl ?_
      refine zb1_eq zM167 q167_79 (tgt := 86) rfl (fun hc => ?_) (fun hc => ?_)
      · have hw := hw.1 hc
        refine zkI zM167 q167_86 kI0 ?_
        exact zri zM167 q167_87 rfl rfl hw
      · have hw := hw.2 hc
        refine zkI zM167 q167_82 kI1 ?_
        refine zl zM167 q167_83 (pc' := 87) (ls' := _) (st' := _) rfl ?_
        exact zri zM167 q167_87 rfl rfl hw
  have hw := hw.2.2.2.2.2.2 ⟨hs1, hs2, hs3, hs4, hs5, hs6⟩
  have hs1 := z_neI hs1
  have hs2 := z_neI hs2
  have hs3 := z_neI hs3
  have hs4 := z_neI hs4
  have hs5 := z_neI hs5
  have hs6 := z_neI hs6
  refine ztd (tgt := 88) ?_ zM167 q167_1 rfl ?_
  · simp only [show (6 : Int32).toInt = 6 from rfl, show (7 : Int32).toInt = 7 from rfl, show (8 : Int32).toInt = 8 from rfl, show (9 : Int32).toInt = 9 from rfl, show (10 : Int32).toInt = 10 from rfl, show (11 : Int32).toInt = 11 from rfl] at hs1 hs2 hs3 hs4 hs5 hs6; omega
  refine zl zM167 q167_88 rfl ?_
  refine zb1_ne zM167 q167_89 (tgt := 96) rfl (fun hc => ?_) (fun hc => ?_)
  · have hw := hw.2 hc
    refine zkI zM167 q167_96 kI1 ?_
    refine zl zM167 q167_97 (pc' := 101) (ls' := _) (st' := _) rfl ?_
    exact zri zM167 q167_101 rfl rfl hw
  · have hw := hw.1 hc
    refine zl zM167 q167_92 rfl ?_
    refine zb1_eq zM167 q167_93 (tgt := 100) rfl (fun hc => ?_) (fun hc => ?_)
    · have hw := hw.1 hc
      refine zkI zM167 q167_100 kI0 ?_
      exact zri zM167 q167_101 rfl rfl hw
    · have hw := hw.2 hc
      refine zkI zM167 q167_96 kI1 ?_
      refine zl zM167 q167_97 (pc' := 101) (ls' := _) (st' := _) rfl ?_
      exact zri zM167 q167_101 rfl rfl hw
-- X12_worthOf
theorem b168 {X : Option (List Int32)} {d : Nat} {h : zH} {A : Int32 → zH → Prop} {a1 : Int32} {a2 : Int32} (hw : (z_ib a2 40 ∧ (z_ib a2 40 ∧ zP X d 171 0 (z_ent [.ref 82, .int (h 86 (Int32.toNatClampNeg a2)), .int (h 91 (Int32.toNatClampNeg a2))] 6) [] z_S0 h (zI fun v1 h2 => zP X (d + 1) 168 27 [some (.ref 82), none, some (.int a2), some (.int ((3 * v1) + a1)), some (.int 0), some (.int 0), none] [] z_S0 h2 (zI A))))) : zP X (d + 1) 168 0 (z_ent [.ref 82, .int a1, .int a2] 7) [] z_S0 h (zI A) := by
  show zP X (d + 1) 168 0 [some (.ref 82), some (.int a1), some (.int a2), none, none, none, none] [] z_S0 h (zI A)
  refine zkI zM168 q168_0 kI3 ?_
  refine zl zM168 q168_1 rfl ?_
  refine zl zM168 q168_2 rfl ?_
  refine zgR (a := 86) zM168 q168_3 (by decide) g12_39 s82 rfl ?_
  refine zl zM168 q168_6 rfl ?_
  obtain ⟨hb, hw⟩ := hw
  refine ziA zM168 q168_7 (by decide) s86 hb (v := (h 86 (Int32.toNatClampNeg a2))) rfl ?_
  refine zl zM168 q168_8 rfl ?_
  refine zgR (a := 91) zM168 q168_9 (by decide) g12_54 s82 rfl ?_
  refine zl zM168 q168_12 rfl ?_
  obtain ⟨hb, hw⟩ := hw
  refine ziA zM168 q168_13 (by decide) s91 hb (v := (h 91 (Int32.toNatClampNeg a2))) rfl ?_
  refine zcV zM168 q168_14 kl12_239 rfl rfl (Nat.le_of_ble_eq_true rfl) rfl zM171 (Nat.le_of_ble_eq_true rfl) (hw.mono (fun r0 h2 hr3 => ?_))
  obtain ⟨v1, rfl, hw⟩ := hr3
  show zP X (d + 1) 168 17 [some (.ref 82), some (.int a1), some (.int a2), none, none, none, none] [.int v1, .int 3] z_S0 h2 (zI A)
  refine zl zM168 q168_17 (pc' := 18) (st' := .int (3 * v1) :: _) rfl ?_
  refine zl zM168 q168_18 rfl ?_
  refine zl zM168 q168_19 (pc' := 20) (st' := .int ((3 * v1) + a1) :: _) rfl ?_
  refine zl zM168 q168_20 (ls' := [some (.ref 82), some (.int a1), some (.int a2), some (.int ((3 * v1) + a1)), none, none, none]) rfl ?_
  refine zkI zM168 q168_21 kI0 ?_
  refine zl zM168 q168_22 (ls' := [some (.ref 82), some (.int a1), some (.int a2), some (.int ((3 * v1) + a1)), some (.int 0), none, none]) rfl ?_
  refine zkI zM168 q168_24 kI0 ?_
  refine zl zM168 q168_25 (ls' := [some (.ref 82), some (.int a1), some (.int a2), some (.int ((3 * v1) + a1)), some (.int 0), some (.int 0), none]) rfl ?_
  refine zweak (a := [some (.ref 82), none, some (.int a2), some (.int ((3 * v1) + a1)), some (.int 0), some (.int 0), none]) ?_ hw
  exact ⟨rfl, ⟨rfl, ⟨rfl, ⟨rfl, ⟨rfl, trivial⟩⟩⟩⟩⟩
theorem b168_27 {X : Option (List Int32)} {d : Nat} {h : zH} {A : Int32 → zH → Prop} {l2 : Int32} {l3 : Int32} {l4 : Int32} {l5 : Int32} (hw : (z_ib l3 18 ∧ ((l5 < (h 102 (Int32.toNatClampNeg l3)) → (z_ib ((160 * l3) + l5) 2880 ∧ (((h 101 (Int32.toNatClampNeg ((160 * l3) + l5))) < 0 → (z_ib l4 170 ∧ zP X (d + 1) 168 200 [some (.ref 82), none, some (.int l2), some (.int l3), some (.int (l4 + 1)), some (.int l5), none] [] z_S0 (z_up h 107 (Int32.toNatClampNeg l4) ((-1) - (h 101 (Int32.toNatClampNeg ((160 * l3) + l5))))) (zI A))) ∧ (¬ (h 101 (Int32.toNatClampNeg ((160 * l3) + l5))) < 0 → (((h 101 (Int32.toNatClampNeg ((160 * l3) + l5))) < 6 → zP X d 166 0 (z_ent [.ref 82, .int (h 101 (Int32.toNatClampNeg ((160 * l3) + l5))), .int l2] 3) [] z_S0 h (zI fun v7 h8 => (z_ib l4 170 ∧ zP X (d + 1) 168 200 [some (.ref 82), none, some (.int l2), some (.int l3), some (.int (l4 + 1)), some (.int l5), none] [] z_S0 (z_up h8 107 (Int32.toNatClampNeg l4) v7) (zI A)))) ∧ (¬ (h 101 (Int32.toNatClampNeg ((160 * l3) + l5))) < 6 → (((h 101 (Int32.toNatClampNeg ((160 * l3) + l5))) = 13 → (z_ib (l4 - 1) 170 ∧ (((h 107 (Int32.toNatClampNeg (l4 - 1))) = 0 → zP X (d + 1) 168 134 [some (.ref 82), none, some (.int l2), some (.int l3), some (.int l4), some (.int l5), none] [.int 1, .int (l4 - 1), .ref 107] z_S0 h (zI A)) ∧ (¬ (h 107 (Int32.toNatClampNeg (l4 - 1))) = 0 → zP X (d + 1) 168 134 [some (.ref 82), none, some (.int l2), some (.int l3), some (.int l4), some (.int l5), none] [.int 0, .int (l4 - 1), .ref 107] z_S0 h (zI A))))) ∧ (¬ (h 101 (Int32.toNatClampNeg ((160 * l3) + l5))) = 13 → (((h 101 (Int32.toNatClampNeg ((160 * l3) + l5))) = 14 → (z_ib (l4 - 1) 170 ∧ (z_ib (l4 - 1) 170 ∧ zP X (d + 1) 168 200 [some (.ref 82), none, some (.int l2), some (.int l3), some (.int l4), some (.int l5), none] [] z_S0 (z_up h 107 (Int32.toNatClampNeg (l4 - 1)) (-(h 107 (Int32.toNatClampNeg (l4 - 1))))) (zI A)))) ∧ (¬ (h 101 (Int32.toNatClampNeg ((160 * l3) + l5))) = 14 → (z_ib ((l4 + (-1)) - 1) 170 ∧ (z_ib (l4 + (-1)) 170 ∧ zP X d 167 0 (z_ent [.int (h 101 (Int32.toNatClampNeg ((160 * l3) + l5))), .int (h 107 (Int32.toNatClampNeg ((l4 + (-1)) - 1))), .int (h 107 (Int32.toNatClampNeg (l4 + (-1))))] 3) [] z_S0 h (zI fun v4 h5 => (z_ib ((l4 + (-1)) - 1) 170 ∧ zP X (d + 1) 168 200 [some (.ref 82), none, some (.int l2), some (.int l3), some (.int (l4 + (-1))), some (.int l5), none] [] z_S0 (z_up h5 107 (Int32.toNatClampNeg ((l4 + (-1)) - 1)) v4) (zI A))))))))))))))) ∧ (¬ l5 < (h 102 (Int32.toNatClampNeg l3)) → A (h 107 0) h)))) : zP X (d + 1) 168 27 [some (.ref 82), none, some (.int l2), some (.int l3), some (.int l4), some (.int l5), none] [] z_S0 h (zI A) := by
  refine zl zM168 q168_27 rfl ?_
  refine zl zM168 q168_29 rfl ?_
  refine zgR (a := 102) zM168 q168_30 (by decide) g12_213 s82 rfl ?_
  refine zl zM168 q168_33 rfl ?_
  obtain ⟨hb, hw⟩ := hw
  refine ziA zM168 q168_34 (by decide) s102 hb (v := (h 102 (Int32.toNatClampNeg l3))) rfl ?_
  refine zb2_ge zM168 q168_35 (tgt := 206) rfl (fun hc => ?_) (fun hc => ?_)
  · have hw := hw.2 hc
    refine zl zM168 q168_206 rfl ?_
    refine zgR (a := 107) zM168 q168_207 (by decide) g12_242 s82 rfl ?_
    refine zkI zM168 q168_210 kI0 ?_
    refine ziA zM168 q168_211 (by decide) s107 (by decide) (v := (h 107 0)) rfl ?_
    exact zri zM168 q168_212 rfl rfl hw
  · have hw := hw.1 hc
    refine zl zM168 q168_38 rfl ?_
    refine zgR (a := 101) zM168 q168_39 (by decide) g12_166 s82 rfl ?_
    refine zkS zM168 q168_42 kS160 ?_
    refine zl zM168 q168_45 rfl ?_
    refine zl zM168 q168_46 (pc' := 47) (st' := .int (160 * l3) :: _) rfl ?_
    refine zl zM168 q168_47 rfl ?_
    refine zl zM168 q168_49 (pc' := 50) (st' := .int ((160 * l3) + l5) :: _) rfl ?_
    obtain ⟨hb, hw⟩ := hw
    refine ziA zM168 q168_50 (by decide) s101 hb (v := (h 101 (Int32.toNatClampNeg ((160 * l3) + l5)))) rfl ?_
    refine zl zM168 q168_51 (ls' := [some (.ref 82), none, some (.int l2), some (.int l3), some (.int l4), some (.int l5), some (.int (h 101 (Int32.toNatClampNeg ((160 * l3) + l5))))]) rfl ?_
    refine zl zM168 q168_53 rfl ?_
    refine zb1_ge zM168 q168_55 (tgt := 75) rfl (fun hc => ?_) (fun hc => ?_)
    · have hw := hw.2 hc
      refine zl zM168 q168_75 rfl ?_
      refine zkB zM168 q168_77 kB6 ?_
      refine zb2_ge zM168 q168_79 (tgt := 102) rfl (fun hc => ?_) (fun hc => ?_)
      · have hw := hw.2 hc
        refine zl zM168 q168_102 rfl ?_
        refine zkB zM168 q168_104 kB13 ?_
        refine zb2_ne zM168 q168_106 (tgt := 138) rfl (fun hc => ?_) (fun hc => ?_)
        · have hw := hw.2 hc
          refine zl zM168 q168_138 rfl ?_
          refine zkB zM168 q168_140 kB14 ?_
          refine zb2_ne zM168 q168_142 (tgt := 167) rfl (fun hc => ?_) (fun hc => ?_)
          · have hw := hw.2 hc
            refine zl zM168 q168_167 (ls' := [some (.ref 82), none, some (.int l2), some (.int l3), some (.int (l4 + (-1))), some (.int l5), some (.int (h 101 (Int32.toNatClampNeg ((160 * l3) + l5))))]) rfl ?_
            refine zl zM168 q168_170 rfl ?_
            refine zgR (a := 107) zM168 q168_171 (by decide) g12_242 s82 rfl ?_
            refine zl zM168 q168_174 rfl ?_
            refine zkI zM168 q168_176 kI1 ?_
            refine zl zM168 q168_177 (pc' := 178) (st' := .int ((l4 + (-1)) - 1) :: _) rfl ?_
            refine zl zM168 q168_178 rfl ?_
            refine zl zM168 q168_180 rfl ?_
            refine zgR (a := 107) zM168 q168_181 (by decide) g12_242 s82 rfl ?_
            refine zl zM168 q168_184 rfl ?_
            refine zkI zM168 q168_186 kI1 ?_
            refine zl zM168 q168_187 (pc' := 188) (st' := .int ((l4 + (-1)) - 1) :: _) rfl ?_
            obtain ⟨hb, hw⟩ := hw
            refine ziA zM168 q168_188 (by decide) s107 hb (v := (h 107 (Int32.toNatClampNeg ((l4 + (-1)) - 1)))) rfl ?_
            refine zl zM168 q168_189 rfl ?_
            refine zgR (a := 107) zM168 q168_190 (by decide) g12_242 s82 rfl ?_
            refine zl zM168 q168_193 rfl ?_
            obtain ⟨hb, hw⟩ := hw
            refine ziA zM168 q168_195 (by decide) s107 hb (v := (h 107 (Int32.toNatClampNeg (l4 + (-1))))) rfl ?_
            refine zcS zM168 q168_196 ky12_248 kl12_248 (by decide) rfl (Nat.le_of_ble_eq_true rfl) zM167 (Nat.le_of_ble_eq_true rfl) (hw.mono (fun r0 h5 hr6 => ?_))
            obtain ⟨v4, rfl, hw⟩ := hr6
            show zP X (d + 1) 168 199 [some (.ref 82), none, some (.int l2), some (.int l3), some (.int (l4 + (-1))), some (.int l5), some (.int (h 101 (Int32.toNatClampNeg ((160 * l3) + l5))))] [.int v4, .int ((l4 + (-1)) - 1), .ref 107] z_S0 h5 (zI A)
            obtain ⟨hb, hw⟩ := hw
            refine ziS zM168 q168_199 (by decide) s107 hb rfl ?_
            refine zweak (a := [some (.ref 82), none, some (.int l2), some (.int l3), some (.int (l4 + (-1))), some (.int l5), none]) ?_ hw
            exact ⟨rfl, ⟨rfl, ⟨rfl, ⟨rfl, ⟨rfl, trivial⟩⟩⟩⟩⟩
          · have hw := hw.1 hc
            refine zl zM168 q168_145 rfl ?_
            refine zgR (a := 107) zM168 q168_146 (by decide) g12_242 s82 rfl ?_
            refine zl zM168 q168_149 rfl ?_
            refine zkI zM168 q168_151 kI1 ?_
            refine zl zM168 q168_152 (pc' := 153) (st' := .int (l4 - 1) :: _) rfl ?_
            refine zl zM168 q168_153 rfl ?_
            refine zgR (a := 107) zM168 q168_154 (by decide) g12_242 s82 rfl ?_
            refine zl zM168 q168_157 rfl ?_
            refine zkI zM168 q168_159 kI1 ?_
            refine zl zM168 q168_160 (pc' := 161) (st' := .int (l4 - 1) :: _) rfl ?_
            obtain ⟨hb, hw⟩ := hw
            refine ziA zM168 q168_161 (by decide) s107 hb (v := (h 107 (Int32.toNatClampNeg (l4 - 1)))) rfl ?_
            refine zl zM168 q168_162 (pc' := 163) (st' := .int (-(h 107 (Int32.toNatClampNeg (l4 - 1)))) :: _) rfl ?_
            obtain ⟨hb, hw⟩ := hw
            refine ziS zM168 q168_163 (by decide) s107 hb rfl ?_
            refine zl zM168 q168_164 (pc' := 200) (ls' := _) (st' := _) rfl ?_
            refine zweak (a := [some (.ref 82), none, some (.int l2), some (.int l3), some (.int l4), some (.int l5), none]) ?_ hw
            exact ⟨rfl, ⟨rfl, ⟨rfl, ⟨rfl, ⟨rfl, trivial⟩⟩⟩⟩⟩
        · have hw := hw.1 hc
          refine zl zM168 q168_109 rfl ?_
          refine zgR (a := 107) zM168 q168_110 (by decide) g12_242 s82 rfl ?_
          refine zl zM168 q168_113 rfl ?_
          refine zkI zM168 q168_115 kI1 ?_
          refine zl zM168 q168_116 (pc' := 117) (st' := .int (l4 - 1) :: _) rfl ?_
          refine zl zM168 q168_117 rfl ?_
          refine zgR (a := 107) zM168 q168_118 (by decide) g12_242 s82 rfl ?_
          refine zl zM168 q168_121 rfl ?_
          refine zkI zM168 q168_123 kI1 ?_
          refine zl zM168 q168_124 (pc' := 125) (st' := .int (l4 - 1) :: _) rfl ?_
          obtain ⟨hb, hw⟩ := hw
          refine ziA zM168 q168_125 (by decide) s107 hb (v := (h 107 (Int32.toNatClampNeg (l4 - 1)))) rfl ?_
          refine zb1_ne zM168 q168_126 (tgt := 133) rfl (fun hc => ?_) (fun hc => ?_)
          · have hw := hw.2 hc
            refine zkI zM168 q168_133 kI0 ?_
            refine zweak (a := [some (.ref 82), none, some (.int l2), some (.int l3), some (.int l4), some (.int l5), none]) ?_ hw
            exact ⟨rfl, ⟨rfl, ⟨rfl, ⟨rfl, ⟨rfl, trivial⟩⟩⟩⟩⟩
          · have hw := hw.1 hc
            refine zkI zM168 q168_129 kI1 ?_
            refine zl zM168 q168_130 (pc' := 134) (ls' := _) (st' := _) rfl ?_
            refine zweak (a := [some (.ref 82), none, some (.int l2), some (.int l3), some (.int l4), some (.int l5), none]) ?_ hw
            exact ⟨rfl, ⟨rfl, ⟨rfl, ⟨rfl, ⟨rfl, trivial⟩⟩⟩⟩⟩
      · have hw := hw.1 hc
        refine zl zM168 q168_82 rfl ?_
        refine zgR (a := 107) zM168 q168_83 (by decide) g12_242 s82 rfl ?_
        refine zl zM168 q168_86 rfl ?_
        refine zl zM168 q168_88 rfl ?_
        refine zl zM168 q168_89 rfl ?_
        refine zl zM168 q168_91 rfl ?_
        refine zcV zM168 q168_92 kl12_245 rfl rfl (Nat.le_of_ble_eq_true rfl) rfl zM166 (Nat.le_of_ble_eq_true rfl) (hw.mono (fun r0 h8 hr9 => ?_))
        obtain ⟨v7, rfl, hw⟩ := hr9
        show zP X (d + 1) 168 95 [some (.ref 82), none, some (.int l2), some (.int l3), some (.int l4), some (.int l5), some (.int (h 101 (Int32.toNatClampNeg ((160 * l3) + l5))))] [.int v7, .int l4, .ref 107] z_S0 h8 (zI A)
        obtain ⟨hb, hw⟩ := hw
        refine ziS zM168 q168_95 (by decide) s107 hb rfl ?_
        refine zl zM168 q168_96 (ls' := [some (.ref 82), none, some (.int l2), some (.int l3), some (.int (l4 + 1)), some (.int l5), some (.int (h 101 (Int32.toNatClampNeg ((160 * l3) + l5))))]) rfl ?_
        refine zl zM168 q168_99 (pc' := 200) (ls' := _) (st' := _) rfl ?_
        refine zweak (a := [some (.ref 82), none, some (.int l2), some (.int l3), some (.int (l4 + 1)), some (.int l5), none]) ?_ hw
        exact ⟨rfl, ⟨rfl, ⟨rfl, ⟨rfl, ⟨rfl, trivial⟩⟩⟩⟩⟩
    · have hw := hw.1 hc
      refine zl zM168 q168_58 rfl ?_
      refine zgR (a := 107) zM168 q168_59 (by decide) g12_242 s82 rfl ?_
      refine zl zM168 q168_62 rfl ?_
      refine zkI zM168 q168_64 kIm1 ?_
      refine zl zM168 q168_65 rfl ?_
      refine zl zM168 q168_67 (pc' := 68) (st' := .int ((-1) - (h 101 (Int32.toNatClampNeg ((160 * l3) + l5)))) :: _) rfl ?_
      obtain ⟨hb, hw⟩ := hw
      refine ziS zM168 q168_68 (by decide) s107 hb rfl ?_
      refine zl zM168 q168_69 (ls' := [some (.ref 82), none, some (.int l2), some (.int l3), some (.int (l4 + 1)), some (.int l5), some (.int (h 101 (Int32.toNatClampNeg ((160 * l3) + l5))))]) rfl ?_
      refine zl zM168 q168_72 (pc' := 200) (ls' := _) (st' := _) rfl ?_
      refine zweak (a := [some (.ref 82), none, some (.int l2), some (.int l3), some (.int (l4 + 1)), some (.int l5), none]) ?_ hw
      exact ⟨rfl, ⟨rfl, ⟨rfl, ⟨rfl, ⟨rfl, trivial⟩⟩⟩⟩⟩
theorem b168_200 {X : Option (List Int32)} {d : Nat} {h : zH} {A : Int32 → zH → Prop} {l2 : Int32} {l3 : Int32} {l4 : Int32} {l5 : Int32} (hw : zP X (d + 1) 168 27 [some (.ref 82), none, some (.int l2), some (.int l3), some (.int l4), some (.int (l5 + 1)), none] [] z_S0 h (zI A)) : zP X (d + 1) 168 200 [some (.ref 82), none, some (.int l2), some (.int l3), some (.int l4), some (.int l5), none] [] z_S0 h (zI A) := by
  refine zl zM168 q168_200 (ls' := [some (.ref 82), none, some (.int l2), some (.int l3), some (.int l4), some (.int (l5 + 1)), none]) rfl ?_
  refine zl zM168 q168_203 (pc' := 27) (ls' := _) (st' := _) rfl ?_
  exact hw
theorem b168_134 {X : Option (List Int32)} {d : Nat} {h : zH} {A : Int32 → zH → Prop} {l2 : Int32} {l3 : Int32} {l4 : Int32} {l5 : Int32} {w1 : Int32} {w2 : Int32} (hw : (z_ib w1 170 ∧ zP X (d + 1) 168 200 [some (.ref 82), none, some (.int l2), some (.int l3), some (.int l4), some (.int l5), none] [] z_S0 (z_up h 107 (Int32.toNatClampNeg w1) w2) (zI A))) : zP X (d + 1) 168 134 [some (.ref 82), none, some (.int l2), some (.int l3), some (.int l4), some (.int l5), none] [.int w2, .int w1, .ref 107] z_S0 h (zI A) := by
  obtain ⟨hb, hw⟩ := hw
  refine ziS zM168 q168_134 (by decide) s107 hb rfl ?_
  refine zl zM168 q168_135 (pc' := 200) (ls' := _) (st' := _) rfl ?_
  exact hw
-- X12_contract
theorem b170 {X : Option (List Int32)} {d : Nat} {h : zH} {A : Int32 → zH → Prop} {a1 : Int32} {a2 : Int32} {a3 : Int32} (hw : zP X d 131 0 (z_ent [.int a1] 1) [] z_S0 h (zI fun v1 h2 => ((v1 = 0 → A (-2) h2) ∧ (¬ v1 = 0 → zP X d 130 0 (z_ent [.int a2] 1) [] z_S0 h2 (zI fun v3 h4 => ((v3 = 0 → A (-2) h4) ∧ (¬ v3 = 0 → zP X d 128 0 (z_ent [.long (Int32.toInt64 a3), .long 0, .long (Int32.toInt64 ((h4 82 23) - 1))] 6) [] z_S0 h4 (zI fun v5 h6 => ((v5 = 0 → A (-2) h6) ∧ (¬ v5 = 0 → (((h6 82 40) = 20 → A (-4) h6) ∧ (¬ (h6 82 40) = 20 → (z_ib (h6 82 40) 20 ∧ (z_ib (h6 82 40) 20 ∧ (z_ib (h6 82 40) 20 ∧ A ((h6 82 40) + 1) (z_up (z_up (z_up (z_up h6 108 (Int32.toNatClampNeg (h6 82 40)) a1) 109 (Int32.toNatClampNeg (h6 82 40)) a2) 110 (Int32.toNatClampNeg (h6 82 40)) a3) 82 40 ((h6 82 40) + 1))))))))))))))))) : zP X (d + 1) 170 0 (z_ent [.ref 82, .int a1, .int a2, .int a3] 4) [] z_S0 h (zI A) := by
  show zP X (d + 1) 170 0 [some (.ref 82), some (.int a1), some (.int a2), some (.int a3)] [] z_S0 h (zI A)
  refine zl zM170 q170_0 rfl ?_
  refine zcS zM170 q170_1 ky12_24 kl12_24 (by decide) rfl (Nat.le_of_ble_eq_true rfl) zM131 (Nat.le_of_ble_eq_true rfl) (hw.mono (fun r0 h2 hr9 => ?_))
  obtain ⟨v1, rfl, hw⟩ := hr9
  show zP X (d + 1) 170 4 [some (.ref 82), some (.int a1), some (.int a2), some (.int a3)] [.int v1] z_S0 h2 (zI A)
  refine zb1_eq zM170 q170_4 (tgt := 30) rfl (fun hc => ?_) (fun hc => ?_)
  · have hw := hw.1 hc
    refine zkB zM170 q170_30 kBm2 ?_
    exact zri zM170 q170_32 rfl rfl hw
  · have hw := hw.2 hc
    refine zl zM170 q170_7 rfl ?_
    refine zcS zM170 q170_8 ky12_105 kl12_105 (by decide) rfl (Nat.le_of_ble_eq_true rfl) zM130 (Nat.le_of_ble_eq_true rfl) (hw.mono (fun r0 h4 hr8 => ?_))
    obtain ⟨v3, rfl, hw⟩ := hr8
    show zP X (d + 1) 170 11 [some (.ref 82), some (.int a1), some (.int a2), some (.int a3)] [.int v3] z_S0 h4 (zI A)
    refine zb1_eq zM170 q170_11 (tgt := 30) rfl (fun hc => ?_) (fun hc => ?_)
    · have hw := hw.1 hc
      refine zkB zM170 q170_30 kBm2 ?_
      exact zri zM170 q170_32 rfl rfl hw
    · have hw := hw.2 hc
      refine zl zM170 q170_14 rfl ?_
      refine zl zM170 q170_15 (pc' := 16) (st' := .long (Int32.toInt64 a3) :: _) rfl ?_
      refine zkL (v := 0) zM170 q170_16 rfl ?_
      refine zl zM170 q170_17 rfl ?_
      refine zgI zM170 q170_18 (by decide) g12_229 s82 rfl (v := (h4 82 23)) rfl ?_
      refine zkI zM170 q170_21 kI1 ?_
      refine zl zM170 q170_22 (pc' := 23) (st' := .int ((h4 82 23) - 1) :: _) rfl ?_
      refine zl zM170 q170_23 (pc' := 24) (st' := .long (Int32.toInt64 ((h4 82 23) - 1)) :: _) rfl ?_
      refine zcS zM170 q170_24 ky12_3 kl12_3 (by decide) rfl (Nat.le_of_ble_eq_true rfl) zM128 (Nat.le_of_ble_eq_true rfl) (hw.mono (fun r0 h6 hr7 => ?_))
      obtain ⟨v5, rfl, hw⟩ := hr7
      show zP X (d + 1) 170 27 [some (.ref 82), some (.int a1), some (.int a2), some (.int a3)] [.int v5] z_S0 h6 (zI A)
      refine zb1_ne zM170 q170_27 (tgt := 33) rfl (fun hc => ?_) (fun hc => ?_)
      · have hw := hw.2 hc
        refine zl zM170 q170_33 rfl ?_
        refine zgI zM170 q170_34 (by decide) g12_355 s82 rfl (v := (h6 82 40)) rfl ?_
        refine zkB zM170 q170_37 kB20 ?_
        refine zb2_ne zM170 q170_39 (tgt := 45) rfl (fun hc => ?_) (fun hc => ?_)
        · have hw := hw.2 hc
          refine zl zM170 q170_45 rfl ?_
          refine zgR (a := 108) zM170 q170_46 (by decide) g12_256 s82 rfl ?_
          refine zl zM170 q170_49 rfl ?_
          refine zgI zM170 q170_50 (by decide) g12_355 s82 rfl (v := (h6 82 40)) rfl ?_
          refine zl zM170 q170_53 rfl ?_
          obtain ⟨hb, hw⟩ := hw
          refine ziS zM170 q170_54 (by decide) s108 hb rfl ?_
          refine zl zM170 q170_55 rfl ?_
          refine zgR (a := 109) zM170 q170_56 (by decide) g12_259 s82 rfl ?_
          refine zl zM170 q170_59 rfl ?_
          refine zgI zM170 q170_60 (by decide) g12_355 s82 rfl (v := (h6 82 40)) rfl ?_
          refine zl zM170 q170_63 rfl ?_
          obtain ⟨hb, hw⟩ := hw
          refine ziS zM170 q170_64 (by decide) s109 hb rfl ?_
          refine zl zM170 q170_65 rfl ?_
          refine zgR (a := 110) zM170 q170_66 (by decide) g12_262 s82 rfl ?_
          refine zl zM170 q170_69 rfl ?_
          refine zgI zM170 q170_70 (by decide) g12_355 s82 rfl (v := (h6 82 40)) rfl ?_
          refine zl zM170 q170_73 rfl ?_
          obtain ⟨hb, hw⟩ := hw
          refine ziS zM170 q170_74 (by decide) s110 hb rfl ?_
          refine zl zM170 q170_75 rfl ?_
          refine zl zM170 q170_76 rfl ?_
          refine zgI zM170 q170_77 (by decide) g12_355 s82 rfl (v := (h6 82 40)) rfl ?_
          refine zkI zM170 q170_80 kI1 ?_
          refine zl zM170 q170_81 (pc' := 82) (st' := .int ((h6 82 40) + 1) :: _) rfl ?_
          refine zpi zM170 q170_82 (by decide) g12_355 s82 rfl rfl ?_
          refine zl zM170 q170_85 rfl ?_
          refine zgI zM170 q170_86 (by decide) g12_355 s82 rfl (v := ((h6 82 40) + 1)) rfl ?_
          exact zri zM170 q170_89 rfl rfl hw
        · have hw := hw.1 hc
          refine zkB zM170 q170_42 kBm4 ?_
          exact zri zM170 q170_44 rfl rfl hw
      · have hw := hw.1 hc
        refine zkB zM170 q170_30 kBm2 ?_
        exact zri zM170 q170_32 rfl rfl hw
-- X12_textFor
theorem b171 {X : Option (List Int32)} {d : Nat} {h : zH} {A : Int32 → zH → Prop} {a1 : Int32} {a2 : Int32} (hw : zP X d 171 8 [some (.ref 82), some (.int a1), some (.int a2), some (.int (-1)), some (.int 0), some (.int 0)] [] z_S0 h (zI A)) : zP X d 171 0 (z_ent [.ref 82, .int a1, .int a2] 6) [] z_S0 h (zI A) := by
  show zP X d 171 0 [some (.ref 82), some (.int a1), some (.int a2), none, none, none] [] z_S0 h (zI A)
  refine zkI zM171 q171_0 kIm1 ?_
  refine zl zM171 q171_1 (ls' := [some (.ref 82), some (.int a1), some (.int a2), some (.int (-1)), none, none]) rfl ?_
  refine zkI zM171 q171_2 kI0 ?_
  refine zl zM171 q171_3 (ls' := [some (.ref 82), some (.int a1), some (.int a2), some (.int (-1)), some (.int 0), none]) rfl ?_
  refine zkI zM171 q171_5 kI0 ?_
  refine zl zM171 q171_6 (ls' := [some (.ref 82), some (.int a1), some (.int a2), some (.int (-1)), some (.int 0), some (.int 0)]) rfl ?_
  exact hw
theorem b171_8 {X : Option (List Int32)} {d : Nat} {h : zH} {A : Int32 → zH → Prop} {l1 : Int32} {l2 : Int32} {l3 : Int32} {l4 : Int32} {l5 : Int32} (hw : ((l5 < (h 82 40) → (z_ib l5 20 ∧ (((h 108 (Int32.toNatClampNeg l5)) = l1 → (z_ib l5 20 ∧ ((l2 < (h 109 (Int32.toNatClampNeg l5)) → zP X d 171 67 [some (.ref 82), some (.int l1), some (.int l2), some (.int l3), some (.int l4), some (.int l5)] [] z_S0 h (zI A)) ∧ (¬ l2 < (h 109 (Int32.toNatClampNeg l5)) → (z_ib l5 20 ∧ (((h 109 (Int32.toNatClampNeg l5)) < l3 → zP X d 171 67 [some (.ref 82), some (.int l1), some (.int l2), some (.int l3), some (.int l4), some (.int l5)] [] z_S0 h (zI A)) ∧ (¬ (h 109 (Int32.toNatClampNeg l5)) < l3 → (z_ib l5 20 ∧ (z_ib l5 20 ∧ zP X d 171 67 [some (.ref 82), some (.int l1), some (.int l2), some (.int (h 109 (Int32.toNatClampNeg l5))), some (.int (h 110 (Int32.toNatClampNeg l5))), some (.int l5)] [] z_S0 h (zI A)))))))))) ∧ (¬ (h 108 (Int32.toNatClampNeg l5)) = l1 → zP X d 171 67 [some (.ref 82), some (.int l1), some (.int l2), some (.int l3), some (.int l4), some (.int l5)] [] z_S0 h (zI A))))) ∧ (¬ l5 < (h 82 40) → A l4 h))) : zP X d 171 8 [some (.ref 82), some (.int l1), some (.int l2), some (.int l3), some (.int l4), some (.int l5)] [] z_S0 h (zI A) := by
  refine zl zM171 q171_8 rfl ?_
  refine zl zM171 q171_10 rfl ?_
  refine zgI zM171 q171_11 (by decide) g12_355 s82 rfl (v := (h 82 40)) rfl ?_
  refine zb2_ge zM171 q171_14 (tgt := 73) rfl (fun hc => ?_) (fun hc => ?_)
  · have hw := hw.2 hc
    refine zl zM171 q171_73 rfl ?_
    exact zri zM171 q171_75 rfl rfl hw
  · have hw := hw.1 hc
    refine zl zM171 q171_17 rfl ?_
    refine zgR (a := 108) zM171 q171_18 (by decide) g12_256 s82 rfl ?_
    refine zl zM171 q171_21 rfl ?_
    obtain ⟨hb, hw⟩ := hw
    refine ziA zM171 q171_23 (by decide) s108 hb (v := (h 108 (Int32.toNatClampNeg l5))) rfl ?_
    refine zl zM171 q171_24 rfl ?_
    refine zb2_ne zM171 q171_25 (tgt := 67) rfl (fun hc => ?_) (fun hc => ?_)
    · have hw := hw.2 hc
      exact hw
    · have hw := hw.1 hc
      refine zl zM171 q171_28 rfl ?_
      refine zgR (a := 109) zM171 q171_29 (by decide) g12_259 s82 rfl ?_
      refine zl zM171 q171_32 rfl ?_
      obtain ⟨hb, hw⟩ := hw
      refine ziA zM171 q171_34 (by decide) s109 hb (v := (h 109 (Int32.toNatClampNeg l5))) rfl ?_
      refine zl zM171 q171_35 rfl ?_
      refine zb2_gt zM171 q171_36 (tgt := 67) rfl (fun hc => ?_) (fun hc => ?_)
      · have hw := hw.1 hc
        exact hw
      · have hw := hw.2 hc
        refine zl zM171 q171_39 rfl ?_
        refine zgR (a := 109) zM171 q171_40 (by decide) g12_259 s82 rfl ?_
        refine zl zM171 q171_43 rfl ?_
        obtain ⟨hb, hw⟩ := hw
        refine ziA zM171 q171_45 (by decide) s109 hb (v := (h 109 (Int32.toNatClampNeg l5))) rfl ?_
        refine zl zM171 q171_46 rfl ?_
        refine zb2_lt zM171 q171_47 (tgt := 67) rfl (fun hc => ?_) (fun hc => ?_)
        · have hw := hw.1 hc
          exact hw
        · have hw := hw.2 hc
          refine zl zM171 q171_50 rfl ?_
          refine zgR (a := 109) zM171 q171_51 (by decide) g12_259 s82 rfl ?_
          refine zl zM171 q171_54 rfl ?_
          obtain ⟨hb, hw⟩ := hw
          refine ziA zM171 q171_56 (by decide) s109 hb (v := (h 109 (Int32.toNatClampNeg l5))) rfl ?_
          refine zl zM171 q171_57 (ls' := [some (.ref 82), some (.int l1), some (.int l2), some (.int (h 109 (Int32.toNatClampNeg l5))), some (.int l4), some (.int l5)]) rfl ?_
          refine zl zM171 q171_58 rfl ?_
          refine zgR (a := 110) zM171 q171_59 (by decide) g12_262 s82 rfl ?_
          refine zl zM171 q171_62 rfl ?_
          obtain ⟨hb, hw⟩ := hw
          refine ziA zM171 q171_64 (by decide) s110 hb (v := (h 110 (Int32.toNatClampNeg l5))) rfl ?_
          refine zl zM171 q171_65 (ls' := [some (.ref 82), some (.int l1), some (.int l2), some (.int (h 109 (Int32.toNatClampNeg l5))), some (.int (h 110 (Int32.toNatClampNeg l5))), some (.int l5)]) rfl ?_
          exact hw
theorem b171_67 {X : Option (List Int32)} {d : Nat} {h : zH} {A : Int32 → zH → Prop} {l1 : Int32} {l2 : Int32} {l3 : Int32} {l4 : Int32} {l5 : Int32} (hw : zP X d 171 8 [some (.ref 82), some (.int l1), some (.int l2), some (.int l3), some (.int l4), some (.int (l5 + 1))] [] z_S0 h (zI A)) : zP X d 171 67 [some (.ref 82), some (.int l1), some (.int l2), some (.int l3), some (.int l4), some (.int l5)] [] z_S0 h (zI A) := by
  refine zl zM171 q171_67 (ls' := [some (.ref 82), some (.int l1), some (.int l2), some (.int l3), some (.int l4), some (.int (l5 + 1))]) rfl ?_
  refine zl zM171 q171_70 (pc' := 8) (ls' := _) (st' := _) rfl ?_
  exact hw
-- X12_contractOf
theorem b172 {X : Option (List Int32)} {d : Nat} {h : zH} {A : Int32 → zH → Prop} {a1 : Int32} {a2 : Int32} (hw : zP X d 131 0 (z_ent [.int a1] 1) [] z_S0 h (zI fun v1 h2 => ((v1 = 0 → A (-2) h2) ∧ (¬ v1 = 0 → zP X d 130 0 (z_ent [.int a2] 1) [] z_S0 h2 (zI fun v3 h4 => ((v3 = 0 → A (-2) h4) ∧ (¬ v3 = 0 → zP X d 171 0 (z_ent [.ref 82, .int a1, .int a2] 6) [] z_S0 h4 (zI fun v5 h6 => A v5 h6)))))))) : zP X (d + 1) 172 0 (z_ent [.ref 82, .int a1, .int a2] 3) [] z_S0 h (zI A) := by
  show zP X (d + 1) 172 0 [some (.ref 82), some (.int a1), some (.int a2)] [] z_S0 h (zI A)
  refine zl zM172 q172_0 rfl ?_
  refine zcS zM172 q172_1 ky12_24 kl12_24 (by decide) rfl (Nat.le_of_ble_eq_true rfl) zM131 (Nat.le_of_ble_eq_true rfl) (hw.mono (fun r0 h2 hr9 => ?_))
  obtain ⟨v1, rfl, hw⟩ := hr9
  show zP X (d + 1) 172 4 [some (.ref 82), some (.int a1), some (.int a2)] [.int v1] z_S0 h2 (zI A)
  refine zb1_eq zM172 q172_4 (tgt := 23) rfl (fun hc => ?_) (fun hc => ?_)
  · have hw := hw.1 hc
    refine zkB zM172 q172_23 kBm2 ?_
    exact zri zM172 q172_25 rfl rfl hw
  · have hw := hw.2 hc
    refine zl zM172 q172_7 rfl ?_
    refine zcS zM172 q172_8 ky12_105 kl12_105 (by decide) rfl (Nat.le_of_ble_eq_true rfl) zM130 (Nat.le_of_ble_eq_true rfl) (hw.mono (fun r0 h4 hr8 => ?_))
    obtain ⟨v3, rfl, hw⟩ := hr8
    show zP X (d + 1) 172 11 [some (.ref 82), some (.int a1), some (.int a2)] [.int v3] z_S0 h4 (zI A)
    refine zb1_eq zM172 q172_11 (tgt := 23) rfl (fun hc => ?_) (fun hc => ?_)
    · have hw := hw.1 hc
      refine zkB zM172 q172_23 kBm2 ?_
      exact zri zM172 q172_25 rfl rfl hw
    · have hw := hw.2 hc
      refine zl zM172 q172_14 rfl ?_
      refine zl zM172 q172_15 rfl ?_
      refine zl zM172 q172_16 rfl ?_
      refine zcV zM172 q172_17 kl12_239 rfl rfl (Nat.le_of_ble_eq_true rfl) rfl zM171 (Nat.le_of_ble_eq_true rfl) (hw.mono (fun r0 h6 hr7 => ?_))
      obtain ⟨v5, rfl, hw⟩ := hr7
      show zP X (d + 1) 172 20 [some (.ref 82), some (.int a1), some (.int a2)] [.int v5] z_S0 h6 (zI A)
      refine zl zM172 q172_20 (pc' := 25) (ls' := _) (st' := _) rfl ?_
      exact zri zM172 q172_25 rfl rfl hw
-- X12_says
theorem b173 {X : Option (List Int32)} {d : Nat} {h : zH} {A : Int64 → zH → Prop} {a1 : Int32} {a2 : Int32} (hw : zP X d 134 0 (z_ent [.ref 82, .int a1] 2) [] z_S0 h (zI fun v1 h2 => ((v1 = 0 → A (-4611686018427387904) h2) ∧ (¬ v1 = 0 → zP X d 128 0 (z_ent [.long (Int32.toInt64 a2), .long 0, .long 2] 6) [] z_S0 h2 (zI fun v3 h4 => ((v3 = 0 → A (-4611686018427387904) h4) ∧ (¬ v3 = 0 → zP X d 168 0 (z_ent [.ref 82, .int a2, .int a1] 7) [] z_S0 h4 (zI fun v5 h7 => A (Int32.toInt64 v5) h7)))))))) : zP X (d + 1) 173 0 (z_ent [.ref 82, .int a1, .int a2] 3) [] z_S0 h (zJ A) := by
  show zP X (d + 1) 173 0 [some (.ref 82), some (.int a1), some (.int a2)] [] z_S0 h (zJ A)
  refine zl zM173 q173_0 rfl ?_
  refine zl zM173 q173_1 rfl ?_
  refine zcV zM173 q173_2 kl12_73 rfl rfl (Nat.le_of_ble_eq_true rfl) rfl zM134 (Nat.le_of_ble_eq_true rfl) (hw.mono (fun r0 h2 hr10 => ?_))
  obtain ⟨v1, rfl, hw⟩ := hr10
  show zP X (d + 1) 173 5 [some (.ref 82), some (.int a1), some (.int a2)] [.int v1] z_S0 h2 (zJ A)
  refine zb1_eq zM173 q173_5 (tgt := 30) rfl (fun hc => ?_) (fun hc => ?_)
  · have hw := hw.1 hc
    refine zkJ zM173 q173_30 kc12_363 ?_
    exact zrj zM173 q173_33 rfl hw
  · have hw := hw.2 hc
    refine zl zM173 q173_8 rfl ?_
    refine zl zM173 q173_9 (pc' := 10) (st' := .long (Int32.toInt64 a2) :: _) rfl ?_
    refine zkL (v := 0) zM173 q173_10 rfl ?_
    refine zkJ zM173 q173_11 kc12_358 ?_
    refine zcS zM173 q173_14 ky12_3 kl12_3 (by decide) rfl (Nat.le_of_ble_eq_true rfl) zM128 (Nat.le_of_ble_eq_true rfl) (hw.mono (fun r0 h4 hr9 => ?_))
    obtain ⟨v3, rfl, hw⟩ := hr9
    show zP X (d + 1) 173 17 [some (.ref 82), some (.int a1), some (.int a2)] [.int v3] z_S0 h4 (zJ A)
    refine zb1_eq zM173 q173_17 (tgt := 30) rfl (fun hc => ?_) (fun hc => ?_)
    · have hw := hw.1 hc
      refine zkJ zM173 q173_30 kc12_363 ?_
      exact zrj zM173 q173_33 rfl hw
    · have hw := hw.2 hc
      refine zl zM173 q173_20 rfl ?_
      refine zl zM173 q173_21 rfl ?_
      refine zl zM173 q173_22 rfl ?_
      refine zcV zM173 q173_23 kl12_360 rfl rfl (Nat.le_of_ble_eq_true rfl) rfl zM168 (Nat.le_of_ble_eq_true rfl) (hw.mono (fun r0 h7 hr8 => ?_))
      obtain ⟨v5, rfl, hw⟩ := hr8
      show zP X (d + 1) 173 26 [some (.ref 82), some (.int a1), some (.int a2)] [.int v5] z_S0 h7 (zJ A)
      refine zl zM173 q173_26 (pc' := 27) (st' := .long (Int32.toInt64 v5) :: _) rfl ?_
      refine zl zM173 q173_27 (pc' := 33) (ls' := _) (st' := _) rfl ?_
      exact zrj zM173 q173_33 rfl hw
-- X12_areDays
theorem b174 {X : Option (List Int32)} {d : Nat} {h : zH} {A : Int32 → zH → Prop} {a1 : Int32} {a2 : Int32} (hw : zP X d 130 0 (z_ent [.int a1] 1) [] z_S0 h (zI fun v1 h2 => ((v1 = 0 → A 0 h2) ∧ (¬ v1 = 0 → zP X d 130 0 (z_ent [.int a2] 1) [] z_S0 h2 (zI fun v3 h4 => ((v3 = 0 → A 0 h4) ∧ (¬ v3 = 0 → ((a2 < a1 → A 0 h4) ∧ (¬ a2 < a1 → A 1 h4))))))))) : zP X (d + 1) 174 0 (z_ent [.int a1, .int a2] 2) [] z_S0 h (zI A) := by
  show zP X (d + 1) 174 0 [some (.int a1), some (.int a2)] [] z_S0 h (zI A)
  refine zl zM174 q174_0 rfl ?_
  refine zcS zM174 q174_1 ky12_105 kl12_105 (by decide) rfl (Nat.le_of_ble_eq_true rfl) zM130 (Nat.le_of_ble_eq_true rfl) (hw.mono (fun r0 h2 hr6 => ?_))
  obtain ⟨v1, rfl, hw⟩ := hr6
  show zP X (d + 1) 174 4 [some (.int a1), some (.int a2)] [.int v1] z_S0 h2 (zI A)
  refine zb1_eq zM174 q174_4 (tgt := 23) rfl (fun hc => ?_) (fun hc => ?_)
  · have hw := hw.1 hc
    refine zkI zM174 q174_23 kI0 ?_
    exact zri zM174 q174_24 rfl rfl hw
  · have hw := hw.2 hc
    refine zl zM174 q174_7 rfl ?_
    refine zcS zM174 q174_8 ky12_105 kl12_105 (by decide) rfl (Nat.le_of_ble_eq_true rfl) zM130 (Nat.le_of_ble_eq_true rfl) (hw.mono (fun r0 h4 hr5 => ?_))
    obtain ⟨v3, rfl, hw⟩ := hr5
    show zP X (d + 1) 174 11 [some (.int a1), some (.int a2)] [.int v3] z_S0 h4 (zI A)
    refine zb1_eq zM174 q174_11 (tgt := 23) rfl (fun hc => ?_) (fun hc => ?_)
    · have hw := hw.1 hc
      refine zkI zM174 q174_23 kI0 ?_
      exact zri zM174 q174_24 rfl rfl hw
    · have hw := hw.2 hc
      refine zl zM174 q174_14 rfl ?_
      refine zl zM174 q174_15 rfl ?_
      refine zb2_gt zM174 q174_16 (tgt := 23) rfl (fun hc => ?_) (fun hc => ?_)
      · have hw := hw.1 hc
        refine zkI zM174 q174_23 kI0 ?_
        exact zri zM174 q174_24 rfl rfl hw
      · have hw := hw.2 hc
        refine zkI zM174 q174_19 kI1 ?_
        refine zl zM174 q174_20 (pc' := 24) (ls' := _) (st' := _) rfl ?_
        exact zri zM174 q174_24 rfl rfl hw
-- X12_isOf
theorem b175 {X : Option (List Int32)} {d : Nat} {h : zH} {A : Int32 → zH → Prop} {a1 : Int32} {a2 : Int32} {a3 : Int32} {a4 : Int32} (hw : (z_ib a1 40 ∧ (((h 86 (Int32.toNatClampNeg a1)) = a2 → (z_ib a1 40 ∧ (((h 91 (Int32.toNatClampNeg a1)) < a3 → A 0 h) ∧ (¬ (h 91 (Int32.toNatClampNeg a1)) < a3 → (z_ib a1 40 ∧ ((a4 < (h 91 (Int32.toNatClampNeg a1)) → A 0 h) ∧ (¬ a4 < (h 91 (Int32.toNatClampNeg a1)) → A 1 h))))))) ∧ (¬ (h 86 (Int32.toNatClampNeg a1)) = a2 → A 0 h)))) : zP X d 175 0 (z_ent [.ref 82, .int a1, .int a2, .int a3, .int a4] 5) [] z_S0 h (zI A) := by
  show zP X d 175 0 [some (.ref 82), some (.int a1), some (.int a2), some (.int a3), some (.int a4)] [] z_S0 h (zI A)
  refine zl zM175 q175_0 rfl ?_
  refine zgR (a := 86) zM175 q175_1 (by decide) g12_39 s82 rfl ?_
  refine zl zM175 q175_4 rfl ?_
  obtain ⟨hb, hw⟩ := hw
  refine ziA zM175 q175_5 (by decide) s86 hb (v := (h 86 (Int32.toNatClampNeg a1))) rfl ?_
  refine zl zM175 q175_6 rfl ?_
  refine zb2_ne zM175 q175_7 (tgt := 35) rfl (fun hc => ?_) (fun hc => ?_)
  · have hw := hw.2 hc
    refine zkI zM175 q175_35 kI0 ?_
    exact zri zM175 q175_36 rfl rfl hw
  · have hw := hw.1 hc
    refine zl zM175 q175_10 rfl ?_
    refine zgR (a := 91) zM175 q175_11 (by decide) g12_54 s82 rfl ?_
    refine zl zM175 q175_14 rfl ?_
    obtain ⟨hb, hw⟩ := hw
    refine ziA zM175 q175_15 (by decide) s91 hb (v := (h 91 (Int32.toNatClampNeg a1))) rfl ?_
    refine zl zM175 q175_16 rfl ?_
    refine zb2_lt zM175 q175_17 (tgt := 35) rfl (fun hc => ?_) (fun hc => ?_)
    · have hw := hw.1 hc
      refine zkI zM175 q175_35 kI0 ?_
      exact zri zM175 q175_36 rfl rfl hw
    · have hw := hw.2 hc
      refine zl zM175 q175_20 rfl ?_
      refine zgR (a := 91) zM175 q175_21 (by decide) g12_54 s82 rfl ?_
      refine zl zM175 q175_24 rfl ?_
      obtain ⟨hb, hw⟩ := hw
      refine ziA zM175 q175_25 (by decide) s91 hb (v := (h 91 (Int32.toNatClampNeg a1))) rfl ?_
      refine zl zM175 q175_26 rfl ?_
      refine zb2_gt zM175 q175_28 (tgt := 35) rfl (fun hc => ?_) (fun hc => ?_)
      · have hw := hw.1 hc
        refine zkI zM175 q175_35 kI0 ?_
        exact zri zM175 q175_36 rfl rfl hw
      · have hw := hw.2 hc
        refine zkI zM175 q175_31 kI1 ?_
        refine zl zM175 q175_32 (pc' := 36) (ls' := _) (st' := _) rfl ?_
        exact zri zM175 q175_36 rfl rfl hw
-- X12_owed
theorem b176 {X : Option (List Int32)} {d : Nat} {h : zH} {A : Int64 → zH → Prop} {a1 : Int32} {a2 : Int32} {a3 : Int32} (hw : zP X d 131 0 (z_ent [.int a1] 1) [] z_S0 h (zI fun v1 h2 => ((v1 = 0 → A (-4611686018427387904) h2) ∧ (¬ v1 = 0 → zP X d 174 0 (z_ent [.int a2, .int a3] 2) [] z_S0 h2 (zI fun v3 h4 => ((v3 = 0 → A (-4611686018427387904) h4) ∧ (¬ v3 = 0 → zP X (d + 1) 176 25 [some (.ref 82), some (.int a1), some (.int a2), some (.int a3), some (.long 0), none, some (.int 0)] [] z_S0 h4 (zJ A)))))))) : zP X (d + 1) 176 0 (z_ent [.ref 82, .int a1, .int a2, .int a3] 7) [] z_S0 h (zJ A) := by
  show zP X (d + 1) 176 0 [some (.ref 82), some (.int a1), some (.int a2), some (.int a3), none, none, none] [] z_S0 h (zJ A)
  refine zl zM176 q176_0 rfl ?_
  refine zcS zM176 q176_1 ky12_24 kl12_24 (by decide) rfl (Nat.le_of_ble_eq_true rfl) zM131 (Nat.le_of_ble_eq_true rfl) (hw.mono (fun r0 h2 hr6 => ?_))
  obtain ⟨v1, rfl, hw⟩ := hr6
  show zP X (d + 1) 176 4 [some (.ref 82), some (.int a1), some (.int a2), some (.int a3), none, none, none] [.int v1] z_S0 h2 (zJ A)
  refine zb1_eq zM176 q176_4 (tgt := 15) rfl (fun hc => ?_) (fun hc => ?_)
  · have hw := hw.1 hc
    refine zkJ zM176 q176_15 kc12_363 ?_
    exact zrj zM176 q176_18 rfl hw
  · have hw := hw.2 hc
    refine zl zM176 q176_7 rfl ?_
    refine zl zM176 q176_8 rfl ?_
    refine zcS zM176 q176_9 ky12_365 kl12_365 (by decide) rfl (Nat.le_of_ble_eq_true rfl) zM174 (Nat.le_of_ble_eq_true rfl) (hw.mono (fun r0 h4 hr5 => ?_))
    obtain ⟨v3, rfl, hw⟩ := hr5
    show zP X (d + 1) 176 12 [some (.ref 82), some (.int a1), some (.int a2), some (.int a3), none, none, none] [.int v3] z_S0 h4 (zJ A)
    refine zb1_ne zM176 q176_12 (tgt := 19) rfl (fun hc => ?_) (fun hc => ?_)
    · have hw := hw.2 hc
      refine zkL (v := 0) zM176 q176_19 rfl ?_
      refine zl zM176 q176_20 (ls' := [some (.ref 82), some (.int a1), some (.int a2), some (.int a3), some (.long 0), none, none]) rfl ?_
      refine zkI zM176 q176_22 kI0 ?_
      refine zl zM176 q176_23 (ls' := [some (.ref 82), some (.int a1), some (.int a2), some (.int a3), some (.long 0), none, some (.int 0)]) rfl ?_
      exact hw
    · have hw := hw.1 hc
      refine zkJ zM176 q176_15 kc12_363 ?_
      exact zrj zM176 q176_18 rfl hw
theorem b176_25 {X : Option (List Int32)} {d : Nat} {h : zH} {A : Int64 → zH → Prop} {l1 : Int32} {l2 : Int32} {l3 : Int32} {l4 : Int64} {l6 : Int32} (hw : ((l6 < (h 82 3) → zP X d 175 0 (z_ent [.ref 82, .int l6, .int l1, .int l2, .int l3] 5) [] z_S0 h (zI fun v7 h8 => ((v7 = 0 → zP X (d + 1) 176 76 [some (.ref 82), some (.int l1), some (.int l2), some (.int l3), some (.long l4), none, some (.int l6)] [] z_S0 h8 (zJ A)) ∧ (¬ v7 = 0 → zP X d 168 0 (z_ent [.ref 82, .int 0, .int l6] 7) [] z_S0 h8 (zI fun v9 h11 => zP X d 168 0 (z_ent [.ref 82, .int 1, .int l6] 7) [] z_S0 h11 (zI fun v12 h14 => zP X d 214 0 (z_ent [.int 0, .int v12] 2) [] z_S0 h14 (zI fun v15 h16 => zP X (d + 1) 176 76 [some (.ref 82), some (.int l1), some (.int l2), some (.int l3), some (.long ((l4 + (Int32.toInt64 v9)) - (Int32.toInt64 v15))), none, some (.int l6)] [] z_S0 h16 (zJ A)))))))) ∧ (¬ l6 < (h 82 3) → A l4 h))) : zP X (d + 1) 176 25 [some (.ref 82), some (.int l1), some (.int l2), some (.int l3), some (.long l4), none, some (.int l6)] [] z_S0 h (zJ A) := by
  refine zl zM176 q176_25 rfl ?_
  refine zl zM176 q176_27 rfl ?_
  refine zgI zM176 q176_28 (by decide) g12_21 s82 rfl (v := (h 82 3)) rfl ?_
  refine zb2_ge zM176 q176_31 (tgt := 82) rfl (fun hc => ?_) (fun hc => ?_)
  · have hw := hw.2 hc
    refine zl zM176 q176_82 rfl ?_
    exact zrj zM176 q176_84 rfl hw
  · have hw := hw.1 hc
    refine zl zM176 q176_34 rfl ?_
    refine zl zM176 q176_35 rfl ?_
    refine zl zM176 q176_37 rfl ?_
    refine zl zM176 q176_38 rfl ?_
    refine zl zM176 q176_39 rfl ?_
    refine zcV zM176 q176_40 kl12_369 rfl rfl (Nat.le_of_ble_eq_true rfl) rfl zM175 (Nat.le_of_ble_eq_true rfl) (hw.mono (fun r0 h8 hr20 => ?_))
    obtain ⟨v7, rfl, hw⟩ := hr20
    show zP X (d + 1) 176 43 [some (.ref 82), some (.int l1), some (.int l2), some (.int l3), some (.long l4), none, some (.int l6)] [.int v7] z_S0 h8 (zJ A)
    refine zb1_eq zM176 q176_43 (tgt := 76) rfl (fun hc => ?_) (fun hc => ?_)
    · have hw := hw.1 hc
      exact hw
    · have hw := hw.2 hc
      refine zl zM176 q176_46 rfl ?_
      refine zl zM176 q176_48 rfl ?_
      refine zkI zM176 q176_49 kI0 ?_
      refine zl zM176 q176_50 rfl ?_
      refine zcV zM176 q176_52 kl12_360 rfl rfl (Nat.le_of_ble_eq_true rfl) rfl zM168 (Nat.le_of_ble_eq_true rfl) (hw.mono (fun r0 h11 hr19 => ?_))
      obtain ⟨v9, rfl, hw⟩ := hr19
      show zP X (d + 1) 176 55 [some (.ref 82), some (.int l1), some (.int l2), some (.int l3), some (.long l4), none, some (.int l6)] [.int v9, .long l4] z_S0 h11 (zJ A)
      refine zl zM176 q176_55 (pc' := 56) (st' := .long (Int32.toInt64 v9) :: _) rfl ?_
      refine zl zM176 q176_56 (pc' := 57) (st' := .long (l4 + (Int32.toInt64 v9)) :: _) rfl ?_
      refine zl zM176 q176_57 (ls' := [some (.ref 82), some (.int l1), some (.int l2), some (.int l3), some (.long (l4 + (Int32.toInt64 v9))), none, some (.int l6)]) rfl ?_
      refine zl zM176 q176_59 rfl ?_
      refine zkI zM176 q176_61 kI0 ?_
      refine zl zM176 q176_62 rfl ?_
      refine zkI zM176 q176_63 kI1 ?_
      refine zl zM176 q176_64 rfl ?_
      refine zcV zM176 q176_66 kl12_360 rfl rfl (Nat.le_of_ble_eq_true rfl) rfl zM168 (Nat.le_of_ble_eq_true rfl) (hw.mono (fun r0 h14 hr18 => ?_))
      obtain ⟨v12, rfl, hw⟩ := hr18
      show zP X (d + 1) 176 69 [some (.ref 82), some (.int l1), some (.int l2), some (.int l3), some (.long (l4 + (Int32.toInt64 v9))), none, some (.int l6)] [.int v12, .int 0, .long (l4 + (Int32.toInt64 v9))] z_S0 h14 (zJ A)
      refine zcS zM176 q176_69 ky12_373 kl12_373 (by decide) rfl (Nat.le_of_ble_eq_true rfl) zM214 (Nat.le_of_ble_eq_true rfl) (hw.mono (fun r0 h16 hr17 => ?_))
      obtain ⟨v15, rfl, hw⟩ := hr17
      show zP X (d + 1) 176 72 [some (.ref 82), some (.int l1), some (.int l2), some (.int l3), some (.long (l4 + (Int32.toInt64 v9))), none, some (.int l6)] [.int v15, .long (l4 + (Int32.toInt64 v9))] z_S0 h16 (zJ A)
      refine zl zM176 q176_72 (pc' := 73) (st' := .long (Int32.toInt64 v15) :: _) rfl ?_
      refine zl zM176 q176_73 (pc' := 74) (st' := .long ((l4 + (Int32.toInt64 v9)) - (Int32.toInt64 v15)) :: _) rfl ?_
      refine zl zM176 q176_74 (ls' := [some (.ref 82), some (.int l1), some (.int l2), some (.int l3), some (.long ((l4 + (Int32.toInt64 v9)) - (Int32.toInt64 v15))), none, some (.int l6)]) rfl ?_
      exact hw
theorem b176_76 {X : Option (List Int32)} {d : Nat} {h : zH} {A : Int64 → zH → Prop} {l1 : Int32} {l2 : Int32} {l3 : Int32} {l4 : Int64} {l6 : Int32} (hw : zP X (d + 1) 176 25 [some (.ref 82), some (.int l1), some (.int l2), some (.int l3), some (.long l4), none, some (.int (l6 + 1))] [] z_S0 h (zJ A)) : zP X (d + 1) 176 76 [some (.ref 82), some (.int l1), some (.int l2), some (.int l3), some (.long l4), none, some (.int l6)] [] z_S0 h (zJ A) := by
  refine zl zM176 q176_76 (ls' := [some (.ref 82), some (.int l1), some (.int l2), some (.int l3), some (.long l4), none, some (.int (l6 + 1))]) rfl ?_
  refine zl zM176 q176_79 (pc' := 25) (ls' := _) (st' := _) rfl ?_
  exact hw

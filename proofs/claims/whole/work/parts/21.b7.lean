-- X12_cutTo
theorem b207 {X : Option (List Int32)} {d : Nat} {h : zH} {A : Int32 → zH → Prop} {a1 : Int32} {a2 : Int32} (hw : ((a1 = 0 → A ((Int32.toInt8 a2).toInt32) h) ∧ (¬ a1 = 0 → ((a1 = 1 → A ((Int32.toInt16 a2).toInt32) h) ∧ (¬ a1 = 1 → A a2 h))))) : zP X d 207 0 (z_ent [.int a1, .int a2] 2) [] z_S0 h (zI A) := by
  show zP X d 207 0 [some (.int a1), some (.int a2)] [] z_S0 h (zI A)
  refine zl zM207 q207_0 rfl ?_
  refine zb1_ne zM207 q207_1 (tgt := 9) rfl (fun hc => ?_) (fun hc => ?_)
  · have hw := hw.2 hc
    refine zl zM207 q207_9 rfl ?_
    refine zkI zM207 q207_10 kI1 ?_
    refine zb2_ne zM207 q207_11 (tgt := 19) rfl (fun hc => ?_) (fun hc => ?_)
    · have hw := hw.2 hc
      refine zl zM207 q207_19 rfl ?_
      exact zri zM207 q207_20 rfl rfl hw
    · have hw := hw.1 hc
      refine zl zM207 q207_14 rfl ?_
      refine zl zM207 q207_15 (pc' := 16) (st' := .int ((Int32.toInt16 a2).toInt32) :: _) rfl ?_
      refine zl zM207 q207_16 (pc' := 20) (ls' := _) (st' := _) rfl ?_
      exact zri zM207 q207_20 rfl rfl hw
  · have hw := hw.1 hc
    refine zl zM207 q207_4 rfl ?_
    refine zl zM207 q207_5 (pc' := 6) (st' := .int ((Int32.toInt8 a2).toInt32) :: _) rfl ?_
    refine zl zM207 q207_6 (pc' := 20) (ls' := _) (st' := _) rfl ?_
    exact zri zM207 q207_20 rfl rfl hw
-- X12_cell
theorem b208 {X : Option (List Int32)} {d : Nat} {h : zH} {A : Int32 → zH → Prop} {a1 : Int32} {a2 : Int32} {a3 : Int32} (hw : zP X (d + 1) 205 0 (z_ent [.int a1] 1) [] z_S0 h (zI fun v1 h2 => ((v1 = 0 → A (-2) h2) ∧ (¬ v1 = 0 → (z_ib a1 4 ∧ (((h2 137 (Int32.toNatClampNeg a1)) < 0 → A (-11) h2) ∧ (¬ (h2 137 (Int32.toNatClampNeg a1)) < 0 → (z_ib a1 4 ∧ zP X (d + 1) 128 0 (z_ent [.long (Int32.toInt64 a2), .long 0, .long (Int32.toInt64 ((h2 138 (Int32.toNatClampNeg a1)) - 1))] 6) [] z_S0 h2 (zI fun v3 h4 => ((v3 = 0 → A (-12) h4) ∧ (¬ v3 = 0 → (z_ib a1 4 ∧ zP X (d + 1) 207 0 (z_ent [.int (h4 137 (Int32.toNatClampNeg a1)), .int a3] 2) [] z_S0 h4 (zI fun v5 h6 => (z_ib ((40 * a1) + a2) 160 ∧ A 1 (z_up h6 139 (Int32.toNatClampNeg ((40 * a1) + a2)) v5))))))))))))))) : zP X (d + 2) 208 0 (z_ent [.ref 82, .int a1, .int a2, .int a3] 4) [] z_S0 h (zI A) := by
  show zP X (d + 2) 208 0 [some (.ref 82), some (.int a1), some (.int a2), some (.int a3)] [] z_S0 h (zI A)
  refine zl zM208 q208_0 rfl ?_
  refine zcS zM208 q208_1 ky12_448 kl12_448 (by decide) rfl (Nat.le_of_ble_eq_true rfl) zM205 (Nat.le_of_ble_eq_true rfl) (hw.mono (fun r0 h2 hr9 => ?_))
  obtain ⟨v1, rfl, hw⟩ := hr9
  show zP X (d + 2) 208 4 [some (.ref 82), some (.int a1), some (.int a2), some (.int a3)] [.int v1] z_S0 h2 (zI A)
  refine zb1_ne zM208 q208_4 (tgt := 10) rfl (fun hc => ?_) (fun hc => ?_)
  · have hw := hw.2 hc
    refine zl zM208 q208_10 rfl ?_
    refine zgR (a := 137) zM208 q208_11 (by decide) g12_343 s82 rfl ?_
    refine zl zM208 q208_14 rfl ?_
    obtain ⟨hb, hw⟩ := hw
    refine ziA zM208 q208_15 (by decide) s137 hb (v := (h2 137 (Int32.toNatClampNeg a1))) rfl ?_
    refine zb1_ge zM208 q208_16 (tgt := 22) rfl (fun hc => ?_) (fun hc => ?_)
    · have hw := hw.2 hc
      refine zl zM208 q208_22 rfl ?_
      refine zl zM208 q208_23 (pc' := 24) (st' := .long (Int32.toInt64 a2) :: _) rfl ?_
      refine zkL (v := 0) zM208 q208_24 rfl ?_
      refine zl zM208 q208_25 rfl ?_
      refine zgR (a := 138) zM208 q208_26 (by decide) g12_346 s82 rfl ?_
      refine zl zM208 q208_29 rfl ?_
      obtain ⟨hb, hw⟩ := hw
      refine ziA zM208 q208_30 (by decide) s138 hb (v := (h2 138 (Int32.toNatClampNeg a1))) rfl ?_
      refine zkI zM208 q208_31 kI1 ?_
      refine zl zM208 q208_32 (pc' := 33) (st' := .int ((h2 138 (Int32.toNatClampNeg a1)) - 1) :: _) rfl ?_
      refine zl zM208 q208_33 (pc' := 34) (st' := .long (Int32.toInt64 ((h2 138 (Int32.toNatClampNeg a1)) - 1)) :: _) rfl ?_
      refine zcS zM208 q208_34 ky12_3 kl12_3 (by decide) rfl (Nat.le_of_ble_eq_true rfl) zM128 (Nat.le_of_ble_eq_true rfl) (hw.mono (fun r0 h4 hr8 => ?_))
      obtain ⟨v3, rfl, hw⟩ := hr8
      show zP X (d + 2) 208 37 [some (.ref 82), some (.int a1), some (.int a2), some (.int a3)] [.int v3] z_S0 h4 (zI A)
      refine zb1_ne zM208 q208_37 (tgt := 43) rfl (fun hc => ?_) (fun hc => ?_)
      · have hw := hw.2 hc
        refine zl zM208 q208_43 rfl ?_
        refine zgR (a := 139) zM208 q208_44 (by decide) g12_349 s82 rfl ?_
        refine zkB zM208 q208_47 kB40 ?_
        refine zl zM208 q208_49 rfl ?_
        refine zl zM208 q208_50 (pc' := 51) (st' := .int (40 * a1) :: _) rfl ?_
        refine zl zM208 q208_51 rfl ?_
        refine zl zM208 q208_52 (pc' := 53) (st' := .int ((40 * a1) + a2) :: _) rfl ?_
        refine zl zM208 q208_53 rfl ?_
        refine zgR (a := 137) zM208 q208_54 (by decide) g12_343 s82 rfl ?_
        refine zl zM208 q208_57 rfl ?_
        obtain ⟨hb, hw⟩ := hw
        refine ziA zM208 q208_58 (by decide) s137 hb (v := (h4 137 (Int32.toNatClampNeg a1))) rfl ?_
        refine zl zM208 q208_59 rfl ?_
        refine zcS zM208 q208_60 ky12_453 kl12_453 (by decide) rfl (Nat.le_of_ble_eq_true rfl) zM207 (Nat.le_of_ble_eq_true rfl) (hw.mono (fun r0 h6 hr7 => ?_))
        obtain ⟨v5, rfl, hw⟩ := hr7
        show zP X (d + 2) 208 63 [some (.ref 82), some (.int a1), some (.int a2), some (.int a3)] [.int v5, .int ((40 * a1) + a2), .ref 139] z_S0 h6 (zI A)
        obtain ⟨hb, hw⟩ := hw
        refine ziS zM208 q208_63 (by decide) s139 hb rfl ?_
        refine zkI zM208 q208_64 kI1 ?_
        exact zri zM208 q208_65 rfl rfl hw
      · have hw := hw.1 hc
        refine zkB zM208 q208_40 kBm12 ?_
        exact zri zM208 q208_42 rfl rfl hw
    · have hw := hw.1 hc
      refine zkB zM208 q208_19 kBm11 ?_
      exact zri zM208 q208_21 rfl rfl hw
  · have hw := hw.1 hc
    refine zkB zM208 q208_7 kBm2 ?_
    exact zri zM208 q208_9 rfl rfl hw
-- X12_copy
theorem b209 {X : Option (List Int32)} {d : Nat} {h : zH} {A : Int32 → zH → Prop} {a1 : Int32} {a2 : Int32} {a3 : Int32} {a4 : Int32} {a5 : Int32} (hw : zP X (d + 1) 205 0 (z_ent [.int a1] 1) [] z_S0 h (zI fun v1 h2 => ((v1 = 0 → A (-2) h2) ∧ (¬ v1 = 0 → zP X (d + 1) 205 0 (z_ent [.int a3] 1) [] z_S0 h2 (zI fun v3 h4 => ((v3 = 0 → A (-2) h4) ∧ (¬ v3 = 0 → (z_ib a1 4 ∧ (((h4 137 (Int32.toNatClampNeg a1)) < 0 → A (-11) h4) ∧ (¬ (h4 137 (Int32.toNatClampNeg a1)) < 0 → (z_ib a3 4 ∧ (((h4 137 (Int32.toNatClampNeg a3)) < 0 → A (-11) h4) ∧ (¬ (h4 137 (Int32.toNatClampNeg a3)) < 0 → (z_ib a1 4 ∧ (z_ib a3 4 ∧ (((h4 137 (Int32.toNatClampNeg a1)) = (h4 137 (Int32.toNatClampNeg a3)) → ((a5 < 0 → A (-12) h4) ∧ (¬ a5 < 0 → ((a2 < 0 → A (-12) h4) ∧ (¬ a2 < 0 → ((a4 < 0 → A (-12) h4) ∧ (¬ a4 < 0 → (z_ib a1 4 ∧ ((((h4 138 (Int32.toNatClampNeg a1)) - a2) < a5 → A (-12) h4) ∧ (¬ ((h4 138 (Int32.toNatClampNeg a1)) - a2) < a5 → (z_ib a3 4 ∧ ((((h4 138 (Int32.toNatClampNeg a3)) - a4) < a5 → A (-12) h4) ∧ (¬ ((h4 138 (Int32.toNatClampNeg a3)) - a4) < a5 → zP X (d + 2) 209 103 [some (.ref 82), some (.int a1), some (.int a2), some (.int a3), some (.int a4), some (.int a5), some (.int 0)] [] z_S0 h4 (zI A)))))))))))))) ∧ (¬ (h4 137 (Int32.toNatClampNeg a1)) = (h4 137 (Int32.toNatClampNeg a3)) → A (-13) h4))))))))))))))))) : zP X (d + 2) 209 0 (z_ent [.ref 82, .int a1, .int a2, .int a3, .int a4, .int a5] 7) [] z_S0 h (zI A) := by
  show zP X (d + 2) 209 0 [some (.ref 82), some (.int a1), some (.int a2), some (.int a3), some (.int a4), some (.int a5), none] [] z_S0 h (zI A)
  refine zl zM209 q209_0 rfl ?_
  refine zcS zM209 q209_1 ky12_448 kl12_448 (by decide) rfl (Nat.le_of_ble_eq_true rfl) zM205 (Nat.le_of_ble_eq_true rfl) (hw.mono (fun r0 h2 hr6 => ?_))
  obtain ⟨v1, rfl, hw⟩ := hr6
  show zP X (d + 2) 209 4 [some (.ref 82), some (.int a1), some (.int a2), some (.int a3), some (.int a4), some (.int a5), none] [.int v1] z_S0 h2 (zI A)
  refine zb1_eq zM209 q209_4 (tgt := 14) rfl (fun hc => ?_) (fun hc => ?_)
  · have hw := hw.1 hc
    refine zkB zM209 q209_14 kBm2 ?_
    exact zri zM209 q209_16 rfl rfl hw
  · have hw := hw.2 hc
    refine zl zM209 q209_7 rfl ?_
    refine zcS zM209 q209_8 ky12_448 kl12_448 (by decide) rfl (Nat.le_of_ble_eq_true rfl) zM205 (Nat.le_of_ble_eq_true rfl) (hw.mono (fun r0 h4 hr5 => ?_))
    obtain ⟨v3, rfl, hw⟩ := hr5
    show zP X (d + 2) 209 11 [some (.ref 82), some (.int a1), some (.int a2), some (.int a3), some (.int a4), some (.int a5), none] [.int v3] z_S0 h4 (zI A)
    refine zb1_ne zM209 q209_11 (tgt := 17) rfl (fun hc => ?_) (fun hc => ?_)
    · have hw := hw.2 hc
      refine zl zM209 q209_17 rfl ?_
      refine zgR (a := 137) zM209 q209_18 (by decide) g12_343 s82 rfl ?_
      refine zl zM209 q209_21 rfl ?_
      obtain ⟨hb, hw⟩ := hw
      refine ziA zM209 q209_22 (by decide) s137 hb (v := (h4 137 (Int32.toNatClampNeg a1))) rfl ?_
      refine zb1_lt zM209 q209_23 (tgt := 35) rfl (fun hc => ?_) (fun hc => ?_)
      · have hw := hw.1 hc
        refine zkB zM209 q209_35 kBm11 ?_
        exact zri zM209 q209_37 rfl rfl hw
      · have hw := hw.2 hc
        refine zl zM209 q209_26 rfl ?_
        refine zgR (a := 137) zM209 q209_27 (by decide) g12_343 s82 rfl ?_
        refine zl zM209 q209_30 rfl ?_
        obtain ⟨hb, hw⟩ := hw
        refine ziA zM209 q209_31 (by decide) s137 hb (v := (h4 137 (Int32.toNatClampNeg a3))) rfl ?_
        refine zb1_ge zM209 q209_32 (tgt := 38) rfl (fun hc => ?_) (fun hc => ?_)
        · have hw := hw.2 hc
          refine zl zM209 q209_38 rfl ?_
          refine zgR (a := 137) zM209 q209_39 (by decide) g12_343 s82 rfl ?_
          refine zl zM209 q209_42 rfl ?_
          obtain ⟨hb, hw⟩ := hw
          refine ziA zM209 q209_43 (by decide) s137 hb (v := (h4 137 (Int32.toNatClampNeg a1))) rfl ?_
          refine zl zM209 q209_44 rfl ?_
          refine zgR (a := 137) zM209 q209_45 (by decide) g12_343 s82 rfl ?_
          refine zl zM209 q209_48 rfl ?_
          obtain ⟨hb, hw⟩ := hw
          refine ziA zM209 q209_49 (by decide) s137 hb (v := (h4 137 (Int32.toNatClampNeg a3))) rfl ?_
          refine zb2_eq zM209 q209_50 (tgt := 56) rfl (fun hc => ?_) (fun hc => ?_)
          · have hw := hw.1 hc
            refine zl zM209 q209_56 rfl ?_
            refine zb1_lt zM209 q209_58 (tgt := 97) rfl (fun hc => ?_) (fun hc => ?_)
            · have hw := hw.1 hc
              refine zkB zM209 q209_97 kBm12 ?_
              exact zri zM209 q209_99 rfl rfl hw
            · have hw := hw.2 hc
              refine zl zM209 q209_61 rfl ?_
              refine zb1_lt zM209 q209_62 (tgt := 97) rfl (fun hc => ?_) (fun hc => ?_)
              · have hw := hw.1 hc
                refine zkB zM209 q209_97 kBm12 ?_
                exact zri zM209 q209_99 rfl rfl hw
              · have hw := hw.2 hc
                refine zl zM209 q209_65 rfl ?_
                refine zb1_lt zM209 q209_67 (tgt := 97) rfl (fun hc => ?_) (fun hc => ?_)
                · have hw := hw.1 hc
                  refine zkB zM209 q209_97 kBm12 ?_
                  exact zri zM209 q209_99 rfl rfl hw
                · have hw := hw.2 hc
                  refine zl zM209 q209_70 rfl ?_
                  refine zl zM209 q209_72 rfl ?_
                  refine zgR (a := 138) zM209 q209_73 (by decide) g12_346 s82 rfl ?_
                  refine zl zM209 q209_76 rfl ?_
                  obtain ⟨hb, hw⟩ := hw
                  refine ziA zM209 q209_77 (by decide) s138 hb (v := (h4 138 (Int32.toNatClampNeg a1))) rfl ?_
                  refine zl zM209 q209_78 rfl ?_
                  refine zl zM209 q209_79 (pc' := 80) (st' := .int ((h4 138 (Int32.toNatClampNeg a1)) - a2) :: _) rfl ?_
                  refine zb2_gt zM209 q209_80 (tgt := 97) rfl (fun hc => ?_) (fun hc => ?_)
                  · have hw := hw.1 hc
                    refine zkB zM209 q209_97 kBm12 ?_
                    exact zri zM209 q209_99 rfl rfl hw
                  · have hw := hw.2 hc
                    refine zl zM209 q209_83 rfl ?_
                    refine zl zM209 q209_85 rfl ?_
                    refine zgR (a := 138) zM209 q209_86 (by decide) g12_346 s82 rfl ?_
                    refine zl zM209 q209_89 rfl ?_
                    obtain ⟨hb, hw⟩ := hw
                    refine ziA zM209 q209_90 (by decide) s138 hb (v := (h4 138 (Int32.toNatClampNeg a3))) rfl ?_
                    refine zl zM209 q209_91 rfl ?_
                    refine zl zM209 q209_93 (pc' := 94) (st' := .int ((h4 138 (Int32.toNatClampNeg a3)) - a4) :: _) rfl ?_
                    refine zb2_le zM209 q209_94 (tgt := 100) rfl (fun hc => ?_) (fun hc => ?_)
                    · have hw := hw.2 hc
                      refine zkI zM209 q209_100 kI0 ?_
                      refine zl zM209 q209_101 (ls' := [some (.ref 82), some (.int a1), some (.int a2), some (.int a3), some (.int a4), some (.int a5), some (.int 0)]) rfl ?_
                      exact hw
                    · have hw := hw.1 hc
                      refine zkB zM209 q209_97 kBm12 ?_
                      exact zri zM209 q209_99 rfl rfl hw
          · have hw := hw.2 hc
            refine zkB zM209 q209_53 kBm13 ?_
            exact zri zM209 q209_55 rfl rfl hw
        · have hw := hw.1 hc
          refine zkB zM209 q209_35 kBm11 ?_
          exact zri zM209 q209_37 rfl rfl hw
    · have hw := hw.1 hc
      refine zkB zM209 q209_14 kBm2 ?_
      exact zri zM209 q209_16 rfl rfl hw
theorem b209_103 {X : Option (List Int32)} {d : Nat} {h : zH} {A : Int32 → zH → Prop} {l1 : Int32} {l2 : Int32} {l3 : Int32} {l4 : Int32} {l5 : Int32} {l6 : Int32} (hw : ((l6 < l5 → (z_ib (((40 * l1) + l2) + l6) 160 ∧ (z_ib l6 40 ∧ zP X (d + 2) 209 103 [some (.ref 82), some (.int l1), some (.int l2), some (.int l3), some (.int l4), some (.int l5), some (.int (l6 + 1))] [] z_S0 (z_up h 140 (Int32.toNatClampNeg l6) (h 139 (Int32.toNatClampNeg (((40 * l1) + l2) + l6)))) (zI A)))) ∧ (¬ l6 < l5 → zP X (d + 2) 209 140 [some (.ref 82), none, none, some (.int l3), some (.int l4), some (.int l5), some (.int 0)] [] z_S0 h (zI A)))) : zP X (d + 2) 209 103 [some (.ref 82), some (.int l1), some (.int l2), some (.int l3), some (.int l4), some (.int l5), some (.int l6)] [] z_S0 h (zI A) := by
  refine zl zM209 q209_103 rfl ?_
  refine zl zM209 q209_105 rfl ?_
  refine zb2_ge zM209 q209_107 (tgt := 137) rfl (fun hc => ?_) (fun hc => ?_)
  · have hw := hw.2 hc
    refine zkI zM209 q209_137 kI0 ?_
    refine zl zM209 q209_138 (ls' := [some (.ref 82), some (.int l1), some (.int l2), some (.int l3), some (.int l4), some (.int l5), some (.int 0)]) rfl ?_
    refine zweak (a := [some (.ref 82), none, none, some (.int l3), some (.int l4), some (.int l5), some (.int 0)]) ?_ hw
    exact ⟨rfl, ⟨rfl, ⟨rfl, ⟨rfl, ⟨rfl, trivial⟩⟩⟩⟩⟩
  · have hw := hw.1 hc
    refine zl zM209 q209_110 rfl ?_
    refine zgR (a := 140) zM209 q209_111 (by decide) g12_352 s82 rfl ?_
    refine zl zM209 q209_114 rfl ?_
    refine zl zM209 q209_116 rfl ?_
    refine zgR (a := 139) zM209 q209_117 (by decide) g12_349 s82 rfl ?_
    refine zkB zM209 q209_120 kB40 ?_
    refine zl zM209 q209_122 rfl ?_
    refine zl zM209 q209_123 (pc' := 124) (st' := .int (40 * l1) :: _) rfl ?_
    refine zl zM209 q209_124 rfl ?_
    refine zl zM209 q209_125 (pc' := 126) (st' := .int ((40 * l1) + l2) :: _) rfl ?_
    refine zl zM209 q209_126 rfl ?_
    refine zl zM209 q209_128 (pc' := 129) (st' := .int (((40 * l1) + l2) + l6) :: _) rfl ?_
    obtain ⟨hb, hw⟩ := hw
    refine ziA zM209 q209_129 (by decide) s139 hb (v := (h 139 (Int32.toNatClampNeg (((40 * l1) + l2) + l6)))) rfl ?_
    obtain ⟨hb, hw⟩ := hw
    refine ziS zM209 q209_130 (by decide) s140 hb rfl ?_
    refine zl zM209 q209_131 (ls' := [some (.ref 82), some (.int l1), some (.int l2), some (.int l3), some (.int l4), some (.int l5), some (.int (l6 + 1))]) rfl ?_
    refine zl zM209 q209_134 (pc' := 103) (ls' := _) (st' := _) rfl ?_
    exact hw
theorem b209_140 {X : Option (List Int32)} {d : Nat} {h : zH} {A : Int32 → zH → Prop} {l3 : Int32} {l4 : Int32} {l5 : Int32} {l6 : Int32} (hw : ((l6 < l5 → (z_ib l6 40 ∧ (z_ib (((40 * l3) + l4) + l6) 160 ∧ zP X (d + 2) 209 140 [some (.ref 82), none, none, some (.int l3), some (.int l4), some (.int l5), some (.int (l6 + 1))] [] z_S0 (z_up h 139 (Int32.toNatClampNeg (((40 * l3) + l4) + l6)) (h 140 (Int32.toNatClampNeg l6))) (zI A)))) ∧ (¬ l6 < l5 → A l5 h))) : zP X (d + 2) 209 140 [some (.ref 82), none, none, some (.int l3), some (.int l4), some (.int l5), some (.int l6)] [] z_S0 h (zI A) := by
  refine zl zM209 q209_140 rfl ?_
  refine zl zM209 q209_142 rfl ?_
  refine zb2_ge zM209 q209_144 (tgt := 175) rfl (fun hc => ?_) (fun hc => ?_)
  · have hw := hw.2 hc
    refine zl zM209 q209_175 rfl ?_
    exact zri zM209 q209_177 rfl rfl hw
  · have hw := hw.1 hc
    refine zl zM209 q209_147 rfl ?_
    refine zgR (a := 139) zM209 q209_148 (by decide) g12_349 s82 rfl ?_
    refine zkB zM209 q209_151 kB40 ?_
    refine zl zM209 q209_153 rfl ?_
    refine zl zM209 q209_154 (pc' := 155) (st' := .int (40 * l3) :: _) rfl ?_
    refine zl zM209 q209_155 rfl ?_
    refine zl zM209 q209_157 (pc' := 158) (st' := .int ((40 * l3) + l4) :: _) rfl ?_
    refine zl zM209 q209_158 rfl ?_
    refine zl zM209 q209_160 (pc' := 161) (st' := .int (((40 * l3) + l4) + l6) :: _) rfl ?_
    refine zl zM209 q209_161 rfl ?_
    refine zgR (a := 140) zM209 q209_162 (by decide) g12_352 s82 rfl ?_
    refine zl zM209 q209_165 rfl ?_
    obtain ⟨hb, hw⟩ := hw
    refine ziA zM209 q209_167 (by decide) s140 hb (v := (h 140 (Int32.toNatClampNeg l6))) rfl ?_
    obtain ⟨hb, hw⟩ := hw
    refine ziS zM209 q209_168 (by decide) s139 hb rfl ?_
    refine zl zM209 q209_169 (ls' := [some (.ref 82), none, none, some (.int l3), some (.int l4), some (.int l5), some (.int (l6 + 1))]) rfl ?_
    refine zl zM209 q209_172 (pc' := 140) (ls' := _) (st' := _) rfl ?_
    exact hw
-- X12_prices
theorem b210 {X : Option (List Int32)} {d : Nat} {h : zH} {A : Int32 → zH → Prop} {a1 : Int32} {a2 : Int32} {a3 : Int32} {a4 : Int32} {a5 : Int32} {a6 : Int32} (hw : zP X (d + 2) 133 0 (z_ent [.int a1] 1) [] z_S0 h (zI fun v1 h2 => ((v1 = 0 → A (-2) h2) ∧ (¬ v1 = 0 → zP X (d + 2) 130 0 (z_ent [.int a2] 1) [] z_S0 h2 (zI fun v3 h4 => ((v3 = 0 → A (-2) h4) ∧ (¬ v3 = 0 → zP X (d + 2) 205 0 (z_ent [.int a3] 1) [] z_S0 h4 (zI fun v5 h6 => ((v5 = 0 → A (-2) h6) ∧ (¬ v5 = 0 → zP X (d + 2) 128 0 (z_ent [.long (Int32.toInt64 a4), .long 0, .long 2] 6) [] z_S0 h6 (zI fun v7 h8 => ((v7 = 0 → A (-2) h8) ∧ (¬ v7 = 0 → zP X (d + 2) 128 0 (z_ent [.long (Int32.toInt64 a6), .long 0, .long 40] 6) [] z_S0 h8 (zI fun v9 h10 => ((v9 = 0 → A (-2) h10) ∧ (¬ v9 = 0 → (z_ib a3 4 ∧ (((h10 137 (Int32.toNatClampNeg a3)) < 0 → zP X (d + 3) 210 73 [some (.ref 82), some (.int a1), some (.int a2), some (.int a3), none, some (.int a5), some (.int a6), none, none, none, none] [] z_S0 h10 (zI A)) ∧ (¬ (h10 137 (Int32.toNatClampNeg a3)) < 0 → (z_ib a3 4 ∧ (((h10 137 (Int32.toNatClampNeg a3)) = a4 → zP X (d + 3) 210 73 [some (.ref 82), some (.int a1), some (.int a2), some (.int a3), none, some (.int a5), some (.int a6), none, none, none, none] [] z_S0 h10 (zI A)) ∧ (¬ (h10 137 (Int32.toNatClampNeg a3)) = a4 → A (-13) h10)))))))))))))))))))))) : zP X (d + 3) 210 0 (z_ent [.ref 82, .int a1, .int a2, .int a3, .int a4, .int a5, .int a6] 11) [] z_S0 h (zI A) := by
  show zP X (d + 3) 210 0 [some (.ref 82), some (.int a1), some (.int a2), some (.int a3), some (.int a4), some (.int a5), some (.int a6), none, none, none, none] [] z_S0 h (zI A)
  refine zl zM210 q210_0 rfl ?_
  refine zcS zM210 q210_1 ky12_96 kl12_96 (by decide) rfl (Nat.le_of_ble_eq_true rfl) zM133 (Nat.le_of_ble_eq_true rfl) (hw.mono (fun r0 h2 hr15 => ?_))
  obtain ⟨v1, rfl, hw⟩ := hr15
  show zP X (d + 3) 210 4 [some (.ref 82), some (.int a1), some (.int a2), some (.int a3), some (.int a4), some (.int a5), some (.int a6), none, none, none, none] [.int v1] z_S0 h2 (zI A)
  refine zb1_eq zM210 q210_4 (tgt := 47) rfl (fun hc => ?_) (fun hc => ?_)
  · have hw := hw.1 hc
    refine zkB zM210 q210_47 kBm2 ?_
    exact zri zM210 q210_49 rfl rfl hw
  · have hw := hw.2 hc
    refine zl zM210 q210_7 rfl ?_
    refine zcS zM210 q210_8 ky12_105 kl12_105 (by decide) rfl (Nat.le_of_ble_eq_true rfl) zM130 (Nat.le_of_ble_eq_true rfl) (hw.mono (fun r0 h4 hr14 => ?_))
    obtain ⟨v3, rfl, hw⟩ := hr14
    show zP X (d + 3) 210 11 [some (.ref 82), some (.int a1), some (.int a2), some (.int a3), some (.int a4), some (.int a5), some (.int a6), none, none, none, none] [.int v3] z_S0 h4 (zI A)
    refine zb1_eq zM210 q210_11 (tgt := 47) rfl (fun hc => ?_) (fun hc => ?_)
    · have hw := hw.1 hc
      refine zkB zM210 q210_47 kBm2 ?_
      exact zri zM210 q210_49 rfl rfl hw
    · have hw := hw.2 hc
      refine zl zM210 q210_14 rfl ?_
      refine zcS zM210 q210_15 ky12_448 kl12_448 (by decide) rfl (Nat.le_of_ble_eq_true rfl) zM205 (Nat.le_of_ble_eq_true rfl) (hw.mono (fun r0 h6 hr13 => ?_))
      obtain ⟨v5, rfl, hw⟩ := hr13
      show zP X (d + 3) 210 18 [some (.ref 82), some (.int a1), some (.int a2), some (.int a3), some (.int a4), some (.int a5), some (.int a6), none, none, none, none] [.int v5] z_S0 h6 (zI A)
      refine zb1_eq zM210 q210_18 (tgt := 47) rfl (fun hc => ?_) (fun hc => ?_)
      · have hw := hw.1 hc
        refine zkB zM210 q210_47 kBm2 ?_
        exact zri zM210 q210_49 rfl rfl hw
      · have hw := hw.2 hc
        refine zl zM210 q210_21 rfl ?_
        refine zl zM210 q210_23 (pc' := 24) (st' := .long (Int32.toInt64 a4) :: _) rfl ?_
        refine zkL (v := 0) zM210 q210_24 rfl ?_
        refine zkJ zM210 q210_25 kc12_358 ?_
        refine zcS zM210 q210_28 ky12_3 kl12_3 (by decide) rfl (Nat.le_of_ble_eq_true rfl) zM128 (Nat.le_of_ble_eq_true rfl) (hw.mono (fun r0 h8 hr12 => ?_))
        obtain ⟨v7, rfl, hw⟩ := hr12
        show zP X (d + 3) 210 31 [some (.ref 82), some (.int a1), some (.int a2), some (.int a3), some (.int a4), some (.int a5), some (.int a6), none, none, none, none] [.int v7] z_S0 h8 (zI A)
        refine zb1_eq zM210 q210_31 (tgt := 47) rfl (fun hc => ?_) (fun hc => ?_)
        · have hw := hw.1 hc
          refine zkB zM210 q210_47 kBm2 ?_
          exact zri zM210 q210_49 rfl rfl hw
        · have hw := hw.2 hc
          refine zl zM210 q210_34 rfl ?_
          refine zl zM210 q210_36 (pc' := 37) (st' := .long (Int32.toInt64 a6) :: _) rfl ?_
          refine zkL (v := 0) zM210 q210_37 rfl ?_
          refine zkJ zM210 q210_38 kc12_456 ?_
          refine zcS zM210 q210_41 ky12_3 kl12_3 (by decide) rfl (Nat.le_of_ble_eq_true rfl) zM128 (Nat.le_of_ble_eq_true rfl) (hw.mono (fun r0 h10 hr11 => ?_))
          obtain ⟨v9, rfl, hw⟩ := hr11
          show zP X (d + 3) 210 44 [some (.ref 82), some (.int a1), some (.int a2), some (.int a3), some (.int a4), some (.int a5), some (.int a6), none, none, none, none] [.int v9] z_S0 h10 (zI A)
          refine zb1_ne zM210 q210_44 (tgt := 50) rfl (fun hc => ?_) (fun hc => ?_)
          · have hw := hw.2 hc
            refine zl zM210 q210_50 rfl ?_
            refine zgR (a := 137) zM210 q210_51 (by decide) g12_343 s82 rfl ?_
            refine zl zM210 q210_54 rfl ?_
            obtain ⟨hb, hw⟩ := hw
            refine ziA zM210 q210_55 (by decide) s137 hb (v := (h10 137 (Int32.toNatClampNeg a3))) rfl ?_
            refine zb1_lt zM210 q210_56 (tgt := 73) rfl (fun hc => ?_) (fun hc => ?_)
            · have hw := hw.1 hc
              refine zweak (a := [some (.ref 82), some (.int a1), some (.int a2), some (.int a3), none, some (.int a5), some (.int a6), none, none, none, none]) ?_ hw
              exact ⟨rfl, ⟨rfl, ⟨rfl, ⟨rfl, ⟨rfl, ⟨rfl, trivial⟩⟩⟩⟩⟩⟩
            · have hw := hw.2 hc
              refine zl zM210 q210_59 rfl ?_
              refine zgR (a := 137) zM210 q210_60 (by decide) g12_343 s82 rfl ?_
              refine zl zM210 q210_63 rfl ?_
              obtain ⟨hb, hw⟩ := hw
              refine ziA zM210 q210_64 (by decide) s137 hb (v := (h10 137 (Int32.toNatClampNeg a3))) rfl ?_
              refine zl zM210 q210_65 rfl ?_
              refine zb2_eq zM210 q210_67 (tgt := 73) rfl (fun hc => ?_) (fun hc => ?_)
              · have hw := hw.1 hc
                refine zweak (a := [some (.ref 82), some (.int a1), some (.int a2), some (.int a3), none, some (.int a5), some (.int a6), none, none, none, none]) ?_ hw
                exact ⟨rfl, ⟨rfl, ⟨rfl, ⟨rfl, ⟨rfl, ⟨rfl, trivial⟩⟩⟩⟩⟩⟩
              · have hw := hw.2 hc
                refine zkB zM210 q210_70 kBm13 ?_
                exact zri zM210 q210_72 rfl rfl hw
          · have hw := hw.1 hc
            refine zkB zM210 q210_47 kBm2 ?_
            exact zri zM210 q210_49 rfl rfl hw
theorem b210_73 {X : Option (List Int32)} {d : Nat} {h : zH} {A : Int32 → zH → Prop} {l1 : Int32} {l2 : Int32} {l3 : Int32} {l5 : Int32} {l6 : Int32} (hw : (z_ib l3 4 ∧ (((h 137 (Int32.toNatClampNeg l3)) < 0 → A (-11) h) ∧ (¬ (h 137 (Int32.toNatClampNeg l3)) < 0 → zP X (d + 3) 210 91 [some (.ref 82), some (.int l1), some (.int l2), some (.int l3), none, some (.int l5), some (.int l6), some (.int 0), some (.int 0), none, none] [] z_S0 h (zI A))))) : zP X (d + 3) 210 73 [some (.ref 82), some (.int l1), some (.int l2), some (.int l3), none, some (.int l5), some (.int l6), none, none, none, none] [] z_S0 h (zI A) := by
  refine zl zM210 q210_73 rfl ?_
  refine zgR (a := 137) zM210 q210_74 (by decide) g12_343 s82 rfl ?_
  refine zl zM210 q210_77 rfl ?_
  obtain ⟨hb, hw⟩ := hw
  refine ziA zM210 q210_78 (by decide) s137 hb (v := (h 137 (Int32.toNatClampNeg l3))) rfl ?_
  refine zb1_ge zM210 q210_79 (tgt := 85) rfl (fun hc => ?_) (fun hc => ?_)
  · have hw := hw.2 hc
    refine zkI zM210 q210_85 kI0 ?_
    refine zl zM210 q210_86 (ls' := [some (.ref 82), some (.int l1), some (.int l2), some (.int l3), none, some (.int l5), some (.int l6), some (.int 0), none, none, none]) rfl ?_
    refine zkI zM210 q210_88 kI0 ?_
    refine zl zM210 q210_89 (ls' := [some (.ref 82), some (.int l1), some (.int l2), some (.int l3), none, some (.int l5), some (.int l6), some (.int 0), some (.int 0), none, none]) rfl ?_
    exact hw
  · have hw := hw.1 hc
    refine zkB zM210 q210_82 kBm11 ?_
    exact zri zM210 q210_84 rfl rfl hw
theorem b210_91 {X : Option (List Int32)} {d : Nat} {h : zH} {A : Int32 → zH → Prop} {l1 : Int32} {l2 : Int32} {l3 : Int32} {l5 : Int32} {l6 : Int32} {l7 : Int32} {l8 : Int32} (hw : ((l8 < l6 → (((lg_cmp ((Int32.toInt64 l5) + (Int32.toInt64 l8)) 0) < 0 → A (-12) h) ∧ (¬ (lg_cmp ((Int32.toInt64 l5) + (Int32.toInt64 l8)) 0) < 0 → (z_ib l3 4 ∧ (((lg_cmp ((Int32.toInt64 l5) + (Int32.toInt64 l8)) (Int32.toInt64 (h 138 (Int32.toNatClampNeg l3)))) < 0 → (z_ib ((40 * l3) + (Int64.toInt32 ((Int32.toInt64 l5) + (Int32.toInt64 l8)))) 160 ∧ zP X (d + 2) 145 0 (z_ent [.ref 82, .int l1, .int (l2 + l8), .int (h 139 (Int32.toNatClampNeg ((40 * l3) + (Int64.toInt32 ((Int32.toInt64 l5) + (Int32.toInt64 l8))))))] 4) [] z_S0 h (zI fun v16 h18 => ((v16 < 0 → zP X (d + 3) 210 162 [some (.ref 82), some (.int l1), some (.int l2), some (.int l3), none, some (.int l5), some (.int l6), none, some (.int l8), none, none] [.int 0, .int l7] z_S0 h18 (zI A)) ∧ (¬ v16 < 0 → zP X (d + 3) 210 162 [some (.ref 82), some (.int l1), some (.int l2), some (.int l3), none, some (.int l5), some (.int l6), none, some (.int l8), none, none] [.int 1, .int l7] z_S0 h18 (zI A)))))) ∧ (¬ (lg_cmp ((Int32.toInt64 l5) + (Int32.toInt64 l8)) (Int32.toInt64 (h 138 (Int32.toNatClampNeg l3)))) < 0 → A (-12) h)))))) ∧ (¬ l8 < l6 → A l7 h))) : zP X (d + 3) 210 91 [some (.ref 82), some (.int l1), some (.int l2), some (.int l3), none, some (.int l5), some (.int l6), some (.int l7), some (.int l8), none, none] [] z_S0 h (zI A) := by
  refine zl zM210 q210_91 rfl ?_
  refine zl zM210 q210_93 rfl ?_
  refine zb2_ge zM210 q210_95 (tgt := 171) rfl (fun hc => ?_) (fun hc => ?_)
  · have hw := hw.2 hc
    refine zl zM210 q210_171 rfl ?_
    exact zri zM210 q210_173 rfl rfl hw
  · have hw := hw.1 hc
    refine zl zM210 q210_98 rfl ?_
    refine zl zM210 q210_100 (pc' := 101) (st' := .long (Int32.toInt64 l5) :: _) rfl ?_
    refine zl zM210 q210_101 rfl ?_
    refine zl zM210 q210_103 (pc' := 104) (st' := .long (Int32.toInt64 l8) :: _) rfl ?_
    refine zl zM210 q210_104 (pc' := 105) (st' := .long ((Int32.toInt64 l5) + (Int32.toInt64 l8)) :: _) rfl ?_
    refine zl zM210 q210_105 (ls' := [some (.ref 82), some (.int l1), some (.int l2), some (.int l3), none, some (.int l5), some (.int l6), some (.int l7), some (.int l8), some (.long ((Int32.toInt64 l5) + (Int32.toInt64 l8))), none]) rfl ?_
    refine zl zM210 q210_107 rfl ?_
    refine zkL (v := 0) zM210 q210_109 rfl ?_
    refine zl zM210 q210_110 (pc' := 111) (st' := .int (lg_cmp ((Int32.toInt64 l5) + (Int32.toInt64 l8)) 0) :: _) rfl ?_
    refine zb1_lt zM210 q210_111 (tgt := 127) rfl (fun hc => ?_) (fun hc => ?_)
    · have hw := hw.1 hc
      refine zkB zM210 q210_127 kBm12 ?_
      exact zri zM210 q210_129 rfl rfl hw
    · have hw := hw.2 hc
      refine zl zM210 q210_114 rfl ?_
      refine zl zM210 q210_116 rfl ?_
      refine zgR (a := 138) zM210 q210_117 (by decide) g12_346 s82 rfl ?_
      refine zl zM210 q210_120 rfl ?_
      obtain ⟨hb, hw⟩ := hw
      refine ziA zM210 q210_121 (by decide) s138 hb (v := (h 138 (Int32.toNatClampNeg l3))) rfl ?_
      refine zl zM210 q210_122 (pc' := 123) (st' := .long (Int32.toInt64 (h 138 (Int32.toNatClampNeg l3))) :: _) rfl ?_
      refine zl zM210 q210_123 (pc' := 124) (st' := .int (lg_cmp ((Int32.toInt64 l5) + (Int32.toInt64 l8)) (Int32.toInt64 (h 138 (Int32.toNatClampNeg l3)))) :: _) rfl ?_
      refine zb1_lt zM210 q210_124 (tgt := 130) rfl (fun hc => ?_) (fun hc => ?_)
      · have hw := hw.1 hc
        refine zl zM210 q210_130 rfl ?_
        refine zl zM210 q210_132 rfl ?_
        refine zl zM210 q210_133 rfl ?_
        refine zl zM210 q210_134 rfl ?_
        refine zl zM210 q210_135 rfl ?_
        refine zl zM210 q210_137 (pc' := 138) (st' := .int (l2 + l8) :: _) rfl ?_
        refine zl zM210 q210_138 rfl ?_
        refine zgR (a := 139) zM210 q210_139 (by decide) g12_349 s82 rfl ?_
        refine zkB zM210 q210_142 kB40 ?_
        refine zl zM210 q210_144 rfl ?_
        refine zl zM210 q210_145 (pc' := 146) (st' := .int (40 * l3) :: _) rfl ?_
        refine zl zM210 q210_146 rfl ?_
        refine zl zM210 q210_148 (pc' := 149) (st' := .int (Int64.toInt32 ((Int32.toInt64 l5) + (Int32.toInt64 l8))) :: _) rfl ?_
        refine zl zM210 q210_149 (pc' := 150) (st' := .int ((40 * l3) + (Int64.toInt32 ((Int32.toInt64 l5) + (Int32.toInt64 l8)))) :: _) rfl ?_
        obtain ⟨hb, hw⟩ := hw
        refine ziA zM210 q210_150 (by decide) s139 hb (v := (h 139 (Int32.toNatClampNeg ((40 * l3) + (Int64.toInt32 ((Int32.toInt64 l5) + (Int32.toInt64 l8))))))) rfl ?_
        refine zcV zM210 q210_151 kl12_458 rfl rfl (Nat.le_of_ble_eq_true rfl) rfl zM145 (Nat.le_of_ble_eq_true rfl) (hw.mono (fun r0 h18 hr19 => ?_))
        obtain ⟨v16, rfl, hw⟩ := hr19
        show zP X (d + 3) 210 154 [some (.ref 82), some (.int l1), some (.int l2), some (.int l3), none, some (.int l5), some (.int l6), some (.int l7), some (.int l8), some (.long ((Int32.toInt64 l5) + (Int32.toInt64 l8))), none] [.int v16, .int l7] z_S0 h18 (zI A)
        refine zb1_lt zM210 q210_154 (tgt := 161) rfl (fun hc => ?_) (fun hc => ?_)
        · have hw := hw.1 hc
          refine zkI zM210 q210_161 kI0 ?_
          refine zweak (a := [some (.ref 82), some (.int l1), some (.int l2), some (.int l3), none, some (.int l5), some (.int l6), none, some (.int l8), none, none]) ?_ hw
          exact ⟨rfl, ⟨rfl, ⟨rfl, ⟨rfl, ⟨rfl, ⟨rfl, ⟨rfl, trivial⟩⟩⟩⟩⟩⟩⟩
        · have hw := hw.2 hc
          refine zkI zM210 q210_157 kI1 ?_
          refine zl zM210 q210_158 (pc' := 162) (ls' := _) (st' := _) rfl ?_
          refine zweak (a := [some (.ref 82), some (.int l1), some (.int l2), some (.int l3), none, some (.int l5), some (.int l6), none, some (.int l8), none, none]) ?_ hw
          exact ⟨rfl, ⟨rfl, ⟨rfl, ⟨rfl, ⟨rfl, ⟨rfl, ⟨rfl, trivial⟩⟩⟩⟩⟩⟩⟩
      · have hw := hw.2 hc
        refine zkB zM210 q210_127 kBm12 ?_
        exact zri zM210 q210_129 rfl rfl hw
theorem b210_162 {X : Option (List Int32)} {d : Nat} {h : zH} {A : Int32 → zH → Prop} {l1 : Int32} {l2 : Int32} {l3 : Int32} {l5 : Int32} {l6 : Int32} {l8 : Int32} {w0 : Int32} {w1 : Int32} (hw : zP X (d + 3) 210 91 [some (.ref 82), some (.int l1), some (.int l2), some (.int l3), none, some (.int l5), some (.int l6), some (.int (w0 + w1)), some (.int (l8 + 1)), none, none] [] z_S0 h (zI A)) : zP X (d + 3) 210 162 [some (.ref 82), some (.int l1), some (.int l2), some (.int l3), none, some (.int l5), some (.int l6), none, some (.int l8), none, none] [.int w1, .int w0] z_S0 h (zI A) := by
  refine zl zM210 q210_162 (pc' := 163) (st' := .int (w0 + w1) :: _) rfl ?_
  refine zl zM210 q210_163 (ls' := [some (.ref 82), some (.int l1), some (.int l2), some (.int l3), none, some (.int l5), some (.int l6), some (.int (w0 + w1)), some (.int l8), none, none]) rfl ?_
  refine zl zM210 q210_165 (ls' := [some (.ref 82), some (.int l1), some (.int l2), some (.int l3), none, some (.int l5), some (.int l6), some (.int (w0 + w1)), some (.int (l8 + 1)), none, none]) rfl ?_
  refine zl zM210 q210_168 (pc' := 91) (ls' := _) (st' := _) rfl ?_
  exact hw
-- X12_taken
theorem b211 {X : Option (List Int32)} {d : Nat} {h : zH} {A : Int32 → zH → Prop} {a1 : Int32} {a2 : Int32} (hw : zP X d 128 0 (z_ent [.long (Int32.toInt64 a2), .long 0, .long 5] 6) [] z_S0 h (zI fun v1 h2 => ((v1 = 0 → A (-2) h2) ∧ (¬ v1 = 0 → zP X d 134 0 (z_ent [.ref 82, .int a1] 2) [] z_S0 h2 (zI fun v3 h4 => ((v3 = 0 → A (-11) h4) ∧ (¬ v3 = 0 → (z_ib a1 40 ∧ ((a2 = 0 → zP X (d + 1) 211 67 [some (.ref 82), some (.int a1), none, none, none] [] z_S0 h4 (zI A)) ∧ (¬ a2 = 0 → (((h4 85 (Int32.toNatClampNeg a1)) = a2 → zP X (d + 1) 211 67 [some (.ref 82), some (.int a1), none, none, none] [] z_S0 h4 (zI A)) ∧ (¬ (h4 85 (Int32.toNatClampNeg a1)) = a2 → ((a2 = 1 → (((h4 85 (Int32.toNatClampNeg a1)) = 3 → zP X (d + 1) 211 67 [some (.ref 82), some (.int a1), none, none, none] [] z_S0 h4 (zI A)) ∧ (¬ (h4 85 (Int32.toNatClampNeg a1)) = 3 → (((h4 85 (Int32.toNatClampNeg a1)) = 5 → zP X (d + 1) 211 67 [some (.ref 82), some (.int a1), none, none, none] [] z_S0 h4 (zI A)) ∧ (¬ (h4 85 (Int32.toNatClampNeg a1)) = 5 → zP X (d + 1) 211 57 [some (.ref 82), some (.int a1), some (.int a2), some (.int (h4 85 (Int32.toNatClampNeg a1))), none] [] z_S0 h4 (zI A)))))) ∧ (¬ a2 = 1 → zP X (d + 1) 211 57 [some (.ref 82), some (.int a1), some (.int a2), some (.int (h4 85 (Int32.toNatClampNeg a1))), none] [] z_S0 h4 (zI A))))))))))))))) : zP X (d + 1) 211 0 (z_ent [.ref 82, .int a1, .int a2] 5) [] z_S0 h (zI A) := by
  show zP X (d + 1) 211 0 [some (.ref 82), some (.int a1), some (.int a2), none, none] [] z_S0 h (zI A)
  refine zl zM211 q211_0 rfl ?_
  refine zl zM211 q211_1 (pc' := 2) (st' := .long (Int32.toInt64 a2) :: _) rfl ?_
  refine zkL (v := 0) zM211 q211_2 rfl ?_
  refine zkJ zM211 q211_3 kc12_15 ?_
  refine zcS zM211 q211_6 ky12_3 kl12_3 (by decide) rfl (Nat.le_of_ble_eq_true rfl) zM128 (Nat.le_of_ble_eq_true rfl) (hw.mono (fun r0 h2 hr6 => ?_))
  obtain ⟨v1, rfl, hw⟩ := hr6
  show zP X (d + 1) 211 9 [some (.ref 82), some (.int a1), some (.int a2), none, none] [.int v1] z_S0 h2 (zI A)
  refine zb1_ne zM211 q211_9 (tgt := 15) rfl (fun hc => ?_) (fun hc => ?_)
  · have hw := hw.2 hc
    refine zl zM211 q211_15 rfl ?_
    refine zl zM211 q211_16 rfl ?_
    refine zcV zM211 q211_17 kl12_73 rfl rfl (Nat.le_of_ble_eq_true rfl) rfl zM134 (Nat.le_of_ble_eq_true rfl) (hw.mono (fun r0 h4 hr5 => ?_))
    obtain ⟨v3, rfl, hw⟩ := hr5
    show zP X (d + 1) 211 20 [some (.ref 82), some (.int a1), some (.int a2), none, none] [.int v3] z_S0 h4 (zI A)
    refine zb1_ne zM211 q211_20 (tgt := 26) rfl (fun hc => ?_) (fun hc => ?_)
    · have hw := hw.2 hc
      refine zl zM211 q211_26 rfl ?_
      refine zgR (a := 85) zM211 q211_27 (by decide) g12_35 s82 rfl ?_
      refine zl zM211 q211_30 rfl ?_
      obtain ⟨hb, hw⟩ := hw
      refine ziA zM211 q211_31 (by decide) s85 hb (v := (h4 85 (Int32.toNatClampNeg a1))) rfl ?_
      refine zl zM211 q211_32 (ls' := [some (.ref 82), some (.int a1), some (.int a2), some (.int (h4 85 (Int32.toNatClampNeg a1))), none]) rfl ?_
      refine zl zM211 q211_33 rfl ?_
      refine zb1_eq zM211 q211_34 (tgt := 67) rfl (fun hc => ?_) (fun hc => ?_)
      · have hw := hw.1 hc
        refine zweak (a := [some (.ref 82), some (.int a1), none, none, none]) ?_ hw
        exact ⟨rfl, ⟨rfl, trivial⟩⟩
      · have hw := hw.2 hc
        refine zl zM211 q211_37 rfl ?_
        refine zl zM211 q211_38 rfl ?_
        refine zb2_eq zM211 q211_39 (tgt := 67) rfl (fun hc => ?_) (fun hc => ?_)
        · have hw := hw.1 hc
          refine zweak (a := [some (.ref 82), some (.int a1), none, none, none]) ?_ hw
          exact ⟨rfl, ⟨rfl, trivial⟩⟩
        · have hw := hw.2 hc
          refine zl zM211 q211_42 rfl ?_
          refine zkI zM211 q211_43 kI1 ?_
          refine zb2_ne zM211 q211_44 (tgt := 57) rfl (fun hc => ?_) (fun hc => ?_)
          · have hw := hw.2 hc
            exact hw
          · have hw := hw.1 hc
            refine zl zM211 q211_47 rfl ?_
            refine zkI zM211 q211_48 kI3 ?_
            refine zb2_eq zM211 q211_49 (tgt := 67) rfl (fun hc => ?_) (fun hc => ?_)
            · have hw := hw.1 hc
              refine zweak (a := [some (.ref 82), some (.int a1), none, none, none]) ?_ hw
              exact ⟨rfl, ⟨rfl, trivial⟩⟩
            · have hw := hw.2 hc
              refine zl zM211 q211_52 rfl ?_
              refine zkI zM211 q211_53 kI5 ?_
              refine zb2_eq zM211 q211_54 (tgt := 67) rfl (fun hc => ?_) (fun hc => ?_)
              · have hw := hw.1 hc
                refine zweak (a := [some (.ref 82), some (.int a1), none, none, none]) ?_ hw
                exact ⟨rfl, ⟨rfl, trivial⟩⟩
              · have hw := hw.2 hc
                exact hw
    · have hw := hw.1 hc
      refine zkB zM211 q211_23 kBm11 ?_
      exact zri zM211 q211_25 rfl rfl hw
  · have hw := hw.1 hc
    refine zkB zM211 q211_12 kBm2 ?_
    exact zri zM211 q211_14 rfl rfl hw
theorem b211_67 {X : Option (List Int32)} {d : Nat} {h : zH} {A : Int32 → zH → Prop} {l1 : Int32} (hw : zP X (d + 1) 211 72 [some (.ref 82), some (.int l1), none, none, none] [.int 1] z_S0 h (zI A)) : zP X (d + 1) 211 67 [some (.ref 82), some (.int l1), none, none, none] [] z_S0 h (zI A) := by
  refine zkI zM211 q211_67 kI1 ?_
  refine zl zM211 q211_68 (pc' := 72) (ls' := _) (st' := _) rfl ?_
  exact hw
theorem b211_57 {X : Option (List Int32)} {d : Nat} {h : zH} {A : Int32 → zH → Prop} {l1 : Int32} {l2 : Int32} {l3 : Int32} (hw : ((l2 = 2 → ((l3 = 4 → zP X (d + 1) 211 67 [some (.ref 82), some (.int l1), none, none, none] [] z_S0 h (zI A)) ∧ (¬ l3 = 4 → zP X (d + 1) 211 71 [some (.ref 82), some (.int l1), none, none, none] [] z_S0 h (zI A)))) ∧ (¬ l2 = 2 → zP X (d + 1) 211 71 [some (.ref 82), some (.int l1), none, none, none] [] z_S0 h (zI A)))) : zP X (d + 1) 211 57 [some (.ref 82), some (.int l1), some (.int l2), some (.int l3), none] [] z_S0 h (zI A) := by
  refine zl zM211 q211_57 rfl ?_
  refine zkI zM211 q211_58 kI2 ?_
  refine zb2_ne zM211 q211_59 (tgt := 71) rfl (fun hc => ?_) (fun hc => ?_)
  · have hw := hw.2 hc
    refine zweak (a := [some (.ref 82), some (.int l1), none, none, none]) ?_ hw
    exact ⟨rfl, ⟨rfl, trivial⟩⟩
  · have hw := hw.1 hc
    refine zl zM211 q211_62 rfl ?_
    refine zkI zM211 q211_63 kI4 ?_
    refine zb2_ne zM211 q211_64 (tgt := 71) rfl (fun hc => ?_) (fun hc => ?_)
    · have hw := hw.2 hc
      refine zweak (a := [some (.ref 82), some (.int l1), none, none, none]) ?_ hw
      exact ⟨rfl, ⟨rfl, trivial⟩⟩
    · have hw := hw.1 hc
      refine zweak (a := [some (.ref 82), some (.int l1), none, none, none]) ?_ hw
      exact ⟨rfl, ⟨rfl, trivial⟩⟩
theorem b211_72 {X : Option (List Int32)} {d : Nat} {h : zH} {A : Int32 → zH → Prop} {l1 : Int32} {w0 : Int32} (hw : ((w0 = 0 → A (-13) h) ∧ (¬ w0 = 0 → (z_ib l1 40 ∧ A (h 88 (Int32.toNatClampNeg l1)) h)))) : zP X (d + 1) 211 72 [some (.ref 82), some (.int l1), none, none, none] [.int w0] z_S0 h (zI A) := by
  refine zl zM211 q211_72 (ls' := [some (.ref 82), some (.int l1), none, none, some (.int w0)]) rfl ?_
  refine zl zM211 q211_74 rfl ?_
  refine zb1_eq zM211 q211_76 (tgt := 88) rfl (fun hc => ?_) (fun hc => ?_)
  · have hw := hw.1 hc
    refine zkB zM211 q211_88 kBm13 ?_
    exact zri zM211 q211_90 rfl rfl hw
  · have hw := hw.2 hc
    refine zl zM211 q211_79 rfl ?_
    refine zgR (a := 88) zM211 q211_80 (by decide) g12_45 s82 rfl ?_
    refine zl zM211 q211_83 rfl ?_
    obtain ⟨hb, hw⟩ := hw
    refine ziA zM211 q211_84 (by decide) s88 hb (v := (h 88 (Int32.toNatClampNeg l1))) rfl ?_
    refine zl zM211 q211_85 (pc' := 90) (ls' := _) (st' := _) rfl ?_
    exact zri zM211 q211_90 rfl rfl hw
theorem b211_71 {X : Option (List Int32)} {d : Nat} {h : zH} {A : Int32 → zH → Prop} {l1 : Int32} (hw : zP X (d + 1) 211 72 [some (.ref 82), some (.int l1), none, none, none] [.int 0] z_S0 h (zI A)) : zP X (d + 1) 211 71 [some (.ref 82), some (.int l1), none, none, none] [] z_S0 h (zI A) := by
  refine zkI zM211 q211_71 kI0 ?_
  exact hw
-- J6_bitCount_0f7a4
theorem b212 {X : Option (List Int32)} {d : Nat} {h : zH} {A : Int32 → zH → Prop} {a1 : Int32} (hw : A ((((((((a1 - (((Int32.toUInt32 a1 >>> (Int32.toUInt32 1 &&& Int32.toUInt32 31)).toInt32) &&& 1431655765)) &&& 858993459) + (((Int32.toUInt32 (a1 - (((Int32.toUInt32 a1 >>> (Int32.toUInt32 1 &&& Int32.toUInt32 31)).toInt32) &&& 1431655765)) >>> (Int32.toUInt32 2 &&& Int32.toUInt32 31)).toInt32) &&& 858993459)) + ((Int32.toUInt32 (((a1 - (((Int32.toUInt32 a1 >>> (Int32.toUInt32 1 &&& Int32.toUInt32 31)).toInt32) &&& 1431655765)) &&& 858993459) + (((Int32.toUInt32 (a1 - (((Int32.toUInt32 a1 >>> (Int32.toUInt32 1 &&& Int32.toUInt32 31)).toInt32) &&& 1431655765)) >>> (Int32.toUInt32 2 &&& Int32.toUInt32 31)).toInt32) &&& 858993459)) >>> (Int32.toUInt32 4 &&& Int32.toUInt32 31)).toInt32)) &&& 252645135) + ((Int32.toUInt32 (((((a1 - (((Int32.toUInt32 a1 >>> (Int32.toUInt32 1 &&& Int32.toUInt32 31)).toInt32) &&& 1431655765)) &&& 858993459) + (((Int32.toUInt32 (a1 - (((Int32.toUInt32 a1 >>> (Int32.toUInt32 1 &&& Int32.toUInt32 31)).toInt32) &&& 1431655765)) >>> (Int32.toUInt32 2 &&& Int32.toUInt32 31)).toInt32) &&& 858993459)) + ((Int32.toUInt32 (((a1 - (((Int32.toUInt32 a1 >>> (Int32.toUInt32 1 &&& Int32.toUInt32 31)).toInt32) &&& 1431655765)) &&& 858993459) + (((Int32.toUInt32 (a1 - (((Int32.toUInt32 a1 >>> (Int32.toUInt32 1 &&& Int32.toUInt32 31)).toInt32) &&& 1431655765)) >>> (Int32.toUInt32 2 &&& Int32.toUInt32 31)).toInt32) &&& 858993459)) >>> (Int32.toUInt32 4 &&& Int32.toUInt32 31)).toInt32)) &&& 252645135) >>> (Int32.toUInt32 8 &&& Int32.toUInt32 31)).toInt32)) + ((Int32.toUInt32 ((((((a1 - (((Int32.toUInt32 a1 >>> (Int32.toUInt32 1 &&& Int32.toUInt32 31)).toInt32) &&& 1431655765)) &&& 858993459) + (((Int32.toUInt32 (a1 - (((Int32.toUInt32 a1 >>> (Int32.toUInt32 1 &&& Int32.toUInt32 31)).toInt32) &&& 1431655765)) >>> (Int32.toUInt32 2 &&& Int32.toUInt32 31)).toInt32) &&& 858993459)) + ((Int32.toUInt32 (((a1 - (((Int32.toUInt32 a1 >>> (Int32.toUInt32 1 &&& Int32.toUInt32 31)).toInt32) &&& 1431655765)) &&& 858993459) + (((Int32.toUInt32 (a1 - (((Int32.toUInt32 a1 >>> (Int32.toUInt32 1 &&& Int32.toUInt32 31)).toInt32) &&& 1431655765)) >>> (Int32.toUInt32 2 &&& Int32.toUInt32 31)).toInt32) &&& 858993459)) >>> (Int32.toUInt32 4 &&& Int32.toUInt32 31)).toInt32)) &&& 252645135) + ((Int32.toUInt32 (((((a1 - (((Int32.toUInt32 a1 >>> (Int32.toUInt32 1 &&& Int32.toUInt32 31)).toInt32) &&& 1431655765)) &&& 858993459) + (((Int32.toUInt32 (a1 - (((Int32.toUInt32 a1 >>> (Int32.toUInt32 1 &&& Int32.toUInt32 31)).toInt32) &&& 1431655765)) >>> (Int32.toUInt32 2 &&& Int32.toUInt32 31)).toInt32) &&& 858993459)) + ((Int32.toUInt32 (((a1 - (((Int32.toUInt32 a1 >>> (Int32.toUInt32 1 &&& Int32.toUInt32 31)).toInt32) &&& 1431655765)) &&& 858993459) + (((Int32.toUInt32 (a1 - (((Int32.toUInt32 a1 >>> (Int32.toUInt32 1 &&& Int32.toUInt32 31)).toInt32) &&& 1431655765)) >>> (Int32.toUInt32 2 &&& Int32.toUInt32 31)).toInt32) &&& 858993459)) >>> (Int32.toUInt32 4 &&& Int32.toUInt32 31)).toInt32)) &&& 252645135) >>> (Int32.toUInt32 8 &&& Int32.toUInt32 31)).toInt32)) >>> (Int32.toUInt32 16 &&& Int32.toUInt32 31)).toInt32)) &&& 63) h) : zP X d 212 0 (z_ent [.int a1] 1) [] z_S0 h (zI A) := by
  show zP X d 212 0 [some (.int a1)] [] z_S0 h (zI A)
  refine zl zM212 q212_0 rfl ?_
  refine zl zM212 q212_1 rfl ?_
  refine zkI zM212 q212_2 kI1 ?_
  refine zl zM212 q212_3 (pc' := 4) (st' := .int ((Int32.toUInt32 a1 >>> (Int32.toUInt32 1 &&& Int32.toUInt32 31)).toInt32) :: _) rfl ?_
  refine zkW zM212 q212_4 kc13_265 ?_
  refine zl zM212 q212_7 (pc' := 8) (st' := .int (((Int32.toUInt32 a1 >>> (Int32.toUInt32 1 &&& Int32.toUInt32 31)).toInt32) &&& 1431655765) :: _) rfl ?_
  refine zl zM212 q212_8 (pc' := 9) (st' := .int (a1 - (((Int32.toUInt32 a1 >>> (Int32.toUInt32 1 &&& Int32.toUInt32 31)).toInt32) &&& 1431655765)) :: _) rfl ?_
  refine zl zM212 q212_9 (ls' := [some (.int (a1 - (((Int32.toUInt32 a1 >>> (Int32.toUInt32 1 &&& Int32.toUInt32 31)).toInt32) &&& 1431655765)))]) rfl ?_
  refine zl zM212 q212_10 rfl ?_
  refine zkW zM212 q212_11 kc13_266 ?_
  refine zl zM212 q212_14 (pc' := 15) (st' := .int ((a1 - (((Int32.toUInt32 a1 >>> (Int32.toUInt32 1 &&& Int32.toUInt32 31)).toInt32) &&& 1431655765)) &&& 858993459) :: _) rfl ?_
  refine zl zM212 q212_15 rfl ?_
  refine zkI zM212 q212_16 kI2 ?_
  refine zl zM212 q212_17 (pc' := 18) (st' := .int ((Int32.toUInt32 (a1 - (((Int32.toUInt32 a1 >>> (Int32.toUInt32 1 &&& Int32.toUInt32 31)).toInt32) &&& 1431655765)) >>> (Int32.toUInt32 2 &&& Int32.toUInt32 31)).toInt32) :: _) rfl ?_
  refine zkW zM212 q212_18 kc13_266 ?_
  refine zl zM212 q212_21 (pc' := 22) (st' := .int (((Int32.toUInt32 (a1 - (((Int32.toUInt32 a1 >>> (Int32.toUInt32 1 &&& Int32.toUInt32 31)).toInt32) &&& 1431655765)) >>> (Int32.toUInt32 2 &&& Int32.toUInt32 31)).toInt32) &&& 858993459) :: _) rfl ?_
  refine zl zM212 q212_22 (pc' := 23) (st' := .int (((a1 - (((Int32.toUInt32 a1 >>> (Int32.toUInt32 1 &&& Int32.toUInt32 31)).toInt32) &&& 1431655765)) &&& 858993459) + (((Int32.toUInt32 (a1 - (((Int32.toUInt32 a1 >>> (Int32.toUInt32 1 &&& Int32.toUInt32 31)).toInt32) &&& 1431655765)) >>> (Int32.toUInt32 2 &&& Int32.toUInt32 31)).toInt32) &&& 858993459)) :: _) rfl ?_
  refine zl zM212 q212_23 (ls' := [some (.int (((a1 - (((Int32.toUInt32 a1 >>> (Int32.toUInt32 1 &&& Int32.toUInt32 31)).toInt32) &&& 1431655765)) &&& 858993459) + (((Int32.toUInt32 (a1 - (((Int32.toUInt32 a1 >>> (Int32.toUInt32 1 &&& Int32.toUInt32 31)).toInt32) &&& 1431655765)) >>> (Int32.toUInt32 2 &&& Int32.toUInt32 31)).toInt32) &&& 858993459)))]) rfl ?_
  refine zl zM212 q212_24 rfl ?_
  refine zl zM212 q212_25 rfl ?_
  refine zkI zM212 q212_26 kI4 ?_
  refine zl zM212 q212_27 (pc' := 28) (st' := .int ((Int32.toUInt32 (((a1 - (((Int32.toUInt32 a1 >>> (Int32.toUInt32 1 &&& Int32.toUInt32 31)).toInt32) &&& 1431655765)) &&& 858993459) + (((Int32.toUInt32 (a1 - (((Int32.toUInt32 a1 >>> (Int32.toUInt32 1 &&& Int32.toUInt32 31)).toInt32) &&& 1431655765)) >>> (Int32.toUInt32 2 &&& Int32.toUInt32 31)).toInt32) &&& 858993459)) >>> (Int32.toUInt32 4 &&& Int32.toUInt32 31)).toInt32) :: _) rfl ?_
  refine zl zM212 q212_28 (pc' := 29) (st' := .int ((((a1 - (((Int32.toUInt32 a1 >>> (Int32.toUInt32 1 &&& Int32.toUInt32 31)).toInt32) &&& 1431655765)) &&& 858993459) + (((Int32.toUInt32 (a1 - (((Int32.toUInt32 a1 >>> (Int32.toUInt32 1 &&& Int32.toUInt32 31)).toInt32) &&& 1431655765)) >>> (Int32.toUInt32 2 &&& Int32.toUInt32 31)).toInt32) &&& 858993459)) + ((Int32.toUInt32 (((a1 - (((Int32.toUInt32 a1 >>> (Int32.toUInt32 1 &&& Int32.toUInt32 31)).toInt32) &&& 1431655765)) &&& 858993459) + (((Int32.toUInt32 (a1 - (((Int32.toUInt32 a1 >>> (Int32.toUInt32 1 &&& Int32.toUInt32 31)).toInt32) &&& 1431655765)) >>> (Int32.toUInt32 2 &&& Int32.toUInt32 31)).toInt32) &&& 858993459)) >>> (Int32.toUInt32 4 &&& Int32.toUInt32 31)).toInt32)) :: _) rfl ?_
  refine zkW zM212 q212_29 kc13_267 ?_
  refine zl zM212 q212_32 (pc' := 33) (st' := .int (((((a1 - (((Int32.toUInt32 a1 >>> (Int32.toUInt32 1 &&& Int32.toUInt32 31)).toInt32) &&& 1431655765)) &&& 858993459) + (((Int32.toUInt32 (a1 - (((Int32.toUInt32 a1 >>> (Int32.toUInt32 1 &&& Int32.toUInt32 31)).toInt32) &&& 1431655765)) >>> (Int32.toUInt32 2 &&& Int32.toUInt32 31)).toInt32) &&& 858993459)) + ((Int32.toUInt32 (((a1 - (((Int32.toUInt32 a1 >>> (Int32.toUInt32 1 &&& Int32.toUInt32 31)).toInt32) &&& 1431655765)) &&& 858993459) + (((Int32.toUInt32 (a1 - (((Int32.toUInt32 a1 >>> (Int32.toUInt32 1 &&& Int32.toUInt32 31)).toInt32) &&& 1431655765)) >>> (Int32.toUInt32 2 &&& Int32.toUInt32 31)).toInt32) &&& 858993459)) >>> (Int32.toUInt32 4 &&& Int32.toUInt32 31)).toInt32)) &&& 252645135) :: _) rfl ?_
  refine zl zM212 q212_33 (ls' := [some (.int (((((a1 - (((Int32.toUInt32 a1 >>> (Int32.toUInt32 1 &&& Int32.toUInt32 31)).toInt32) &&& 1431655765)) &&& 858993459) + (((Int32.toUInt32 (a1 - (((Int32.toUInt32 a1 >>> (Int32.toUInt32 1 &&& Int32.toUInt32 31)).toInt32) &&& 1431655765)) >>> (Int32.toUInt32 2 &&& Int32.toUInt32 31)).toInt32) &&& 858993459)) + ((Int32.toUInt32 (((a1 - (((Int32.toUInt32 a1 >>> (Int32.toUInt32 1 &&& Int32.toUInt32 31)).toInt32) &&& 1431655765)) &&& 858993459) + (((Int32.toUInt32 (a1 - (((Int32.toUInt32 a1 >>> (Int32.toUInt32 1 &&& Int32.toUInt32 31)).toInt32) &&& 1431655765)) >>> (Int32.toUInt32 2 &&& Int32.toUInt32 31)).toInt32) &&& 858993459)) >>> (Int32.toUInt32 4 &&& Int32.toUInt32 31)).toInt32)) &&& 252645135))]) rfl ?_
  refine zl zM212 q212_34 rfl ?_
  refine zl zM212 q212_35 rfl ?_
  refine zkB zM212 q212_36 kB8 ?_
  refine zl zM212 q212_38 (pc' := 39) (st' := .int ((Int32.toUInt32 (((((a1 - (((Int32.toUInt32 a1 >>> (Int32.toUInt32 1 &&& Int32.toUInt32 31)).toInt32) &&& 1431655765)) &&& 858993459) + (((Int32.toUInt32 (a1 - (((Int32.toUInt32 a1 >>> (Int32.toUInt32 1 &&& Int32.toUInt32 31)).toInt32) &&& 1431655765)) >>> (Int32.toUInt32 2 &&& Int32.toUInt32 31)).toInt32) &&& 858993459)) + ((Int32.toUInt32 (((a1 - (((Int32.toUInt32 a1 >>> (Int32.toUInt32 1 &&& Int32.toUInt32 31)).toInt32) &&& 1431655765)) &&& 858993459) + (((Int32.toUInt32 (a1 - (((Int32.toUInt32 a1 >>> (Int32.toUInt32 1 &&& Int32.toUInt32 31)).toInt32) &&& 1431655765)) >>> (Int32.toUInt32 2 &&& Int32.toUInt32 31)).toInt32) &&& 858993459)) >>> (Int32.toUInt32 4 &&& Int32.toUInt32 31)).toInt32)) &&& 252645135) >>> (Int32.toUInt32 8 &&& Int32.toUInt32 31)).toInt32) :: _) rfl ?_
  refine zl zM212 q212_39 (pc' := 40) (st' := .int ((((((a1 - (((Int32.toUInt32 a1 >>> (Int32.toUInt32 1 &&& Int32.toUInt32 31)).toInt32) &&& 1431655765)) &&& 858993459) + (((Int32.toUInt32 (a1 - (((Int32.toUInt32 a1 >>> (Int32.toUInt32 1 &&& Int32.toUInt32 31)).toInt32) &&& 1431655765)) >>> (Int32.toUInt32 2 &&& Int32.toUInt32 31)).toInt32) &&& 858993459)) + ((Int32.toUInt32 (((a1 - (((Int32.toUInt32 a1 >>> (Int32.toUInt32 1 &&& Int32.toUInt32 31)).toInt32) &&& 1431655765)) &&& 858993459) + (((Int32.toUInt32 (a1 - (((Int32.toUInt32 a1 >>> (Int32.toUInt32 1 &&& Int32.toUInt32 31)).toInt32) &&& 1431655765)) >>> (Int32.toUInt32 2 &&& Int32.toUInt32 31)).toInt32) &&& 858993459)) >>> (Int32.toUInt32 4 &&& Int32.toUInt32 31)).toInt32)) &&& 252645135) + ((Int32.toUInt32 (((((a1 - (((Int32.toUInt32 a1 >>> (Int32.toUInt32 1 &&& Int32.toUInt32 31)).toInt32) &&& 1431655765)) &&& 858993459) + (((Int32.toUInt32 (a1 - (((Int32.toUInt32 a1 >>> (Int32.toUInt32 1 &&& Int32.toUInt32 31)).toInt32) &&& 1431655765)) >>> (Int32.toUInt32 2 &&& Int32.toUInt32 31)).toInt32) &&& 858993459)) + ((Int32.toUInt32 (((a1 - (((Int32.toUInt32 a1 >>> (Int32.toUInt32 1 &&& Int32.toUInt32 31)).toInt32) &&& 1431655765)) &&& 858993459) + (((Int32.toUInt32 (a1 - (((Int32.toUInt32 a1 >>> (Int32.toUInt32 1 &&& Int32.toUInt32 31)).toInt32) &&& 1431655765)) >>> (Int32.toUInt32 2 &&& Int32.toUInt32 31)).toInt32) &&& 858993459)) >>> (Int32.toUInt32 4 &&& Int32.toUInt32 31)).toInt32)) &&& 252645135) >>> (Int32.toUInt32 8 &&& Int32.toUInt32 31)).toInt32)) :: _) rfl ?_
  refine zl zM212 q212_40 (ls' := [some (.int ((((((a1 - (((Int32.toUInt32 a1 >>> (Int32.toUInt32 1 &&& Int32.toUInt32 31)).toInt32) &&& 1431655765)) &&& 858993459) + (((Int32.toUInt32 (a1 - (((Int32.toUInt32 a1 >>> (Int32.toUInt32 1 &&& Int32.toUInt32 31)).toInt32) &&& 1431655765)) >>> (Int32.toUInt32 2 &&& Int32.toUInt32 31)).toInt32) &&& 858993459)) + ((Int32.toUInt32 (((a1 - (((Int32.toUInt32 a1 >>> (Int32.toUInt32 1 &&& Int32.toUInt32 31)).toInt32) &&& 1431655765)) &&& 858993459) + (((Int32.toUInt32 (a1 - (((Int32.toUInt32 a1 >>> (Int32.toUInt32 1 &&& Int32.toUInt32 31)).toInt32) &&& 1431655765)) >>> (Int32.toUInt32 2 &&& Int32.toUInt32 31)).toInt32) &&& 858993459)) >>> (Int32.toUInt32 4 &&& Int32.toUInt32 31)).toInt32)) &&& 252645135) + ((Int32.toUInt32 (((((a1 - (((Int32.toUInt32 a1 >>> (Int32.toUInt32 1 &&& Int32.toUInt32 31)).toInt32) &&& 1431655765)) &&& 858993459) + (((Int32.toUInt32 (a1 - (((Int32.toUInt32 a1 >>> (Int32.toUInt32 1 &&& Int32.toUInt32 31)).toInt32) &&& 1431655765)) >>> (Int32.toUInt32 2 &&& Int32.toUInt32 31)).toInt32) &&& 858993459)) + ((Int32.toUInt32 (((a1 - (((Int32.toUInt32 a1 >>> (Int32.toUInt32 1 &&& Int32.toUInt32 31)).toInt32) &&& 1431655765)) &&& 858993459) + (((Int32.toUInt32 (a1 - (((Int32.toUInt32 a1 >>> (Int32.toUInt32 1 &&& Int32.toUInt32 31)).toInt32) &&& 1431655765)) >>> (Int32.toUInt32 2 &&& Int32.toUInt32 31)).toInt32) &&& 858993459)) >>> (Int32.toUInt32 4 &&& Int32.toUInt32 31)).toInt32)) &&& 252645135) >>> (Int32.toUInt32 8 &&& Int32.toUInt32 31)).toInt32)))]) rfl ?_
  refine zl zM212 q212_41 rfl ?_
  refine zl zM212 q212_42 rfl ?_
  refine zkB zM212 q212_43 kB16 ?_
  refine zl zM212 q212_45 (pc' := 46) (st' := .int ((Int32.toUInt32 ((((((a1 - (((Int32.toUInt32 a1 >>> (Int32.toUInt32 1 &&& Int32.toUInt32 31)).toInt32) &&& 1431655765)) &&& 858993459) + (((Int32.toUInt32 (a1 - (((Int32.toUInt32 a1 >>> (Int32.toUInt32 1 &&& Int32.toUInt32 31)).toInt32) &&& 1431655765)) >>> (Int32.toUInt32 2 &&& Int32.toUInt32 31)).toInt32) &&& 858993459)) + ((Int32.toUInt32 (((a1 - (((Int32.toUInt32 a1 >>> (Int32.toUInt32 1 &&& Int32.toUInt32 31)).toInt32) &&& 1431655765)) &&& 858993459) + (((Int32.toUInt32 (a1 - (((Int32.toUInt32 a1 >>> (Int32.toUInt32 1 &&& Int32.toUInt32 31)).toInt32) &&& 1431655765)) >>> (Int32.toUInt32 2 &&& Int32.toUInt32 31)).toInt32) &&& 858993459)) >>> (Int32.toUInt32 4 &&& Int32.toUInt32 31)).toInt32)) &&& 252645135) + ((Int32.toUInt32 (((((a1 - (((Int32.toUInt32 a1 >>> (Int32.toUInt32 1 &&& Int32.toUInt32 31)).toInt32) &&& 1431655765)) &&& 858993459) + (((Int32.toUInt32 (a1 - (((Int32.toUInt32 a1 >>> (Int32.toUInt32 1 &&& Int32.toUInt32 31)).toInt32) &&& 1431655765)) >>> (Int32.toUInt32 2 &&& Int32.toUInt32 31)).toInt32) &&& 858993459)) + ((Int32.toUInt32 (((a1 - (((Int32.toUInt32 a1 >>> (Int32.toUInt32 1 &&& Int32.toUInt32 31)).toInt32) &&& 1431655765)) &&& 858993459) + (((Int32.toUInt32 (a1 - (((Int32.toUInt32 a1 >>> (Int32.toUInt32 1 &&& Int32.toUInt32 31)).toInt32) &&& 1431655765)) >>> (Int32.toUInt32 2 &&& Int32.toUInt32 31)).toInt32) &&& 858993459)) >>> (Int32.toUInt32 4 &&& Int32.toUInt32 31)).toInt32)) &&& 252645135) >>> (Int32.toUInt32 8 &&& Int32.toUInt32 31)).toInt32)) >>> (Int32.toUInt32 16 &&& Int32.toUInt32 31)).toInt32) :: _) rfl ?_
  refine zl zM212 q212_46 (pc' := 47) (st' := .int (((((((a1 - (((Int32.toUInt32 a1 >>> (Int32.toUInt32 1 &&& Int32.toUInt32 31)).toInt32) &&& 1431655765)) &&& 858993459) + (((Int32.toUInt32 (a1 - (((Int32.toUInt32 a1 >>> (Int32.toUInt32 1 &&& Int32.toUInt32 31)).toInt32) &&& 1431655765)) >>> (Int32.toUInt32 2 &&& Int32.toUInt32 31)).toInt32) &&& 858993459)) + ((Int32.toUInt32 (((a1 - (((Int32.toUInt32 a1 >>> (Int32.toUInt32 1 &&& Int32.toUInt32 31)).toInt32) &&& 1431655765)) &&& 858993459) + (((Int32.toUInt32 (a1 - (((Int32.toUInt32 a1 >>> (Int32.toUInt32 1 &&& Int32.toUInt32 31)).toInt32) &&& 1431655765)) >>> (Int32.toUInt32 2 &&& Int32.toUInt32 31)).toInt32) &&& 858993459)) >>> (Int32.toUInt32 4 &&& Int32.toUInt32 31)).toInt32)) &&& 252645135) + ((Int32.toUInt32 (((((a1 - (((Int32.toUInt32 a1 >>> (Int32.toUInt32 1 &&& Int32.toUInt32 31)).toInt32) &&& 1431655765)) &&& 858993459) + (((Int32.toUInt32 (a1 - (((Int32.toUInt32 a1 >>> (Int32.toUInt32 1 &&& Int32.toUInt32 31)).toInt32) &&& 1431655765)) >>> (Int32.toUInt32 2 &&& Int32.toUInt32 31)).toInt32) &&& 858993459)) + ((Int32.toUInt32 (((a1 - (((Int32.toUInt32 a1 >>> (Int32.toUInt32 1 &&& Int32.toUInt32 31)).toInt32) &&& 1431655765)) &&& 858993459) + (((Int32.toUInt32 (a1 - (((Int32.toUInt32 a1 >>> (Int32.toUInt32 1 &&& Int32.toUInt32 31)).toInt32) &&& 1431655765)) >>> (Int32.toUInt32 2 &&& Int32.toUInt32 31)).toInt32) &&& 858993459)) >>> (Int32.toUInt32 4 &&& Int32.toUInt32 31)).toInt32)) &&& 252645135) >>> (Int32.toUInt32 8 &&& Int32.toUInt32 31)).toInt32)) + ((Int32.toUInt32 ((((((a1 - (((Int32.toUInt32 a1 >>> (Int32.toUInt32 1 &&& Int32.toUInt32 31)).toInt32) &&& 1431655765)) &&& 858993459) + (((Int32.toUInt32 (a1 - (((Int32.toUInt32 a1 >>> (Int32.toUInt32 1 &&& Int32.toUInt32 31)).toInt32) &&& 1431655765)) >>> (Int32.toUInt32 2 &&& Int32.toUInt32 31)).toInt32) &&& 858993459)) + ((Int32.toUInt32 (((a1 - (((Int32.toUInt32 a1 >>> (Int32.toUInt32 1 &&& Int32.toUInt32 31)).toInt32) &&& 1431655765)) &&& 858993459) + (((Int32.toUInt32 (a1 - (((Int32.toUInt32 a1 >>> (Int32.toUInt32 1 &&& Int32.toUInt32 31)).toInt32) &&& 1431655765)) >>> (Int32.toUInt32 2 &&& Int32.toUInt32 31)).toInt32) &&& 858993459)) >>> (Int32.toUInt32 4 &&& Int32.toUInt32 31)).toInt32)) &&& 252645135) + ((Int32.toUInt32 (((((a1 - (((Int32.toUInt32 a1 >>> (Int32.toUInt32 1 &&& Int32.toUInt32 31)).toInt32) &&& 1431655765)) &&& 858993459) + (((Int32.toUInt32 (a1 - (((Int32.toUInt32 a1 >>> (Int32.toUInt32 1 &&& Int32.toUInt32 31)).toInt32) &&& 1431655765)) >>> (Int32.toUInt32 2 &&& Int32.toUInt32 31)).toInt32) &&& 858993459)) + ((Int32.toUInt32 (((a1 - (((Int32.toUInt32 a1 >>> (Int32.toUInt32 1 &&& Int32.toUInt32 31)).toInt32) &&& 1431655765)) &&& 858993459) + (((Int32.toUInt32 (a1 - (((Int32.toUInt32 a1 >>> (Int32.toUInt32 1 &&& Int32.toUInt32 31)).toInt32) &&& 1431655765)) >>> (Int32.toUInt32 2 &&& Int32.toUInt32 31)).toInt32) &&& 858993459)) >>> (Int32.toUInt32 4 &&& Int32.toUInt32 31)).toInt32)) &&& 252645135) >>> (Int32.toUInt32 8 &&& Int32.toUInt32 31)).toInt32)) >>> (Int32.toUInt32 16 &&& Int32.toUInt32 31)).toInt32)) :: _) rfl ?_
  refine zl zM212 q212_47 (ls' := [some (.int (((((((a1 - (((Int32.toUInt32 a1 >>> (Int32.toUInt32 1 &&& Int32.toUInt32 31)).toInt32) &&& 1431655765)) &&& 858993459) + (((Int32.toUInt32 (a1 - (((Int32.toUInt32 a1 >>> (Int32.toUInt32 1 &&& Int32.toUInt32 31)).toInt32) &&& 1431655765)) >>> (Int32.toUInt32 2 &&& Int32.toUInt32 31)).toInt32) &&& 858993459)) + ((Int32.toUInt32 (((a1 - (((Int32.toUInt32 a1 >>> (Int32.toUInt32 1 &&& Int32.toUInt32 31)).toInt32) &&& 1431655765)) &&& 858993459) + (((Int32.toUInt32 (a1 - (((Int32.toUInt32 a1 >>> (Int32.toUInt32 1 &&& Int32.toUInt32 31)).toInt32) &&& 1431655765)) >>> (Int32.toUInt32 2 &&& Int32.toUInt32 31)).toInt32) &&& 858993459)) >>> (Int32.toUInt32 4 &&& Int32.toUInt32 31)).toInt32)) &&& 252645135) + ((Int32.toUInt32 (((((a1 - (((Int32.toUInt32 a1 >>> (Int32.toUInt32 1 &&& Int32.toUInt32 31)).toInt32) &&& 1431655765)) &&& 858993459) + (((Int32.toUInt32 (a1 - (((Int32.toUInt32 a1 >>> (Int32.toUInt32 1 &&& Int32.toUInt32 31)).toInt32) &&& 1431655765)) >>> (Int32.toUInt32 2 &&& Int32.toUInt32 31)).toInt32) &&& 858993459)) + ((Int32.toUInt32 (((a1 - (((Int32.toUInt32 a1 >>> (Int32.toUInt32 1 &&& Int32.toUInt32 31)).toInt32) &&& 1431655765)) &&& 858993459) + (((Int32.toUInt32 (a1 - (((Int32.toUInt32 a1 >>> (Int32.toUInt32 1 &&& Int32.toUInt32 31)).toInt32) &&& 1431655765)) >>> (Int32.toUInt32 2 &&& Int32.toUInt32 31)).toInt32) &&& 858993459)) >>> (Int32.toUInt32 4 &&& Int32.toUInt32 31)).toInt32)) &&& 252645135) >>> (Int32.toUInt32 8 &&& Int32.toUInt32 31)).toInt32)) + ((Int32.toUInt32 ((((((a1 - (((Int32.toUInt32 a1 >>> (Int32.toUInt32 1 &&& Int32.toUInt32 31)).toInt32) &&& 1431655765)) &&& 858993459) + (((Int32.toUInt32 (a1 - (((Int32.toUInt32 a1 >>> (Int32.toUInt32 1 &&& Int32.toUInt32 31)).toInt32) &&& 1431655765)) >>> (Int32.toUInt32 2 &&& Int32.toUInt32 31)).toInt32) &&& 858993459)) + ((Int32.toUInt32 (((a1 - (((Int32.toUInt32 a1 >>> (Int32.toUInt32 1 &&& Int32.toUInt32 31)).toInt32) &&& 1431655765)) &&& 858993459) + (((Int32.toUInt32 (a1 - (((Int32.toUInt32 a1 >>> (Int32.toUInt32 1 &&& Int32.toUInt32 31)).toInt32) &&& 1431655765)) >>> (Int32.toUInt32 2 &&& Int32.toUInt32 31)).toInt32) &&& 858993459)) >>> (Int32.toUInt32 4 &&& Int32.toUInt32 31)).toInt32)) &&& 252645135) + ((Int32.toUInt32 (((((a1 - (((Int32.toUInt32 a1 >>> (Int32.toUInt32 1 &&& Int32.toUInt32 31)).toInt32) &&& 1431655765)) &&& 858993459) + (((Int32.toUInt32 (a1 - (((Int32.toUInt32 a1 >>> (Int32.toUInt32 1 &&& Int32.toUInt32 31)).toInt32) &&& 1431655765)) >>> (Int32.toUInt32 2 &&& Int32.toUInt32 31)).toInt32) &&& 858993459)) + ((Int32.toUInt32 (((a1 - (((Int32.toUInt32 a1 >>> (Int32.toUInt32 1 &&& Int32.toUInt32 31)).toInt32) &&& 1431655765)) &&& 858993459) + (((Int32.toUInt32 (a1 - (((Int32.toUInt32 a1 >>> (Int32.toUInt32 1 &&& Int32.toUInt32 31)).toInt32) &&& 1431655765)) >>> (Int32.toUInt32 2 &&& Int32.toUInt32 31)).toInt32) &&& 858993459)) >>> (Int32.toUInt32 4 &&& Int32.toUInt32 31)).toInt32)) &&& 252645135) >>> (Int32.toUInt32 8 &&& Int32.toUInt32 31)).toInt32)) >>> (Int32.toUInt32 16 &&& Int32.toUInt32 31)).toInt32)))]) rfl ?_
  refine zl zM212 q212_48 rfl ?_
  refine zkB zM212 q212_49 kB63 ?_
  refine zl zM212 q212_51 (pc' := 52) (st' := .int ((((((((a1 - (((Int32.toUInt32 a1 >>> (Int32.toUInt32 1 &&& Int32.toUInt32 31)).toInt32) &&& 1431655765)) &&& 858993459) + (((Int32.toUInt32 (a1 - (((Int32.toUInt32 a1 >>> (Int32.toUInt32 1 &&& Int32.toUInt32 31)).toInt32) &&& 1431655765)) >>> (Int32.toUInt32 2 &&& Int32.toUInt32 31)).toInt32) &&& 858993459)) + ((Int32.toUInt32 (((a1 - (((Int32.toUInt32 a1 >>> (Int32.toUInt32 1 &&& Int32.toUInt32 31)).toInt32) &&& 1431655765)) &&& 858993459) + (((Int32.toUInt32 (a1 - (((Int32.toUInt32 a1 >>> (Int32.toUInt32 1 &&& Int32.toUInt32 31)).toInt32) &&& 1431655765)) >>> (Int32.toUInt32 2 &&& Int32.toUInt32 31)).toInt32) &&& 858993459)) >>> (Int32.toUInt32 4 &&& Int32.toUInt32 31)).toInt32)) &&& 252645135) + ((Int32.toUInt32 (((((a1 - (((Int32.toUInt32 a1 >>> (Int32.toUInt32 1 &&& Int32.toUInt32 31)).toInt32) &&& 1431655765)) &&& 858993459) + (((Int32.toUInt32 (a1 - (((Int32.toUInt32 a1 >>> (Int32.toUInt32 1 &&& Int32.toUInt32 31)).toInt32) &&& 1431655765)) >>> (Int32.toUInt32 2 &&& Int32.toUInt32 31)).toInt32) &&& 858993459)) + ((Int32.toUInt32 (((a1 - (((Int32.toUInt32 a1 >>> (Int32.toUInt32 1 &&& Int32.toUInt32 31)).toInt32) &&& 1431655765)) &&& 858993459) + (((Int32.toUInt32 (a1 - (((Int32.toUInt32 a1 >>> (Int32.toUInt32 1 &&& Int32.toUInt32 31)).toInt32) &&& 1431655765)) >>> (Int32.toUInt32 2 &&& Int32.toUInt32 31)).toInt32) &&& 858993459)) >>> (Int32.toUInt32 4 &&& Int32.toUInt32 31)).toInt32)) &&& 252645135) >>> (Int32.toUInt32 8 &&& Int32.toUInt32 31)).toInt32)) + ((Int32.toUInt32 ((((((a1 - (((Int32.toUInt32 a1 >>> (Int32.toUInt32 1 &&& Int32.toUInt32 31)).toInt32) &&& 1431655765)) &&& 858993459) + (((Int32.toUInt32 (a1 - (((Int32.toUInt32 a1 >>> (Int32.toUInt32 1 &&& Int32.toUInt32 31)).toInt32) &&& 1431655765)) >>> (Int32.toUInt32 2 &&& Int32.toUInt32 31)).toInt32) &&& 858993459)) + ((Int32.toUInt32 (((a1 - (((Int32.toUInt32 a1 >>> (Int32.toUInt32 1 &&& Int32.toUInt32 31)).toInt32) &&& 1431655765)) &&& 858993459) + (((Int32.toUInt32 (a1 - (((Int32.toUInt32 a1 >>> (Int32.toUInt32 1 &&& Int32.toUInt32 31)).toInt32) &&& 1431655765)) >>> (Int32.toUInt32 2 &&& Int32.toUInt32 31)).toInt32) &&& 858993459)) >>> (Int32.toUInt32 4 &&& Int32.toUInt32 31)).toInt32)) &&& 252645135) + ((Int32.toUInt32 (((((a1 - (((Int32.toUInt32 a1 >>> (Int32.toUInt32 1 &&& Int32.toUInt32 31)).toInt32) &&& 1431655765)) &&& 858993459) + (((Int32.toUInt32 (a1 - (((Int32.toUInt32 a1 >>> (Int32.toUInt32 1 &&& Int32.toUInt32 31)).toInt32) &&& 1431655765)) >>> (Int32.toUInt32 2 &&& Int32.toUInt32 31)).toInt32) &&& 858993459)) + ((Int32.toUInt32 (((a1 - (((Int32.toUInt32 a1 >>> (Int32.toUInt32 1 &&& Int32.toUInt32 31)).toInt32) &&& 1431655765)) &&& 858993459) + (((Int32.toUInt32 (a1 - (((Int32.toUInt32 a1 >>> (Int32.toUInt32 1 &&& Int32.toUInt32 31)).toInt32) &&& 1431655765)) >>> (Int32.toUInt32 2 &&& Int32.toUInt32 31)).toInt32) &&& 858993459)) >>> (Int32.toUInt32 4 &&& Int32.toUInt32 31)).toInt32)) &&& 252645135) >>> (Int32.toUInt32 8 &&& Int32.toUInt32 31)).toInt32)) >>> (Int32.toUInt32 16 &&& Int32.toUInt32 31)).toInt32)) &&& 63) :: _) rfl ?_
  exact zri zM212 q212_52 rfl rfl hw
-- J9_max_7cf53
theorem b214 {X : Option (List Int32)} {d : Nat} {h : zH} {A : Int32 → zH → Prop} {a1 : Int32} {a2 : Int32} (hw : ((a1 < a2 → A a2 h) ∧ (¬ a1 < a2 → A a1 h))) : zP X d 214 0 (z_ent [.int a1, .int a2] 2) [] z_S0 h (zI A) := by
  show zP X d 214 0 [some (.int a1), some (.int a2)] [] z_S0 h (zI A)
  refine zl zM214 q214_0 rfl ?_
  refine zl zM214 q214_1 rfl ?_
  refine zb2_lt zM214 q214_2 (tgt := 9) rfl (fun hc => ?_) (fun hc => ?_)
  · have hw := hw.1 hc
    refine zl zM214 q214_9 rfl ?_
    exact zri zM214 q214_10 rfl rfl hw
  · have hw := hw.2 hc
    refine zl zM214 q214_5 rfl ?_
    refine zl zM214 q214_6 (pc' := 10) (ls' := _) (st' := _) rfl ?_
    exact zri zM214 q214_10 rfl rfl hw
-- J9_min_7cf53
theorem b215 {X : Option (List Int32)} {d : Nat} {h : zH} {A : Int32 → zH → Prop} {a1 : Int32} {a2 : Int32} (hw : ((a2 < a1 → A a2 h) ∧ (¬ a2 < a1 → A a1 h))) : zP X d 215 0 (z_ent [.int a1, .int a2] 2) [] z_S0 h (zI A) := by
  show zP X d 215 0 [some (.int a1), some (.int a2)] [] z_S0 h (zI A)
  refine zl zM215 q215_0 rfl ?_
  refine zl zM215 q215_1 rfl ?_
  refine zb2_gt zM215 q215_2 (tgt := 9) rfl (fun hc => ?_) (fun hc => ?_)
  · have hw := hw.1 hc
    refine zl zM215 q215_9 rfl ?_
    exact zri zM215 q215_10 rfl rfl hw
  · have hw := hw.2 hc
    refine zl zM215 q215_5 rfl ?_
    refine zl zM215 q215_6 (pc' := 10) (ls' := _) (st' := _) rfl ?_
    exact zri zM215 q215_10 rfl rfl hw

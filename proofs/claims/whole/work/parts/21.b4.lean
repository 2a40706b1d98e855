-- X12_lies
theorem b142 {X : Option (List Int32)} {d : Nat} {h : zH} {A : Int32 → zH → Prop} {a1 : Int32} (hw : zP X (d + 1) 132 0 (z_ent [.int a1] 1) [] z_S0 h (zI fun v1 h2 => ((v1 = 0 → A (-2) h2) ∧ (¬ v1 = 0 → zP X (d + 2) 142 14 [some (.ref 82), some (.int a1), some (.int 0), some (.int 0)] [] z_S0 h2 (zI A))))) : zP X (d + 2) 142 0 (z_ent [.ref 82, .int a1] 4) [] z_S0 h (zI A) := by
  show zP X (d + 2) 142 0 [some (.ref 82), some (.int a1), none, none] [] z_S0 h (zI A)
  refine zl zM142 q142_0 rfl ?_
  refine zcS zM142 q142_1 ky12_28 kl12_28 (by decide) rfl (Nat.le_of_ble_eq_true rfl) zM132 (Nat.le_of_ble_eq_true rfl) (hw.mono (fun r0 h2 hr3 => ?_))
  obtain ⟨v1, rfl, hw⟩ := hr3
  show zP X (d + 2) 142 4 [some (.ref 82), some (.int a1), none, none] [.int v1] z_S0 h2 (zI A)
  refine zb1_ne zM142 q142_4 (tgt := 10) rfl (fun hc => ?_) (fun hc => ?_)
  · have hw := hw.2 hc
    refine zkI zM142 q142_10 kI0 ?_
    refine zl zM142 q142_11 (ls' := [some (.ref 82), some (.int a1), some (.int 0), none]) rfl ?_
    refine zkI zM142 q142_12 kI0 ?_
    refine zl zM142 q142_13 (ls' := [some (.ref 82), some (.int a1), some (.int 0), some (.int 0)]) rfl ?_
    exact hw
  · have hw := hw.1 hc
    refine zkB zM142 q142_7 kBm2 ?_
    exact zri zM142 q142_9 rfl rfl hw
theorem b142_14 {X : Option (List Int32)} {d : Nat} {h : zH} {A : Int32 → zH → Prop} {l1 : Int32} {l2 : Int32} {l3 : Int32} (hw : ((l3 < (h 82 3) → (z_ib l3 40 ∧ (((h 87 (Int32.toNatClampNeg l3)) = l1 → (z_ib l3 40 ∧ (((h 94 (Int32.toNatClampNeg l3)) = 0 → (z_ib l3 40 ∧ zP X (d + 2) 142 52 [some (.ref 82), some (.int l1), none, some (.int l3)] [.int (h 92 (Int32.toNatClampNeg l3)), .int l2] z_S0 h (zI A))) ∧ (¬ (h 94 (Int32.toNatClampNeg l3)) = 0 → zP X (d + 2) 142 51 [some (.ref 82), some (.int l1), none, some (.int l3)] [.int l2] z_S0 h (zI A))))) ∧ (¬ (h 87 (Int32.toNatClampNeg l3)) = l1 → zP X (d + 2) 142 51 [some (.ref 82), some (.int l1), none, some (.int l3)] [.int l2] z_S0 h (zI A))))) ∧ (¬ l3 < (h 82 3) → A l2 h))) : zP X (d + 2) 142 14 [some (.ref 82), some (.int l1), some (.int l2), some (.int l3)] [] z_S0 h (zI A) := by
  refine zl zM142 q142_14 rfl ?_
  refine zl zM142 q142_15 rfl ?_
  refine zgI zM142 q142_16 (by decide) g12_21 s82 rfl (v := (h 82 3)) rfl ?_
  refine zb2_ge zM142 q142_19 (tgt := 60) rfl (fun hc => ?_) (fun hc => ?_)
  · have hw := hw.2 hc
    refine zl zM142 q142_60 rfl ?_
    exact zri zM142 q142_61 rfl rfl hw
  · have hw := hw.1 hc
    refine zl zM142 q142_22 rfl ?_
    refine zl zM142 q142_23 rfl ?_
    refine zgR (a := 87) zM142 q142_24 (by decide) g12_42 s82 rfl ?_
    refine zl zM142 q142_27 rfl ?_
    obtain ⟨hb, hw⟩ := hw
    refine ziA zM142 q142_28 (by decide) s87 hb (v := (h 87 (Int32.toNatClampNeg l3))) rfl ?_
    refine zl zM142 q142_29 rfl ?_
    refine zb2_ne zM142 q142_30 (tgt := 51) rfl (fun hc => ?_) (fun hc => ?_)
    · have hw := hw.2 hc
      refine zweak (a := [some (.ref 82), some (.int l1), none, some (.int l3)]) ?_ hw
      exact ⟨rfl, ⟨rfl, ⟨rfl, trivial⟩⟩⟩
    · have hw := hw.1 hc
      refine zl zM142 q142_33 rfl ?_
      refine zgR (a := 94) zM142 q142_34 (by decide) g12_85 s82 rfl ?_
      refine zl zM142 q142_37 rfl ?_
      obtain ⟨hb, hw⟩ := hw
      refine zbA zM142 q142_38 (by decide) s94 (by decide) hb (v := (h 94 (Int32.toNatClampNeg l3))) rfl ?_
      refine zb1_ne zM142 q142_39 (tgt := 51) rfl (fun hc => ?_) (fun hc => ?_)
      · have hw := hw.2 hc
        refine zweak (a := [some (.ref 82), some (.int l1), none, some (.int l3)]) ?_ hw
        exact ⟨rfl, ⟨rfl, ⟨rfl, trivial⟩⟩⟩
      · have hw := hw.1 hc
        refine zl zM142 q142_42 rfl ?_
        refine zgR (a := 92) zM142 q142_43 (by decide) g12_57 s82 rfl ?_
        refine zl zM142 q142_46 rfl ?_
        obtain ⟨hb, hw⟩ := hw
        refine ziA zM142 q142_47 (by decide) s92 hb (v := (h 92 (Int32.toNatClampNeg l3))) rfl ?_
        refine zl zM142 q142_48 (pc' := 52) (ls' := _) (st' := _) rfl ?_
        refine zweak (a := [some (.ref 82), some (.int l1), none, some (.int l3)]) ?_ hw
        exact ⟨rfl, ⟨rfl, ⟨rfl, trivial⟩⟩⟩
theorem b142_51 {X : Option (List Int32)} {d : Nat} {h : zH} {A : Int32 → zH → Prop} {l1 : Int32} {l3 : Int32} {w0 : Int32} (hw : zP X (d + 2) 142 52 [some (.ref 82), some (.int l1), none, some (.int l3)] [.int 0, .int w0] z_S0 h (zI A)) : zP X (d + 2) 142 51 [some (.ref 82), some (.int l1), none, some (.int l3)] [.int w0] z_S0 h (zI A) := by
  refine zkI zM142 q142_51 kI0 ?_
  exact hw
theorem b142_52 {X : Option (List Int32)} {d : Nat} {h : zH} {A : Int32 → zH → Prop} {l1 : Int32} {l3 : Int32} {w0 : Int32} {w1 : Int32} (hw : zP X (d + 2) 142 14 [some (.ref 82), some (.int l1), some (.int (w0 + w1)), some (.int (l3 + 1))] [] z_S0 h (zI A)) : zP X (d + 2) 142 52 [some (.ref 82), some (.int l1), none, some (.int l3)] [.int w1, .int w0] z_S0 h (zI A) := by
  refine zl zM142 q142_52 (pc' := 53) (st' := .int (w0 + w1) :: _) rfl ?_
  refine zl zM142 q142_53 (ls' := [some (.ref 82), some (.int l1), some (.int (w0 + w1)), some (.int l3)]) rfl ?_
  refine zl zM142 q142_54 (ls' := [some (.ref 82), some (.int l1), some (.int (w0 + w1)), some (.int (l3 + 1))]) rfl ?_
  refine zl zM142 q142_57 (pc' := 14) (ls' := _) (st' := _) rfl ?_
  exact hw
-- X12_stock
theorem b143 {X : Option (List Int32)} {d : Nat} {h : zH} {A : Int32 → zH → Prop} {a1 : Int32} (hw : zP X d 128 0 (z_ent [.long (Int32.toInt64 a1), .long 0, .long 5] 6) [] z_S0 h (zI fun v1 h2 => ((v1 = 0 → A (-2) h2) ∧ (¬ v1 = 0 → (z_ib a1 6 ∧ A (h2 95 (Int32.toNatClampNeg a1)) h2))))) : zP X (d + 1) 143 0 (z_ent [.ref 82, .int a1] 2) [] z_S0 h (zI A) := by
  show zP X (d + 1) 143 0 [some (.ref 82), some (.int a1)] [] z_S0 h (zI A)
  refine zl zM143 q143_0 rfl ?_
  refine zl zM143 q143_1 (pc' := 2) (st' := .long (Int32.toInt64 a1) :: _) rfl ?_
  refine zkL (v := 0) zM143 q143_2 rfl ?_
  refine zkJ zM143 q143_3 kc12_15 ?_
  refine zcS zM143 q143_6 ky12_3 kl12_3 (by decide) rfl (Nat.le_of_ble_eq_true rfl) zM128 (Nat.le_of_ble_eq_true rfl) (hw.mono (fun r0 h2 hr3 => ?_))
  obtain ⟨v1, rfl, hw⟩ := hr3
  show zP X (d + 1) 143 9 [some (.ref 82), some (.int a1)] [.int v1] z_S0 h2 (zI A)
  refine zb1_eq zM143 q143_9 (tgt := 21) rfl (fun hc => ?_) (fun hc => ?_)
  · have hw := hw.1 hc
    refine zkB zM143 q143_21 kBm2 ?_
    exact zri zM143 q143_23 rfl rfl hw
  · have hw := hw.2 hc
    refine zl zM143 q143_12 rfl ?_
    refine zgR (a := 95) zM143 q143_13 (by decide) g12_91 s82 rfl ?_
    refine zl zM143 q143_16 rfl ?_
    obtain ⟨hb, hw⟩ := hw
    refine ziA zM143 q143_17 (by decide) s95 hb (v := (h2 95 (Int32.toNatClampNeg a1))) rfl ?_
    refine zl zM143 q143_18 (pc' := 23) (ls' := _) (st' := _) rfl ?_
    exact zri zM143 q143_23 rfl rfl hw
-- X12_sell
theorem b144 {X : Option (List Int32)} {d : Nat} {h : zH} {A : Int32 → zH → Prop} {a1 : Int32} {a2 : Int32} (hw : zP X (d + 1) 133 0 (z_ent [.int a1] 1) [] z_S0 h (zI fun v1 h2 => ((v1 = 0 → A (-2) h2) ∧ (¬ v1 = 0 → zP X (d + 1) 128 0 (z_ent [.long (Int32.toInt64 a2), .long 1, .long 99999] 6) [] z_S0 h2 (zI fun v3 h4 => ((v3 = 0 → A (-2) h4) ∧ (¬ v3 = 0 → (z_ib a1 6 ∧ (((h4 95 (Int32.toNatClampNeg a1)) < a2 → A (-3) h4) ∧ (¬ (h4 95 (Int32.toNatClampNeg a1)) < a2 → zP X (d + 1) 146 0 (z_ent [.ref 82, .int a1, .int (h4 82 0), .int (h4 82 0)] 8) [] z_S0 h4 (zI fun v5 h6 => (z_ib a1 6 ∧ (z_ib a1 6 ∧ A ((a2 * v5) / 100) (z_up (z_up h6 95 (Int32.toNatClampNeg a1) ((h6 95 (Int32.toNatClampNeg a1)) - a2)) 82 15 ((h6 82 15) + ((a2 * v5) / 100)))))))))))))))) : zP X (d + 2) 144 0 (z_ent [.ref 82, .int a1, .int a2] 4) [] z_S0 h (zI A) := by
  show zP X (d + 2) 144 0 [some (.ref 82), some (.int a1), some (.int a2), none] [] z_S0 h (zI A)
  refine zl zM144 q144_0 rfl ?_
  refine zcS zM144 q144_1 ky12_96 kl12_96 (by decide) rfl (Nat.le_of_ble_eq_true rfl) zM133 (Nat.le_of_ble_eq_true rfl) (hw.mono (fun r0 h2 hr9 => ?_))
  obtain ⟨v1, rfl, hw⟩ := hr9
  show zP X (d + 2) 144 4 [some (.ref 82), some (.int a1), some (.int a2), none] [.int v1] z_S0 h2 (zI A)
  refine zb1_eq zM144 q144_4 (tgt := 19) rfl (fun hc => ?_) (fun hc => ?_)
  · have hw := hw.1 hc
    refine zkB zM144 q144_19 kBm2 ?_
    exact zri zM144 q144_21 rfl rfl hw
  · have hw := hw.2 hc
    refine zl zM144 q144_7 rfl ?_
    refine zl zM144 q144_8 (pc' := 9) (st' := .long (Int32.toInt64 a2) :: _) rfl ?_
    refine zkL (v := 1) zM144 q144_9 rfl ?_
    refine zkJ zM144 q144_10 kc12_89 ?_
    refine zcS zM144 q144_13 ky12_3 kl12_3 (by decide) rfl (Nat.le_of_ble_eq_true rfl) zM128 (Nat.le_of_ble_eq_true rfl) (hw.mono (fun r0 h4 hr8 => ?_))
    obtain ⟨v3, rfl, hw⟩ := hr8
    show zP X (d + 2) 144 16 [some (.ref 82), some (.int a1), some (.int a2), none] [.int v3] z_S0 h4 (zI A)
    refine zb1_ne zM144 q144_16 (tgt := 22) rfl (fun hc => ?_) (fun hc => ?_)
    · have hw := hw.2 hc
      refine zl zM144 q144_22 rfl ?_
      refine zl zM144 q144_23 rfl ?_
      refine zgR (a := 95) zM144 q144_24 (by decide) g12_91 s82 rfl ?_
      refine zl zM144 q144_27 rfl ?_
      obtain ⟨hb, hw⟩ := hw
      refine ziA zM144 q144_28 (by decide) s95 hb (v := (h4 95 (Int32.toNatClampNeg a1))) rfl ?_
      refine zb2_le zM144 q144_29 (tgt := 35) rfl (fun hc => ?_) (fun hc => ?_)
      · have hw := hw.2 hc
        refine zl zM144 q144_35 rfl ?_
        refine zl zM144 q144_36 rfl ?_
        refine zl zM144 q144_37 rfl ?_
        refine zl zM144 q144_38 rfl ?_
        refine zgI zM144 q144_39 (by decide) g12_9 s82 rfl (v := (h4 82 0)) rfl ?_
        refine zl zM144 q144_42 rfl ?_
        refine zgI zM144 q144_43 (by decide) g12_9 s82 rfl (v := (h4 82 0)) rfl ?_
        refine zcV zM144 q144_46 kl12_99 rfl rfl (Nat.le_of_ble_eq_true rfl) rfl zM146 (Nat.le_of_ble_eq_true rfl) (hw.mono (fun r0 h6 hr7 => ?_))
        obtain ⟨v5, rfl, hw⟩ := hr7
        show zP X (d + 2) 144 49 [some (.ref 82), some (.int a1), some (.int a2), none] [.int v5, .int a2] z_S0 h6 (zI A)
        refine zl zM144 q144_49 (pc' := 50) (st' := .int (a2 * v5) :: _) rfl ?_
        refine zkB zM144 q144_50 kB100 ?_
        refine zl zM144 q144_52 (pc' := 53) (st' := .int ((a2 * v5) / 100) :: _) rfl ?_
        refine zl zM144 q144_53 (ls' := [some (.ref 82), some (.int a1), some (.int a2), some (.int ((a2 * v5) / 100))]) rfl ?_
        refine zl zM144 q144_54 rfl ?_
        refine zgR (a := 95) zM144 q144_55 (by decide) g12_91 s82 rfl ?_
        refine zl zM144 q144_58 rfl ?_
        refine zl zM144 q144_59 rfl ?_
        obtain ⟨hb, hw⟩ := hw
        refine ziA zM144 q144_60 (by decide) s95 hb (v := (h6 95 (Int32.toNatClampNeg a1))) rfl ?_
        refine zl zM144 q144_61 rfl ?_
        refine zl zM144 q144_62 (pc' := 63) (st' := .int ((h6 95 (Int32.toNatClampNeg a1)) - a2) :: _) rfl ?_
        obtain ⟨hb, hw⟩ := hw
        refine ziS zM144 q144_63 (by decide) s95 hb rfl ?_
        refine zl zM144 q144_64 rfl ?_
        refine zl zM144 q144_65 rfl ?_
        refine zgI zM144 q144_66 (by decide) g12_102 s82 rfl (v := (h6 82 15)) rfl ?_
        refine zl zM144 q144_69 rfl ?_
        refine zl zM144 q144_70 (pc' := 71) (st' := .int ((h6 82 15) + ((a2 * v5) / 100)) :: _) rfl ?_
        refine zpi zM144 q144_71 (by decide) g12_102 s82 rfl rfl ?_
        refine zl zM144 q144_74 rfl ?_
        exact zri zM144 q144_75 rfl rfl hw
      · have hw := hw.1 hc
        refine zkB zM144 q144_32 kBm3 ?_
        exact zri zM144 q144_34 rfl rfl hw
    · have hw := hw.1 hc
      refine zkB zM144 q144_19 kBm2 ?_
      exact zri zM144 q144_21 rfl rfl hw
-- X12_price
theorem b145 {X : Option (List Int32)} {d : Nat} {h : zH} {A : Int32 → zH → Prop} {a1 : Int32} {a2 : Int32} {a3 : Int32} (hw : zP X (d + 1) 133 0 (z_ent [.int a1] 1) [] z_S0 h (zI fun v1 h2 => ((v1 = 0 → A (-2) h2) ∧ (¬ v1 = 0 → zP X (d + 1) 130 0 (z_ent [.int a2] 1) [] z_S0 h2 (zI fun v3 h4 => ((v3 = 0 → A (-2) h4) ∧ (¬ v3 = 0 → zP X (d + 1) 128 0 (z_ent [.long (Int32.toInt64 a3), .long 0, .long 999] 6) [] z_S0 h4 (zI fun v5 h6 => ((v5 = 0 → A (-2) h6) ∧ (¬ v5 = 0 → (((h6 82 16) = 40 → A (-4) h6) ∧ (¬ (h6 82 16) = 40 → (z_ib (h6 82 16) 40 ∧ (z_ib (h6 82 16) 40 ∧ (z_ib (h6 82 16) 40 ∧ (z_ib (h6 82 16) 40 ∧ A ((h6 82 16) + 1) (z_up (z_up (z_up (z_up (z_up h6 96 (Int32.toNatClampNeg (h6 82 16)) a1) 97 (Int32.toNatClampNeg (h6 82 16)) a2) 98 (Int32.toNatClampNeg (h6 82 16)) a3) 99 (Int32.toNatClampNeg (h6 82 16)) (h6 82 0)) 82 16 ((h6 82 16) + 1)))))))))))))))))) : zP X (d + 2) 145 0 (z_ent [.ref 82, .int a1, .int a2, .int a3] 4) [] z_S0 h (zI A) := by
  show zP X (d + 2) 145 0 [some (.ref 82), some (.int a1), some (.int a2), some (.int a3)] [] z_S0 h (zI A)
  refine zl zM145 q145_0 rfl ?_
  refine zcS zM145 q145_1 ky12_96 kl12_96 (by decide) rfl (Nat.le_of_ble_eq_true rfl) zM133 (Nat.le_of_ble_eq_true rfl) (hw.mono (fun r0 h2 hr9 => ?_))
  obtain ⟨v1, rfl, hw⟩ := hr9
  show zP X (d + 2) 145 4 [some (.ref 82), some (.int a1), some (.int a2), some (.int a3)] [.int v1] z_S0 h2 (zI A)
  refine zb1_eq zM145 q145_4 (tgt := 26) rfl (fun hc => ?_) (fun hc => ?_)
  · have hw := hw.1 hc
    refine zkB zM145 q145_26 kBm2 ?_
    exact zri zM145 q145_28 rfl rfl hw
  · have hw := hw.2 hc
    refine zl zM145 q145_7 rfl ?_
    refine zcS zM145 q145_8 ky12_105 kl12_105 (by decide) rfl (Nat.le_of_ble_eq_true rfl) zM130 (Nat.le_of_ble_eq_true rfl) (hw.mono (fun r0 h4 hr8 => ?_))
    obtain ⟨v3, rfl, hw⟩ := hr8
    show zP X (d + 2) 145 11 [some (.ref 82), some (.int a1), some (.int a2), some (.int a3)] [.int v3] z_S0 h4 (zI A)
    refine zb1_eq zM145 q145_11 (tgt := 26) rfl (fun hc => ?_) (fun hc => ?_)
    · have hw := hw.1 hc
      refine zkB zM145 q145_26 kBm2 ?_
      exact zri zM145 q145_28 rfl rfl hw
    · have hw := hw.2 hc
      refine zl zM145 q145_14 rfl ?_
      refine zl zM145 q145_15 (pc' := 16) (st' := .long (Int32.toInt64 a3) :: _) rfl ?_
      refine zkL (v := 0) zM145 q145_16 rfl ?_
      refine zkJ zM145 q145_17 kc12_108 ?_
      refine zcS zM145 q145_20 ky12_3 kl12_3 (by decide) rfl (Nat.le_of_ble_eq_true rfl) zM128 (Nat.le_of_ble_eq_true rfl) (hw.mono (fun r0 h6 hr7 => ?_))
      obtain ⟨v5, rfl, hw⟩ := hr7
      show zP X (d + 2) 145 23 [some (.ref 82), some (.int a1), some (.int a2), some (.int a3)] [.int v5] z_S0 h6 (zI A)
      refine zb1_ne zM145 q145_23 (tgt := 29) rfl (fun hc => ?_) (fun hc => ?_)
      · have hw := hw.2 hc
        refine zl zM145 q145_29 rfl ?_
        refine zgI zM145 q145_30 (by decide) g12_110 s82 rfl (v := (h6 82 16)) rfl ?_
        refine zkB zM145 q145_33 kB40 ?_
        refine zb2_ne zM145 q145_35 (tgt := 41) rfl (fun hc => ?_) (fun hc => ?_)
        · have hw := hw.2 hc
          refine zl zM145 q145_41 rfl ?_
          refine zgR (a := 96) zM145 q145_42 (by decide) g12_113 s82 rfl ?_
          refine zl zM145 q145_45 rfl ?_
          refine zgI zM145 q145_46 (by decide) g12_110 s82 rfl (v := (h6 82 16)) rfl ?_
          refine zl zM145 q145_49 rfl ?_
          obtain ⟨hb, hw⟩ := hw
          refine ziS zM145 q145_50 (by decide) s96 hb rfl ?_
          refine zl zM145 q145_51 rfl ?_
          refine zgR (a := 97) zM145 q145_52 (by decide) g12_116 s82 rfl ?_
          refine zl zM145 q145_55 rfl ?_
          refine zgI zM145 q145_56 (by decide) g12_110 s82 rfl (v := (h6 82 16)) rfl ?_
          refine zl zM145 q145_59 rfl ?_
          obtain ⟨hb, hw⟩ := hw
          refine ziS zM145 q145_60 (by decide) s97 hb rfl ?_
          refine zl zM145 q145_61 rfl ?_
          refine zgR (a := 98) zM145 q145_62 (by decide) g12_119 s82 rfl ?_
          refine zl zM145 q145_65 rfl ?_
          refine zgI zM145 q145_66 (by decide) g12_110 s82 rfl (v := (h6 82 16)) rfl ?_
          refine zl zM145 q145_69 rfl ?_
          obtain ⟨hb, hw⟩ := hw
          refine ziS zM145 q145_70 (by decide) s98 hb rfl ?_
          refine zl zM145 q145_71 rfl ?_
          refine zgR (a := 99) zM145 q145_72 (by decide) g12_122 s82 rfl ?_
          refine zl zM145 q145_75 rfl ?_
          refine zgI zM145 q145_76 (by decide) g12_110 s82 rfl (v := (h6 82 16)) rfl ?_
          refine zl zM145 q145_79 rfl ?_
          refine zgI zM145 q145_80 (by decide) g12_9 s82 rfl (v := (h6 82 0)) rfl ?_
          obtain ⟨hb, hw⟩ := hw
          refine ziS zM145 q145_83 (by decide) s99 hb rfl ?_
          refine zl zM145 q145_84 rfl ?_
          refine zl zM145 q145_85 rfl ?_
          refine zgI zM145 q145_86 (by decide) g12_110 s82 rfl (v := (h6 82 16)) rfl ?_
          refine zkI zM145 q145_89 kI1 ?_
          refine zl zM145 q145_90 (pc' := 91) (st' := .int ((h6 82 16) + 1) :: _) rfl ?_
          refine zpi zM145 q145_91 (by decide) g12_110 s82 rfl rfl ?_
          refine zl zM145 q145_94 rfl ?_
          refine zgI zM145 q145_95 (by decide) g12_110 s82 rfl (v := ((h6 82 16) + 1)) rfl ?_
          exact zri zM145 q145_98 rfl rfl hw
        · have hw := hw.1 hc
          refine zkB zM145 q145_38 kBm4 ?_
          exact zri zM145 q145_40 rfl rfl hw
      · have hw := hw.1 hc
        refine zkB zM145 q145_26 kBm2 ?_
        exact zri zM145 q145_28 rfl rfl hw
-- X12_priceAsKnown
theorem b146 {X : Option (List Int32)} {d : Nat} {h : zH} {A : Int32 → zH → Prop} {a1 : Int32} {a2 : Int32} {a3 : Int32} (hw : zP X d 146 9 [some (.ref 82), some (.int a1), some (.int a2), some (.int a3), some (.int (-1)), some (.int 0), some (.int 0), none] [] z_S0 h (zI A)) : zP X d 146 0 (z_ent [.ref 82, .int a1, .int a2, .int a3] 8) [] z_S0 h (zI A) := by
  show zP X d 146 0 [some (.ref 82), some (.int a1), some (.int a2), some (.int a3), none, none, none, none] [] z_S0 h (zI A)
  refine zkI zM146 q146_0 kIm1 ?_
  refine zl zM146 q146_1 (ls' := [some (.ref 82), some (.int a1), some (.int a2), some (.int a3), some (.int (-1)), none, none, none]) rfl ?_
  refine zkI zM146 q146_3 kI0 ?_
  refine zl zM146 q146_4 (ls' := [some (.ref 82), some (.int a1), some (.int a2), some (.int a3), some (.int (-1)), some (.int 0), none, none]) rfl ?_
  refine zkI zM146 q146_6 kI0 ?_
  refine zl zM146 q146_7 (ls' := [some (.ref 82), some (.int a1), some (.int a2), some (.int a3), some (.int (-1)), some (.int 0), some (.int 0), none]) rfl ?_
  exact hw
theorem b146_9 {X : Option (List Int32)} {d : Nat} {h : zH} {A : Int32 → zH → Prop} {l1 : Int32} {l2 : Int32} {l3 : Int32} {l4 : Int32} {l5 : Int32} {l6 : Int32} (hw : ((l6 < (h 82 16) → (z_ib l6 40 ∧ (((h 96 (Int32.toNatClampNeg l6)) = l1 → (z_ib l6 40 ∧ ((l3 < (h 99 (Int32.toNatClampNeg l6)) → zP X d 146 67 [some (.ref 82), some (.int l1), some (.int l2), some (.int l3), some (.int l4), some (.int l5), some (.int l6), none] [] z_S0 h (zI A)) ∧ (¬ l3 < (h 99 (Int32.toNatClampNeg l6)) → (z_ib l6 40 ∧ ((l2 < (h 97 (Int32.toNatClampNeg l6)) → zP X d 146 67 [some (.ref 82), some (.int l1), some (.int l2), some (.int l3), some (.int l4), some (.int l5), some (.int l6), none] [] z_S0 h (zI A)) ∧ (¬ l2 < (h 97 (Int32.toNatClampNeg l6)) → (z_ib l6 40 ∧ (((h 97 (Int32.toNatClampNeg l6)) < l4 → zP X d 146 67 [some (.ref 82), some (.int l1), some (.int l2), some (.int l3), some (.int l4), some (.int l5), some (.int l6), none] [] z_S0 h (zI A)) ∧ (¬ (h 97 (Int32.toNatClampNeg l6)) < l4 → zP X d 146 68 [some (.ref 82), some (.int l1), some (.int l2), some (.int l3), some (.int l4), some (.int l5), some (.int l6), none] [.int 1] z_S0 h (zI A))))))))))) ∧ (¬ (h 96 (Int32.toNatClampNeg l6)) = l1 → zP X d 146 67 [some (.ref 82), some (.int l1), some (.int l2), some (.int l3), some (.int l4), some (.int l5), some (.int l6), none] [] z_S0 h (zI A))))) ∧ (¬ l6 < (h 82 16) → A l5 h))) : zP X d 146 9 [some (.ref 82), some (.int l1), some (.int l2), some (.int l3), some (.int l4), some (.int l5), some (.int l6), none] [] z_S0 h (zI A) := by
  refine zl zM146 q146_9 rfl ?_
  refine zl zM146 q146_11 rfl ?_
  refine zgI zM146 q146_12 (by decide) g12_110 s82 rfl (v := (h 82 16)) rfl ?_
  refine zb2_ge zM146 q146_15 (tgt := 99) rfl (fun hc => ?_) (fun hc => ?_)
  · have hw := hw.2 hc
    refine zl zM146 q146_99 rfl ?_
    exact zri zM146 q146_101 rfl rfl hw
  · have hw := hw.1 hc
    refine zl zM146 q146_18 rfl ?_
    refine zgR (a := 96) zM146 q146_19 (by decide) g12_113 s82 rfl ?_
    refine zl zM146 q146_22 rfl ?_
    obtain ⟨hb, hw⟩ := hw
    refine ziA zM146 q146_24 (by decide) s96 hb (v := (h 96 (Int32.toNatClampNeg l6))) rfl ?_
    refine zl zM146 q146_25 rfl ?_
    refine zb2_ne zM146 q146_26 (tgt := 67) rfl (fun hc => ?_) (fun hc => ?_)
    · have hw := hw.2 hc
      exact hw
    · have hw := hw.1 hc
      refine zl zM146 q146_29 rfl ?_
      refine zgR (a := 99) zM146 q146_30 (by decide) g12_122 s82 rfl ?_
      refine zl zM146 q146_33 rfl ?_
      obtain ⟨hb, hw⟩ := hw
      refine ziA zM146 q146_35 (by decide) s99 hb (v := (h 99 (Int32.toNatClampNeg l6))) rfl ?_
      refine zl zM146 q146_36 rfl ?_
      refine zb2_gt zM146 q146_37 (tgt := 67) rfl (fun hc => ?_) (fun hc => ?_)
      · have hw := hw.1 hc
        exact hw
      · have hw := hw.2 hc
        refine zl zM146 q146_40 rfl ?_
        refine zgR (a := 97) zM146 q146_41 (by decide) g12_116 s82 rfl ?_
        refine zl zM146 q146_44 rfl ?_
        obtain ⟨hb, hw⟩ := hw
        refine ziA zM146 q146_46 (by decide) s97 hb (v := (h 97 (Int32.toNatClampNeg l6))) rfl ?_
        refine zl zM146 q146_47 rfl ?_
        refine zb2_gt zM146 q146_48 (tgt := 67) rfl (fun hc => ?_) (fun hc => ?_)
        · have hw := hw.1 hc
          exact hw
        · have hw := hw.2 hc
          refine zl zM146 q146_51 rfl ?_
          refine zgR (a := 97) zM146 q146_52 (by decide) g12_116 s82 rfl ?_
          refine zl zM146 q146_55 rfl ?_
          obtain ⟨hb, hw⟩ := hw
          refine ziA zM146 q146_57 (by decide) s97 hb (v := (h 97 (Int32.toNatClampNeg l6))) rfl ?_
          refine zl zM146 q146_58 rfl ?_
          refine zb2_lt zM146 q146_60 (tgt := 67) rfl (fun hc => ?_) (fun hc => ?_)
          · have hw := hw.1 hc
            exact hw
          · have hw := hw.2 hc
            refine zkI zM146 q146_63 kI1 ?_
            refine zl zM146 q146_64 (pc' := 68) (ls' := _) (st' := _) rfl ?_
            exact hw
theorem b146_67 {X : Option (List Int32)} {d : Nat} {h : zH} {A : Int32 → zH → Prop} {l1 : Int32} {l2 : Int32} {l3 : Int32} {l4 : Int32} {l5 : Int32} {l6 : Int32} (hw : zP X d 146 68 [some (.ref 82), some (.int l1), some (.int l2), some (.int l3), some (.int l4), some (.int l5), some (.int l6), none] [.int 0] z_S0 h (zI A)) : zP X d 146 67 [some (.ref 82), some (.int l1), some (.int l2), some (.int l3), some (.int l4), some (.int l5), some (.int l6), none] [] z_S0 h (zI A) := by
  refine zkI zM146 q146_67 kI0 ?_
  exact hw
theorem b146_68 {X : Option (List Int32)} {d : Nat} {h : zH} {A : Int32 → zH → Prop} {l1 : Int32} {l2 : Int32} {l3 : Int32} {l4 : Int32} {l5 : Int32} {l6 : Int32} {w0 : Int32} (hw : ((w0 = 0 → zP X d 146 93 [some (.ref 82), some (.int l1), some (.int l2), some (.int l3), some (.int l4), some (.int l5), some (.int l6), none] [] z_S0 h (zI A)) ∧ (¬ w0 = 0 → (z_ib l6 40 ∧ (z_ib l6 40 ∧ zP X d 146 93 [some (.ref 82), some (.int l1), some (.int l2), some (.int l3), some (.int (h 97 (Int32.toNatClampNeg l6))), some (.int (h 98 (Int32.toNatClampNeg l6))), some (.int l6), none] [] z_S0 h (zI A)))))) : zP X d 146 68 [some (.ref 82), some (.int l1), some (.int l2), some (.int l3), some (.int l4), some (.int l5), some (.int l6), none] [.int w0] z_S0 h (zI A) := by
  refine zl zM146 q146_68 (ls' := [some (.ref 82), some (.int l1), some (.int l2), some (.int l3), some (.int l4), some (.int l5), some (.int l6), some (.int w0)]) rfl ?_
  refine zl zM146 q146_70 rfl ?_
  refine zb1_eq zM146 q146_72 (tgt := 93) rfl (fun hc => ?_) (fun hc => ?_)
  · have hw := hw.1 hc
    refine zweak (a := [some (.ref 82), some (.int l1), some (.int l2), some (.int l3), some (.int l4), some (.int l5), some (.int l6), none]) ?_ hw
    exact ⟨rfl, ⟨rfl, ⟨rfl, ⟨rfl, ⟨rfl, ⟨rfl, ⟨rfl, trivial⟩⟩⟩⟩⟩⟩⟩
  · have hw := hw.2 hc
    refine zl zM146 q146_75 rfl ?_
    refine zgR (a := 97) zM146 q146_76 (by decide) g12_116 s82 rfl ?_
    refine zl zM146 q146_79 rfl ?_
    obtain ⟨hb, hw⟩ := hw
    refine ziA zM146 q146_81 (by decide) s97 hb (v := (h 97 (Int32.toNatClampNeg l6))) rfl ?_
    refine zl zM146 q146_82 (ls' := [some (.ref 82), some (.int l1), some (.int l2), some (.int l3), some (.int (h 97 (Int32.toNatClampNeg l6))), some (.int l5), some (.int l6), some (.int w0)]) rfl ?_
    refine zl zM146 q146_84 rfl ?_
    refine zgR (a := 98) zM146 q146_85 (by decide) g12_119 s82 rfl ?_
    refine zl zM146 q146_88 rfl ?_
    obtain ⟨hb, hw⟩ := hw
    refine ziA zM146 q146_90 (by decide) s98 hb (v := (h 98 (Int32.toNatClampNeg l6))) rfl ?_
    refine zl zM146 q146_91 (ls' := [some (.ref 82), some (.int l1), some (.int l2), some (.int l3), some (.int (h 97 (Int32.toNatClampNeg l6))), some (.int (h 98 (Int32.toNatClampNeg l6))), some (.int l6), some (.int w0)]) rfl ?_
    refine zweak (a := [some (.ref 82), some (.int l1), some (.int l2), some (.int l3), some (.int (h 97 (Int32.toNatClampNeg l6))), some (.int (h 98 (Int32.toNatClampNeg l6))), some (.int l6), none]) ?_ hw
    exact ⟨rfl, ⟨rfl, ⟨rfl, ⟨rfl, ⟨rfl, ⟨rfl, ⟨rfl, trivial⟩⟩⟩⟩⟩⟩⟩
theorem b146_93 {X : Option (List Int32)} {d : Nat} {h : zH} {A : Int32 → zH → Prop} {l1 : Int32} {l2 : Int32} {l3 : Int32} {l4 : Int32} {l5 : Int32} {l6 : Int32} (hw : zP X d 146 9 [some (.ref 82), some (.int l1), some (.int l2), some (.int l3), some (.int l4), some (.int l5), some (.int (l6 + 1)), none] [] z_S0 h (zI A)) : zP X d 146 93 [some (.ref 82), some (.int l1), some (.int l2), some (.int l3), some (.int l4), some (.int l5), some (.int l6), none] [] z_S0 h (zI A) := by
  refine zl zM146 q146_93 (ls' := [some (.ref 82), some (.int l1), some (.int l2), some (.int l3), some (.int l4), some (.int l5), some (.int (l6 + 1)), none]) rfl ?_
  refine zl zM146 q146_96 (pc' := 9) (ls' := _) (st' := _) rfl ?_
  exact hw
-- X12_priceOf
theorem b147 {X : Option (List Int32)} {d : Nat} {h : zH} {A : Int32 → zH → Prop} {a1 : Int32} {a2 : Int32} {a3 : Int32} (hw : zP X (d + 1) 133 0 (z_ent [.int a1] 1) [] z_S0 h (zI fun v1 h2 => ((v1 = 0 → A (-2) h2) ∧ (¬ v1 = 0 → zP X (d + 1) 130 0 (z_ent [.int a2] 1) [] z_S0 h2 (zI fun v3 h4 => ((v3 = 0 → A (-2) h4) ∧ (¬ v3 = 0 → zP X (d + 1) 128 0 (z_ent [.long (Int32.toInt64 a3), .long 0, .long (Int32.toInt64 (h4 82 0))] 6) [] z_S0 h4 (zI fun v5 h6 => ((v5 = 0 → A (-2) h6) ∧ (¬ v5 = 0 → zP X (d + 1) 146 0 (z_ent [.ref 82, .int a1, .int a2, .int a3] 8) [] z_S0 h6 (zI fun v7 h8 => A v7 h8))))))))))) : zP X (d + 2) 147 0 (z_ent [.ref 82, .int a1, .int a2, .int a3] 4) [] z_S0 h (zI A) := by
  show zP X (d + 2) 147 0 [some (.ref 82), some (.int a1), some (.int a2), some (.int a3)] [] z_S0 h (zI A)
  refine zl zM147 q147_0 rfl ?_
  refine zcS zM147 q147_1 ky12_96 kl12_96 (by decide) rfl (Nat.le_of_ble_eq_true rfl) zM133 (Nat.le_of_ble_eq_true rfl) (hw.mono (fun r0 h2 hr12 => ?_))
  obtain ⟨v1, rfl, hw⟩ := hr12
  show zP X (d + 2) 147 4 [some (.ref 82), some (.int a1), some (.int a2), some (.int a3)] [.int v1] z_S0 h2 (zI A)
  refine zb1_eq zM147 q147_4 (tgt := 28) rfl (fun hc => ?_) (fun hc => ?_)
  · have hw := hw.1 hc
    refine zkB zM147 q147_28 kBm2 ?_
    exact zri zM147 q147_30 rfl rfl hw
  · have hw := hw.2 hc
    refine zl zM147 q147_7 rfl ?_
    refine zcS zM147 q147_8 ky12_105 kl12_105 (by decide) rfl (Nat.le_of_ble_eq_true rfl) zM130 (Nat.le_of_ble_eq_true rfl) (hw.mono (fun r0 h4 hr11 => ?_))
    obtain ⟨v3, rfl, hw⟩ := hr11
    show zP X (d + 2) 147 11 [some (.ref 82), some (.int a1), some (.int a2), some (.int a3)] [.int v3] z_S0 h4 (zI A)
    refine zb1_eq zM147 q147_11 (tgt := 28) rfl (fun hc => ?_) (fun hc => ?_)
    · have hw := hw.1 hc
      refine zkB zM147 q147_28 kBm2 ?_
      exact zri zM147 q147_30 rfl rfl hw
    · have hw := hw.2 hc
      refine zl zM147 q147_14 rfl ?_
      refine zl zM147 q147_15 (pc' := 16) (st' := .long (Int32.toInt64 a3) :: _) rfl ?_
      refine zkL (v := 0) zM147 q147_16 rfl ?_
      refine zl zM147 q147_17 rfl ?_
      refine zgI zM147 q147_18 (by decide) g12_9 s82 rfl (v := (h4 82 0)) rfl ?_
      refine zl zM147 q147_21 (pc' := 22) (st' := .long (Int32.toInt64 (h4 82 0)) :: _) rfl ?_
      refine zcS zM147 q147_22 ky12_3 kl12_3 (by decide) rfl (Nat.le_of_ble_eq_true rfl) zM128 (Nat.le_of_ble_eq_true rfl) (hw.mono (fun r0 h6 hr10 => ?_))
      obtain ⟨v5, rfl, hw⟩ := hr10
      show zP X (d + 2) 147 25 [some (.ref 82), some (.int a1), some (.int a2), some (.int a3)] [.int v5] z_S0 h6 (zI A)
      refine zb1_ne zM147 q147_25 (tgt := 31) rfl (fun hc => ?_) (fun hc => ?_)
      · have hw := hw.2 hc
        refine zl zM147 q147_31 rfl ?_
        refine zl zM147 q147_32 rfl ?_
        refine zl zM147 q147_33 rfl ?_
        refine zl zM147 q147_34 rfl ?_
        refine zcV zM147 q147_35 kl12_99 rfl rfl (Nat.le_of_ble_eq_true rfl) rfl zM146 (Nat.le_of_ble_eq_true rfl) (hw.mono (fun r0 h8 hr9 => ?_))
        obtain ⟨v7, rfl, hw⟩ := hr9
        show zP X (d + 2) 147 38 [some (.ref 82), some (.int a1), some (.int a2), some (.int a3)] [.int v7] z_S0 h8 (zI A)
        exact zri zM147 q147_38 rfl rfl hw
      · have hw := hw.1 hc
        refine zkB zM147 q147_28 kBm2 ?_
        exact zri zM147 q147_30 rfl rfl hw
-- X12_feed
theorem b148 {X : Option (List Int32)} {d : Nat} {h : zH} {A : Int32 → zH → Prop} {a1 : Int32} {a2 : Int64} (hw : zP X d 128 0 (z_ent [.long (Int32.toInt64 a1), .long 1, .long 8] 6) [] z_S0 h (zI fun v1 h2 => ((v1 = 0 → A (-2) h2) ∧ (¬ v1 = 0 → (((160 : Int32) < ((h2 82 22) + a1) → A (-4) h2) ∧ (¬ (160 : Int32) < ((h2 82 22) + a1) → zP X (d + 1) 148 33 [some (.ref 82), some (.int a1), some (.long a2), none, some (.int 0)] [] z_S0 h2 (zI A))))))) : zP X (d + 1) 148 0 (z_ent [.ref 82, .int a1, .long a2] 5) [] z_S0 h (zI A) := by
  show zP X (d + 1) 148 0 [some (.ref 82), some (.int a1), some (.long a2), none, none] [] z_S0 h (zI A)
  refine zl zM148 q148_0 rfl ?_
  refine zl zM148 q148_1 (pc' := 2) (st' := .long (Int32.toInt64 a1) :: _) rfl ?_
  refine zkL (v := 1) zM148 q148_2 rfl ?_
  refine zkJ zM148 q148_3 kc12_125 ?_
  refine zcS zM148 q148_6 ky12_3 kl12_3 (by decide) rfl (Nat.le_of_ble_eq_true rfl) zM128 (Nat.le_of_ble_eq_true rfl) (hw.mono (fun r0 h2 hr3 => ?_))
  obtain ⟨v1, rfl, hw⟩ := hr3
  show zP X (d + 1) 148 9 [some (.ref 82), some (.int a1), some (.long a2), none, none] [.int v1] z_S0 h2 (zI A)
  refine zb1_ne zM148 q148_9 (tgt := 15) rfl (fun hc => ?_) (fun hc => ?_)
  · have hw := hw.2 hc
    refine zl zM148 q148_15 rfl ?_
    refine zgI zM148 q148_16 (by decide) g12_127 s82 rfl (v := (h2 82 22)) rfl ?_
    refine zl zM148 q148_19 rfl ?_
    refine zl zM148 q148_20 (pc' := 21) (st' := .int ((h2 82 22) + a1) :: _) rfl ?_
    refine zkS zM148 q148_21 kS160 ?_
    refine zb2_le zM148 q148_24 (tgt := 30) rfl (fun hc => ?_) (fun hc => ?_)
    · have hw := hw.2 hc
      refine zkI zM148 q148_30 kI0 ?_
      refine zl zM148 q148_31 (ls' := [some (.ref 82), some (.int a1), some (.long a2), none, some (.int 0)]) rfl ?_
      exact hw
    · have hw := hw.1 hc
      refine zkB zM148 q148_27 kBm4 ?_
      exact zri zM148 q148_29 rfl rfl hw
  · have hw := hw.1 hc
    refine zkB zM148 q148_12 kBm2 ?_
    exact zri zM148 q148_14 rfl rfl hw
theorem b148_33 {X : Option (List Int32)} {d : Nat} {h : zH} {A : Int32 → zH → Prop} {l1 : Int32} {l2 : Int64} {l4 : Int32} (hw : ((l4 < l1 → (z_ib (h 82 22) 160 ∧ zP X (d + 1) 148 33 [some (.ref 82), some (.int l1), some (.long l2), none, some (.int (l4 + 1))] [] z_S0 (z_up (z_up h 100 (Int32.toNatClampNeg (h 82 22)) (vp_nar .byte ((Int32.toInt8 (Int64.toInt32 (l2 >>> (Int32.toInt64 (8 * l4) &&& 63)))).toInt32))) 82 22 ((h 82 22) + 1)) (zI A))) ∧ (¬ l4 < l1 → A (h 82 22) h))) : zP X (d + 1) 148 33 [some (.ref 82), some (.int l1), some (.long l2), none, some (.int l4)] [] z_S0 h (zI A) := by
  refine zl zM148 q148_33 rfl ?_
  refine zl zM148 q148_35 rfl ?_
  refine zb2_ge zM148 q148_36 (tgt := 73) rfl (fun hc => ?_) (fun hc => ?_)
  · have hw := hw.2 hc
    refine zl zM148 q148_73 rfl ?_
    refine zgI zM148 q148_74 (by decide) g12_127 s82 rfl (v := (h 82 22)) rfl ?_
    exact zri zM148 q148_77 rfl rfl hw
  · have hw := hw.1 hc
    refine zl zM148 q148_39 rfl ?_
    refine zgR (a := 100) zM148 q148_40 (by decide) g12_130 s82 rfl ?_
    refine zl zM148 q148_43 rfl ?_
    refine zgI zM148 q148_44 (by decide) g12_127 s82 rfl (v := (h 82 22)) rfl ?_
    refine zl zM148 q148_47 rfl ?_
    refine zkB zM148 q148_48 kB8 ?_
    refine zl zM148 q148_50 rfl ?_
    refine zl zM148 q148_52 (pc' := 53) (st' := .int (8 * l4) :: _) rfl ?_
    refine zl zM148 q148_53 (pc' := 54) (st' := .long (l2 >>> (Int32.toInt64 (8 * l4) &&& 63)) :: _) rfl ?_
    refine zl zM148 q148_54 (pc' := 55) (st' := .int (Int64.toInt32 (l2 >>> (Int32.toInt64 (8 * l4) &&& 63))) :: _) rfl ?_
    refine zl zM148 q148_55 (pc' := 56) (st' := .int ((Int32.toInt8 (Int64.toInt32 (l2 >>> (Int32.toInt64 (8 * l4) &&& 63)))).toInt32) :: _) rfl ?_
    obtain ⟨hb, hw⟩ := hw
    refine zbS zM148 q148_56 (by decide) s100 (by decide) hb rfl (w := (vp_nar .byte ((Int32.toInt8 (Int64.toInt32 (l2 >>> (Int32.toInt64 (8 * l4) &&& 63)))).toInt32))) rfl ?_
    refine zl zM148 q148_57 rfl ?_
    refine zl zM148 q148_58 rfl ?_
    refine zgI zM148 q148_59 (by decide) g12_127 s82 rfl (v := (h 82 22)) rfl ?_
    refine zkI zM148 q148_62 kI1 ?_
    refine zl zM148 q148_63 (pc' := 64) (st' := .int ((h 82 22) + 1) :: _) rfl ?_
    refine zpi zM148 q148_64 (by decide) g12_127 s82 rfl rfl ?_
    refine zl zM148 q148_67 (ls' := [some (.ref 82), some (.int l1), some (.long l2), none, some (.int (l4 + 1))]) rfl ?_
    refine zl zM148 q148_70 (pc' := 33) (ls' := _) (st' := _) rfl ?_
    exact hw
-- X12_isLetter
theorem b149 {X : Option (List Int32)} {d : Nat} {h : zH} {A : Int32 → zH → Prop} {a1 : Int32} (hw : ((a1 < (h 82 22) → (z_ib a1 160 ∧ (((h 100 (Int32.toNatClampNeg a1)) < 97 → A 0 h) ∧ (¬ (h 100 (Int32.toNatClampNeg a1)) < 97 → (z_ib a1 160 ∧ (((122 : Int32) < (h 100 (Int32.toNatClampNeg a1)) → A 0 h) ∧ (¬ (122 : Int32) < (h 100 (Int32.toNatClampNeg a1)) → A 1 h))))))) ∧ (¬ a1 < (h 82 22) → A 0 h))) : zP X d 149 0 (z_ent [.ref 82, .int a1] 2) [] z_S0 h (zI A) := by
  show zP X d 149 0 [some (.ref 82), some (.int a1)] [] z_S0 h (zI A)
  refine zl zM149 q149_0 rfl ?_
  refine zl zM149 q149_1 rfl ?_
  refine zgI zM149 q149_2 (by decide) g12_127 s82 rfl (v := (h 82 22)) rfl ?_
  refine zb2_ge zM149 q149_5 (tgt := 34) rfl (fun hc => ?_) (fun hc => ?_)
  · have hw := hw.2 hc
    refine zkI zM149 q149_34 kI0 ?_
    exact zri zM149 q149_35 rfl rfl hw
  · have hw := hw.1 hc
    refine zl zM149 q149_8 rfl ?_
    refine zgR (a := 100) zM149 q149_9 (by decide) g12_130 s82 rfl ?_
    refine zl zM149 q149_12 rfl ?_
    obtain ⟨hb, hw⟩ := hw
    refine zbA zM149 q149_13 (by decide) s100 (by decide) hb (v := (h 100 (Int32.toNatClampNeg a1))) rfl ?_
    refine zkB zM149 q149_14 kB97 ?_
    refine zb2_lt zM149 q149_16 (tgt := 34) rfl (fun hc => ?_) (fun hc => ?_)
    · have hw := hw.1 hc
      refine zkI zM149 q149_34 kI0 ?_
      exact zri zM149 q149_35 rfl rfl hw
    · have hw := hw.2 hc
      refine zl zM149 q149_19 rfl ?_
      refine zgR (a := 100) zM149 q149_20 (by decide) g12_130 s82 rfl ?_
      refine zl zM149 q149_23 rfl ?_
      obtain ⟨hb, hw⟩ := hw
      refine zbA zM149 q149_24 (by decide) s100 (by decide) hb (v := (h 100 (Int32.toNatClampNeg a1))) rfl ?_
      refine zkB zM149 q149_25 kB122 ?_
      refine zb2_gt zM149 q149_27 (tgt := 34) rfl (fun hc => ?_) (fun hc => ?_)
      · have hw := hw.1 hc
        refine zkI zM149 q149_34 kI0 ?_
        exact zri zM149 q149_35 rfl rfl hw
      · have hw := hw.2 hc
        refine zkI zM149 q149_30 kI1 ?_
        refine zl zM149 q149_31 (pc' := 35) (ls' := _) (st' := _) rfl ?_
        exact zri zM149 q149_35 rfl rfl hw
-- X12_isDigit
theorem b150 {X : Option (List Int32)} {d : Nat} {h : zH} {A : Int32 → zH → Prop} {a1 : Int32} (hw : ((a1 < (h 82 22) → (z_ib a1 160 ∧ (((h 100 (Int32.toNatClampNeg a1)) < 48 → A 0 h) ∧ (¬ (h 100 (Int32.toNatClampNeg a1)) < 48 → (z_ib a1 160 ∧ (((57 : Int32) < (h 100 (Int32.toNatClampNeg a1)) → A 0 h) ∧ (¬ (57 : Int32) < (h 100 (Int32.toNatClampNeg a1)) → A 1 h))))))) ∧ (¬ a1 < (h 82 22) → A 0 h))) : zP X d 150 0 (z_ent [.ref 82, .int a1] 2) [] z_S0 h (zI A) := by
  show zP X d 150 0 [some (.ref 82), some (.int a1)] [] z_S0 h (zI A)
  refine zl zM150 q150_0 rfl ?_
  refine zl zM150 q150_1 rfl ?_
  refine zgI zM150 q150_2 (by decide) g12_127 s82 rfl (v := (h 82 22)) rfl ?_
  refine zb2_ge zM150 q150_5 (tgt := 34) rfl (fun hc => ?_) (fun hc => ?_)
  · have hw := hw.2 hc
    refine zkI zM150 q150_34 kI0 ?_
    exact zri zM150 q150_35 rfl rfl hw
  · have hw := hw.1 hc
    refine zl zM150 q150_8 rfl ?_
    refine zgR (a := 100) zM150 q150_9 (by decide) g12_130 s82 rfl ?_
    refine zl zM150 q150_12 rfl ?_
    obtain ⟨hb, hw⟩ := hw
    refine zbA zM150 q150_13 (by decide) s100 (by decide) hb (v := (h 100 (Int32.toNatClampNeg a1))) rfl ?_
    refine zkB zM150 q150_14 kB48 ?_
    refine zb2_lt zM150 q150_16 (tgt := 34) rfl (fun hc => ?_) (fun hc => ?_)
    · have hw := hw.1 hc
      refine zkI zM150 q150_34 kI0 ?_
      exact zri zM150 q150_35 rfl rfl hw
    · have hw := hw.2 hc
      refine zl zM150 q150_19 rfl ?_
      refine zgR (a := 100) zM150 q150_20 (by decide) g12_130 s82 rfl ?_
      refine zl zM150 q150_23 rfl ?_
      obtain ⟨hb, hw⟩ := hw
      refine zbA zM150 q150_24 (by decide) s100 (by decide) hb (v := (h 100 (Int32.toNatClampNeg a1))) rfl ?_
      refine zkB zM150 q150_25 kB57 ?_
      refine zb2_gt zM150 q150_27 (tgt := 34) rfl (fun hc => ?_) (fun hc => ?_)
      · have hw := hw.1 hc
        refine zkI zM150 q150_34 kI0 ?_
        exact zri zM150 q150_35 rfl rfl hw
      · have hw := hw.2 hc
        refine zkI zM150 q150_30 kI1 ?_
        refine zl zM150 q150_31 (pc' := 35) (ls' := _) (st' := _) rfl ?_
        exact zri zM150 q150_35 rfl rfl hw
-- X12_readNumber
theorem b152 {X : Option (List Int32)} {d : Nat} {h : zH} {A : zH → Prop}  (hw : zP X (d + 1) 152 5 [some (.ref 82)] [] z_S0 (z_up h 82 28 0) (zV A)) : zP X (d + 1) 152 0 (z_ent [.ref 82] 1) [] z_S0 h (zV A) := by
  show zP X (d + 1) 152 0 [some (.ref 82)] [] z_S0 h (zV A)
  refine zl zM152 q152_0 rfl ?_
  refine zkI zM152 q152_1 kI0 ?_
  refine zpi zM152 q152_2 (by decide) g12_153 s82 rfl rfl ?_
  exact hw
theorem b152_5 {X : Option (List Int32)} {d : Nat} {h : zH} {A : zH → Prop}  (hw : zP X d 150 0 (z_ent [.ref 82, .int (h 82 26)] 2) [] z_S0 h (zI fun v1 h2 => ((v1 = 0 → (((4 : Int32) < ((h2 82 26) - (h2 82 29)) → A (z_up h2 82 27 5)) ∧ (¬ (4 : Int32) < ((h2 82 26) - (h2 82 29)) → A (z_up h2 82 27 1)))) ∧ (¬ v1 = 0 → ((((h2 82 26) - (h2 82 29)) < 4 → (z_ib (h2 82 26) 160 ∧ zP X (d + 1) 152 57 [some (.ref 82)] [.int (((10 * (h2 82 28)) + (h2 100 (Int32.toNatClampNeg (h2 82 26)))) - 48), .ref 82] z_S0 h2 (zV A))) ∧ (¬ ((h2 82 26) - (h2 82 29)) < 4 → zP X (d + 1) 152 57 [some (.ref 82)] [.int (h2 82 28), .ref 82] z_S0 h2 (zV A))))))) : zP X (d + 1) 152 5 [some (.ref 82)] [] z_S0 h (zV A) := by
  refine zl zM152 q152_5 rfl ?_
  refine zl zM152 q152_6 rfl ?_
  refine zgI zM152 q152_7 (by decide) g12_134 s82 rfl (v := (h 82 26)) rfl ?_
  refine zcV zM152 q152_10 kl12_156 rfl rfl (Nat.le_of_ble_eq_true rfl) rfl zM150 (Nat.le_of_ble_eq_true rfl) (hw.mono (fun r0 h2 hr3 => ?_))
  obtain ⟨v1, rfl, hw⟩ := hr3
  show zP X (d + 1) 152 13 [some (.ref 82)] [.int v1] z_S0 h2 (zV A)
  refine zb1_eq zM152 q152_13 (tgt := 73) rfl (fun hc => ?_) (fun hc => ?_)
  · have hw := hw.1 hc
    refine zl zM152 q152_73 rfl ?_
    refine zl zM152 q152_74 rfl ?_
    refine zgI zM152 q152_75 (by decide) g12_134 s82 rfl (v := (h2 82 26)) rfl ?_
    refine zl zM152 q152_78 rfl ?_
    refine zgI zM152 q152_79 (by decide) g12_146 s82 rfl (v := (h2 82 29)) rfl ?_
    refine zl zM152 q152_82 (pc' := 83) (st' := .int ((h2 82 26) - (h2 82 29)) :: _) rfl ?_
    refine zkI zM152 q152_83 kI4 ?_
    refine zb2_le zM152 q152_84 (tgt := 91) rfl (fun hc => ?_) (fun hc => ?_)
    · have hw := hw.2 hc
      refine zkI zM152 q152_91 kI1 ?_
      refine zpi zM152 q152_92 (by decide) g12_140 s82 rfl rfl ?_
      exact zrv zM152 q152_95 rfl hw
    · have hw := hw.1 hc
      refine zkI zM152 q152_87 kI5 ?_
      refine zl zM152 q152_88 (pc' := 92) (ls' := _) (st' := _) rfl ?_
      refine zpi zM152 q152_92 (by decide) g12_140 s82 rfl rfl ?_
      exact zrv zM152 q152_95 rfl hw
  · have hw := hw.2 hc
    refine zl zM152 q152_16 rfl ?_
    refine zl zM152 q152_17 rfl ?_
    refine zgI zM152 q152_18 (by decide) g12_134 s82 rfl (v := (h2 82 26)) rfl ?_
    refine zl zM152 q152_21 rfl ?_
    refine zgI zM152 q152_22 (by decide) g12_146 s82 rfl (v := (h2 82 29)) rfl ?_
    refine zl zM152 q152_25 (pc' := 26) (st' := .int ((h2 82 26) - (h2 82 29)) :: _) rfl ?_
    refine zkI zM152 q152_26 kI4 ?_
    refine zb2_ge zM152 q152_27 (tgt := 53) rfl (fun hc => ?_) (fun hc => ?_)
    · have hw := hw.2 hc
      refine zl zM152 q152_53 rfl ?_
      refine zgI zM152 q152_54 (by decide) g12_153 s82 rfl (v := (h2 82 28)) rfl ?_
      exact hw
    · have hw := hw.1 hc
      refine zkB zM152 q152_30 kB10 ?_
      refine zl zM152 q152_32 rfl ?_
      refine zgI zM152 q152_33 (by decide) g12_153 s82 rfl (v := (h2 82 28)) rfl ?_
      refine zl zM152 q152_36 (pc' := 37) (st' := .int (10 * (h2 82 28)) :: _) rfl ?_
      refine zl zM152 q152_37 rfl ?_
      refine zgR (a := 100) zM152 q152_38 (by decide) g12_130 s82 rfl ?_
      refine zl zM152 q152_41 rfl ?_
      refine zgI zM152 q152_42 (by decide) g12_134 s82 rfl (v := (h2 82 26)) rfl ?_
      obtain ⟨hb, hw⟩ := hw
      refine zbA zM152 q152_45 (by decide) s100 (by decide) hb (v := (h2 100 (Int32.toNatClampNeg (h2 82 26)))) rfl ?_
      refine zl zM152 q152_46 (pc' := 47) (st' := .int ((10 * (h2 82 28)) + (h2 100 (Int32.toNatClampNeg (h2 82 26)))) :: _) rfl ?_
      refine zkB zM152 q152_47 kB48 ?_
      refine zl zM152 q152_49 (pc' := 50) (st' := .int (((10 * (h2 82 28)) + (h2 100 (Int32.toNatClampNeg (h2 82 26)))) - 48) :: _) rfl ?_
      refine zl zM152 q152_50 (pc' := 57) (ls' := _) (st' := _) rfl ?_
      exact hw
theorem b152_57 {X : Option (List Int32)} {d : Nat} {h : zH} {A : zH → Prop} {w1 : Int32} (hw : zP X (d + 1) 152 5 [some (.ref 82)] [] z_S0 (z_up (z_up h 82 28 w1) 82 26 ((h 82 26) + 1)) (zV A)) : zP X (d + 1) 152 57 [some (.ref 82)] [.int w1, .ref 82] z_S0 h (zV A) := by
  refine zpi zM152 q152_57 (by decide) g12_153 s82 rfl rfl ?_
  refine zl zM152 q152_60 rfl ?_
  refine zl zM152 q152_61 rfl ?_
  refine zgI zM152 q152_62 (by decide) g12_134 s82 rfl (v := (h 82 26)) rfl ?_
  refine zkI zM152 q152_65 kI1 ?_
  refine zl zM152 q152_66 (pc' := 67) (st' := .int ((h 82 26) + 1) :: _) rfl ?_
  refine zpi zM152 q152_67 (by decide) g12_134 s82 rfl rfl ?_
  refine zl zM152 q152_70 (pc' := 5) (ls' := _) (st' := _) rfl ?_
  exact hw
-- X12_isSign
theorem b154 {X : Option (List Int32)} {d : Nat} {h : zH} {A : Int32 → zH → Prop} {a1 : Int32} (hw : (((h 82 27) = 3 → (((h 82 28) = a1 → A 1 h) ∧ (¬ (h 82 28) = a1 → A 0 h))) ∧ (¬ (h 82 27) = 3 → A 0 h))) : zP X d 154 0 (z_ent [.ref 82, .int a1] 2) [] z_S0 h (zI A) := by
  show zP X d 154 0 [some (.ref 82), some (.int a1)] [] z_S0 h (zI A)
  refine zl zM154 q154_0 rfl ?_
  refine zgI zM154 q154_1 (by decide) g12_140 s82 rfl (v := (h 82 27)) rfl ?_
  refine zkI zM154 q154_4 kI3 ?_
  refine zb2_ne zM154 q154_5 (tgt := 20) rfl (fun hc => ?_) (fun hc => ?_)
  · have hw := hw.2 hc
    refine zkI zM154 q154_20 kI0 ?_
    exact zri zM154 q154_21 rfl rfl hw
  · have hw := hw.1 hc
    refine zl zM154 q154_8 rfl ?_
    refine zgI zM154 q154_9 (by decide) g12_153 s82 rfl (v := (h 82 28)) rfl ?_
    refine zl zM154 q154_12 rfl ?_
    refine zb2_ne zM154 q154_13 (tgt := 20) rfl (fun hc => ?_) (fun hc => ?_)
    · have hw := hw.2 hc
      refine zkI zM154 q154_20 kI0 ?_
      exact zri zM154 q154_21 rfl rfl hw
    · have hw := hw.1 hc
      refine zkI zM154 q154_16 kI1 ?_
      refine zl zM154 q154_17 (pc' := 21) (ls' := _) (st' := _) rfl ?_
      exact zri zM154 q154_21 rfl rfl hw
-- X12_isKey
theorem b155 {X : Option (List Int32)} {d : Nat} {h : zH} {A : Int32 → zH → Prop} {a1 : Int32} (hw : (((h 82 27) = 4 → (((h 82 28) = a1 → A 1 h) ∧ (¬ (h 82 28) = a1 → A 0 h))) ∧ (¬ (h 82 27) = 4 → A 0 h))) : zP X d 155 0 (z_ent [.ref 82, .int a1] 2) [] z_S0 h (zI A) := by
  show zP X d 155 0 [some (.ref 82), some (.int a1)] [] z_S0 h (zI A)
  refine zl zM155 q155_0 rfl ?_
  refine zgI zM155 q155_1 (by decide) g12_140 s82 rfl (v := (h 82 27)) rfl ?_
  refine zkI zM155 q155_4 kI4 ?_
  refine zb2_ne zM155 q155_5 (tgt := 20) rfl (fun hc => ?_) (fun hc => ?_)
  · have hw := hw.2 hc
    refine zkI zM155 q155_20 kI0 ?_
    exact zri zM155 q155_21 rfl rfl hw
  · have hw := hw.1 hc
    refine zl zM155 q155_8 rfl ?_
    refine zgI zM155 q155_9 (by decide) g12_153 s82 rfl (v := (h 82 28)) rfl ?_
    refine zl zM155 q155_12 rfl ?_
    refine zb2_ne zM155 q155_13 (tgt := 20) rfl (fun hc => ?_) (fun hc => ?_)
    · have hw := hw.2 hc
      refine zkI zM155 q155_20 kI0 ?_
      exact zri zM155 q155_21 rfl rfl hw
    · have hw := hw.1 hc
      refine zkI zM155 q155_16 kI1 ?_
      refine zl zM155 q155_17 (pc' := 21) (ls' := _) (st' := _) rfl ?_
      exact zri zM155 q155_21 rfl rfl hw
-- X12_emit
theorem b156 {X : Option (List Int32)} {d : Nat} {h : zH} {A : zH → Prop} {a1 : Int32} (hw : (z_ib ((h 82 37) + (h 82 38)) 2880 ∧ A (z_up (z_up h 101 (Int32.toNatClampNeg ((h 82 37) + (h 82 38))) a1) 82 38 ((h 82 38) + 1)))) : zP X d 156 0 (z_ent [.ref 82, .int a1] 2) [] z_S0 h (zV A) := by
  show zP X d 156 0 [some (.ref 82), some (.int a1)] [] z_S0 h (zV A)
  refine zl zM156 q156_0 rfl ?_
  refine zgR (a := 101) zM156 q156_1 (by decide) g12_166 s82 rfl ?_
  refine zl zM156 q156_4 rfl ?_
  refine zgI zM156 q156_5 (by decide) g12_169 s82 rfl (v := (h 82 37)) rfl ?_
  refine zl zM156 q156_8 rfl ?_
  refine zgI zM156 q156_9 (by decide) g12_172 s82 rfl (v := (h 82 38)) rfl ?_
  refine zl zM156 q156_12 (pc' := 13) (st' := .int ((h 82 37) + (h 82 38)) :: _) rfl ?_
  refine zl zM156 q156_13 rfl ?_
  obtain ⟨hb, hw⟩ := hw
  refine ziS zM156 q156_14 (by decide) s101 hb rfl ?_
  refine zl zM156 q156_15 rfl ?_
  refine zl zM156 q156_16 rfl ?_
  refine zgI zM156 q156_17 (by decide) g12_172 s82 rfl (v := (h 82 38)) rfl ?_
  refine zkI zM156 q156_20 kI1 ?_
  refine zl zM156 q156_21 (pc' := 22) (st' := .int ((h 82 38) + 1) :: _) rfl ?_
  refine zpi zM156 q156_22 (by decide) g12_172 s82 rfl rfl ?_
  exact zrv zM156 q156_25 rfl hw
-- X12_rank
theorem b157 {X : Option (List Int32)} {d : Nat} {h : zH} {A : Int32 → zH → Prop} {a1 : Int32} (hw : ((a1 = 12 → A 1 h) ∧ (¬ a1 = 12 → ((a1 = 11 → A 2 h) ∧ (¬ a1 = 11 → ((a1 = 13 → A 3 h) ∧ (¬ a1 = 13 → ((a1 = 9 → A 4 h) ∧ (¬ a1 = 9 → ((a1 = 10 → A 4 h) ∧ (¬ a1 = 10 → ((a1 = 6 → A 5 h) ∧ (¬ a1 = 6 → ((a1 = 7 → A 5 h) ∧ (¬ a1 = 7 → ((a1 = 8 → A 6 h) ∧ (¬ a1 = 8 → ((a1 = 14 → A 7 h) ∧ (¬ a1 = 14 → A 0 h))))))))))))))))))) : zP X d 157 0 (z_ent [.int a1] 1) [] z_S0 h (zI A) := by
  show zP X d 157 0 [some (.int a1)] [] z_S0 h (zI A)
  refine zl zM157 q157_0 rfl ?_
  refine zkB zM157 q157_1 kB12 ?_
  refine zb2_ne zM157 q157_3 (tgt := 10) rfl (fun hc => ?_) (fun hc => ?_)
  · have hw := hw.2 hc
    refine zl zM157 q157_10 rfl ?_
    refine zkB zM157 q157_11 kB11 ?_
    refine zb2_ne zM157 q157_13 (tgt := 20) rfl (fun hc => ?_) (fun hc => ?_)
    · have hw := hw.2 hc
      refine zl zM157 q157_20 rfl ?_
      refine zkB zM157 q157_21 kB13 ?_
      refine zb2_ne zM157 q157_23 (tgt := 30) rfl (fun hc => ?_) (fun hc => ?_)
      · have hw := hw.2 hc
        refine zl zM157 q157_30 rfl ?_
        refine zkB zM157 q157_31 kB9 ?_
        refine zb2_eq zM157 q157_33 (tgt := 42) rfl (fun hc => ?_) (fun hc => ?_)
        · have hw := hw.1 hc
          refine zkI zM157 q157_42 kI4 ?_
          refine zl zM157 q157_43 (pc' := 85) (ls' := _) (st' := _) rfl ?_
          exact zri zM157 q157_85 rfl rfl hw
        · have hw := hw.2 hc
          refine zl zM157 q157_36 rfl ?_
          refine zkB zM157 q157_37 kB10 ?_
          refine zb2_ne zM157 q157_39 (tgt := 46) rfl (fun hc => ?_) (fun hc => ?_)
          · have hw := hw.2 hc
            refine zl zM157 q157_46 rfl ?_
            refine zkB zM157 q157_47 kB6 ?_
            refine zb2_eq zM157 q157_49 (tgt := 58) rfl (fun hc => ?_) (fun hc => ?_)
            · have hw := hw.1 hc
              refine zkI zM157 q157_58 kI5 ?_
              refine zl zM157 q157_59 (pc' := 85) (ls' := _) (st' := _) rfl ?_
              exact zri zM157 q157_85 rfl rfl hw
            · have hw := hw.2 hc
              refine zl zM157 q157_52 rfl ?_
              refine zkB zM157 q157_53 kB7 ?_
              refine zb2_ne zM157 q157_55 (tgt := 62) rfl (fun hc => ?_) (fun hc => ?_)
              · have hw := hw.2 hc
                refine zl zM157 q157_62 rfl ?_
                refine zkB zM157 q157_63 kB8 ?_
                refine zb2_ne zM157 q157_65 (tgt := 73) rfl (fun hc => ?_) (fun hc => ?_)
                · have hw := hw.2 hc
                  refine zl zM157 q157_73 rfl ?_
                  refine zkB zM157 q157_74 kB14 ?_
                  refine zb2_ne zM157 q157_76 (tgt := 84) rfl (fun hc => ?_) (fun hc => ?_)
                  · have hw := hw.2 hc
                    refine zkI zM157 q157_84 kI0 ?_
                    exact zri zM157 q157_85 rfl rfl hw
                  · have hw := hw.1 hc
                    refine zkB zM157 q157_79 kB7 ?_
                    refine zl zM157 q157_81 (pc' := 85) (ls' := _) (st' := _) rfl ?_
                    exact zri zM157 q157_85 rfl rfl hw
                · have hw := hw.1 hc
                  refine zkB zM157 q157_68 kB6 ?_
                  refine zl zM157 q157_70 (pc' := 85) (ls' := _) (st' := _) rfl ?_
                  exact zri zM157 q157_85 rfl rfl hw
              · have hw := hw.1 hc
                refine zkI zM157 q157_58 kI5 ?_
                refine zl zM157 q157_59 (pc' := 85) (ls' := _) (st' := _) rfl ?_
                exact zri zM157 q157_85 rfl rfl hw
          · have hw := hw.1 hc
            refine zkI zM157 q157_42 kI4 ?_
            refine zl zM157 q157_43 (pc' := 85) (ls' := _) (st' := _) rfl ?_
            exact zri zM157 q157_85 rfl rfl hw
      · have hw := hw.1 hc
        refine zkI zM157 q157_26 kI3 ?_
        refine zl zM157 q157_27 (pc' := 85) (ls' := _) (st' := _) rfl ?_
        exact zri zM157 q157_85 rfl rfl hw
    · have hw := hw.1 hc
      refine zkI zM157 q157_16 kI2 ?_
      refine zl zM157 q157_17 (pc' := 85) (ls' := _) (st' := _) rfl ?_
      exact zri zM157 q157_85 rfl rfl hw
  · have hw := hw.1 hc
    refine zkI zM157 q157_6 kI1 ?_
    refine zl zM157 q157_7 (pc' := 85) (ls' := _) (st' := _) rfl ?_
    exact zri zM157 q157_85 rfl rfl hw
-- X12_await
theorem b159 {X : Option (List Int32)} {d : Nat} {h : zH} {A : zH → Prop} {a1 : Int32} (hw : (z_ib (h 82 33) 170 ∧ A (z_up (z_up h 105 (Int32.toNatClampNeg (h 82 33)) a1) 82 33 ((h 82 33) + 1)))) : zP X d 159 0 (z_ent [.ref 82, .int a1] 2) [] z_S0 h (zV A) := by
  show zP X d 159 0 [some (.ref 82), some (.int a1)] [] z_S0 h (zV A)
  refine zl zM159 q159_0 rfl ?_
  refine zgR (a := 105) zM159 q159_1 (by decide) g12_178 s82 rfl ?_
  refine zl zM159 q159_4 rfl ?_
  refine zgI zM159 q159_5 (by decide) g12_175 s82 rfl (v := (h 82 33)) rfl ?_
  refine zl zM159 q159_8 rfl ?_
  obtain ⟨hb, hw⟩ := hw
  refine ziS zM159 q159_9 (by decide) s105 hb rfl ?_
  refine zl zM159 q159_10 rfl ?_
  refine zl zM159 q159_11 rfl ?_
  refine zgI zM159 q159_12 (by decide) g12_175 s82 rfl (v := (h 82 33)) rfl ?_
  refine zkI zM159 q159_15 kI1 ?_
  refine zl zM159 q159_16 (pc' := 17) (st' := .int ((h 82 33) + 1) :: _) rfl ?_
  refine zpi zM159 q159_17 (by decide) g12_175 s82 rfl rfl ?_
  exact zrv zM159 q159_20 rfl hw
-- X12_between
theorem b160 {X : Option (List Int32)} {d : Nat} {h : zH} {A : Int32 → zH → Prop}  (hw : zP X (d + 1) 154 0 (z_ent [.ref 82, .int 43] 2) [] z_S0 h (zI fun v1 h2 => ((v1 = 0 → zP X (d + 1) 154 0 (z_ent [.ref 82, .int 45] 2) [] z_S0 h2 (zI fun v3 h4 => ((v3 = 0 → zP X (d + 1) 154 0 (z_ent [.ref 82, .int 42] 2) [] z_S0 h4 (zI fun v5 h6 => ((v5 = 0 → zP X (d + 1) 154 0 (z_ent [.ref 82, .int 60] 2) [] z_S0 h6 (zI fun v7 h8 => ((v7 = 0 → zP X (d + 1) 154 0 (z_ent [.ref 82, .int 61] 2) [] z_S0 h8 (zI fun v9 h10 => ((v9 = 0 → zP X (d + 1) 155 0 (z_ent [.ref 82, .int 4] 2) [] z_S0 h10 (zI fun v11 h12 => ((v11 = 0 → zP X (d + 1) 155 0 (z_ent [.ref 82, .int 3] 2) [] z_S0 h12 (zI fun v13 h14 => ((v13 = 0 → zP X (d + 2) 160 97 [some (.ref 82), none] [.int (-1)] z_S0 h14 (zI A)) ∧ (¬ v13 = 0 → zP X (d + 2) 160 97 [some (.ref 82), none] [.int 12] z_S0 h14 (zI A))))) ∧ (¬ v11 = 0 → zP X (d + 2) 160 97 [some (.ref 82), none] [.int 11] z_S0 h12 (zI A))))) ∧ (¬ v9 = 0 → zP X (d + 2) 160 97 [some (.ref 82), none] [.int 10] z_S0 h10 (zI A))))) ∧ (¬ v7 = 0 → zP X (d + 2) 160 97 [some (.ref 82), none] [.int 9] z_S0 h8 (zI A))))) ∧ (¬ v5 = 0 → zP X (d + 2) 160 97 [some (.ref 82), none] [.int 8] z_S0 h6 (zI A))))) ∧ (¬ v3 = 0 → zP X (d + 2) 160 97 [some (.ref 82), none] [.int 7] z_S0 h4 (zI A))))) ∧ (¬ v1 = 0 → zP X (d + 2) 160 97 [some (.ref 82), none] [.int 6] z_S0 h2 (zI A))))) : zP X (d + 2) 160 0 (z_ent [.ref 82] 2) [] z_S0 h (zI A) := by
  show zP X (d + 2) 160 0 [some (.ref 82), none] [] z_S0 h (zI A)
  refine zl zM160 q160_0 rfl ?_
  refine zkB zM160 q160_1 kB43 ?_
  refine zcV zM160 q160_3 kl12_191 rfl rfl (Nat.le_of_ble_eq_true rfl) rfl zM154 (Nat.le_of_ble_eq_true rfl) (hw.mono (fun r0 h2 hr21 => ?_))
  obtain ⟨v1, rfl, hw⟩ := hr21
  show zP X (d + 2) 160 6 [some (.ref 82), none] [.int v1] z_S0 h2 (zI A)
  refine zb1_eq zM160 q160_6 (tgt := 14) rfl (fun hc => ?_) (fun hc => ?_)
  · have hw := hw.1 hc
    refine zl zM160 q160_14 rfl ?_
    refine zkB zM160 q160_15 kB45 ?_
    refine zcV zM160 q160_17 kl12_191 rfl rfl (Nat.le_of_ble_eq_true rfl) rfl zM154 (Nat.le_of_ble_eq_true rfl) (hw.mono (fun r0 h4 hr20 => ?_))
    obtain ⟨v3, rfl, hw⟩ := hr20
    show zP X (d + 2) 160 20 [some (.ref 82), none] [.int v3] z_S0 h4 (zI A)
    refine zb1_eq zM160 q160_20 (tgt := 28) rfl (fun hc => ?_) (fun hc => ?_)
    · have hw := hw.1 hc
      refine zl zM160 q160_28 rfl ?_
      refine zkB zM160 q160_29 kB42 ?_
      refine zcV zM160 q160_31 kl12_191 rfl rfl (Nat.le_of_ble_eq_true rfl) rfl zM154 (Nat.le_of_ble_eq_true rfl) (hw.mono (fun r0 h6 hr19 => ?_))
      obtain ⟨v5, rfl, hw⟩ := hr19
      show zP X (d + 2) 160 34 [some (.ref 82), none] [.int v5] z_S0 h6 (zI A)
      refine zb1_eq zM160 q160_34 (tgt := 42) rfl (fun hc => ?_) (fun hc => ?_)
      · have hw := hw.1 hc
        refine zl zM160 q160_42 rfl ?_
        refine zkB zM160 q160_43 kB60 ?_
        refine zcV zM160 q160_45 kl12_191 rfl rfl (Nat.le_of_ble_eq_true rfl) rfl zM154 (Nat.le_of_ble_eq_true rfl) (hw.mono (fun r0 h8 hr18 => ?_))
        obtain ⟨v7, rfl, hw⟩ := hr18
        show zP X (d + 2) 160 48 [some (.ref 82), none] [.int v7] z_S0 h8 (zI A)
        refine zb1_eq zM160 q160_48 (tgt := 56) rfl (fun hc => ?_) (fun hc => ?_)
        · have hw := hw.1 hc
          refine zl zM160 q160_56 rfl ?_
          refine zkB zM160 q160_57 kB61 ?_
          refine zcV zM160 q160_59 kl12_191 rfl rfl (Nat.le_of_ble_eq_true rfl) rfl zM154 (Nat.le_of_ble_eq_true rfl) (hw.mono (fun r0 h10 hr17 => ?_))
          obtain ⟨v9, rfl, hw⟩ := hr17
          show zP X (d + 2) 160 62 [some (.ref 82), none] [.int v9] z_S0 h10 (zI A)
          refine zb1_eq zM160 q160_62 (tgt := 70) rfl (fun hc => ?_) (fun hc => ?_)
          · have hw := hw.1 hc
            refine zl zM160 q160_70 rfl ?_
            refine zkI zM160 q160_71 kI4 ?_
            refine zcV zM160 q160_72 kl12_194 rfl rfl (Nat.le_of_ble_eq_true rfl) rfl zM155 (Nat.le_of_ble_eq_true rfl) (hw.mono (fun r0 h12 hr16 => ?_))
            obtain ⟨v11, rfl, hw⟩ := hr16
            show zP X (d + 2) 160 75 [some (.ref 82), none] [.int v11] z_S0 h12 (zI A)
            refine zb1_eq zM160 q160_75 (tgt := 83) rfl (fun hc => ?_) (fun hc => ?_)
            · have hw := hw.1 hc
              refine zl zM160 q160_83 rfl ?_
              refine zkI zM160 q160_84 kI3 ?_
              refine zcV zM160 q160_85 kl12_194 rfl rfl (Nat.le_of_ble_eq_true rfl) rfl zM155 (Nat.le_of_ble_eq_true rfl) (hw.mono (fun r0 h14 hr15 => ?_))
              obtain ⟨v13, rfl, hw⟩ := hr15
              show zP X (d + 2) 160 88 [some (.ref 82), none] [.int v13] z_S0 h14 (zI A)
              refine zb1_eq zM160 q160_88 (tgt := 96) rfl (fun hc => ?_) (fun hc => ?_)
              · have hw := hw.1 hc
                refine zkI zM160 q160_96 kIm1 ?_
                exact hw
              · have hw := hw.2 hc
                refine zkB zM160 q160_91 kB12 ?_
                refine zl zM160 q160_93 (pc' := 97) (ls' := _) (st' := _) rfl ?_
                exact hw
            · have hw := hw.2 hc
              refine zkB zM160 q160_78 kB11 ?_
              refine zl zM160 q160_80 (pc' := 97) (ls' := _) (st' := _) rfl ?_
              exact hw
          · have hw := hw.2 hc
            refine zkB zM160 q160_65 kB10 ?_
            refine zl zM160 q160_67 (pc' := 97) (ls' := _) (st' := _) rfl ?_
            exact hw
        · have hw := hw.2 hc
          refine zkB zM160 q160_51 kB9 ?_
          refine zl zM160 q160_53 (pc' := 97) (ls' := _) (st' := _) rfl ?_
          exact hw
      · have hw := hw.2 hc
        refine zkB zM160 q160_37 kB8 ?_
        refine zl zM160 q160_39 (pc' := 97) (ls' := _) (st' := _) rfl ?_
        exact hw
    · have hw := hw.2 hc
      refine zkB zM160 q160_23 kB7 ?_
      refine zl zM160 q160_25 (pc' := 97) (ls' := _) (st' := _) rfl ?_
      exact hw
  · have hw := hw.2 hc
    refine zkB zM160 q160_9 kB6 ?_
    refine zl zM160 q160_11 (pc' := 97) (ls' := _) (st' := _) rfl ?_
    exact hw
theorem b160_97 {X : Option (List Int32)} {d : Nat} {h : zH} {A : Int32 → zH → Prop} {w0 : Int32} (hw : ((w0 = (-1) → A 0 h) ∧ (¬ w0 = (-1) → zP X (d + 1) 157 0 (z_ent [.int w0] 1) [] z_S0 h (zI fun v22 h23 => ((v22 = 4 → (z_ib (h23 82 35) 8 ∧ (((h23 106 (Int32.toNatClampNeg (h23 82 35))) = 0 → zP X (d + 2) 160 125 [some (.ref 82), some (.int w0)] [] z_S0 h23 (zI A)) ∧ (¬ (h23 106 (Int32.toNatClampNeg (h23 82 35))) = 0 → A 0 h23)))) ∧ (¬ v22 = 4 → zP X (d + 2) 160 125 [some (.ref 82), some (.int w0)] [] z_S0 h23 (zI A))))))) : zP X (d + 2) 160 97 [some (.ref 82), none] [.int w0] z_S0 h (zI A) := by
  refine zl zM160 q160_97 (ls' := [some (.ref 82), some (.int w0)]) rfl ?_
  refine zl zM160 q160_98 rfl ?_
  refine zkI zM160 q160_99 kIm1 ?_
  refine zb2_eq zM160 q160_100 (tgt := 123) rfl (fun hc => ?_) (fun hc => ?_)
  · have hw := hw.1 hc
    refine zkI zM160 q160_123 kI0 ?_
    exact zri zM160 q160_124 rfl rfl hw
  · have hw := hw.2 hc
    refine zl zM160 q160_103 rfl ?_
    refine zcS zM160 q160_104 ky12_181 kl12_181 (by decide) rfl (Nat.le_of_ble_eq_true rfl) zM157 (Nat.le_of_ble_eq_true rfl) (hw.mono (fun r0 h23 hr24 => ?_))
    obtain ⟨v22, rfl, hw⟩ := hr24
    show zP X (d + 2) 160 107 [some (.ref 82), some (.int w0)] [.int v22] z_S0 h23 (zI A)
    refine zkI zM160 q160_107 kI4 ?_
    refine zb2_ne zM160 q160_108 (tgt := 125) rfl (fun hc => ?_) (fun hc => ?_)
    · have hw := hw.2 hc
      exact hw
    · have hw := hw.1 hc
      refine zl zM160 q160_111 rfl ?_
      refine zgR (a := 106) zM160 q160_112 (by decide) g12_197 s82 rfl ?_
      refine zl zM160 q160_115 rfl ?_
      refine zgI zM160 q160_116 (by decide) g12_200 s82 rfl (v := (h23 82 35)) rfl ?_
      obtain ⟨hb, hw⟩ := hw
      refine zbA zM160 q160_119 (by decide) s106 (by decide) hb (v := (h23 106 (Int32.toNatClampNeg (h23 82 35)))) rfl ?_
      refine zb1_eq zM160 q160_120 (tgt := 125) rfl (fun hc => ?_) (fun hc => ?_)
      · have hw := hw.1 hc
        exact hw
      · have hw := hw.2 hc
        refine zkI zM160 q160_123 kI0 ?_
        exact zri zM160 q160_124 rfl rfl hw
theorem b160_125 {X : Option (List Int32)} {d : Nat} {h : zH} {A : Int32 → zH → Prop} {l1 : Int32} (hw : zP X (d + 1) 157 0 (z_ent [.int l1] 1) [] z_S0 h (zI fun v25 h26 => zP X (d + 1) 158 0 (z_ent [.ref 82, .int v25] 2) [] z_S0 h26 (zV fun h29 => zP X (d + 1) 159 0 (z_ent [.ref 82, .int l1] 2) [] z_S0 h29 (zV fun h32 => zP X (d + 1) 157 0 (z_ent [.int l1] 1) [] z_S0 h32 (zI fun v33 h34 => ((v33 = 4 → zP X (d + 2) 160 174 [none, none] [.int (h32 82 35), .ref 106] z_S0 h34 (zI A)) ∧ (¬ v33 = 4 → zP X (d + 1) 157 0 (z_ent [.int l1] 1) [] z_S0 h34 (zI fun v35 h36 => (((4 : Int32) < v35 → (z_ib (h36 82 35) 8 ∧ (((h36 106 (Int32.toNatClampNeg (h36 82 35))) = 0 → zP X (d + 2) 160 178 [none, none] [.int (h32 82 35), .ref 106] z_S0 h36 (zI A)) ∧ (¬ (h36 106 (Int32.toNatClampNeg (h36 82 35))) = 0 → zP X (d + 2) 160 174 [none, none] [.int (h32 82 35), .ref 106] z_S0 h36 (zI A))))) ∧ (¬ (4 : Int32) < v35 → zP X (d + 2) 160 178 [none, none] [.int (h32 82 35), .ref 106] z_S0 h36 (zI A))))))))))) : zP X (d + 2) 160 125 [some (.ref 82), some (.int l1)] [] z_S0 h (zI A) := by
  refine zl zM160 q160_125 rfl ?_
  refine zl zM160 q160_126 rfl ?_
  refine zcS zM160 q160_127 ky12_181 kl12_181 (by decide) rfl (Nat.le_of_ble_eq_true rfl) zM157 (Nat.le_of_ble_eq_true rfl) (hw.mono (fun r0 h26 hr41 => ?_))
  obtain ⟨v25, rfl, hw⟩ := hr41
  show zP X (d + 2) 160 130 [some (.ref 82), some (.int l1)] [.int v25, .ref 82] z_S0 h26 (zI A)
  refine zcV zM160 q160_130 kl12_203 rfl rfl (Nat.le_of_ble_eq_true rfl) rfl zM158 (Nat.le_of_ble_eq_true rfl) (hw.mono (fun r0 h29 hr40 => ?_))
  obtain ⟨rfl, hw⟩ := hr40
  show zP X (d + 2) 160 133 [some (.ref 82), some (.int l1)] [] z_S0 h29 (zI A)
  refine zl zM160 q160_133 rfl ?_
  refine zl zM160 q160_134 rfl ?_
  refine zcV zM160 q160_135 kl12_206 rfl rfl (Nat.le_of_ble_eq_true rfl) rfl zM159 (Nat.le_of_ble_eq_true rfl) (hw.mono (fun r0 h32 hr39 => ?_))
  obtain ⟨rfl, hw⟩ := hr39
  show zP X (d + 2) 160 138 [some (.ref 82), some (.int l1)] [] z_S0 h32 (zI A)
  refine zl zM160 q160_138 rfl ?_
  refine zgR (a := 106) zM160 q160_139 (by decide) g12_197 s82 rfl ?_
  refine zl zM160 q160_142 rfl ?_
  refine zgI zM160 q160_143 (by decide) g12_200 s82 rfl (v := (h32 82 35)) rfl ?_
  refine zl zM160 q160_146 rfl ?_
  refine zcS zM160 q160_147 ky12_181 kl12_181 (by decide) rfl (Nat.le_of_ble_eq_true rfl) zM157 (Nat.le_of_ble_eq_true rfl) (hw.mono (fun r0 h34 hr38 => ?_))
  obtain ⟨v33, rfl, hw⟩ := hr38
  show zP X (d + 2) 160 150 [some (.ref 82), some (.int l1)] [.int v33, .int (h32 82 35), .ref 106] z_S0 h34 (zI A)
  refine zkI zM160 q160_150 kI4 ?_
  refine zb2_eq zM160 q160_151 (tgt := 174) rfl (fun hc => ?_) (fun hc => ?_)
  · have hw := hw.1 hc
    refine zweak (a := [none, none]) ?_ hw
    exact trivial
  · have hw := hw.2 hc
    refine zl zM160 q160_154 rfl ?_
    refine zcS zM160 q160_155 ky12_181 kl12_181 (by decide) rfl (Nat.le_of_ble_eq_true rfl) zM157 (Nat.le_of_ble_eq_true rfl) (hw.mono (fun r0 h36 hr37 => ?_))
    obtain ⟨v35, rfl, hw⟩ := hr37
    show zP X (d + 2) 160 158 [some (.ref 82), some (.int l1)] [.int v35, .int (h32 82 35), .ref 106] z_S0 h36 (zI A)
    refine zkI zM160 q160_158 kI4 ?_
    refine zb2_le zM160 q160_159 (tgt := 178) rfl (fun hc => ?_) (fun hc => ?_)
    · have hw := hw.2 hc
      refine zweak (a := [none, none]) ?_ hw
      exact trivial
    · have hw := hw.1 hc
      refine zl zM160 q160_162 rfl ?_
      refine zgR (a := 106) zM160 q160_163 (by decide) g12_197 s82 rfl ?_
      refine zl zM160 q160_166 rfl ?_
      refine zgI zM160 q160_167 (by decide) g12_200 s82 rfl (v := (h36 82 35)) rfl ?_
      obtain ⟨hb, hw⟩ := hw
      refine zbA zM160 q160_170 (by decide) s106 (by decide) hb (v := (h36 106 (Int32.toNatClampNeg (h36 82 35)))) rfl ?_
      refine zb1_eq zM160 q160_171 (tgt := 178) rfl (fun hc => ?_) (fun hc => ?_)
      · have hw := hw.1 hc
        refine zweak (a := [none, none]) ?_ hw
        exact trivial
      · have hw := hw.2 hc
        refine zweak (a := [none, none]) ?_ hw
        exact trivial
theorem b160_174 {X : Option (List Int32)} {d : Nat} {h : zH} {A : Int32 → zH → Prop} {w1 : Int32} (hw : (z_ib w1 8 ∧ A 1 (z_up h 106 (Int32.toNatClampNeg w1) 1))) : zP X (d + 2) 160 174 [none, none] [.int w1, .ref 106] z_S0 h (zI A) := by
  refine zkI zM160 q160_174 kI1 ?_
  refine zl zM160 q160_175 (pc' := 179) (ls' := _) (st' := _) rfl ?_
  obtain ⟨hb, hw⟩ := hw
  refine zbS zM160 q160_179 (by decide) s106 (by decide) hb rfl (w := 1) rfl ?_
  refine zkI zM160 q160_180 kI1 ?_
  exact zri zM160 q160_181 rfl rfl hw
theorem b160_178 {X : Option (List Int32)} {d : Nat} {h : zH} {A : Int32 → zH → Prop} {w1 : Int32} (hw : (z_ib w1 8 ∧ A 1 (z_up h 106 (Int32.toNatClampNeg w1) 0))) : zP X (d + 2) 160 178 [none, none] [.int w1, .ref 106] z_S0 h (zI A) := by
  refine zkI zM160 q160_178 kI0 ?_
  obtain ⟨hb, hw⟩ := hw
  refine zbS zM160 q160_179 (by decide) s106 (by decide) hb rfl (w := 0) rfl ?_
  refine zkI zM160 q160_180 kI1 ?_
  exact zri zM160 q160_181 rfl rfl hw
-- X12_closes
theorem b161 {X : Option (List Int32)} {d : Nat} {h : zH} {A : Int32 → zH → Prop}  (hw : zP X (d + 1) 154 0 (z_ent [.ref 82, .int 41] 2) [] z_S0 h (zI fun v1 h2 => ((v1 = 0 → A 0 h2) ∧ (¬ v1 = 0 → (((h2 82 35) = 0 → A 0 h2) ∧ (¬ (h2 82 35) = 0 → zP X (d + 1) 158 0 (z_ent [.ref 82, .int 1] 2) [] z_S0 h2 (zV fun h5 => zP X (d + 1) 158 0 (z_ent [.ref 82, .int 7] 2) [] z_S0 (z_up (z_up (z_up h5 82 33 ((h5 82 33) - 1)) 82 35 ((h5 82 35) - 1)) 82 34 ((h5 82 34) - 1)) (zV fun h8 => A 1 h8)))))))) : zP X (d + 2) 161 0 (z_ent [.ref 82] 1) [] z_S0 h (zI A) := by
  show zP X (d + 2) 161 0 [some (.ref 82)] [] z_S0 h (zI A)
  refine zl zM161 q161_0 rfl ?_
  refine zkB zM161 q161_1 kB41 ?_
  refine zcV zM161 q161_3 kl12_191 rfl rfl (Nat.le_of_ble_eq_true rfl) rfl zM154 (Nat.le_of_ble_eq_true rfl) (hw.mono (fun r0 h2 hr11 => ?_))
  obtain ⟨v1, rfl, hw⟩ := hr11
  show zP X (d + 2) 161 6 [some (.ref 82)] [.int v1] z_S0 h2 (zI A)
  refine zb1_eq zM161 q161_6 (tgt := 16) rfl (fun hc => ?_) (fun hc => ?_)
  · have hw := hw.1 hc
    refine zkI zM161 q161_16 kI0 ?_
    exact zri zM161 q161_17 rfl rfl hw
  · have hw := hw.2 hc
    refine zl zM161 q161_9 rfl ?_
    refine zgI zM161 q161_10 (by decide) g12_200 s82 rfl (v := (h2 82 35)) rfl ?_
    refine zb1_ne zM161 q161_13 (tgt := 18) rfl (fun hc => ?_) (fun hc => ?_)
    · have hw := hw.2 hc
      refine zl zM161 q161_18 rfl ?_
      refine zkI zM161 q161_19 kI1 ?_
      refine zcV zM161 q161_20 kl12_203 rfl rfl (Nat.le_of_ble_eq_true rfl) rfl zM158 (Nat.le_of_ble_eq_true rfl) (hw.mono (fun r0 h5 hr10 => ?_))
      obtain ⟨rfl, hw⟩ := hr10
      show zP X (d + 2) 161 23 [some (.ref 82)] [] z_S0 h5 (zI A)
      refine zl zM161 q161_23 rfl ?_
      refine zl zM161 q161_24 rfl ?_
      refine zgI zM161 q161_25 (by decide) g12_175 s82 rfl (v := (h5 82 33)) rfl ?_
      refine zkI zM161 q161_28 kI1 ?_
      refine zl zM161 q161_29 (pc' := 30) (st' := .int ((h5 82 33) - 1) :: _) rfl ?_
      refine zpi zM161 q161_30 (by decide) g12_175 s82 rfl rfl ?_
      refine zl zM161 q161_33 rfl ?_
      refine zl zM161 q161_34 rfl ?_
      refine zgI zM161 q161_35 (by decide) g12_200 s82 rfl (v := (h5 82 35)) rfl ?_
      refine zkI zM161 q161_38 kI1 ?_
      refine zl zM161 q161_39 (pc' := 40) (st' := .int ((h5 82 35) - 1) :: _) rfl ?_
      refine zpi zM161 q161_40 (by decide) g12_200 s82 rfl rfl ?_
      refine zl zM161 q161_43 rfl ?_
      refine zl zM161 q161_44 rfl ?_
      refine zgI zM161 q161_45 (by decide) g12_184 s82 rfl (v := (h5 82 34)) rfl ?_
      refine zkI zM161 q161_48 kI1 ?_
      refine zl zM161 q161_49 (pc' := 50) (st' := .int ((h5 82 34) - 1) :: _) rfl ?_
      refine zpi zM161 q161_50 (by decide) g12_184 s82 rfl rfl ?_
      refine zl zM161 q161_53 rfl ?_
      refine zkB zM161 q161_54 kB7 ?_
      refine zcV zM161 q161_56 kl12_203 rfl rfl (Nat.le_of_ble_eq_true rfl) rfl zM158 (Nat.le_of_ble_eq_true rfl) (hw.mono (fun r0 h8 hr9 => ?_))
      obtain ⟨rfl, hw⟩ := hr9
      show zP X (d + 2) 161 59 [some (.ref 82)] [] z_S0 h8 (zI A)
      refine zkI zM161 q161_59 kI1 ?_
      exact zri zM161 q161_60 rfl rfl hw
    · have hw := hw.1 hc
      refine zkI zM161 q161_16 kI0 ?_
      exact zri zM161 q161_17 rfl rfl hw
-- X12_ahead
theorem b162 {X : Option (List Int32)} {d : Nat} {h : zH} {A : Int32 → zH → Prop} {a1 : Int32} (hw : zP X d 154 0 (z_ent [.ref 82, .int 40] 2) [] z_S0 h (zI fun v1 h2 => ((v1 = 0 → zP X d 154 0 (z_ent [.ref 82, .int 45] 2) [] z_S0 h2 (zI fun v3 h4 => ((v3 = 0 → ((a1 = 0 → zP X (d + 1) 162 34 [some (.ref 82), none, none] [] z_S0 h4 (zI A)) ∧ (¬ a1 = 0 → zP X d 155 0 (z_ent [.ref 82, .int 5] 2) [] z_S0 h4 (zI fun v5 h6 => ((v5 = 0 → zP X (d + 1) 162 34 [some (.ref 82), none, none] [] z_S0 h6 (zI A)) ∧ (¬ v5 = 0 → zP X (d + 1) 162 30 [some (.ref 82), none, none] [] z_S0 h6 (zI A))))))) ∧ (¬ v3 = 0 → zP X (d + 1) 162 30 [some (.ref 82), none, none] [] z_S0 h4 (zI A))))) ∧ (¬ v1 = 0 → zP X (d + 1) 162 30 [some (.ref 82), none, none] [] z_S0 h2 (zI A))))) : zP X (d + 1) 162 0 (z_ent [.ref 82, .int a1] 3) [] z_S0 h (zI A) := by
  show zP X (d + 1) 162 0 [some (.ref 82), some (.int a1), none] [] z_S0 h (zI A)
  refine zl zM162 q162_0 rfl ?_
  refine zkB zM162 q162_1 kB40 ?_
  refine zcV zM162 q162_3 kl12_191 rfl rfl (Nat.le_of_ble_eq_true rfl) rfl zM154 (Nat.le_of_ble_eq_true rfl) (hw.mono (fun r0 h2 hr9 => ?_))
  obtain ⟨v1, rfl, hw⟩ := hr9
  show zP X (d + 1) 162 6 [some (.ref 82), some (.int a1), none] [.int v1] z_S0 h2 (zI A)
  refine zb1_ne zM162 q162_6 (tgt := 30) rfl (fun hc => ?_) (fun hc => ?_)
  · have hw := hw.2 hc
    refine zweak (a := [some (.ref 82), none, none]) ?_ hw
    exact ⟨rfl, trivial⟩
  · have hw := hw.1 hc
    refine zl zM162 q162_9 rfl ?_
    refine zkB zM162 q162_10 kB45 ?_
    refine zcV zM162 q162_12 kl12_191 rfl rfl (Nat.le_of_ble_eq_true rfl) rfl zM154 (Nat.le_of_ble_eq_true rfl) (hw.mono (fun r0 h4 hr8 => ?_))
    obtain ⟨v3, rfl, hw⟩ := hr8
    show zP X (d + 1) 162 15 [some (.ref 82), some (.int a1), none] [.int v3] z_S0 h4 (zI A)
    refine zb1_ne zM162 q162_15 (tgt := 30) rfl (fun hc => ?_) (fun hc => ?_)
    · have hw := hw.2 hc
      refine zweak (a := [some (.ref 82), none, none]) ?_ hw
      exact ⟨rfl, trivial⟩
    · have hw := hw.1 hc
      refine zl zM162 q162_18 rfl ?_
      refine zb1_eq zM162 q162_19 (tgt := 34) rfl (fun hc => ?_) (fun hc => ?_)
      · have hw := hw.1 hc
        refine zweak (a := [some (.ref 82), none, none]) ?_ hw
        exact ⟨rfl, trivial⟩
      · have hw := hw.2 hc
        refine zl zM162 q162_22 rfl ?_
        refine zkI zM162 q162_23 kI5 ?_
        refine zcV zM162 q162_24 kl12_194 rfl rfl (Nat.le_of_ble_eq_true rfl) rfl zM155 (Nat.le_of_ble_eq_true rfl) (hw.mono (fun r0 h6 hr7 => ?_))
        obtain ⟨v5, rfl, hw⟩ := hr7
        show zP X (d + 1) 162 27 [some (.ref 82), some (.int a1), none] [.int v5] z_S0 h6 (zI A)
        refine zb1_eq zM162 q162_27 (tgt := 34) rfl (fun hc => ?_) (fun hc => ?_)
        · have hw := hw.1 hc
          refine zweak (a := [some (.ref 82), none, none]) ?_ hw
          exact ⟨rfl, trivial⟩
        · have hw := hw.2 hc
          refine zweak (a := [some (.ref 82), none, none]) ?_ hw
          exact ⟨rfl, trivial⟩
theorem b162_30 {X : Option (List Int32)} {d : Nat} {h : zH} {A : Int32 → zH → Prop}  (hw : zP X (d + 1) 162 35 [some (.ref 82), none, none] [.int 1] z_S0 h (zI A)) : zP X (d + 1) 162 30 [some (.ref 82), none, none] [] z_S0 h (zI A) := by
  refine zkI zM162 q162_30 kI1 ?_
  refine zl zM162 q162_31 (pc' := 35) (ls' := _) (st' := _) rfl ?_
  exact hw
theorem b162_34 {X : Option (List Int32)} {d : Nat} {h : zH} {A : Int32 → zH → Prop}  (hw : zP X (d + 1) 162 35 [some (.ref 82), none, none] [.int 0] z_S0 h (zI A)) : zP X (d + 1) 162 34 [some (.ref 82), none, none] [] z_S0 h (zI A) := by
  refine zkI zM162 q162_34 kI0 ?_
  exact hw
theorem b162_35 {X : Option (List Int32)} {d : Nat} {h : zH} {A : Int32 → zH → Prop} {w0 : Int32} (hw : ((w0 = 0 → A 0 h) ∧ (¬ w0 = 0 → (((h 82 34) = 5 → A 0 h) ∧ (¬ (h 82 34) = 5 → zP X d 154 0 (z_ent [.ref 82, .int 40] 2) [] z_S0 (z_up h 82 34 ((h 82 34) + 1)) (zI fun v10 h11 => ((v10 = 0 → (((h11 82 27) = 4 → zP X d 159 0 (z_ent [.ref 82, .int 13] 2) [] z_S0 h11 (zV fun h18 => A 1 h18)) ∧ (¬ (h11 82 27) = 4 → zP X d 159 0 (z_ent [.ref 82, .int 14] 2) [] z_S0 h11 (zV fun h14 => A 1 h14)))) ∧ (¬ v10 = 0 → zP X d 159 0 (z_ent [.ref 82, .int 15] 2) [] z_S0 h11 (zV fun h22 => (z_ib ((h22 82 35) + 1) 8 ∧ A 1 (z_up (z_up h22 82 35 ((h22 82 35) + 1)) 106 (Int32.toNatClampNeg ((h22 82 35) + 1)) 0))))))))))) : zP X (d + 1) 162 35 [some (.ref 82), none, none] [.int w0] z_S0 h (zI A) := by
  refine zl zM162 q162_35 (ls' := [some (.ref 82), none, some (.int w0)]) rfl ?_
  refine zl zM162 q162_36 rfl ?_
  refine zb1_eq zM162 q162_37 (tgt := 48) rfl (fun hc => ?_) (fun hc => ?_)
  · have hw := hw.1 hc
    refine zkI zM162 q162_48 kI0 ?_
    exact zri zM162 q162_49 rfl rfl hw
  · have hw := hw.2 hc
    refine zl zM162 q162_40 rfl ?_
    refine zgI zM162 q162_41 (by decide) g12_184 s82 rfl (v := (h 82 34)) rfl ?_
    refine zkI zM162 q162_44 kI5 ?_
    refine zb2_ne zM162 q162_45 (tgt := 50) rfl (fun hc => ?_) (fun hc => ?_)
    · have hw := hw.2 hc
      refine zl zM162 q162_50 rfl ?_
      refine zl zM162 q162_51 rfl ?_
      refine zgI zM162 q162_52 (by decide) g12_184 s82 rfl (v := (h 82 34)) rfl ?_
      refine zkI zM162 q162_55 kI1 ?_
      refine zl zM162 q162_56 (pc' := 57) (st' := .int ((h 82 34) + 1) :: _) rfl ?_
      refine zpi zM162 q162_57 (by decide) g12_184 s82 rfl rfl ?_
      refine zl zM162 q162_60 rfl ?_
      refine zkB zM162 q162_61 kB40 ?_
      refine zcV zM162 q162_63 kl12_191 rfl rfl (Nat.le_of_ble_eq_true rfl) rfl zM154 (Nat.le_of_ble_eq_true rfl) (hw.mono (fun r0 h11 hr24 => ?_))
      obtain ⟨v10, rfl, hw⟩ := hr24
      show zP X (d + 1) 162 66 [some (.ref 82), none, some (.int w0)] [.int v10] z_S0 h11 (zI A)
      refine zb1_eq zM162 q162_66 (tgt := 98) rfl (fun hc => ?_) (fun hc => ?_)
      · have hw := hw.1 hc
        refine zl zM162 q162_98 rfl ?_
        refine zl zM162 q162_99 rfl ?_
        refine zgI zM162 q162_100 (by decide) g12_140 s82 rfl (v := (h11 82 27)) rfl ?_
        refine zkI zM162 q162_103 kI4 ?_
        refine zb2_ne zM162 q162_104 (tgt := 112) rfl (fun hc => ?_) (fun hc => ?_)
        · have hw := hw.2 hc
          refine zkB zM162 q162_112 kB14 ?_
          refine zcV zM162 q162_114 kl12_206 rfl rfl (Nat.le_of_ble_eq_true rfl) rfl zM159 (Nat.le_of_ble_eq_true rfl) (hw.mono (fun r0 h14 hr15 => ?_))
          obtain ⟨rfl, hw⟩ := hr15
          show zP X (d + 1) 162 117 [some (.ref 82), none, some (.int w0)] [] z_S0 h14 (zI A)
          refine zkI zM162 q162_117 kI1 ?_
          exact zri zM162 q162_118 rfl rfl hw
        · have hw := hw.1 hc
          refine zkB zM162 q162_107 kB13 ?_
          refine zl zM162 q162_109 (pc' := 114) (ls' := _) (st' := _) rfl ?_
          refine zcV zM162 q162_114 kl12_206 rfl rfl (Nat.le_of_ble_eq_true rfl) rfl zM159 (Nat.le_of_ble_eq_true rfl) (hw.mono (fun r0 h18 hr19 => ?_))
          obtain ⟨rfl, hw⟩ := hr19
          show zP X (d + 1) 162 117 [some (.ref 82), none, some (.int w0)] [] z_S0 h18 (zI A)
          refine zkI zM162 q162_117 kI1 ?_
          exact zri zM162 q162_118 rfl rfl hw
      · have hw := hw.2 hc
        refine zl zM162 q162_69 rfl ?_
        refine zkB zM162 q162_70 kB15 ?_
        refine zcV zM162 q162_72 kl12_206 rfl rfl (Nat.le_of_ble_eq_true rfl) rfl zM159 (Nat.le_of_ble_eq_true rfl) (hw.mono (fun r0 h22 hr23 => ?_))
        obtain ⟨rfl, hw⟩ := hr23
        show zP X (d + 1) 162 75 [some (.ref 82), none, some (.int w0)] [] z_S0 h22 (zI A)
        refine zl zM162 q162_75 rfl ?_
        refine zl zM162 q162_76 rfl ?_
        refine zgI zM162 q162_77 (by decide) g12_200 s82 rfl (v := (h22 82 35)) rfl ?_
        refine zkI zM162 q162_80 kI1 ?_
        refine zl zM162 q162_81 (pc' := 82) (st' := .int ((h22 82 35) + 1) :: _) rfl ?_
        refine zpi zM162 q162_82 (by decide) g12_200 s82 rfl rfl ?_
        refine zl zM162 q162_85 rfl ?_
        refine zgR (a := 106) zM162 q162_86 (by decide) g12_197 s82 rfl ?_
        refine zl zM162 q162_89 rfl ?_
        refine zgI zM162 q162_90 (by decide) g12_200 s82 rfl (v := ((h22 82 35) + 1)) rfl ?_
        refine zkI zM162 q162_93 kI0 ?_
        obtain ⟨hb, hw⟩ := hw
        refine zbS zM162 q162_94 (by decide) s106 (by decide) hb rfl (w := 0) rfl ?_
        refine zl zM162 q162_95 (pc' := 117) (ls' := _) (st' := _) rfl ?_
        refine zkI zM162 q162_117 kI1 ?_
        exact zri zM162 q162_118 rfl rfl hw
    · have hw := hw.1 hc
      refine zkI zM162 q162_48 kI0 ?_
      exact zri zM162 q162_49 rfl rfl hw
-- X12_readE
theorem b163 {X : Option (List Int32)} {d : Nat} {h : zH} {A : Int32 → zH → Prop} {a1 : Int32} (hw : zP X (d + 3) 163 40 [some (.ref 82), some (.int a1), some (.int 1), some (.int 1), none] [] z_S0 (z_up (z_up (z_up (z_up (z_up (z_up h 82 37 (160 * a1)) 82 38 0) 82 33 0) 82 34 0) 82 35 0) 106 0 0) (zI A)) : zP X (d + 3) 163 0 (z_ent [.ref 82, .int a1] 5) [] z_S0 h (zI A) := by
  show zP X (d + 3) 163 0 [some (.ref 82), some (.int a1), none, none, none] [] z_S0 h (zI A)
  refine zl zM163 q163_0 rfl ?_
  refine zkS zM163 q163_1 kS160 ?_
  refine zl zM163 q163_4 rfl ?_
  refine zl zM163 q163_5 (pc' := 6) (st' := .int (160 * a1) :: _) rfl ?_
  refine zpi zM163 q163_6 (by decide) g12_169 s82 rfl rfl ?_
  refine zl zM163 q163_9 rfl ?_
  refine zkI zM163 q163_10 kI0 ?_
  refine zpi zM163 q163_11 (by decide) g12_172 s82 rfl rfl ?_
  refine zl zM163 q163_14 rfl ?_
  refine zkI zM163 q163_15 kI0 ?_
  refine zpi zM163 q163_16 (by decide) g12_175 s82 rfl rfl ?_
  refine zl zM163 q163_19 rfl ?_
  refine zkI zM163 q163_20 kI0 ?_
  refine zpi zM163 q163_21 (by decide) g12_184 s82 rfl rfl ?_
  refine zl zM163 q163_24 rfl ?_
  refine zkI zM163 q163_25 kI0 ?_
  refine zpi zM163 q163_26 (by decide) g12_200 s82 rfl rfl ?_
  refine zl zM163 q163_29 rfl ?_
  refine zgR (a := 106) zM163 q163_30 (by decide) g12_197 s82 rfl ?_
  refine zkI zM163 q163_33 kI0 ?_
  refine zkI zM163 q163_34 kI0 ?_
  refine zbS (j := 0) zM163 q163_35 (by decide) s106 (by decide) (by decide) rfl (w := 0) rfl ?_
  refine zkI zM163 q163_36 kI1 ?_
  refine zl zM163 q163_37 (ls' := [some (.ref 82), some (.int a1), some (.int 1), none, none]) rfl ?_
  refine zkI zM163 q163_38 kI1 ?_
  refine zl zM163 q163_39 (ls' := [some (.ref 82), some (.int a1), some (.int 1), some (.int 1), none]) rfl ?_
  exact hw
theorem b163_40 {X : Option (List Int32)} {d : Nat} {h : zH} {A : Int32 → zH → Prop} {l1 : Int32} {l2 : Int32} {l3 : Int32} (hw : ((l2 = 0 → zP X (d + 3) 163 96 [some (.ref 82), some (.int l1), some (.int l2), some (.int l3), none] [] z_S0 h (zI A)) ∧ (¬ l2 = 0 → (((h 82 27) = 1 → zP X (d + 3) 163 60 [some (.ref 82), some (.int l1), none, some (.int l3), none] [] z_S0 h (zI A)) ∧ (¬ (h 82 27) = 1 → (((h 82 27) = 2 → zP X (d + 3) 163 60 [some (.ref 82), some (.int l1), none, some (.int l3), none] [] z_S0 h (zI A)) ∧ (¬ (h 82 27) = 2 → zP X (d + 3) 163 96 [some (.ref 82), some (.int l1), some (.int l2), some (.int l3), none] [] z_S0 h (zI A)))))))) : zP X (d + 3) 163 40 [some (.ref 82), some (.int l1), some (.int l2), some (.int l3), none] [] z_S0 h (zI A) := by
  refine zl zM163 q163_40 rfl ?_
  refine zb1_eq zM163 q163_41 (tgt := 96) rfl (fun hc => ?_) (fun hc => ?_)
  · have hw := hw.1 hc
    exact hw
  · have hw := hw.2 hc
    refine zl zM163 q163_44 rfl ?_
    refine zgI zM163 q163_45 (by decide) g12_140 s82 rfl (v := (h 82 27)) rfl ?_
    refine zkI zM163 q163_48 kI1 ?_
    refine zb2_eq zM163 q163_49 (tgt := 60) rfl (fun hc => ?_) (fun hc => ?_)
    · have hw := hw.1 hc
      refine zweak (a := [some (.ref 82), some (.int l1), none, some (.int l3), none]) ?_ hw
      exact ⟨rfl, ⟨rfl, ⟨rfl, trivial⟩⟩⟩
    · have hw := hw.2 hc
      refine zl zM163 q163_52 rfl ?_
      refine zgI zM163 q163_53 (by decide) g12_140 s82 rfl (v := (h 82 27)) rfl ?_
      refine zkI zM163 q163_56 kI2 ?_
      refine zb2_ne zM163 q163_57 (tgt := 96) rfl (fun hc => ?_) (fun hc => ?_)
      · have hw := hw.2 hc
        exact hw
      · have hw := hw.1 hc
        refine zweak (a := [some (.ref 82), some (.int l1), none, some (.int l3), none]) ?_ hw
        exact ⟨rfl, ⟨rfl, ⟨rfl, trivial⟩⟩⟩
theorem b163_96 {X : Option (List Int32)} {d : Nat} {h : zH} {A : Int32 → zH → Prop} {l1 : Int32} {l2 : Int32} {l3 : Int32} (hw : ((l2 = 0 → zP X (d + 2) 154 0 (z_ent [.ref 82, .int 59] 2) [] z_S0 h (zI fun v1 h2 => ((v1 = 0 → zP X (d + 3) 163 165 [some (.ref 82), some (.int l1), some (.int l2), some (.int l3), none] [] z_S0 h2 (zI A)) ∧ (¬ v1 = 0 → (((h2 82 35) = 0 → zP X (d + 2) 158 0 (z_ent [.ref 82, .int 1] 2) [] z_S0 h2 (zV fun h5 => (z_ib l1 18 ∧ A 1 (z_up h5 102 (Int32.toNatClampNeg l1) (h5 82 38))))) ∧ (¬ (h2 82 35) = 0 → zP X (d + 3) 163 165 [some (.ref 82), some (.int l1), some (.int l2), some (.int l3), none] [] z_S0 h2 (zI A))))))) ∧ (¬ l2 = 0 → zP X (d + 2) 154 0 (z_ent [.ref 82, .int 45] 2) [] z_S0 h (zI fun v8 h9 => zP X (d + 2) 162 0 (z_ent [.ref 82, .int l3] 3) [] z_S0 h9 (zI fun v10 h12 => ((v10 = 0 → A 0 h12) ∧ (¬ v10 = 0 → ((v8 = 0 → zP X (d + 3) 163 128 [some (.ref 82), some (.int l1), some (.int l2), none, none] [.int 1] z_S0 h12 (zI A)) ∧ (¬ v8 = 0 → zP X (d + 3) 163 128 [some (.ref 82), some (.int l1), some (.int l2), none, none] [.int 0] z_S0 h12 (zI A)))))))))) : zP X (d + 3) 163 96 [some (.ref 82), some (.int l1), some (.int l2), some (.int l3), none] [] z_S0 h (zI A) := by
  refine zl zM163 q163_96 rfl ?_
  refine zb1_eq zM163 q163_97 (tgt := 132) rfl (fun hc => ?_) (fun hc => ?_)
  · have hw := hw.1 hc
    refine zl zM163 q163_132 rfl ?_
    refine zkB zM163 q163_133 kB59 ?_
    refine zcV zM163 q163_135 kl12_191 rfl rfl (Nat.le_of_ble_eq_true rfl) rfl zM154 (Nat.le_of_ble_eq_true rfl) (hw.mono (fun r0 h2 hr7 => ?_))
    obtain ⟨v1, rfl, hw⟩ := hr7
    show zP X (d + 3) 163 138 [some (.ref 82), some (.int l1), some (.int l2), some (.int l3), none] [.int v1] z_S0 h2 (zI A)
    refine zb1_eq zM163 q163_138 (tgt := 165) rfl (fun hc => ?_) (fun hc => ?_)
    · have hw := hw.1 hc
      exact hw
    · have hw := hw.2 hc
      refine zl zM163 q163_141 rfl ?_
      refine zgI zM163 q163_142 (by decide) g12_200 s82 rfl (v := (h2 82 35)) rfl ?_
      refine zb1_ne zM163 q163_145 (tgt := 165) rfl (fun hc => ?_) (fun hc => ?_)
      · have hw := hw.2 hc
        exact hw
      · have hw := hw.1 hc
        refine zl zM163 q163_148 rfl ?_
        refine zkI zM163 q163_149 kI1 ?_
        refine zcV zM163 q163_150 kl12_203 rfl rfl (Nat.le_of_ble_eq_true rfl) rfl zM158 (Nat.le_of_ble_eq_true rfl) (hw.mono (fun r0 h5 hr6 => ?_))
        obtain ⟨rfl, hw⟩ := hr6
        show zP X (d + 3) 163 153 [some (.ref 82), some (.int l1), some (.int l2), some (.int l3), none] [] z_S0 h5 (zI A)
        refine zl zM163 q163_153 rfl ?_
        refine zgR (a := 102) zM163 q163_154 (by decide) g12_213 s82 rfl ?_
        refine zl zM163 q163_157 rfl ?_
        refine zl zM163 q163_158 rfl ?_
        refine zgI zM163 q163_159 (by decide) g12_172 s82 rfl (v := (h5 82 38)) rfl ?_
        obtain ⟨hb, hw⟩ := hw
        refine ziS zM163 q163_162 (by decide) s102 hb rfl ?_
        refine zkI zM163 q163_163 kI1 ?_
        exact zri zM163 q163_164 rfl rfl hw
  · have hw := hw.2 hc
    refine zl zM163 q163_100 rfl ?_
    refine zkB zM163 q163_101 kB45 ?_
    refine zcV zM163 q163_103 kl12_191 rfl rfl (Nat.le_of_ble_eq_true rfl) rfl zM154 (Nat.le_of_ble_eq_true rfl) (hw.mono (fun r0 h9 hr14 => ?_))
    obtain ⟨v8, rfl, hw⟩ := hr14
    show zP X (d + 3) 163 106 [some (.ref 82), some (.int l1), some (.int l2), some (.int l3), none] [.int v8] z_S0 h9 (zI A)
    refine zl zM163 q163_106 (ls' := [some (.ref 82), some (.int l1), some (.int l2), some (.int l3), some (.int v8)]) rfl ?_
    refine zl zM163 q163_108 rfl ?_
    refine zl zM163 q163_109 rfl ?_
    refine zcV zM163 q163_110 kl12_209 rfl rfl (Nat.le_of_ble_eq_true rfl) rfl zM162 (Nat.le_of_ble_eq_true rfl) (hw.mono (fun r0 h12 hr13 => ?_))
    obtain ⟨v10, rfl, hw⟩ := hr13
    show zP X (d + 3) 163 113 [some (.ref 82), some (.int l1), some (.int l2), some (.int l3), some (.int v8)] [.int v10] z_S0 h12 (zI A)
    refine zb1_ne zM163 q163_113 (tgt := 118) rfl (fun hc => ?_) (fun hc => ?_)
    · have hw := hw.2 hc
      refine zl zM163 q163_118 rfl ?_
      refine zb1_ne zM163 q163_120 (tgt := 127) rfl (fun hc => ?_) (fun hc => ?_)
      · have hw := hw.2 hc
        refine zkI zM163 q163_127 kI0 ?_
        refine zweak (a := [some (.ref 82), some (.int l1), some (.int l2), none, none]) ?_ hw
        exact ⟨rfl, ⟨rfl, ⟨rfl, trivial⟩⟩⟩
      · have hw := hw.1 hc
        refine zkI zM163 q163_123 kI1 ?_
        refine zl zM163 q163_124 (pc' := 128) (ls' := _) (st' := _) rfl ?_
        refine zweak (a := [some (.ref 82), some (.int l1), some (.int l2), none, none]) ?_ hw
        exact ⟨rfl, ⟨rfl, ⟨rfl, trivial⟩⟩⟩
    · have hw := hw.1 hc
      refine zkI zM163 q163_116 kI0 ?_
      exact zri zM163 q163_117 rfl rfl hw
theorem b163_60 {X : Option (List Int32)} {d : Nat} {h : zH} {A : Int32 → zH → Prop} {l1 : Int32} {l3 : Int32} (hw : (((h 82 27) = 1 → zP X (d + 3) 163 82 [some (.ref 82), some (.int l1), none, some (.int l3), none] [.int ((-1) - (h 82 28)), .ref 82] z_S0 h (zI A)) ∧ (¬ (h 82 27) = 1 → zP X (d + 3) 163 82 [some (.ref 82), some (.int l1), none, some (.int l3), none] [.int (h 82 28), .ref 82] z_S0 h (zI A)))) : zP X (d + 3) 163 60 [some (.ref 82), some (.int l1), none, some (.int l3), none] [] z_S0 h (zI A) := by
  refine zl zM163 q163_60 rfl ?_
  refine zl zM163 q163_61 rfl ?_
  refine zgI zM163 q163_62 (by decide) g12_140 s82 rfl (v := (h 82 27)) rfl ?_
  refine zkI zM163 q163_65 kI1 ?_
  refine zb2_ne zM163 q163_66 (tgt := 78) rfl (fun hc => ?_) (fun hc => ?_)
  · have hw := hw.2 hc
    refine zl zM163 q163_78 rfl ?_
    refine zgI zM163 q163_79 (by decide) g12_153 s82 rfl (v := (h 82 28)) rfl ?_
    exact hw
  · have hw := hw.1 hc
    refine zkI zM163 q163_69 kIm1 ?_
    refine zl zM163 q163_70 rfl ?_
    refine zgI zM163 q163_71 (by decide) g12_153 s82 rfl (v := (h 82 28)) rfl ?_
    refine zl zM163 q163_74 (pc' := 75) (st' := .int ((-1) - (h 82 28)) :: _) rfl ?_
    refine zl zM163 q163_75 (pc' := 82) (ls' := _) (st' := _) rfl ?_
    exact hw
theorem b163_165 {X : Option (List Int32)} {d : Nat} {h : zH} {A : Int32 → zH → Prop} {l1 : Int32} {l2 : Int32} {l3 : Int32} (hw : zP X (d + 2) 160 0 (z_ent [.ref 82] 2) [] z_S0 h (zI fun v15 h17 => ((v15 = 0 → zP X (d + 2) 161 0 (z_ent [.ref 82] 1) [] z_S0 h17 (zI fun v18 h20 => ((v18 = 0 → A 0 h20) ∧ (¬ v18 = 0 → zP X (d + 3) 163 208 [some (.ref 82), some (.int l1), some (.int l2), some (.int l3), none] [] z_S0 h20 (zI A))))) ∧ (¬ v15 = 0 → zP X (d + 2) 155 0 (z_ent [.ref 82, .int 4] 2) [] z_S0 h17 (zI fun v22 h23 => ((v22 = 0 → zP X (d + 2) 155 0 (z_ent [.ref 82, .int 3] 2) [] z_S0 h23 (zI fun v24 h25 => ((v24 = 0 → zP X (d + 3) 163 195 [some (.ref 82), some (.int l1), some (.int 1), none, none] [.int 0] z_S0 h25 (zI A)) ∧ (¬ v24 = 0 → zP X (d + 3) 163 190 [some (.ref 82), some (.int l1), some (.int 1), none, none] [] z_S0 h25 (zI A))))) ∧ (¬ v22 = 0 → zP X (d + 3) 163 190 [some (.ref 82), some (.int l1), some (.int 1), none, none] [] z_S0 h23 (zI A)))))))) : zP X (d + 3) 163 165 [some (.ref 82), some (.int l1), some (.int l2), some (.int l3), none] [] z_S0 h (zI A) := by
  refine zl zM163 q163_165 rfl ?_
  refine zcV zM163 q163_166 kl12_216 rfl rfl (Nat.le_of_ble_eq_true rfl) rfl zM160 (Nat.le_of_ble_eq_true rfl) (hw.mono (fun r0 h17 hr28 => ?_))
  obtain ⟨v15, rfl, hw⟩ := hr28
  show zP X (d + 3) 163 169 [some (.ref 82), some (.int l1), some (.int l2), some (.int l3), none] [.int v15] z_S0 h17 (zI A)
  refine zb1_eq zM163 q163_169 (tgt := 199) rfl (fun hc => ?_) (fun hc => ?_)
  · have hw := hw.1 hc
    refine zl zM163 q163_199 rfl ?_
    refine zcV zM163 q163_200 kl12_220 rfl rfl (Nat.le_of_ble_eq_true rfl) rfl zM161 (Nat.le_of_ble_eq_true rfl) (hw.mono (fun r0 h20 hr21 => ?_))
    obtain ⟨v18, rfl, hw⟩ := hr21
    show zP X (d + 3) 163 203 [some (.ref 82), some (.int l1), some (.int l2), some (.int l3), none] [.int v18] z_S0 h20 (zI A)
    refine zb1_ne zM163 q163_203 (tgt := 208) rfl (fun hc => ?_) (fun hc => ?_)
    · have hw := hw.2 hc
      exact hw
    · have hw := hw.1 hc
      refine zkI zM163 q163_206 kI0 ?_
      exact zri zM163 q163_207 rfl rfl hw
  · have hw := hw.2 hc
    refine zkI zM163 q163_172 kI1 ?_
    refine zl zM163 q163_173 (ls' := [some (.ref 82), some (.int l1), some (.int 1), some (.int l3), none]) rfl ?_
    refine zl zM163 q163_174 rfl ?_
    refine zkI zM163 q163_175 kI4 ?_
    refine zcV zM163 q163_176 kl12_194 rfl rfl (Nat.le_of_ble_eq_true rfl) rfl zM155 (Nat.le_of_ble_eq_true rfl) (hw.mono (fun r0 h23 hr27 => ?_))
    obtain ⟨v22, rfl, hw⟩ := hr27
    show zP X (d + 3) 163 179 [some (.ref 82), some (.int l1), some (.int 1), some (.int l3), none] [.int v22] z_S0 h23 (zI A)
    refine zb1_ne zM163 q163_179 (tgt := 190) rfl (fun hc => ?_) (fun hc => ?_)
    · have hw := hw.2 hc
      refine zweak (a := [some (.ref 82), some (.int l1), some (.int 1), none, none]) ?_ hw
      exact ⟨rfl, ⟨rfl, ⟨rfl, trivial⟩⟩⟩
    · have hw := hw.1 hc
      refine zl zM163 q163_182 rfl ?_
      refine zkI zM163 q163_183 kI3 ?_
      refine zcV zM163 q163_184 kl12_194 rfl rfl (Nat.le_of_ble_eq_true rfl) rfl zM155 (Nat.le_of_ble_eq_true rfl) (hw.mono (fun r0 h25 hr26 => ?_))
      obtain ⟨v24, rfl, hw⟩ := hr26
      show zP X (d + 3) 163 187 [some (.ref 82), some (.int l1), some (.int 1), some (.int l3), none] [.int v24] z_S0 h25 (zI A)
      refine zb1_eq zM163 q163_187 (tgt := 194) rfl (fun hc => ?_) (fun hc => ?_)
      · have hw := hw.1 hc
        refine zkI zM163 q163_194 kI0 ?_
        refine zweak (a := [some (.ref 82), some (.int l1), some (.int 1), none, none]) ?_ hw
        exact ⟨rfl, ⟨rfl, ⟨rfl, trivial⟩⟩⟩
      · have hw := hw.2 hc
        refine zweak (a := [some (.ref 82), some (.int l1), some (.int 1), none, none]) ?_ hw
        exact ⟨rfl, ⟨rfl, ⟨rfl, trivial⟩⟩⟩
theorem b163_128 {X : Option (List Int32)} {d : Nat} {h : zH} {A : Int32 → zH → Prop} {l1 : Int32} {l2 : Int32} {w0 : Int32} (hw : zP X (d + 3) 163 208 [some (.ref 82), some (.int l1), some (.int l2), some (.int w0), none] [] z_S0 h (zI A)) : zP X (d + 3) 163 128 [some (.ref 82), some (.int l1), some (.int l2), none, none] [.int w0] z_S0 h (zI A) := by
  refine zl zM163 q163_128 (ls' := [some (.ref 82), some (.int l1), some (.int l2), some (.int w0), none]) rfl ?_
  refine zl zM163 q163_129 (pc' := 208) (ls' := _) (st' := _) rfl ?_
  exact hw
theorem b163_82 {X : Option (List Int32)} {d : Nat} {h : zH} {A : Int32 → zH → Prop} {l1 : Int32} {l3 : Int32} {w1 : Int32} (hw : zP X (d + 2) 156 0 (z_ent [.ref 82, .int w1] 2) [] z_S0 h (zV fun h31 => zP X (d + 2) 158 0 (z_ent [.ref 82, .int 7] 2) [] z_S0 h31 (zV fun h34 => zP X (d + 3) 163 208 [some (.ref 82), some (.int l1), some (.int 0), some (.int l3), none] [] z_S0 h34 (zI A)))) : zP X (d + 3) 163 82 [some (.ref 82), some (.int l1), none, some (.int l3), none] [.int w1, .ref 82] z_S0 h (zI A) := by
  refine zcV zM163 q163_82 kl12_187 rfl rfl (Nat.le_of_ble_eq_true rfl) rfl zM156 (Nat.le_of_ble_eq_true rfl) (hw.mono (fun r0 h31 hr36 => ?_))
  obtain ⟨rfl, hw⟩ := hr36
  show zP X (d + 3) 163 85 [some (.ref 82), some (.int l1), none, some (.int l3), none] [] z_S0 h31 (zI A)
  refine zl zM163 q163_85 rfl ?_
  refine zkB zM163 q163_86 kB7 ?_
  refine zcV zM163 q163_88 kl12_203 rfl rfl (Nat.le_of_ble_eq_true rfl) rfl zM158 (Nat.le_of_ble_eq_true rfl) (hw.mono (fun r0 h34 hr35 => ?_))
  obtain ⟨rfl, hw⟩ := hr35
  show zP X (d + 3) 163 91 [some (.ref 82), some (.int l1), none, some (.int l3), none] [] z_S0 h34 (zI A)
  refine zkI zM163 q163_91 kI0 ?_
  refine zl zM163 q163_92 (ls' := [some (.ref 82), some (.int l1), some (.int 0), some (.int l3), none]) rfl ?_
  refine zl zM163 q163_93 (pc' := 208) (ls' := _) (st' := _) rfl ?_
  exact hw
theorem b163_208 {X : Option (List Int32)} {d : Nat} {h : zH} {A : Int32 → zH → Prop} {l1 : Int32} {l2 : Int32} {l3 : Int32} (hw : zP X (d + 2) 153 0 (z_ent [.ref 82] 2) [] z_S0 h (zV fun h39 => zP X (d + 3) 163 40 [some (.ref 82), some (.int l1), some (.int l2), some (.int l3), none] [] z_S0 h39 (zI A))) : zP X (d + 3) 163 208 [some (.ref 82), some (.int l1), some (.int l2), some (.int l3), none] [] z_S0 h (zI A) := by
  refine zl zM163 q163_208 rfl ?_
  refine zcV zM163 q163_209 kl12_223 rfl rfl (Nat.le_of_ble_eq_true rfl) rfl zM153 (Nat.le_of_ble_eq_true rfl) (hw.mono (fun r0 h39 hr40 => ?_))
  obtain ⟨rfl, hw⟩ := hr40
  show zP X (d + 3) 163 212 [some (.ref 82), some (.int l1), some (.int l2), some (.int l3), none] [] z_S0 h39 (zI A)
  refine zl zM163 q163_212 (pc' := 40) (ls' := _) (st' := _) rfl ?_
  exact hw
theorem b163_190 {X : Option (List Int32)} {d : Nat} {h : zH} {A : Int32 → zH → Prop} {l1 : Int32} {l2 : Int32} (hw : zP X (d + 3) 163 195 [some (.ref 82), some (.int l1), some (.int l2), none, none] [.int 1] z_S0 h (zI A)) : zP X (d + 3) 163 190 [some (.ref 82), some (.int l1), some (.int l2), none, none] [] z_S0 h (zI A) := by
  refine zkI zM163 q163_190 kI1 ?_
  refine zl zM163 q163_191 (pc' := 195) (ls' := _) (st' := _) rfl ?_
  exact hw
theorem b163_195 {X : Option (List Int32)} {d : Nat} {h : zH} {A : Int32 → zH → Prop} {l1 : Int32} {l2 : Int32} {w0 : Int32} (hw : zP X (d + 3) 163 208 [some (.ref 82), some (.int l1), some (.int l2), some (.int w0), none] [] z_S0 h (zI A)) : zP X (d + 3) 163 195 [some (.ref 82), some (.int l1), some (.int l2), none, none] [.int w0] z_S0 h (zI A) := by
  refine zl zM163 q163_195 (ls' := [some (.ref 82), some (.int l1), some (.int l2), some (.int w0), none]) rfl ?_
  refine zl zM163 q163_196 (pc' := 208) (ls' := _) (st' := _) rfl ?_
  exact hw
-- X12_readAll
theorem b164 {X : Option (List Int32)} {d : Nat} {h : zH} {A : Int32 → zH → Prop} {a1 : Int32} (hw : zP X (d + 4) 164 7 [some (.ref 82), some (.int a1), some (.int 0)] [] z_S0 (z_up h 82 26 0) (zI A)) : zP X (d + 4) 164 0 (z_ent [.ref 82, .int a1] 3) [] z_S0 h (zI A) := by
  show zP X (d + 4) 164 0 [some (.ref 82), some (.int a1), none] [] z_S0 h (zI A)
  refine zl zM164 q164_0 rfl ?_
  refine zkI zM164 q164_1 kI0 ?_
  refine zpi zM164 q164_2 (by decide) g12_134 s82 rfl rfl ?_
  refine zkI zM164 q164_5 kI0 ?_
  refine zl zM164 q164_6 (ls' := [some (.ref 82), some (.int a1), some (.int 0)]) rfl ?_
  exact hw
theorem b164_7 {X : Option (List Int32)} {d : Nat} {h : zH} {A : Int32 → zH → Prop} {l1 : Int32} {l2 : Int32} (hw : ((l2 < 3 → zP X (d + 3) 153 0 (z_ent [.ref 82] 2) [] z_S0 h (zV fun h7 => zP X (d + 3) 155 0 (z_ent [.ref 82, .int l2] 2) [] z_S0 h7 (zI fun v8 h9 => ((v8 = 0 → A (h9 82 29) h9) ∧ (¬ v8 = 0 → zP X (d + 3) 153 0 (z_ent [.ref 82] 2) [] z_S0 h9 (zV fun h12 => zP X (d + 3) 163 0 (z_ent [.ref 82, .int ((3 * l1) + l2)] 5) [] z_S0 h12 (zI fun v13 h15 => ((v13 = 0 → A (h15 82 29) h15) ∧ (¬ v13 = 0 → zP X (d + 4) 164 7 [some (.ref 82), some (.int l1), some (.int (l2 + 1))] [] z_S0 h15 (zI A)))))))))) ∧ (¬ l2 < 3 → zP X (d + 3) 153 0 (z_ent [.ref 82] 2) [] z_S0 h (zV fun h3 => (((h3 82 27) = 0 → A (-1) h3) ∧ (¬ (h3 82 27) = 0 → A (h3 82 29) h3)))))) : zP X (d + 4) 164 7 [some (.ref 82), some (.int l1), some (.int l2)] [] z_S0 h (zI A) := by
  refine zl zM164 q164_7 rfl ?_
  refine zkI zM164 q164_8 kI3 ?_
  refine zb2_ge zM164 q164_9 (tgt := 56) rfl (fun hc => ?_) (fun hc => ?_)
  · have hw := hw.2 hc
    refine zl zM164 q164_56 rfl ?_
    refine zcV zM164 q164_57 kl12_223 rfl rfl (Nat.le_of_ble_eq_true rfl) rfl zM153 (Nat.le_of_ble_eq_true rfl) (hw.mono (fun r0 h3 hr4 => ?_))
    obtain ⟨rfl, hw⟩ := hr4
    show zP X (d + 4) 164 60 [some (.ref 82), some (.int l1), some (.int l2)] [] z_S0 h3 (zI A)
    refine zl zM164 q164_60 rfl ?_
    refine zgI zM164 q164_61 (by decide) g12_140 s82 rfl (v := (h3 82 27)) rfl ?_
    refine zb1_ne zM164 q164_64 (tgt := 71) rfl (fun hc => ?_) (fun hc => ?_)
    · have hw := hw.2 hc
      refine zl zM164 q164_71 rfl ?_
      refine zgI zM164 q164_72 (by decide) g12_146 s82 rfl (v := (h3 82 29)) rfl ?_
      exact zri zM164 q164_75 rfl rfl hw
    · have hw := hw.1 hc
      refine zkI zM164 q164_67 kIm1 ?_
      refine zl zM164 q164_68 (pc' := 75) (ls' := _) (st' := _) rfl ?_
      exact zri zM164 q164_75 rfl rfl hw
  · have hw := hw.1 hc
    refine zl zM164 q164_12 rfl ?_
    refine zcV zM164 q164_13 kl12_223 rfl rfl (Nat.le_of_ble_eq_true rfl) rfl zM153 (Nat.le_of_ble_eq_true rfl) (hw.mono (fun r0 h7 hr19 => ?_))
    obtain ⟨rfl, hw⟩ := hr19
    show zP X (d + 4) 164 16 [some (.ref 82), some (.int l1), some (.int l2)] [] z_S0 h7 (zI A)
    refine zl zM164 q164_16 rfl ?_
    refine zl zM164 q164_17 rfl ?_
    refine zcV zM164 q164_18 kl12_194 rfl rfl (Nat.le_of_ble_eq_true rfl) rfl zM155 (Nat.le_of_ble_eq_true rfl) (hw.mono (fun r0 h9 hr18 => ?_))
    obtain ⟨v8, rfl, hw⟩ := hr18
    show zP X (d + 4) 164 21 [some (.ref 82), some (.int l1), some (.int l2)] [.int v8] z_S0 h9 (zI A)
    refine zb1_ne zM164 q164_21 (tgt := 29) rfl (fun hc => ?_) (fun hc => ?_)
    · have hw := hw.2 hc
      refine zl zM164 q164_29 rfl ?_
      refine zcV zM164 q164_30 kl12_223 rfl rfl (Nat.le_of_ble_eq_true rfl) rfl zM153 (Nat.le_of_ble_eq_true rfl) (hw.mono (fun r0 h12 hr17 => ?_))
      obtain ⟨rfl, hw⟩ := hr17
      show zP X (d + 4) 164 33 [some (.ref 82), some (.int l1), some (.int l2)] [] z_S0 h12 (zI A)
      refine zl zM164 q164_33 rfl ?_
      refine zkI zM164 q164_34 kI3 ?_
      refine zl zM164 q164_35 rfl ?_
      refine zl zM164 q164_36 (pc' := 37) (st' := .int (3 * l1) :: _) rfl ?_
      refine zl zM164 q164_37 rfl ?_
      refine zl zM164 q164_38 (pc' := 39) (st' := .int ((3 * l1) + l2) :: _) rfl ?_
      refine zcV zM164 q164_39 kl12_226 rfl rfl (Nat.le_of_ble_eq_true rfl) rfl zM163 (Nat.le_of_ble_eq_true rfl) (hw.mono (fun r0 h15 hr16 => ?_))
      obtain ⟨v13, rfl, hw⟩ := hr16
      show zP X (d + 4) 164 42 [some (.ref 82), some (.int l1), some (.int l2)] [.int v13] z_S0 h15 (zI A)
      refine zb1_ne zM164 q164_42 (tgt := 50) rfl (fun hc => ?_) (fun hc => ?_)
      · have hw := hw.2 hc
        refine zl zM164 q164_50 (ls' := [some (.ref 82), some (.int l1), some (.int (l2 + 1))]) rfl ?_
        refine zl zM164 q164_53 (pc' := 7) (ls' := _) (st' := _) rfl ?_
        exact hw
      · have hw := hw.1 hc
        refine zl zM164 q164_45 rfl ?_
        refine zgI zM164 q164_46 (by decide) g12_146 s82 rfl (v := (h15 82 29)) rfl ?_
        exact zri zM164 q164_49 rfl rfl hw
    · have hw := hw.1 hc
      refine zl zM164 q164_24 rfl ?_
      refine zgI zM164 q164_25 (by decide) g12_146 s82 rfl (v := (h9 82 29)) rfl ?_
      exact zri zM164 q164_28 rfl rfl hw

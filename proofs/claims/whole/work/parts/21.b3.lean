-- X11_price
theorem b85 {X : Option (List Int32)} {d : Nat} {h : zH} {A : Int32 → zH → Prop} {a1 : Int32} {a2 : Int32} {a3 : Int32} (hw : zP X d 122 0 (z_ent [.int a1] 1) [] z_S0 h (zI fun v1 h2 => ((v1 = 0 → A (-2) h2) ∧ (¬ v1 = 0 → zP X d 125 0 (z_ent [.int a2] 1) [] z_S0 h2 (zI fun v3 h4 => ((v3 = 0 → A (-2) h4) ∧ (¬ v3 = 0 → zP X d 119 0 (z_ent [.int a3, .int 0, .int 999] 3) [] z_S0 h4 (zI fun v5 h6 => ((v5 = 0 → A (-2) h6) ∧ (¬ v5 = 0 → (((h6 13 4) < 40 → zP X d 40 0 (z_ent [.ref 13, .int a1, .int a2, .int a3, .int (h6 0 16)] 5) [] z_S0 h6 (zI fun v7 h9 => A v7 h9)) ∧ (¬ (h6 13 4) < 40 → A (-4) h6)))))))))))) : zP X (d + 1) 85 0 (z_ent [.ref 0, .int a1, .int a2, .int a3] 4) [] z_S0 h (zI A) := by
  show zP X (d + 1) 85 0 [some (.ref 0), some (.int a1), some (.int a2), some (.int a3)] [] z_S0 h (zI A)
  refine zl zM85 q85_0 rfl ?_
  refine zcS zM85 q85_1 ky11_203 kl11_203 (by decide) rfl (Nat.le_of_ble_eq_true rfl) zM122 (Nat.le_of_ble_eq_true rfl) (hw.mono (fun r0 h2 hr13 => ?_))
  obtain ⟨v1, rfl, hw⟩ := hr13
  show zP X (d + 1) 85 4 [some (.ref 0), some (.int a1), some (.int a2), some (.int a3)] [.int v1] z_S0 h2 (zI A)
  refine zb1_eq zM85 q85_4 (tgt := 25) rfl (fun hc => ?_) (fun hc => ?_)
  · have hw := hw.1 hc
    refine zkB zM85 q85_25 kBm2 ?_
    exact zri zM85 q85_27 rfl rfl hw
  · have hw := hw.2 hc
    refine zl zM85 q85_7 rfl ?_
    refine zcS zM85 q85_8 ky11_215 kl11_215 (by decide) rfl (Nat.le_of_ble_eq_true rfl) zM125 (Nat.le_of_ble_eq_true rfl) (hw.mono (fun r0 h4 hr12 => ?_))
    obtain ⟨v3, rfl, hw⟩ := hr12
    show zP X (d + 1) 85 11 [some (.ref 0), some (.int a1), some (.int a2), some (.int a3)] [.int v3] z_S0 h4 (zI A)
    refine zb1_eq zM85 q85_11 (tgt := 25) rfl (fun hc => ?_) (fun hc => ?_)
    · have hw := hw.1 hc
      refine zkB zM85 q85_25 kBm2 ?_
      exact zri zM85 q85_27 rfl rfl hw
    · have hw := hw.2 hc
      refine zl zM85 q85_14 rfl ?_
      refine zkI zM85 q85_15 kI0 ?_
      refine zkS zM85 q85_16 kS999 ?_
      refine zcS zM85 q85_19 ky11_128 kl11_128 (by decide) rfl (Nat.le_of_ble_eq_true rfl) zM119 (Nat.le_of_ble_eq_true rfl) (hw.mono (fun r0 h6 hr11 => ?_))
      obtain ⟨v5, rfl, hw⟩ := hr11
      show zP X (d + 1) 85 22 [some (.ref 0), some (.int a1), some (.int a2), some (.int a3)] [.int v5] z_S0 h6 (zI A)
      refine zb1_ne zM85 q85_22 (tgt := 28) rfl (fun hc => ?_) (fun hc => ?_)
      · have hw := hw.2 hc
        refine zl zM85 q85_28 rfl ?_
        refine zgR (a := 13) zM85 q85_29 (by decide) g11_23 s0 rfl ?_
        refine zgI zM85 q85_32 (by decide) g11_218 s13 rfl (v := (h6 13 4)) rfl ?_
        refine zkB zM85 q85_35 kB40 ?_
        refine zb2_lt zM85 q85_37 (tgt := 43) rfl (fun hc => ?_) (fun hc => ?_)
        · have hw := hw.1 hc
          refine zl zM85 q85_43 rfl ?_
          refine zgR (a := 13) zM85 q85_44 (by decide) g11_23 s0 rfl ?_
          refine zl zM85 q85_47 rfl ?_
          refine zl zM85 q85_48 rfl ?_
          refine zl zM85 q85_49 rfl ?_
          refine zl zM85 q85_50 rfl ?_
          refine zgI zM85 q85_51 (by decide) g11_132 s0 rfl (v := (h6 0 16)) rfl ?_
          refine zcV zM85 q85_54 kl11_219 rfl rfl (Nat.le_of_ble_eq_true rfl) rfl zM40 (Nat.le_of_ble_eq_true rfl) (hw.mono (fun r0 h9 hr10 => ?_))
          obtain ⟨v7, rfl, hw⟩ := hr10
          show zP X (d + 1) 85 57 [some (.ref 0), some (.int a1), some (.int a2), some (.int a3)] [.int v7] z_S0 h9 (zI A)
          exact zri zM85 q85_57 rfl rfl hw
        · have hw := hw.2 hc
          refine zkB zM85 q85_40 kBm4 ?_
          exact zri zM85 q85_42 rfl rfl hw
      · have hw := hw.1 hc
        refine zkB zM85 q85_25 kBm2 ?_
        exact zri zM85 q85_27 rfl rfl hw
-- X11_priceOf
theorem b86 {X : Option (List Int32)} {d : Nat} {h : zH} {A : Int32 → zH → Prop} {a1 : Int32} {a2 : Int32} {a3 : Int32} (hw : zP X d 122 0 (z_ent [.int a1] 1) [] z_S0 h (zI fun v1 h2 => ((v1 = 0 → A (-2) h2) ∧ (¬ v1 = 0 → zP X d 125 0 (z_ent [.int a2] 1) [] z_S0 h2 (zI fun v3 h4 => ((v3 = 0 → A (-2) h4) ∧ (¬ v3 = 0 → zP X d 119 0 (z_ent [.int a3, .int 0, .int (h4 0 16)] 3) [] z_S0 h4 (zI fun v5 h6 => ((v5 = 0 → A (-2) h6) ∧ (¬ v5 = 0 → zP X d 41 0 (z_ent [.ref 13, .int a1, .int a2, .int a3] 6) [] z_S0 h6 (zI fun v7 h8 => A v7 h8))))))))))) : zP X (d + 1) 86 0 (z_ent [.ref 0, .int a1, .int a2, .int a3] 4) [] z_S0 h (zI A) := by
  show zP X (d + 1) 86 0 [some (.ref 0), some (.int a1), some (.int a2), some (.int a3)] [] z_S0 h (zI A)
  refine zl zM86 q86_0 rfl ?_
  refine zcS zM86 q86_1 ky11_203 kl11_203 (by decide) rfl (Nat.le_of_ble_eq_true rfl) zM122 (Nat.le_of_ble_eq_true rfl) (hw.mono (fun r0 h2 hr12 => ?_))
  obtain ⟨v1, rfl, hw⟩ := hr12
  show zP X (d + 1) 86 4 [some (.ref 0), some (.int a1), some (.int a2), some (.int a3)] [.int v1] z_S0 h2 (zI A)
  refine zb1_eq zM86 q86_4 (tgt := 26) rfl (fun hc => ?_) (fun hc => ?_)
  · have hw := hw.1 hc
    refine zkB zM86 q86_26 kBm2 ?_
    exact zri zM86 q86_28 rfl rfl hw
  · have hw := hw.2 hc
    refine zl zM86 q86_7 rfl ?_
    refine zcS zM86 q86_8 ky11_215 kl11_215 (by decide) rfl (Nat.le_of_ble_eq_true rfl) zM125 (Nat.le_of_ble_eq_true rfl) (hw.mono (fun r0 h4 hr11 => ?_))
    obtain ⟨v3, rfl, hw⟩ := hr11
    show zP X (d + 1) 86 11 [some (.ref 0), some (.int a1), some (.int a2), some (.int a3)] [.int v3] z_S0 h4 (zI A)
    refine zb1_eq zM86 q86_11 (tgt := 26) rfl (fun hc => ?_) (fun hc => ?_)
    · have hw := hw.1 hc
      refine zkB zM86 q86_26 kBm2 ?_
      exact zri zM86 q86_28 rfl rfl hw
    · have hw := hw.2 hc
      refine zl zM86 q86_14 rfl ?_
      refine zkI zM86 q86_15 kI0 ?_
      refine zl zM86 q86_16 rfl ?_
      refine zgI zM86 q86_17 (by decide) g11_132 s0 rfl (v := (h4 0 16)) rfl ?_
      refine zcS zM86 q86_20 ky11_128 kl11_128 (by decide) rfl (Nat.le_of_ble_eq_true rfl) zM119 (Nat.le_of_ble_eq_true rfl) (hw.mono (fun r0 h6 hr10 => ?_))
      obtain ⟨v5, rfl, hw⟩ := hr10
      show zP X (d + 1) 86 23 [some (.ref 0), some (.int a1), some (.int a2), some (.int a3)] [.int v5] z_S0 h6 (zI A)
      refine zb1_ne zM86 q86_23 (tgt := 29) rfl (fun hc => ?_) (fun hc => ?_)
      · have hw := hw.2 hc
        refine zl zM86 q86_29 rfl ?_
        refine zgR (a := 13) zM86 q86_30 (by decide) g11_23 s0 rfl ?_
        refine zl zM86 q86_33 rfl ?_
        refine zl zM86 q86_34 rfl ?_
        refine zl zM86 q86_35 rfl ?_
        refine zcV zM86 q86_36 kl11_206 rfl rfl (Nat.le_of_ble_eq_true rfl) rfl zM41 (Nat.le_of_ble_eq_true rfl) (hw.mono (fun r0 h8 hr9 => ?_))
        obtain ⟨v7, rfl, hw⟩ := hr9
        show zP X (d + 1) 86 39 [some (.ref 0), some (.int a1), some (.int a2), some (.int a3)] [.int v7] z_S0 h8 (zI A)
        exact zri zM86 q86_39 rfl rfl hw
      · have hw := hw.1 hc
        refine zkB zM86 q86_26 kBm2 ?_
        exact zri zM86 q86_28 rfl rfl hw
-- X11_feed
theorem b87 {X : Option (List Int32)} {d : Nat} {h : zH} {A : Int32 → zH → Prop} {a1 : Int32} {a2 : Int64} (hw : zP X d 119 0 (z_ent [.int a1, .int 1, .int 8] 3) [] z_S0 h (zI fun v1 h2 => ((v1 = 0 → A (-2) h2) ∧ (¬ v1 = 0 → (((160 : Int32) < ((h2 18 1) + a1) → A (-4) h2) ∧ (¬ (160 : Int32) < ((h2 18 1) + a1) → zP X (d + 1) 87 34 [some (.ref 0), some (.int a1), some (.long a2), none, some (.int 0)] [] z_S0 h2 (zI A))))))) : zP X (d + 1) 87 0 (z_ent [.ref 0, .int a1, .long a2] 5) [] z_S0 h (zI A) := by
  show zP X (d + 1) 87 0 [some (.ref 0), some (.int a1), some (.long a2), none, none] [] z_S0 h (zI A)
  refine zl zM87 q87_0 rfl ?_
  refine zkI zM87 q87_1 kI1 ?_
  refine zkB zM87 q87_2 kB8 ?_
  refine zcS zM87 q87_4 ky11_128 kl11_128 (by decide) rfl (Nat.le_of_ble_eq_true rfl) zM119 (Nat.le_of_ble_eq_true rfl) (hw.mono (fun r0 h2 hr3 => ?_))
  obtain ⟨v1, rfl, hw⟩ := hr3
  show zP X (d + 1) 87 7 [some (.ref 0), some (.int a1), some (.long a2), none, none] [.int v1] z_S0 h2 (zI A)
  refine zb1_ne zM87 q87_7 (tgt := 13) rfl (fun hc => ?_) (fun hc => ?_)
  · have hw := hw.2 hc
    refine zl zM87 q87_13 rfl ?_
    refine zgR (a := 18) zM87 q87_14 (by decide) g11_30 s0 rfl ?_
    refine zgI zM87 q87_17 (by decide) g11_222 s18 rfl (v := (h2 18 1)) rfl ?_
    refine zl zM87 q87_20 rfl ?_
    refine zl zM87 q87_21 (pc' := 22) (st' := .int ((h2 18 1) + a1) :: _) rfl ?_
    refine zkS zM87 q87_22 kS160 ?_
    refine zb2_le zM87 q87_25 (tgt := 31) rfl (fun hc => ?_) (fun hc => ?_)
    · have hw := hw.2 hc
      refine zkI zM87 q87_31 kI0 ?_
      refine zl zM87 q87_32 (ls' := [some (.ref 0), some (.int a1), some (.long a2), none, some (.int 0)]) rfl ?_
      exact hw
    · have hw := hw.1 hc
      refine zkB zM87 q87_28 kBm4 ?_
      exact zri zM87 q87_30 rfl rfl hw
  · have hw := hw.1 hc
    refine zkB zM87 q87_10 kBm2 ?_
    exact zri zM87 q87_12 rfl rfl hw
theorem b87_34 {X : Option (List Int32)} {d : Nat} {h : zH} {A : Int32 → zH → Prop} {l1 : Int32} {l2 : Int64} {l4 : Int32} (hw : ((l4 < l1 → zP X d 48 0 (z_ent [.ref 18, .int ((Int64.toInt32 ((Int64.toUInt64 l2 >>> ((Int32.toInt64 (8 * l4)).toUInt64 &&& Int64.toUInt64 63)).toInt64)) &&& 255)] 2) [] z_S0 h (zV fun h6 => zP X (d + 1) 87 34 [some (.ref 0), some (.int l1), some (.long l2), none, some (.int (l4 + 1))] [] z_S0 h6 (zI A))) ∧ (¬ l4 < l1 → A (h 18 1) h))) : zP X (d + 1) 87 34 [some (.ref 0), some (.int l1), some (.long l2), none, some (.int l4)] [] z_S0 h (zI A) := by
  refine zl zM87 q87_34 rfl ?_
  refine zl zM87 q87_36 rfl ?_
  refine zb2_ge zM87 q87_37 (tgt := 65) rfl (fun hc => ?_) (fun hc => ?_)
  · have hw := hw.2 hc
    refine zl zM87 q87_65 rfl ?_
    refine zgR (a := 18) zM87 q87_66 (by decide) g11_30 s0 rfl ?_
    refine zgI zM87 q87_69 (by decide) g11_222 s18 rfl (v := (h 18 1)) rfl ?_
    exact zri zM87 q87_72 rfl rfl hw
  · have hw := hw.1 hc
    refine zl zM87 q87_40 rfl ?_
    refine zgR (a := 18) zM87 q87_41 (by decide) g11_30 s0 rfl ?_
    refine zl zM87 q87_44 rfl ?_
    refine zkB zM87 q87_45 kB8 ?_
    refine zl zM87 q87_47 rfl ?_
    refine zl zM87 q87_49 (pc' := 50) (st' := .int (8 * l4) :: _) rfl ?_
    refine zl zM87 q87_50 (pc' := 51) (st' := .long ((Int64.toUInt64 l2 >>> ((Int32.toInt64 (8 * l4)).toUInt64 &&& Int64.toUInt64 63)).toInt64) :: _) rfl ?_
    refine zl zM87 q87_51 (pc' := 52) (st' := .int (Int64.toInt32 ((Int64.toUInt64 l2 >>> ((Int32.toInt64 (8 * l4)).toUInt64 &&& Int64.toUInt64 63)).toInt64)) :: _) rfl ?_
    refine zkS zM87 q87_52 kS255 ?_
    refine zl zM87 q87_55 (pc' := 56) (st' := .int ((Int64.toInt32 ((Int64.toUInt64 l2 >>> ((Int32.toInt64 (8 * l4)).toUInt64 &&& Int64.toUInt64 63)).toInt64)) &&& 255) :: _) rfl ?_
    refine zcV zM87 q87_56 kl11_107 rfl rfl (Nat.le_of_ble_eq_true rfl) rfl zM48 (Nat.le_of_ble_eq_true rfl) (hw.mono (fun r0 h6 hr7 => ?_))
    obtain ⟨rfl, hw⟩ := hr7
    show zP X (d + 1) 87 59 [some (.ref 0), some (.int l1), some (.long l2), none, some (.int l4)] [] z_S0 h6 (zI A)
    refine zl zM87 q87_59 (ls' := [some (.ref 0), some (.int l1), some (.long l2), none, some (.int (l4 + 1))]) rfl ?_
    refine zl zM87 q87_62 (pc' := 34) (ls' := _) (st' := _) rfl ?_
    exact hw
-- X11_text
theorem b88 {X : Option (List Int32)} {d : Nat} {h : zH} {A : Int32 → zH → Prop}  (hw : (((h 20 4) < 6 → (z_ib (h 20 4) 6 ∧ zP X d 61 0 (z_ent [.ref (z_tx (Int32.toNatClampNeg (h 20 4))), .ref 18] 3) [] z_S0 h (zI fun v2 h4 => zP X d 49 0 (z_ent [.ref 18] 1) [] z_S0 h4 (zV fun h7 => ((v2 = 0 → A ((-100) - (h7 18 2)) h7) ∧ (¬ v2 = 0 → A (((h7 20 4) + 1) - 1) (z_up h7 20 4 ((h7 20 4) + 1)))))))) ∧ (¬ (h 20 4) < 6 → A (-4) h))) : zP X (d + 1) 88 0 (z_ent [.ref 0] 2) [] z_S0 h (zI A) := by
  show zP X (d + 1) 88 0 [some (.ref 0), none] [] z_S0 h (zI A)
  refine zl zM88 q88_0 rfl ?_
  refine zgR (a := 20) zM88 q88_1 (by decide) g11_37 s0 rfl ?_
  refine zgI zM88 q88_4 (by decide) g11_121 s20 rfl (v := (h 20 4)) rfl ?_
  refine zkB zM88 q88_7 kB6 ?_
  refine zb2_lt zM88 q88_9 (tgt := 15) rfl (fun hc => ?_) (fun hc => ?_)
  · have hw := hw.1 hc
    refine zl zM88 q88_15 rfl ?_
    refine zgR (a := 20) zM88 q88_16 (by decide) g11_37 s0 rfl ?_
    refine zgR (a := 21) zM88 q88_19 (by decide) g11_111 s20 rfl ?_
    refine zl zM88 q88_22 rfl ?_
    refine zgR (a := 20) zM88 q88_23 (by decide) g11_37 s0 rfl ?_
    refine zgI zM88 q88_26 (by decide) g11_121 s20 rfl (v := (h 20 4)) rfl ?_
    obtain ⟨hb, hw⟩ := hw
    obtain ⟨hm1e, hm1⟩ := z_txIn hb
    refine zaa zM88 q88_29 (by decide) s21 (by decide) hb ?_
    rw [hm1e]
    refine zl zM88 q88_30 rfl ?_
    refine zgR (a := 18) zM88 q88_31 (by decide) g11_30 s0 rfl ?_
    refine zcV zM88 q88_34 kl11_115 rfl rfl (Nat.le_of_ble_eq_true rfl) (z_rcvT hm1) zM61 (Nat.le_of_ble_eq_true rfl) (hw.mono (fun r0 h4 hr9 => ?_))
    obtain ⟨v2, rfl, hw⟩ := hr9
    show zP X (d + 1) 88 37 [some (.ref 0), none] [.int v2] z_S0 h4 (zI A)
    refine zl zM88 q88_37 (ls' := [some (.ref 0), some (.int v2)]) rfl ?_
    refine zl zM88 q88_38 rfl ?_
    refine zgR (a := 18) zM88 q88_39 (by decide) g11_30 s0 rfl ?_
    refine zcV zM88 q88_42 kl11_125 rfl rfl (Nat.le_of_ble_eq_true rfl) rfl zM49 (Nat.le_of_ble_eq_true rfl) (hw.mono (fun r0 h7 hr8 => ?_))
    obtain ⟨rfl, hw⟩ := hr8
    show zP X (d + 1) 88 45 [some (.ref 0), some (.int v2)] [] z_S0 h7 (zI A)
    refine zl zM88 q88_45 rfl ?_
    refine zb1_ne zM88 q88_46 (tgt := 60) rfl (fun hc => ?_) (fun hc => ?_)
    · have hw := hw.2 hc
      refine zl zM88 q88_60 rfl ?_
      refine zgR (a := 20) zM88 q88_61 (by decide) g11_37 s0 rfl ?_
      refine zl zM88 q88_64 rfl ?_
      refine zgI zM88 q88_65 (by decide) g11_121 s20 rfl (v := (h7 20 4)) rfl ?_
      refine zkI zM88 q88_68 kI1 ?_
      refine zl zM88 q88_69 (pc' := 70) (st' := .int ((h7 20 4) + 1) :: _) rfl ?_
      refine zpi zM88 q88_70 (by decide) g11_121 s20 rfl rfl ?_
      refine zl zM88 q88_73 rfl ?_
      refine zgR (a := 20) zM88 q88_74 (by decide) g11_37 s0 rfl ?_
      refine zgI zM88 q88_77 (by decide) g11_121 s20 rfl (v := ((h7 20 4) + 1)) rfl ?_
      refine zkI zM88 q88_80 kI1 ?_
      refine zl zM88 q88_81 (pc' := 82) (st' := .int (((h7 20 4) + 1) - 1) :: _) rfl ?_
      exact zri zM88 q88_82 rfl rfl hw
    · have hw := hw.1 hc
      refine zkB zM88 q88_49 kBm100 ?_
      refine zl zM88 q88_51 rfl ?_
      refine zgR (a := 18) zM88 q88_52 (by decide) g11_30 s0 rfl ?_
      refine zgI zM88 q88_55 (by decide) g11_225 s18 rfl (v := (h7 18 2)) rfl ?_
      refine zl zM88 q88_58 (pc' := 59) (st' := .int ((-100) - (h7 18 2)) :: _) rfl ?_
      exact zri zM88 q88_59 rfl rfl hw
  · have hw := hw.2 hc
    refine zkB zM88 q88_12 kBm4 ?_
    exact zri zM88 q88_14 rfl rfl hw
-- X11_contract
theorem b89 {X : Option (List Int32)} {d : Nat} {h : zH} {A : Int32 → zH → Prop} {a1 : Int32} {a2 : Int32} {a3 : Int32} (hw : zP X d 120 0 (z_ent [.int a1] 1) [] z_S0 h (zI fun v1 h2 => ((v1 = 0 → A (-2) h2) ∧ (¬ v1 = 0 → zP X d 125 0 (z_ent [.int a2] 1) [] z_S0 h2 (zI fun v3 h4 => ((v3 = 0 → A (-2) h4) ∧ (¬ v3 = 0 → zP X d 119 0 (z_ent [.int a3, .int 0, .int ((h4 20 4) - 1)] 3) [] z_S0 h4 (zI fun v5 h6 => ((v5 = 0 → A (-2) h6) ∧ (¬ v5 = 0 → (((h6 20 5) < 20 → zP X d 23 0 (z_ent [.ref 20, .int a1, .int a2, .int a3] 4) [] z_S0 h6 (zI fun v7 h9 => A v7 h9)) ∧ (¬ (h6 20 5) < 20 → A (-4) h6)))))))))))) : zP X (d + 1) 89 0 (z_ent [.ref 0, .int a1, .int a2, .int a3] 4) [] z_S0 h (zI A) := by
  show zP X (d + 1) 89 0 [some (.ref 0), some (.int a1), some (.int a2), some (.int a3)] [] z_S0 h (zI A)
  refine zl zM89 q89_0 rfl ?_
  refine zcS zM89 q89_1 ky11_135 kl11_135 (by decide) rfl (Nat.le_of_ble_eq_true rfl) zM120 (Nat.le_of_ble_eq_true rfl) (hw.mono (fun r0 h2 hr13 => ?_))
  obtain ⟨v1, rfl, hw⟩ := hr13
  show zP X (d + 1) 89 4 [some (.ref 0), some (.int a1), some (.int a2), some (.int a3)] [.int v1] z_S0 h2 (zI A)
  refine zb1_eq zM89 q89_4 (tgt := 31) rfl (fun hc => ?_) (fun hc => ?_)
  · have hw := hw.1 hc
    refine zkB zM89 q89_31 kBm2 ?_
    exact zri zM89 q89_33 rfl rfl hw
  · have hw := hw.2 hc
    refine zl zM89 q89_7 rfl ?_
    refine zcS zM89 q89_8 ky11_215 kl11_215 (by decide) rfl (Nat.le_of_ble_eq_true rfl) zM125 (Nat.le_of_ble_eq_true rfl) (hw.mono (fun r0 h4 hr12 => ?_))
    obtain ⟨v3, rfl, hw⟩ := hr12
    show zP X (d + 1) 89 11 [some (.ref 0), some (.int a1), some (.int a2), some (.int a3)] [.int v3] z_S0 h4 (zI A)
    refine zb1_eq zM89 q89_11 (tgt := 31) rfl (fun hc => ?_) (fun hc => ?_)
    · have hw := hw.1 hc
      refine zkB zM89 q89_31 kBm2 ?_
      exact zri zM89 q89_33 rfl rfl hw
    · have hw := hw.2 hc
      refine zl zM89 q89_14 rfl ?_
      refine zkI zM89 q89_15 kI0 ?_
      refine zl zM89 q89_16 rfl ?_
      refine zgR (a := 20) zM89 q89_17 (by decide) g11_37 s0 rfl ?_
      refine zgI zM89 q89_20 (by decide) g11_121 s20 rfl (v := (h4 20 4)) rfl ?_
      refine zkI zM89 q89_23 kI1 ?_
      refine zl zM89 q89_24 (pc' := 25) (st' := .int ((h4 20 4) - 1) :: _) rfl ?_
      refine zcS zM89 q89_25 ky11_128 kl11_128 (by decide) rfl (Nat.le_of_ble_eq_true rfl) zM119 (Nat.le_of_ble_eq_true rfl) (hw.mono (fun r0 h6 hr11 => ?_))
      obtain ⟨v5, rfl, hw⟩ := hr11
      show zP X (d + 1) 89 28 [some (.ref 0), some (.int a1), some (.int a2), some (.int a3)] [.int v5] z_S0 h6 (zI A)
      refine zb1_ne zM89 q89_28 (tgt := 34) rfl (fun hc => ?_) (fun hc => ?_)
      · have hw := hw.2 hc
        refine zl zM89 q89_34 rfl ?_
        refine zgR (a := 20) zM89 q89_35 (by decide) g11_37 s0 rfl ?_
        refine zgI zM89 q89_38 (by decide) g11_228 s20 rfl (v := (h6 20 5)) rfl ?_
        refine zkB zM89 q89_41 kB20 ?_
        refine zb2_lt zM89 q89_43 (tgt := 49) rfl (fun hc => ?_) (fun hc => ?_)
        · have hw := hw.1 hc
          refine zl zM89 q89_49 rfl ?_
          refine zgR (a := 20) zM89 q89_50 (by decide) g11_37 s0 rfl ?_
          refine zl zM89 q89_53 rfl ?_
          refine zl zM89 q89_54 rfl ?_
          refine zl zM89 q89_55 rfl ?_
          refine zcV zM89 q89_56 kl11_229 rfl rfl (Nat.le_of_ble_eq_true rfl) rfl zM23 (Nat.le_of_ble_eq_true rfl) (hw.mono (fun r0 h9 hr10 => ?_))
          obtain ⟨v7, rfl, hw⟩ := hr10
          show zP X (d + 1) 89 59 [some (.ref 0), some (.int a1), some (.int a2), some (.int a3)] [.int v7] z_S0 h9 (zI A)
          exact zri zM89 q89_59 rfl rfl hw
        · have hw := hw.2 hc
          refine zkB zM89 q89_46 kBm4 ?_
          exact zri zM89 q89_48 rfl rfl hw
      · have hw := hw.1 hc
        refine zkB zM89 q89_31 kBm2 ?_
        exact zri zM89 q89_33 rfl rfl hw
-- X11_contractOf
theorem b90 {X : Option (List Int32)} {d : Nat} {h : zH} {A : Int32 → zH → Prop} {a1 : Int32} {a2 : Int32} (hw : zP X d 120 0 (z_ent [.int a1] 1) [] z_S0 h (zI fun v1 h2 => ((v1 = 0 → A (-2) h2) ∧ (¬ v1 = 0 → zP X d 125 0 (z_ent [.int a2] 1) [] z_S0 h2 (zI fun v3 h4 => ((v3 = 0 → A (-2) h4) ∧ (¬ v3 = 0 → zP X d 24 0 (z_ent [.ref 20, .int a1, .int a2] 5) [] z_S0 h4 (zI fun v5 h6 => A v5 h6)))))))) : zP X (d + 1) 90 0 (z_ent [.ref 0, .int a1, .int a2] 3) [] z_S0 h (zI A) := by
  show zP X (d + 1) 90 0 [some (.ref 0), some (.int a1), some (.int a2)] [] z_S0 h (zI A)
  refine zl zM90 q90_0 rfl ?_
  refine zcS zM90 q90_1 ky11_135 kl11_135 (by decide) rfl (Nat.le_of_ble_eq_true rfl) zM120 (Nat.le_of_ble_eq_true rfl) (hw.mono (fun r0 h2 hr9 => ?_))
  obtain ⟨v1, rfl, hw⟩ := hr9
  show zP X (d + 1) 90 4 [some (.ref 0), some (.int a1), some (.int a2)] [.int v1] z_S0 h2 (zI A)
  refine zb1_eq zM90 q90_4 (tgt := 26) rfl (fun hc => ?_) (fun hc => ?_)
  · have hw := hw.1 hc
    refine zkB zM90 q90_26 kBm2 ?_
    exact zri zM90 q90_28 rfl rfl hw
  · have hw := hw.2 hc
    refine zl zM90 q90_7 rfl ?_
    refine zcS zM90 q90_8 ky11_215 kl11_215 (by decide) rfl (Nat.le_of_ble_eq_true rfl) zM125 (Nat.le_of_ble_eq_true rfl) (hw.mono (fun r0 h4 hr8 => ?_))
    obtain ⟨v3, rfl, hw⟩ := hr8
    show zP X (d + 1) 90 11 [some (.ref 0), some (.int a1), some (.int a2)] [.int v3] z_S0 h4 (zI A)
    refine zb1_eq zM90 q90_11 (tgt := 26) rfl (fun hc => ?_) (fun hc => ?_)
    · have hw := hw.1 hc
      refine zkB zM90 q90_26 kBm2 ?_
      exact zri zM90 q90_28 rfl rfl hw
    · have hw := hw.2 hc
      refine zl zM90 q90_14 rfl ?_
      refine zgR (a := 20) zM90 q90_15 (by decide) g11_37 s0 rfl ?_
      refine zl zM90 q90_18 rfl ?_
      refine zl zM90 q90_19 rfl ?_
      refine zcV zM90 q90_20 kl11_232 rfl rfl (Nat.le_of_ble_eq_true rfl) rfl zM24 (Nat.le_of_ble_eq_true rfl) (hw.mono (fun r0 h6 hr7 => ?_))
      obtain ⟨v5, rfl, hw⟩ := hr7
      show zP X (d + 1) 90 23 [some (.ref 0), some (.int a1), some (.int a2)] [.int v5] z_S0 h6 (zI A)
      refine zl zM90 q90_23 (pc' := 28) (ls' := _) (st' := _) rfl ?_
      exact zri zM90 q90_28 rfl rfl hw
-- X11_says
theorem b91 {X : Option (List Int32)} {d : Nat} {h : zH} {A : Int64 → zH → Prop} {a1 : Int32} {a2 : Int32} (hw : zP X d 11 0 (z_ent [.ref 1, .int a1] 2) [] z_S0 h (zI fun v1 h2 => ((v1 = 0 → A (-4611686018427387904) h2) ∧ (¬ v1 = 0 → zP X d 119 0 (z_ent [.int a2, .int 0, .int 2] 3) [] z_S0 h2 (zI fun v3 h4 => ((v3 = 0 → A (-4611686018427387904) h4) ∧ (¬ v3 = 0 → zP X d 92 0 (z_ent [.ref 0, .int a1, .int a2] 5) [] z_S0 h4 (zI fun v5 h7 => A (Int32.toInt64 v5) h7)))))))) : zP X (d + 1) 91 0 (z_ent [.ref 0, .int a1, .int a2] 3) [] z_S0 h (zJ A) := by
  show zP X (d + 1) 91 0 [some (.ref 0), some (.int a1), some (.int a2)] [] z_S0 h (zJ A)
  refine zl zM91 q91_0 rfl ?_
  refine zgR (a := 1) zM91 q91_1 (by decide) g11_10 s0 rfl ?_
  refine zl zM91 q91_4 rfl ?_
  refine zcV zM91 q91_5 kl11_153 rfl rfl (Nat.le_of_ble_eq_true rfl) rfl zM11 (Nat.le_of_ble_eq_true rfl) (hw.mono (fun r0 h2 hr10 => ?_))
  obtain ⟨v1, rfl, hw⟩ := hr10
  show zP X (d + 1) 91 8 [some (.ref 0), some (.int a1), some (.int a2)] [.int v1] z_S0 h2 (zJ A)
  refine zb1_eq zM91 q91_8 (tgt := 20) rfl (fun hc => ?_) (fun hc => ?_)
  · have hw := hw.1 hc
    refine zkJ zM91 q91_20 kc11_235 ?_
    exact zrj zM91 q91_23 rfl hw
  · have hw := hw.2 hc
    refine zl zM91 q91_11 rfl ?_
    refine zkI zM91 q91_12 kI0 ?_
    refine zkI zM91 q91_13 kI2 ?_
    refine zcS zM91 q91_14 ky11_128 kl11_128 (by decide) rfl (Nat.le_of_ble_eq_true rfl) zM119 (Nat.le_of_ble_eq_true rfl) (hw.mono (fun r0 h4 hr9 => ?_))
    obtain ⟨v3, rfl, hw⟩ := hr9
    show zP X (d + 1) 91 17 [some (.ref 0), some (.int a1), some (.int a2)] [.int v3] z_S0 h4 (zJ A)
    refine zb1_ne zM91 q91_17 (tgt := 24) rfl (fun hc => ?_) (fun hc => ?_)
    · have hw := hw.2 hc
      refine zl zM91 q91_24 rfl ?_
      refine zl zM91 q91_25 rfl ?_
      refine zl zM91 q91_26 rfl ?_
      refine zcV zM91 q91_27 kl11_237 rfl rfl (Nat.le_of_ble_eq_true rfl) rfl zM92 (Nat.le_of_ble_eq_true rfl) (hw.mono (fun r0 h7 hr8 => ?_))
      obtain ⟨v5, rfl, hw⟩ := hr8
      show zP X (d + 1) 91 30 [some (.ref 0), some (.int a1), some (.int a2)] [.int v5] z_S0 h7 (zJ A)
      refine zl zM91 q91_30 (pc' := 31) (st' := .long (Int32.toInt64 v5) :: _) rfl ?_
      exact zrj zM91 q91_31 rfl hw
    · have hw := hw.1 hc
      refine zkJ zM91 q91_20 kc11_235 ?_
      exact zrj zM91 q91_23 rfl hw
-- X11_partFor
theorem b92 {X : Option (List Int32)} {d : Nat} {h : zH} {A : Int32 → zH → Prop} {a1 : Int32} {a2 : Int32} (hw : (z_ib a1 40 ∧ (z_ib a1 40 ∧ (z_ib a1 40 ∧ (z_ib a1 40 ∧ (z_ib a1 40 ∧ zP X d 29 0 (z_ent [.ref 49, .int (h 3 (Int32.toNatClampNeg a1)), .int (h 5 (Int32.toNatClampNeg a1))] 5) [] z_S0 (z_up (z_up (z_up (z_up h 43 0 (h 6 (Int32.toNatClampNeg a1))) 43 1 (h 5 (Int32.toNatClampNeg a1))) 43 2 (h 7 (Int32.toNatClampNeg a1))) 43 3 (h 2 (Int32.toNatClampNeg a1))) (zI fun v1 h2 => zP X d 41 0 (z_ent [.ref 13, .int 0, .int (h 5 (Int32.toNatClampNeg a1)), .int (h2 0 16)] 6) [] z_S0 (z_up h2 43 4 v1) (zI fun v3 h4 => zP X d 24 0 (z_ent [.ref 20, .int (h 3 (Int32.toNatClampNeg a1)), .int (h 5 (Int32.toNatClampNeg a1))] 5) [] z_S0 (z_up h4 43 5 v3) (zI fun v5 h6 => (z_ib v5 6 ∧ zP X d 72 0 (z_ent [.ref (z_tx (Int32.toNatClampNeg v5)), .int a2, .ref 43, .ref 44] 7) [] z_S0 h6 (zI fun v8 h10 => A v8 h10))))))))))) : zP X (d + 1) 92 0 (z_ent [.ref 0, .int a1, .int a2] 5) [] z_S0 h (zI A) := by
  show zP X (d + 1) 92 0 [some (.ref 0), some (.int a1), some (.int a2), none, none] [] z_S0 h (zI A)
  refine zl zM92 q92_0 rfl ?_
  refine zgR (a := 1) zM92 q92_1 (by decide) g11_10 s0 rfl ?_
  refine zgR (a := 3) zM92 q92_4 (by decide) g11_159 s1 rfl ?_
  refine zl zM92 q92_7 rfl ?_
  obtain ⟨hb, hw⟩ := hw
  refine ziA zM92 q92_8 (by decide) s3 hb (v := (h 3 (Int32.toNatClampNeg a1))) rfl ?_
  refine zl zM92 q92_9 (ls' := [some (.ref 0), some (.int a1), some (.int a2), some (.int (h 3 (Int32.toNatClampNeg a1))), none]) rfl ?_
  refine zl zM92 q92_10 rfl ?_
  refine zgR (a := 1) zM92 q92_11 (by decide) g11_10 s0 rfl ?_
  refine zgR (a := 5) zM92 q92_14 (by decide) g11_182 s1 rfl ?_
  refine zl zM92 q92_17 rfl ?_
  obtain ⟨hb, hw⟩ := hw
  refine ziA zM92 q92_18 (by decide) s5 hb (v := (h 5 (Int32.toNatClampNeg a1))) rfl ?_
  refine zl zM92 q92_19 (ls' := [some (.ref 0), some (.int a1), some (.int a2), some (.int (h 3 (Int32.toNatClampNeg a1))), some (.int (h 5 (Int32.toNatClampNeg a1)))]) rfl ?_
  refine zl zM92 q92_21 rfl ?_
  refine zgR (a := 43) zM92 q92_22 (by decide) g11_41 s0 rfl ?_
  refine zkI zM92 q92_25 kI0 ?_
  refine zl zM92 q92_26 rfl ?_
  refine zgR (a := 1) zM92 q92_27 (by decide) g11_10 s0 rfl ?_
  refine zgR (a := 6) zM92 q92_30 (by decide) g11_165 s1 rfl ?_
  refine zl zM92 q92_33 rfl ?_
  obtain ⟨hb, hw⟩ := hw
  refine ziA zM92 q92_34 (by decide) s6 hb (v := (h 6 (Int32.toNatClampNeg a1))) rfl ?_
  refine ziS (j := 0) zM92 q92_35 (by decide) s43 (by decide) rfl ?_
  refine zl zM92 q92_36 rfl ?_
  refine zgR (a := 43) zM92 q92_37 (by decide) g11_41 s0 rfl ?_
  refine zkI zM92 q92_40 kI1 ?_
  refine zl zM92 q92_41 rfl ?_
  refine ziS (j := 1) zM92 q92_43 (by decide) s43 (by decide) rfl ?_
  refine zl zM92 q92_44 rfl ?_
  refine zgR (a := 43) zM92 q92_45 (by decide) g11_41 s0 rfl ?_
  refine zkI zM92 q92_48 kI2 ?_
  refine zl zM92 q92_49 rfl ?_
  refine zgR (a := 1) zM92 q92_50 (by decide) g11_10 s0 rfl ?_
  refine zgR (a := 7) zM92 q92_53 (by decide) g11_240 s1 rfl ?_
  refine zl zM92 q92_56 rfl ?_
  obtain ⟨hb, hw⟩ := hw
  refine ziA zM92 q92_57 (by decide) s7 hb (v := (h 7 (Int32.toNatClampNeg a1))) rfl ?_
  refine ziS (j := 2) zM92 q92_58 (by decide) s43 (by decide) rfl ?_
  refine zl zM92 q92_59 rfl ?_
  refine zgR (a := 43) zM92 q92_60 (by decide) g11_41 s0 rfl ?_
  refine zkI zM92 q92_63 kI3 ?_
  refine zl zM92 q92_64 rfl ?_
  refine zgR (a := 1) zM92 q92_65 (by decide) g11_10 s0 rfl ?_
  refine zgR (a := 2) zM92 q92_68 (by decide) g11_156 s1 rfl ?_
  refine zl zM92 q92_71 rfl ?_
  obtain ⟨hb, hw⟩ := hw
  refine ziA zM92 q92_72 (by decide) s2 hb (v := (h 2 (Int32.toNatClampNeg a1))) rfl ?_
  refine ziS (j := 3) zM92 q92_73 (by decide) s43 (by decide) rfl ?_
  refine zl zM92 q92_74 rfl ?_
  refine zgR (a := 43) zM92 q92_75 (by decide) g11_41 s0 rfl ?_
  refine zkI zM92 q92_78 kI4 ?_
  refine zl zM92 q92_79 rfl ?_
  refine zgR (a := 49) zM92 q92_80 (by decide) g11_57 s0 rfl ?_
  refine zl zM92 q92_83 rfl ?_
  refine zl zM92 q92_84 rfl ?_
  refine zcV zM92 q92_86 kl11_243 rfl rfl (Nat.le_of_ble_eq_true rfl) rfl zM29 (Nat.le_of_ble_eq_true rfl) (hw.mono (fun r0 h2 hr14 => ?_))
  obtain ⟨v1, rfl, hw⟩ := hr14
  show zP X (d + 1) 92 89 [some (.ref 0), some (.int a1), some (.int a2), some (.int (h 3 (Int32.toNatClampNeg a1))), some (.int (h 5 (Int32.toNatClampNeg a1)))] [.int v1, .int 4, .ref 43] z_S0 h2 (zI A)
  refine ziS (j := 4) zM92 q92_89 (by decide) s43 (by decide) rfl ?_
  refine zl zM92 q92_90 rfl ?_
  refine zgR (a := 43) zM92 q92_91 (by decide) g11_41 s0 rfl ?_
  refine zkI zM92 q92_94 kI5 ?_
  refine zl zM92 q92_95 rfl ?_
  refine zgR (a := 13) zM92 q92_96 (by decide) g11_23 s0 rfl ?_
  refine zkI zM92 q92_99 kI0 ?_
  refine zl zM92 q92_100 rfl ?_
  refine zl zM92 q92_102 rfl ?_
  refine zgI zM92 q92_103 (by decide) g11_132 s0 rfl (v := (h2 0 16)) rfl ?_
  refine zcV zM92 q92_106 kl11_206 rfl rfl (Nat.le_of_ble_eq_true rfl) rfl zM41 (Nat.le_of_ble_eq_true rfl) (hw.mono (fun r0 h4 hr13 => ?_))
  obtain ⟨v3, rfl, hw⟩ := hr13
  show zP X (d + 1) 92 109 [some (.ref 0), some (.int a1), some (.int a2), some (.int (h 3 (Int32.toNatClampNeg a1))), some (.int (h 5 (Int32.toNatClampNeg a1)))] [.int v3, .int 5, .ref 43] z_S0 h4 (zI A)
  refine ziS (j := 5) zM92 q92_109 (by decide) s43 (by decide) rfl ?_
  refine zl zM92 q92_110 rfl ?_
  refine zgR (a := 20) zM92 q92_111 (by decide) g11_37 s0 rfl ?_
  refine zgR (a := 21) zM92 q92_114 (by decide) g11_111 s20 rfl ?_
  refine zl zM92 q92_117 rfl ?_
  refine zgR (a := 20) zM92 q92_118 (by decide) g11_37 s0 rfl ?_
  refine zl zM92 q92_121 rfl ?_
  refine zl zM92 q92_122 rfl ?_
  refine zcV zM92 q92_124 kl11_232 rfl rfl (Nat.le_of_ble_eq_true rfl) rfl zM24 (Nat.le_of_ble_eq_true rfl) (hw.mono (fun r0 h6 hr12 => ?_))
  obtain ⟨v5, rfl, hw⟩ := hr12
  show zP X (d + 1) 92 127 [some (.ref 0), some (.int a1), some (.int a2), some (.int (h 3 (Int32.toNatClampNeg a1))), some (.int (h 5 (Int32.toNatClampNeg a1)))] [.int v5, .ref 21] z_S0 h6 (zI A)
  obtain ⟨hb, hw⟩ := hw
  obtain ⟨hm7e, hm7⟩ := z_txIn hb
  refine zaa zM92 q92_127 (by decide) s21 (by decide) hb ?_
  rw [hm7e]
  refine zl zM92 q92_128 rfl ?_
  refine zl zM92 q92_129 rfl ?_
  refine zgR (a := 43) zM92 q92_130 (by decide) g11_41 s0 rfl ?_
  refine zl zM92 q92_133 rfl ?_
  refine zgR (a := 44) zM92 q92_134 (by decide) g11_44 s0 rfl ?_
  refine zcV zM92 q92_137 kl11_246 rfl rfl (Nat.le_of_ble_eq_true rfl) (z_rcvT hm7) zM72 (Nat.le_of_ble_eq_true rfl) (hw.mono (fun r0 h10 hr11 => ?_))
  obtain ⟨v8, rfl, hw⟩ := hr11
  show zP X (d + 1) 92 140 [some (.ref 0), some (.int a1), some (.int a2), some (.int (h 3 (Int32.toNatClampNeg a1))), some (.int (h 5 (Int32.toNatClampNeg a1)))] [.int v8] z_S0 h10 (zI A)
  exact zri zM92 q92_140 rfl rfl hw
-- X11_owed
theorem b93 {X : Option (List Int32)} {d : Nat} {h : zH} {A : Int64 → zH → Prop} {a1 : Int32} {a2 : Int32} {a3 : Int32} (hw : zP X d 120 0 (z_ent [.int a1] 1) [] z_S0 h (zI fun v1 h2 => ((v1 = 0 → A (-4611686018427387904) h2) ∧ (¬ v1 = 0 → zP X d 126 0 (z_ent [.int a2, .int a3] 2) [] z_S0 h2 (zI fun v3 h4 => ((v3 = 0 → A (-4611686018427387904) h4) ∧ (¬ v3 = 0 → zP X (d + 1) 93 25 [some (.ref 0), some (.int a1), some (.int a2), some (.int a3), some (.long 0), none, some (.int 0)] [] z_S0 h4 (zJ A)))))))) : zP X (d + 1) 93 0 (z_ent [.ref 0, .int a1, .int a2, .int a3] 7) [] z_S0 h (zJ A) := by
  show zP X (d + 1) 93 0 [some (.ref 0), some (.int a1), some (.int a2), some (.int a3), none, none, none] [] z_S0 h (zJ A)
  refine zl zM93 q93_0 rfl ?_
  refine zcS zM93 q93_1 ky11_135 kl11_135 (by decide) rfl (Nat.le_of_ble_eq_true rfl) zM120 (Nat.le_of_ble_eq_true rfl) (hw.mono (fun r0 h2 hr6 => ?_))
  obtain ⟨v1, rfl, hw⟩ := hr6
  show zP X (d + 1) 93 4 [some (.ref 0), some (.int a1), some (.int a2), some (.int a3), none, none, none] [.int v1] z_S0 h2 (zJ A)
  refine zb1_eq zM93 q93_4 (tgt := 15) rfl (fun hc => ?_) (fun hc => ?_)
  · have hw := hw.1 hc
    refine zkJ zM93 q93_15 kc11_235 ?_
    exact zrj zM93 q93_18 rfl hw
  · have hw := hw.2 hc
    refine zl zM93 q93_7 rfl ?_
    refine zl zM93 q93_8 rfl ?_
    refine zcS zM93 q93_9 ky11_250 kl11_250 (by decide) rfl (Nat.le_of_ble_eq_true rfl) zM126 (Nat.le_of_ble_eq_true rfl) (hw.mono (fun r0 h4 hr5 => ?_))
    obtain ⟨v3, rfl, hw⟩ := hr5
    show zP X (d + 1) 93 12 [some (.ref 0), some (.int a1), some (.int a2), some (.int a3), none, none, none] [.int v3] z_S0 h4 (zJ A)
    refine zb1_ne zM93 q93_12 (tgt := 19) rfl (fun hc => ?_) (fun hc => ?_)
    · have hw := hw.2 hc
      refine zkL (v := 0) zM93 q93_19 rfl ?_
      refine zl zM93 q93_20 (ls' := [some (.ref 0), some (.int a1), some (.int a2), some (.int a3), some (.long 0), none, none]) rfl ?_
      refine zkI zM93 q93_22 kI0 ?_
      refine zl zM93 q93_23 (ls' := [some (.ref 0), some (.int a1), some (.int a2), some (.int a3), some (.long 0), none, some (.int 0)]) rfl ?_
      exact hw
    · have hw := hw.1 hc
      refine zkJ zM93 q93_15 kc11_235 ?_
      exact zrj zM93 q93_18 rfl hw
theorem b93_25 {X : Option (List Int32)} {d : Nat} {h : zH} {A : Int64 → zH → Prop} {l1 : Int32} {l2 : Int32} {l3 : Int32} {l4 : Int64} {l6 : Int32} (hw : ((l6 < (h 1 10) → zP X d 15 0 (z_ent [.ref 1, .int l6, .int l1, .int l2, .int l3] 5) [] z_S0 h (zI fun v7 h8 => ((v7 = 0 → zP X (d + 1) 93 82 [some (.ref 0), some (.int l1), some (.int l2), some (.int l3), some (.long l4), none, some (.int l6)] [] z_S0 h8 (zJ A)) ∧ (¬ v7 = 0 → zP X d 92 0 (z_ent [.ref 0, .int l6, .int 0] 5) [] z_S0 h8 (zI fun v9 h11 => zP X d 92 0 (z_ent [.ref 0, .int l6, .int 1] 5) [] z_S0 h11 (zI fun v12 h14 => zP X d 214 0 (z_ent [.int 0, .int v12] 2) [] z_S0 h14 (zI fun v15 h16 => zP X (d + 1) 93 82 [some (.ref 0), some (.int l1), some (.int l2), some (.int l3), some (.long ((l4 + (Int32.toInt64 v9)) - (Int32.toInt64 v15))), none, some (.int l6)] [] z_S0 h16 (zJ A)))))))) ∧ (¬ l6 < (h 1 10) → A l4 h))) : zP X (d + 1) 93 25 [some (.ref 0), some (.int l1), some (.int l2), some (.int l3), some (.long l4), none, some (.int l6)] [] z_S0 h (zJ A) := by
  refine zl zM93 q93_25 rfl ?_
  refine zl zM93 q93_27 rfl ?_
  refine zgR (a := 1) zM93 q93_28 (by decide) g11_10 s0 rfl ?_
  refine zgI zM93 q93_31 (by decide) g11_142 s1 rfl (v := (h 1 10)) rfl ?_
  refine zb2_ge zM93 q93_34 (tgt := 88) rfl (fun hc => ?_) (fun hc => ?_)
  · have hw := hw.2 hc
    refine zl zM93 q93_88 rfl ?_
    exact zrj zM93 q93_90 rfl hw
  · have hw := hw.1 hc
    refine zl zM93 q93_37 rfl ?_
    refine zgR (a := 1) zM93 q93_38 (by decide) g11_10 s0 rfl ?_
    refine zl zM93 q93_41 rfl ?_
    refine zl zM93 q93_43 rfl ?_
    refine zl zM93 q93_44 rfl ?_
    refine zl zM93 q93_45 rfl ?_
    refine zcV zM93 q93_46 kl11_253 rfl rfl (Nat.le_of_ble_eq_true rfl) rfl zM15 (Nat.le_of_ble_eq_true rfl) (hw.mono (fun r0 h8 hr20 => ?_))
    obtain ⟨v7, rfl, hw⟩ := hr20
    show zP X (d + 1) 93 49 [some (.ref 0), some (.int l1), some (.int l2), some (.int l3), some (.long l4), none, some (.int l6)] [.int v7] z_S0 h8 (zJ A)
    refine zb1_eq zM93 q93_49 (tgt := 82) rfl (fun hc => ?_) (fun hc => ?_)
    · have hw := hw.1 hc
      exact hw
    · have hw := hw.2 hc
      refine zl zM93 q93_52 rfl ?_
      refine zl zM93 q93_54 rfl ?_
      refine zl zM93 q93_55 rfl ?_
      refine zkI zM93 q93_57 kI0 ?_
      refine zcV zM93 q93_58 kl11_237 rfl rfl (Nat.le_of_ble_eq_true rfl) rfl zM92 (Nat.le_of_ble_eq_true rfl) (hw.mono (fun r0 h11 hr19 => ?_))
      obtain ⟨v9, rfl, hw⟩ := hr19
      show zP X (d + 1) 93 61 [some (.ref 0), some (.int l1), some (.int l2), some (.int l3), some (.long l4), none, some (.int l6)] [.int v9, .long l4] z_S0 h11 (zJ A)
      refine zl zM93 q93_61 (pc' := 62) (st' := .long (Int32.toInt64 v9) :: _) rfl ?_
      refine zl zM93 q93_62 (pc' := 63) (st' := .long (l4 + (Int32.toInt64 v9)) :: _) rfl ?_
      refine zl zM93 q93_63 (ls' := [some (.ref 0), some (.int l1), some (.int l2), some (.int l3), some (.long (l4 + (Int32.toInt64 v9))), none, some (.int l6)]) rfl ?_
      refine zl zM93 q93_65 rfl ?_
      refine zkI zM93 q93_67 kI0 ?_
      refine zl zM93 q93_68 rfl ?_
      refine zl zM93 q93_69 rfl ?_
      refine zkI zM93 q93_71 kI1 ?_
      refine zcV zM93 q93_72 kl11_237 rfl rfl (Nat.le_of_ble_eq_true rfl) rfl zM92 (Nat.le_of_ble_eq_true rfl) (hw.mono (fun r0 h14 hr18 => ?_))
      obtain ⟨v12, rfl, hw⟩ := hr18
      show zP X (d + 1) 93 75 [some (.ref 0), some (.int l1), some (.int l2), some (.int l3), some (.long (l4 + (Int32.toInt64 v9))), none, some (.int l6)] [.int v12, .int 0, .long (l4 + (Int32.toInt64 v9))] z_S0 h14 (zJ A)
      refine zcS zM93 q93_75 ky11_257 kl11_257 (by decide) rfl (Nat.le_of_ble_eq_true rfl) zM214 (Nat.le_of_ble_eq_true rfl) (hw.mono (fun r0 h16 hr17 => ?_))
      obtain ⟨v15, rfl, hw⟩ := hr17
      show zP X (d + 1) 93 78 [some (.ref 0), some (.int l1), some (.int l2), some (.int l3), some (.long (l4 + (Int32.toInt64 v9))), none, some (.int l6)] [.int v15, .long (l4 + (Int32.toInt64 v9))] z_S0 h16 (zJ A)
      refine zl zM93 q93_78 (pc' := 79) (st' := .long (Int32.toInt64 v15) :: _) rfl ?_
      refine zl zM93 q93_79 (pc' := 80) (st' := .long ((l4 + (Int32.toInt64 v9)) - (Int32.toInt64 v15)) :: _) rfl ?_
      refine zl zM93 q93_80 (ls' := [some (.ref 0), some (.int l1), some (.int l2), some (.int l3), some (.long ((l4 + (Int32.toInt64 v9)) - (Int32.toInt64 v15))), none, some (.int l6)]) rfl ?_
      exact hw
theorem b93_82 {X : Option (List Int32)} {d : Nat} {h : zH} {A : Int64 → zH → Prop} {l1 : Int32} {l2 : Int32} {l3 : Int32} {l4 : Int64} {l6 : Int32} (hw : zP X (d + 1) 93 25 [some (.ref 0), some (.int l1), some (.int l2), some (.int l3), some (.long l4), none, some (.int (l6 + 1))] [] z_S0 h (zJ A)) : zP X (d + 1) 93 82 [some (.ref 0), some (.int l1), some (.int l2), some (.int l3), some (.long l4), none, some (.int l6)] [] z_S0 h (zJ A) := by
  refine zl zM93 q93_82 (ls' := [some (.ref 0), some (.int l1), some (.int l2), some (.int l3), some (.long l4), none, some (.int (l6 + 1))]) rfl ?_
  refine zl zM93 q93_85 (pc' := 25) (ls' := _) (st' := _) rfl ?_
  exact hw
-- X11_find
theorem b94 {X : Option (List Int32)} {d : Nat} {h : zH} {A : Int32 → zH → Prop} {a1 : Int32} {a2 : Int32} {a3 : Int32} (hw : zP X d 11 0 (z_ent [.ref 1, .int a1] 2) [] z_S0 h (zI fun v1 h2 => ((v1 = 0 → A (-2) h2) ∧ (¬ v1 = 0 → zP X d 123 0 (z_ent [.int a2] 1) [] z_S0 h2 (zI fun v3 h4 => ((v3 = 0 → A (-2) h4) ∧ (¬ v3 = 0 → zP X d 119 0 (z_ent [.int a3, .int 0, .int 9999] 3) [] z_S0 h4 (zI fun v5 h6 => ((v5 = 0 → A (-2) h6) ∧ (¬ v5 = 0 → (((h6 45 3) < 20 → zP X d 34 0 (z_ent [.ref 45, .int a1, .int a2, .int a3] 4) [] z_S0 h6 (zI fun v7 h9 => A v7 h9)) ∧ (¬ (h6 45 3) < 20 → A (-4) h6)))))))))))) : zP X (d + 1) 94 0 (z_ent [.ref 0, .int a1, .int a2, .int a3] 4) [] z_S0 h (zI A) := by
  show zP X (d + 1) 94 0 [some (.ref 0), some (.int a1), some (.int a2), some (.int a3)] [] z_S0 h (zI A)
  refine zl zM94 q94_0 rfl ?_
  refine zgR (a := 1) zM94 q94_1 (by decide) g11_10 s0 rfl ?_
  refine zl zM94 q94_4 rfl ?_
  refine zcV zM94 q94_5 kl11_153 rfl rfl (Nat.le_of_ble_eq_true rfl) rfl zM11 (Nat.le_of_ble_eq_true rfl) (hw.mono (fun r0 h2 hr13 => ?_))
  obtain ⟨v1, rfl, hw⟩ := hr13
  show zP X (d + 1) 94 8 [some (.ref 0), some (.int a1), some (.int a2), some (.int a3)] [.int v1] z_S0 h2 (zI A)
  refine zb1_eq zM94 q94_8 (tgt := 29) rfl (fun hc => ?_) (fun hc => ?_)
  · have hw := hw.1 hc
    refine zkB zM94 q94_29 kBm2 ?_
    exact zri zM94 q94_31 rfl rfl hw
  · have hw := hw.2 hc
    refine zl zM94 q94_11 rfl ?_
    refine zcS zM94 q94_12 ky11_262 kl11_262 (by decide) rfl (Nat.le_of_ble_eq_true rfl) zM123 (Nat.le_of_ble_eq_true rfl) (hw.mono (fun r0 h4 hr12 => ?_))
    obtain ⟨v3, rfl, hw⟩ := hr12
    show zP X (d + 1) 94 15 [some (.ref 0), some (.int a1), some (.int a2), some (.int a3)] [.int v3] z_S0 h4 (zI A)
    refine zb1_eq zM94 q94_15 (tgt := 29) rfl (fun hc => ?_) (fun hc => ?_)
    · have hw := hw.1 hc
      refine zkB zM94 q94_29 kBm2 ?_
      exact zri zM94 q94_31 rfl rfl hw
    · have hw := hw.2 hc
      refine zl zM94 q94_18 rfl ?_
      refine zkI zM94 q94_19 kI0 ?_
      refine zkS zM94 q94_20 kS9999 ?_
      refine zcS zM94 q94_23 ky11_128 kl11_128 (by decide) rfl (Nat.le_of_ble_eq_true rfl) zM119 (Nat.le_of_ble_eq_true rfl) (hw.mono (fun r0 h6 hr11 => ?_))
      obtain ⟨v5, rfl, hw⟩ := hr11
      show zP X (d + 1) 94 26 [some (.ref 0), some (.int a1), some (.int a2), some (.int a3)] [.int v5] z_S0 h6 (zI A)
      refine zb1_ne zM94 q94_26 (tgt := 32) rfl (fun hc => ?_) (fun hc => ?_)
      · have hw := hw.2 hc
        refine zl zM94 q94_32 rfl ?_
        refine zgR (a := 45) zM94 q94_33 (by decide) g11_50 s0 rfl ?_
        refine zgI zM94 q94_36 (by decide) g11_265 s45 rfl (v := (h6 45 3)) rfl ?_
        refine zkB zM94 q94_39 kB20 ?_
        refine zb2_lt zM94 q94_41 (tgt := 47) rfl (fun hc => ?_) (fun hc => ?_)
        · have hw := hw.1 hc
          refine zl zM94 q94_47 rfl ?_
          refine zgR (a := 45) zM94 q94_48 (by decide) g11_50 s0 rfl ?_
          refine zl zM94 q94_51 rfl ?_
          refine zl zM94 q94_52 rfl ?_
          refine zl zM94 q94_53 rfl ?_
          refine zcV zM94 q94_54 kl11_266 rfl rfl (Nat.le_of_ble_eq_true rfl) rfl zM34 (Nat.le_of_ble_eq_true rfl) (hw.mono (fun r0 h9 hr10 => ?_))
          obtain ⟨v7, rfl, hw⟩ := hr10
          show zP X (d + 1) 94 57 [some (.ref 0), some (.int a1), some (.int a2), some (.int a3)] [.int v7] z_S0 h9 (zI A)
          exact zri zM94 q94_57 rfl rfl hw
        · have hw := hw.2 hc
          refine zkB zM94 q94_44 kBm4 ?_
          exact zri zM94 q94_46 rfl rfl hw
      · have hw := hw.1 hc
        refine zkB zM94 q94_29 kBm2 ?_
        exact zri zM94 q94_31 rfl rfl hw
-- X11_whose
theorem b95 {X : Option (List Int32)} {d : Nat} {h : zH} {A : Int32 → zH → Prop} {a1 : Int32} (hw : zP X d 119 0 (z_ent [.int a1, .int 0, .int ((h 45 3) - 1)] 3) [] z_S0 h (zI fun v1 h2 => ((v1 = 0 → A (-2) h2) ∧ (¬ v1 = 0 → zP X d 96 0 (z_ent [.ref 0, .int a1] 2) [] z_S0 h2 (zI fun v3 h5 => A v3 h5))))) : zP X (d + 1) 95 0 (z_ent [.ref 0, .int a1] 2) [] z_S0 h (zI A) := by
  show zP X (d + 1) 95 0 [some (.ref 0), some (.int a1)] [] z_S0 h (zI A)
  refine zl zM95 q95_0 rfl ?_
  refine zkI zM95 q95_1 kI0 ?_
  refine zl zM95 q95_2 rfl ?_
  refine zgR (a := 45) zM95 q95_3 (by decide) g11_50 s0 rfl ?_
  refine zgI zM95 q95_6 (by decide) g11_265 s45 rfl (v := (h 45 3)) rfl ?_
  refine zkI zM95 q95_9 kI1 ?_
  refine zl zM95 q95_10 (pc' := 11) (st' := .int ((h 45 3) - 1) :: _) rfl ?_
  refine zcS zM95 q95_11 ky11_128 kl11_128 (by decide) rfl (Nat.le_of_ble_eq_true rfl) zM119 (Nat.le_of_ble_eq_true rfl) (hw.mono (fun r0 h2 hr7 => ?_))
  obtain ⟨v1, rfl, hw⟩ := hr7
  show zP X (d + 1) 95 14 [some (.ref 0), some (.int a1)] [.int v1] z_S0 h2 (zI A)
  refine zb1_eq zM95 q95_14 (tgt := 25) rfl (fun hc => ?_) (fun hc => ?_)
  · have hw := hw.1 hc
    refine zkB zM95 q95_25 kBm2 ?_
    exact zri zM95 q95_27 rfl rfl hw
  · have hw := hw.2 hc
    refine zl zM95 q95_17 rfl ?_
    refine zl zM95 q95_18 rfl ?_
    refine zcV zM95 q95_19 kl11_268 rfl rfl (Nat.le_of_ble_eq_true rfl) rfl zM96 (Nat.le_of_ble_eq_true rfl) (hw.mono (fun r0 h5 hr6 => ?_))
    obtain ⟨v3, rfl, hw⟩ := hr6
    show zP X (d + 1) 95 22 [some (.ref 0), some (.int a1)] [.int v3] z_S0 h5 (zI A)
    refine zl zM95 q95_22 (pc' := 27) (ls' := _) (st' := _) rfl ?_
    exact zri zM95 q95_27 rfl rfl hw
-- X11_ownerOf
theorem b96 {X : Option (List Int32)} {d : Nat} {h : zH} {A : Int32 → zH → Prop} {a1 : Int32} (hw : (z_ib a1 20 ∧ zP X d 92 0 (z_ent [.ref 0, .int (h 46 (Int32.toNatClampNeg a1)), .int 2] 5) [] z_S0 h (zI fun v1 h3 => zP X d 213 0 (z_ent [.int v1, .int 3] 3) [] z_S0 h3 (zI fun v4 h5 => A v4 h5)))) : zP X (d + 1) 96 0 (z_ent [.ref 0, .int a1] 2) [] z_S0 h (zI A) := by
  show zP X (d + 1) 96 0 [some (.ref 0), some (.int a1)] [] z_S0 h (zI A)
  refine zl zM96 q96_0 rfl ?_
  refine zl zM96 q96_1 rfl ?_
  refine zgR (a := 45) zM96 q96_2 (by decide) g11_50 s0 rfl ?_
  refine zgR (a := 46) zM96 q96_5 (by decide) g11_271 s45 rfl ?_
  refine zl zM96 q96_8 rfl ?_
  obtain ⟨hb, hw⟩ := hw
  refine ziA zM96 q96_9 (by decide) s46 hb (v := (h 46 (Int32.toNatClampNeg a1))) rfl ?_
  refine zkI zM96 q96_10 kI2 ?_
  refine zcV zM96 q96_11 kl11_237 rfl rfl (Nat.le_of_ble_eq_true rfl) rfl zM92 (Nat.le_of_ble_eq_true rfl) (hw.mono (fun r0 h3 hr7 => ?_))
  obtain ⟨v1, rfl, hw⟩ := hr7
  show zP X (d + 1) 96 14 [some (.ref 0), some (.int a1)] [.int v1] z_S0 h3 (zI A)
  refine zkI zM96 q96_14 kI3 ?_
  refine zcS zM96 q96_15 ky11_274 kl11_274 (by decide) rfl (Nat.le_of_ble_eq_true rfl) zM213 (Nat.le_of_ble_eq_true rfl) (hw.mono (fun r0 h5 hr6 => ?_))
  obtain ⟨v4, rfl, hw⟩ := hr6
  show zP X (d + 1) 96 18 [some (.ref 0), some (.int a1)] [.int v4] z_S0 h5 (zI A)
  exact zri zM96 q96_18 rfl rfl hw
-- X11_finds
theorem b97 {X : Option (List Int32)} {d : Nat} {h : zH} {A : Int64 → zH → Prop} {a1 : Int32} (hw : zP X d 119 0 (z_ent [.int a1, .int 0, .int 16] 3) [] z_S0 h (zI fun v1 h2 => ((v1 = 0 → A (-4611686018427387904) h2) ∧ (¬ v1 = 0 → zP X (d + 1) 97 19 [some (.ref 0), some (.int a1), some (.long 0), none, some (.int 0)] [] z_S0 h2 (zJ A))))) : zP X (d + 1) 97 0 (z_ent [.ref 0, .int a1] 5) [] z_S0 h (zJ A) := by
  show zP X (d + 1) 97 0 [some (.ref 0), some (.int a1), none, none, none] [] z_S0 h (zJ A)
  refine zl zM97 q97_0 rfl ?_
  refine zkI zM97 q97_1 kI0 ?_
  refine zkB zM97 q97_2 kB16 ?_
  refine zcS zM97 q97_4 ky11_128 kl11_128 (by decide) rfl (Nat.le_of_ble_eq_true rfl) zM119 (Nat.le_of_ble_eq_true rfl) (hw.mono (fun r0 h2 hr3 => ?_))
  obtain ⟨v1, rfl, hw⟩ := hr3
  show zP X (d + 1) 97 7 [some (.ref 0), some (.int a1), none, none, none] [.int v1] z_S0 h2 (zJ A)
  refine zb1_ne zM97 q97_7 (tgt := 14) rfl (fun hc => ?_) (fun hc => ?_)
  · have hw := hw.2 hc
    refine zkL (v := 0) zM97 q97_14 rfl ?_
    refine zl zM97 q97_15 (ls' := [some (.ref 0), some (.int a1), some (.long 0), none, none]) rfl ?_
    refine zkI zM97 q97_16 kI0 ?_
    refine zl zM97 q97_17 (ls' := [some (.ref 0), some (.int a1), some (.long 0), none, some (.int 0)]) rfl ?_
    exact hw
  · have hw := hw.1 hc
    refine zkJ zM97 q97_10 kc11_235 ?_
    exact zrj zM97 q97_13 rfl hw
theorem b97_19 {X : Option (List Int32)} {d : Nat} {h : zH} {A : Int64 → zH → Prop} {l1 : Int32} {l2 : Int64} {l4 : Int32} (hw : ((l4 < (h 45 3) → zP X d 98 0 (z_ent [.ref 0, .int l4] 3) [] z_S0 h (zI fun v4 h6 => ((v4 = l1 → (z_ib l4 20 ∧ zP X (d + 1) 97 55 [some (.ref 0), some (.int l1), some (.long (l2 + (Int32.toInt64 (h6 48 (Int32.toNatClampNeg l4))))), none, some (.int l4)] [] z_S0 h6 (zJ A))) ∧ (¬ v4 = l1 → zP X (d + 1) 97 55 [some (.ref 0), some (.int l1), some (.long l2), none, some (.int l4)] [] z_S0 h6 (zJ A))))) ∧ (¬ l4 < (h 45 3) → A l2 h))) : zP X (d + 1) 97 19 [some (.ref 0), some (.int l1), some (.long l2), none, some (.int l4)] [] z_S0 h (zJ A) := by
  refine zl zM97 q97_19 rfl ?_
  refine zl zM97 q97_21 rfl ?_
  refine zgR (a := 45) zM97 q97_22 (by decide) g11_50 s0 rfl ?_
  refine zgI zM97 q97_25 (by decide) g11_265 s45 rfl (v := (h 45 3)) rfl ?_
  refine zb2_ge zM97 q97_28 (tgt := 61) rfl (fun hc => ?_) (fun hc => ?_)
  · have hw := hw.2 hc
    refine zl zM97 q97_61 rfl ?_
    exact zrj zM97 q97_62 rfl hw
  · have hw := hw.1 hc
    refine zl zM97 q97_31 rfl ?_
    refine zl zM97 q97_32 rfl ?_
    refine zcV zM97 q97_34 kl11_277 rfl rfl (Nat.le_of_ble_eq_true rfl) rfl zM98 (Nat.le_of_ble_eq_true rfl) (hw.mono (fun r0 h6 hr7 => ?_))
    obtain ⟨v4, rfl, hw⟩ := hr7
    show zP X (d + 1) 97 37 [some (.ref 0), some (.int l1), some (.long l2), none, some (.int l4)] [.int v4] z_S0 h6 (zJ A)
    refine zl zM97 q97_37 rfl ?_
    refine zb2_ne zM97 q97_38 (tgt := 55) rfl (fun hc => ?_) (fun hc => ?_)
    · have hw := hw.2 hc
      exact hw
    · have hw := hw.1 hc
      refine zl zM97 q97_41 rfl ?_
      refine zl zM97 q97_42 rfl ?_
      refine zgR (a := 45) zM97 q97_43 (by decide) g11_50 s0 rfl ?_
      refine zgR (a := 48) zM97 q97_46 (by decide) g11_280 s45 rfl ?_
      refine zl zM97 q97_49 rfl ?_
      obtain ⟨hb, hw⟩ := hw
      refine ziA zM97 q97_51 (by decide) s48 hb (v := (h6 48 (Int32.toNatClampNeg l4))) rfl ?_
      refine zl zM97 q97_52 (pc' := 53) (st' := .long (Int32.toInt64 (h6 48 (Int32.toNatClampNeg l4))) :: _) rfl ?_
      refine zl zM97 q97_53 (pc' := 54) (st' := .long (l2 + (Int32.toInt64 (h6 48 (Int32.toNatClampNeg l4)))) :: _) rfl ?_
      refine zl zM97 q97_54 (ls' := [some (.ref 0), some (.int l1), some (.long (l2 + (Int32.toInt64 (h6 48 (Int32.toNatClampNeg l4))))), none, some (.int l4)]) rfl ?_
      exact hw
theorem b97_55 {X : Option (List Int32)} {d : Nat} {h : zH} {A : Int64 → zH → Prop} {l1 : Int32} {l2 : Int64} {l4 : Int32} (hw : zP X (d + 1) 97 19 [some (.ref 0), some (.int l1), some (.long l2), none, some (.int (l4 + 1))] [] z_S0 h (zJ A)) : zP X (d + 1) 97 55 [some (.ref 0), some (.int l1), some (.long l2), none, some (.int l4)] [] z_S0 h (zJ A) := by
  refine zl zM97 q97_55 (ls' := [some (.ref 0), some (.int l1), some (.long l2), none, some (.int (l4 + 1))]) rfl ?_
  refine zl zM97 q97_58 (pc' := 19) (ls' := _) (st' := _) rfl ?_
  exact hw
-- X11_holderOf
theorem b98 {X : Option (List Int32)} {d : Nat} {h : zH} {A : Int32 → zH → Prop} {a1 : Int32} (hw : zP X d 96 0 (z_ent [.ref 0, .int a1] 2) [] z_S0 h (zI fun v1 h3 => ((v1 = 0 → (z_ib a1 20 ∧ A (h3 47 (Int32.toNatClampNeg a1)) h3)) ∧ (¬ v1 = 0 → ((v1 = 1 → A 10 h3) ∧ (¬ v1 = 1 → (z_ib a1 20 ∧ (z_ib (h3 46 (Int32.toNatClampNeg a1)) 40 ∧ A (11 + (h3 3 (Int32.toNatClampNeg (h3 46 (Int32.toNatClampNeg a1))))) h3)))))))) : zP X (d + 1) 98 0 (z_ent [.ref 0, .int a1] 3) [] z_S0 h (zI A) := by
  show zP X (d + 1) 98 0 [some (.ref 0), some (.int a1), none] [] z_S0 h (zI A)
  refine zl zM98 q98_0 rfl ?_
  refine zl zM98 q98_1 rfl ?_
  refine zcV zM98 q98_2 kl11_268 rfl rfl (Nat.le_of_ble_eq_true rfl) rfl zM96 (Nat.le_of_ble_eq_true rfl) (hw.mono (fun r0 h3 hr4 => ?_))
  obtain ⟨v1, rfl, hw⟩ := hr4
  show zP X (d + 1) 98 5 [some (.ref 0), some (.int a1), none] [.int v1] z_S0 h3 (zI A)
  refine zl zM98 q98_5 (ls' := [some (.ref 0), some (.int a1), some (.int v1)]) rfl ?_
  refine zl zM98 q98_6 rfl ?_
  refine zb1_ne zM98 q98_7 (tgt := 20) rfl (fun hc => ?_) (fun hc => ?_)
  · have hw := hw.2 hc
    refine zl zM98 q98_20 rfl ?_
    refine zkI zM98 q98_21 kI1 ?_
    refine zb2_ne zM98 q98_22 (tgt := 30) rfl (fun hc => ?_) (fun hc => ?_)
    · have hw := hw.2 hc
      refine zkB zM98 q98_30 kB11 ?_
      refine zl zM98 q98_32 rfl ?_
      refine zgR (a := 1) zM98 q98_33 (by decide) g11_10 s0 rfl ?_
      refine zgR (a := 3) zM98 q98_36 (by decide) g11_159 s1 rfl ?_
      refine zl zM98 q98_39 rfl ?_
      refine zgR (a := 45) zM98 q98_40 (by decide) g11_50 s0 rfl ?_
      refine zgR (a := 46) zM98 q98_43 (by decide) g11_271 s45 rfl ?_
      refine zl zM98 q98_46 rfl ?_
      obtain ⟨hb, hw⟩ := hw
      refine ziA zM98 q98_47 (by decide) s46 hb (v := (h3 46 (Int32.toNatClampNeg a1))) rfl ?_
      obtain ⟨hb, hw⟩ := hw
      refine ziA zM98 q98_48 (by decide) s3 hb (v := (h3 3 (Int32.toNatClampNeg (h3 46 (Int32.toNatClampNeg a1))))) rfl ?_
      refine zl zM98 q98_49 (pc' := 50) (st' := .int (11 + (h3 3 (Int32.toNatClampNeg (h3 46 (Int32.toNatClampNeg a1))))) :: _) rfl ?_
      exact zri zM98 q98_50 rfl rfl hw
    · have hw := hw.1 hc
      refine zkB zM98 q98_25 kB10 ?_
      refine zl zM98 q98_27 (pc' := 50) (ls' := _) (st' := _) rfl ?_
      exact zri zM98 q98_50 rfl rfl hw
  · have hw := hw.1 hc
    refine zl zM98 q98_10 rfl ?_
    refine zgR (a := 45) zM98 q98_11 (by decide) g11_50 s0 rfl ?_
    refine zgR (a := 47) zM98 q98_14 (by decide) g11_283 s45 rfl ?_
    refine zl zM98 q98_17 rfl ?_
    obtain ⟨hb, hw⟩ := hw
    refine ziA zM98 q98_18 (by decide) s47 hb (v := (h3 47 (Int32.toNatClampNeg a1))) rfl ?_
    exact zri zM98 q98_19 rfl rfl hw
-- X11_door
theorem b99 {X : Option (List Int32)} {d : Nat} {h : zH} {A : Int32 → zH → Prop} {a1 : Int32} {a2 : Int32} {a3 : Int32} {a4 : Int32} (hw : zP X d 120 0 (z_ent [.int a1] 1) [] z_S0 h (zI fun v1 h2 => ((v1 = 0 → A (-2) h2) ∧ (¬ v1 = 0 → zP X d 119 0 (z_ent [.int a2, .int 1, .int 999] 3) [] z_S0 h2 (zI fun v3 h4 => ((v3 = 0 → A (-2) h4) ∧ (¬ v3 = 0 → zP X d 119 0 (z_ent [.int a3, .int 0, .int 5] 3) [] z_S0 h4 (zI fun v5 h6 => ((v5 = 0 → A (-2) h6) ∧ (¬ v5 = 0 → zP X d 119 0 (z_ent [.int a4, .int 0, .int 9999] 3) [] z_S0 h6 (zI fun v7 h8 => ((v7 = 0 → A (-2) h8) ∧ (¬ v7 = 0 → (((h8 49 8) < 12 → zP X d 26 0 (z_ent [.ref 49, .int a1, .int a2, .int a3, .int a4] 5) [] z_S0 h8 (zI fun v9 h11 => A v9 h11)) ∧ (¬ (h8 49 8) < 12 → A (-4) h8))))))))))))))) : zP X (d + 1) 99 0 (z_ent [.ref 0, .int a1, .int a2, .int a3, .int a4] 5) [] z_S0 h (zI A) := by
  show zP X (d + 1) 99 0 [some (.ref 0), some (.int a1), some (.int a2), some (.int a3), some (.int a4)] [] z_S0 h (zI A)
  refine zl zM99 q99_0 rfl ?_
  refine zcS zM99 q99_1 ky11_135 kl11_135 (by decide) rfl (Nat.le_of_ble_eq_true rfl) zM120 (Nat.le_of_ble_eq_true rfl) (hw.mono (fun r0 h2 hr16 => ?_))
  obtain ⟨v1, rfl, hw⟩ := hr16
  show zP X (d + 1) 99 4 [some (.ref 0), some (.int a1), some (.int a2), some (.int a3), some (.int a4)] [.int v1] z_S0 h2 (zI A)
  refine zb1_eq zM99 q99_4 (tgt := 18) rfl (fun hc => ?_) (fun hc => ?_)
  · have hw := hw.1 hc
    refine zkB zM99 q99_18 kBm2 ?_
    exact zri zM99 q99_20 rfl rfl hw
  · have hw := hw.2 hc
    refine zl zM99 q99_7 rfl ?_
    refine zkI zM99 q99_8 kI1 ?_
    refine zkS zM99 q99_9 kS999 ?_
    refine zcS zM99 q99_12 ky11_128 kl11_128 (by decide) rfl (Nat.le_of_ble_eq_true rfl) zM119 (Nat.le_of_ble_eq_true rfl) (hw.mono (fun r0 h4 hr15 => ?_))
    obtain ⟨v3, rfl, hw⟩ := hr15
    show zP X (d + 1) 99 15 [some (.ref 0), some (.int a1), some (.int a2), some (.int a3), some (.int a4)] [.int v3] z_S0 h4 (zI A)
    refine zb1_ne zM99 q99_15 (tgt := 21) rfl (fun hc => ?_) (fun hc => ?_)
    · have hw := hw.2 hc
      refine zl zM99 q99_21 rfl ?_
      refine zkI zM99 q99_22 kI0 ?_
      refine zkI zM99 q99_23 kI5 ?_
      refine zcS zM99 q99_24 ky11_128 kl11_128 (by decide) rfl (Nat.le_of_ble_eq_true rfl) zM119 (Nat.le_of_ble_eq_true rfl) (hw.mono (fun r0 h6 hr14 => ?_))
      obtain ⟨v5, rfl, hw⟩ := hr14
      show zP X (d + 1) 99 27 [some (.ref 0), some (.int a1), some (.int a2), some (.int a3), some (.int a4)] [.int v5] z_S0 h6 (zI A)
      refine zb1_eq zM99 q99_27 (tgt := 42) rfl (fun hc => ?_) (fun hc => ?_)
      · have hw := hw.1 hc
        refine zkB zM99 q99_42 kBm2 ?_
        exact zri zM99 q99_44 rfl rfl hw
      · have hw := hw.2 hc
        refine zl zM99 q99_30 rfl ?_
        refine zkI zM99 q99_32 kI0 ?_
        refine zkS zM99 q99_33 kS9999 ?_
        refine zcS zM99 q99_36 ky11_128 kl11_128 (by decide) rfl (Nat.le_of_ble_eq_true rfl) zM119 (Nat.le_of_ble_eq_true rfl) (hw.mono (fun r0 h8 hr13 => ?_))
        obtain ⟨v7, rfl, hw⟩ := hr13
        show zP X (d + 1) 99 39 [some (.ref 0), some (.int a1), some (.int a2), some (.int a3), some (.int a4)] [.int v7] z_S0 h8 (zI A)
        refine zb1_ne zM99 q99_39 (tgt := 45) rfl (fun hc => ?_) (fun hc => ?_)
        · have hw := hw.2 hc
          refine zl zM99 q99_45 rfl ?_
          refine zgR (a := 49) zM99 q99_46 (by decide) g11_57 s0 rfl ?_
          refine zgI zM99 q99_49 (by decide) g11_286 s49 rfl (v := (h8 49 8)) rfl ?_
          refine zkB zM99 q99_52 kB12 ?_
          refine zb2_lt zM99 q99_54 (tgt := 60) rfl (fun hc => ?_) (fun hc => ?_)
          · have hw := hw.1 hc
            refine zl zM99 q99_60 rfl ?_
            refine zgR (a := 49) zM99 q99_61 (by decide) g11_57 s0 rfl ?_
            refine zl zM99 q99_64 rfl ?_
            refine zl zM99 q99_65 rfl ?_
            refine zl zM99 q99_66 rfl ?_
            refine zl zM99 q99_67 rfl ?_
            refine zcV zM99 q99_69 kl11_287 rfl rfl (Nat.le_of_ble_eq_true rfl) rfl zM26 (Nat.le_of_ble_eq_true rfl) (hw.mono (fun r0 h11 hr12 => ?_))
            obtain ⟨v9, rfl, hw⟩ := hr12
            show zP X (d + 1) 99 72 [some (.ref 0), some (.int a1), some (.int a2), some (.int a3), some (.int a4)] [.int v9] z_S0 h11 (zI A)
            exact zri zM99 q99_72 rfl rfl hw
          · have hw := hw.2 hc
            refine zkB zM99 q99_57 kBm4 ?_
            exact zri zM99 q99_59 rfl rfl hw
        · have hw := hw.1 hc
          refine zkB zM99 q99_42 kBm2 ?_
          exact zri zM99 q99_44 rfl rfl hw
    · have hw := hw.1 hc
      refine zkB zM99 q99_18 kBm2 ?_
      exact zri zM99 q99_20 rfl rfl hw
-- X11_miss
theorem b100 {X : Option (List Int32)} {d : Nat} {h : zH} {A : Int32 → zH → Prop} {a1 : Int32} (hw : zP X d 119 0 (z_ent [.int a1, .int 0, .int ((h 49 8) - 1)] 3) [] z_S0 h (zI fun v1 h2 => ((v1 = 0 → A (-2) h2) ∧ (¬ v1 = 0 → (z_ib a1 12 ∧ (((h2 52 (Int32.toNatClampNeg a1)) = ((h2 0 16) - (h2 0 16) / 6 * 6) → zP X d 27 0 (z_ent [.ref 49, .int a1, .int (h2 0 16)] 4) [] z_S0 h2 (zI fun v3 h4 => ((v3 = 0 → (((h4 49 9) < 60 → zP X d 28 0 (z_ent [.ref 49, .int a1, .int (h4 0 16)] 3) [] z_S0 h4 (zV fun h7 => (z_ib a1 12 ∧ zP X d 29 0 (z_ent [.ref 49, .int (h7 50 (Int32.toNatClampNeg a1)), .int (h7 0 16)] 5) [] z_S0 h7 (zI fun v8 h9 => A v8 h9)))) ∧ (¬ (h4 49 9) < 60 → A (-4) h4))) ∧ (¬ v3 = 0 → A (-3) h4)))) ∧ (¬ (h2 52 (Int32.toNatClampNeg a1)) = ((h2 0 16) - (h2 0 16) / 6 * 6) → A (-3) h2))))))) : zP X (d + 1) 100 0 (z_ent [.ref 0, .int a1] 2) [] z_S0 h (zI A) := by
  show zP X (d + 1) 100 0 [some (.ref 0), some (.int a1)] [] z_S0 h (zI A)
  refine zl zM100 q100_0 rfl ?_
  refine zkI zM100 q100_1 kI0 ?_
  refine zl zM100 q100_2 rfl ?_
  refine zgR (a := 49) zM100 q100_3 (by decide) g11_57 s0 rfl ?_
  refine zgI zM100 q100_6 (by decide) g11_286 s49 rfl (v := (h 49 8)) rfl ?_
  refine zkI zM100 q100_9 kI1 ?_
  refine zl zM100 q100_10 (pc' := 11) (st' := .int ((h 49 8) - 1) :: _) rfl ?_
  refine zcS zM100 q100_11 ky11_128 kl11_128 (by decide) rfl (Nat.le_of_ble_eq_true rfl) zM119 (Nat.le_of_ble_eq_true rfl) (hw.mono (fun r0 h2 hr13 => ?_))
  obtain ⟨v1, rfl, hw⟩ := hr13
  show zP X (d + 1) 100 14 [some (.ref 0), some (.int a1)] [.int v1] z_S0 h2 (zI A)
  refine zb1_ne zM100 q100_14 (tgt := 20) rfl (fun hc => ?_) (fun hc => ?_)
  · have hw := hw.2 hc
    refine zl zM100 q100_20 rfl ?_
    refine zgR (a := 49) zM100 q100_21 (by decide) g11_57 s0 rfl ?_
    refine zgR (a := 52) zM100 q100_24 (by decide) g11_289 s49 rfl ?_
    refine zl zM100 q100_27 rfl ?_
    obtain ⟨hb, hw⟩ := hw
    refine ziA zM100 q100_28 (by decide) s52 hb (v := (h2 52 (Int32.toNatClampNeg a1))) rfl ?_
    refine zl zM100 q100_29 rfl ?_
    refine zgI zM100 q100_30 (by decide) g11_132 s0 rfl (v := (h2 0 16)) rfl ?_
    refine zkB zM100 q100_33 kB6 ?_
    refine zl zM100 q100_35 (pc' := 36) (st' := .int ((h2 0 16) - (h2 0 16) / 6 * 6) :: _) rfl ?_
    refine zb2_ne zM100 q100_36 (tgt := 54) rfl (fun hc => ?_) (fun hc => ?_)
    · have hw := hw.2 hc
      refine zkB zM100 q100_54 kBm3 ?_
      exact zri zM100 q100_56 rfl rfl hw
    · have hw := hw.1 hc
      refine zl zM100 q100_39 rfl ?_
      refine zgR (a := 49) zM100 q100_40 (by decide) g11_57 s0 rfl ?_
      refine zl zM100 q100_43 rfl ?_
      refine zl zM100 q100_44 rfl ?_
      refine zgI zM100 q100_45 (by decide) g11_132 s0 rfl (v := (h2 0 16)) rfl ?_
      refine zcV zM100 q100_48 kl11_292 rfl rfl (Nat.le_of_ble_eq_true rfl) rfl zM27 (Nat.le_of_ble_eq_true rfl) (hw.mono (fun r0 h4 hr12 => ?_))
      obtain ⟨v3, rfl, hw⟩ := hr12
      show zP X (d + 1) 100 51 [some (.ref 0), some (.int a1)] [.int v3] z_S0 h4 (zI A)
      refine zb1_eq zM100 q100_51 (tgt := 57) rfl (fun hc => ?_) (fun hc => ?_)
      · have hw := hw.1 hc
        refine zl zM100 q100_57 rfl ?_
        refine zgR (a := 49) zM100 q100_58 (by decide) g11_57 s0 rfl ?_
        refine zgI zM100 q100_61 (by decide) g11_295 s49 rfl (v := (h4 49 9)) rfl ?_
        refine zkB zM100 q100_64 kB60 ?_
        refine zb2_lt zM100 q100_66 (tgt := 72) rfl (fun hc => ?_) (fun hc => ?_)
        · have hw := hw.1 hc
          refine zl zM100 q100_72 rfl ?_
          refine zgR (a := 49) zM100 q100_73 (by decide) g11_57 s0 rfl ?_
          refine zl zM100 q100_76 rfl ?_
          refine zl zM100 q100_77 rfl ?_
          refine zgI zM100 q100_78 (by decide) g11_132 s0 rfl (v := (h4 0 16)) rfl ?_
          refine zcV zM100 q100_81 kl11_298 rfl rfl (Nat.le_of_ble_eq_true rfl) rfl zM28 (Nat.le_of_ble_eq_true rfl) (hw.mono (fun r0 h7 hr11 => ?_))
          obtain ⟨rfl, hw⟩ := hr11
          show zP X (d + 1) 100 84 [some (.ref 0), some (.int a1)] [] z_S0 h7 (zI A)
          refine zl zM100 q100_84 rfl ?_
          refine zgR (a := 49) zM100 q100_85 (by decide) g11_57 s0 rfl ?_
          refine zl zM100 q100_88 rfl ?_
          refine zgR (a := 49) zM100 q100_89 (by decide) g11_57 s0 rfl ?_
          refine zgR (a := 50) zM100 q100_92 (by decide) g11_302 s49 rfl ?_
          refine zl zM100 q100_95 rfl ?_
          obtain ⟨hb, hw⟩ := hw
          refine ziA zM100 q100_96 (by decide) s50 hb (v := (h7 50 (Int32.toNatClampNeg a1))) rfl ?_
          refine zl zM100 q100_97 rfl ?_
          refine zgI zM100 q100_98 (by decide) g11_132 s0 rfl (v := (h7 0 16)) rfl ?_
          refine zcV zM100 q100_101 kl11_243 rfl rfl (Nat.le_of_ble_eq_true rfl) rfl zM29 (Nat.le_of_ble_eq_true rfl) (hw.mono (fun r0 h9 hr10 => ?_))
          obtain ⟨v8, rfl, hw⟩ := hr10
          show zP X (d + 1) 100 104 [some (.ref 0), some (.int a1)] [.int v8] z_S0 h9 (zI A)
          exact zri zM100 q100_104 rfl rfl hw
        · have hw := hw.2 hc
          refine zkB zM100 q100_69 kBm4 ?_
          exact zri zM100 q100_71 rfl rfl hw
      · have hw := hw.2 hc
        refine zkB zM100 q100_54 kBm3 ?_
        exact zri zM100 q100_56 rfl rfl hw
  · have hw := hw.1 hc
    refine zkB zM100 q100_17 kBm2 ?_
    exact zri zM100 q100_19 rfl rfl hw
-- X11_rounds
theorem b101 {X : Option (List Int32)} {d : Nat} {h : zH} {A : Int32 → zH → Prop} {a1 : Int32} {a2 : Int32} {a3 : Int32} (hw : zP X d 119 0 (z_ent [.int a1, .int 0, .int 5] 3) [] z_S0 h (zI fun v1 h2 => ((v1 = 0 → A (-2) h2) ∧ (¬ v1 = 0 → zP X d 119 0 (z_ent [.int a2, .int 1, .int 9999] 3) [] z_S0 h2 (zI fun v3 h4 => ((v3 = 0 → A (-2) h4) ∧ (¬ v3 = 0 → zP X d 119 0 (z_ent [.int a3, .int 0, .int 99999] 3) [] z_S0 h4 (zI fun v5 h6 => ((v5 = 0 → A (-2) h6) ∧ (¬ v5 = 0 → zP X d 30 0 (z_ent [.ref 49, .int a1, .int a2, .int a3] 7) [] z_S0 h6 (zI fun v7 h9 => A v7 h9))))))))))) : zP X (d + 1) 101 0 (z_ent [.ref 0, .int a1, .int a2, .int a3] 4) [] z_S0 h (zI A) := by
  show zP X (d + 1) 101 0 [some (.ref 0), some (.int a1), some (.int a2), some (.int a3)] [] z_S0 h (zI A)
  refine zl zM101 q101_0 rfl ?_
  refine zkI zM101 q101_1 kI0 ?_
  refine zkI zM101 q101_2 kI5 ?_
  refine zcS zM101 q101_3 ky11_128 kl11_128 (by decide) rfl (Nat.le_of_ble_eq_true rfl) zM119 (Nat.le_of_ble_eq_true rfl) (hw.mono (fun r0 h2 hr13 => ?_))
  obtain ⟨v1, rfl, hw⟩ := hr13
  show zP X (d + 1) 101 6 [some (.ref 0), some (.int a1), some (.int a2), some (.int a3)] [.int v1] z_S0 h2 (zI A)
  refine zb1_eq zM101 q101_6 (tgt := 20) rfl (fun hc => ?_) (fun hc => ?_)
  · have hw := hw.1 hc
    refine zkB zM101 q101_20 kBm2 ?_
    exact zri zM101 q101_22 rfl rfl hw
  · have hw := hw.2 hc
    refine zl zM101 q101_9 rfl ?_
    refine zkI zM101 q101_10 kI1 ?_
    refine zkS zM101 q101_11 kS9999 ?_
    refine zcS zM101 q101_14 ky11_128 kl11_128 (by decide) rfl (Nat.le_of_ble_eq_true rfl) zM119 (Nat.le_of_ble_eq_true rfl) (hw.mono (fun r0 h4 hr12 => ?_))
    obtain ⟨v3, rfl, hw⟩ := hr12
    show zP X (d + 1) 101 17 [some (.ref 0), some (.int a1), some (.int a2), some (.int a3)] [.int v3] z_S0 h4 (zI A)
    refine zb1_ne zM101 q101_17 (tgt := 23) rfl (fun hc => ?_) (fun hc => ?_)
    · have hw := hw.2 hc
      refine zl zM101 q101_23 rfl ?_
      refine zkI zM101 q101_24 kI0 ?_
      refine zkC zM101 q101_25 kc11_188 ?_
      refine zcS zM101 q101_27 ky11_128 kl11_128 (by decide) rfl (Nat.le_of_ble_eq_true rfl) zM119 (Nat.le_of_ble_eq_true rfl) (hw.mono (fun r0 h6 hr11 => ?_))
      obtain ⟨v5, rfl, hw⟩ := hr11
      show zP X (d + 1) 101 30 [some (.ref 0), some (.int a1), some (.int a2), some (.int a3)] [.int v5] z_S0 h6 (zI A)
      refine zb1_eq zM101 q101_30 (tgt := 46) rfl (fun hc => ?_) (fun hc => ?_)
      · have hw := hw.1 hc
        refine zkB zM101 q101_46 kBm2 ?_
        exact zri zM101 q101_48 rfl rfl hw
      · have hw := hw.2 hc
        refine zl zM101 q101_33 rfl ?_
        refine zgR (a := 49) zM101 q101_34 (by decide) g11_57 s0 rfl ?_
        refine zl zM101 q101_37 rfl ?_
        refine zl zM101 q101_38 rfl ?_
        refine zl zM101 q101_39 rfl ?_
        refine zcV zM101 q101_40 kl11_303 rfl rfl (Nat.le_of_ble_eq_true rfl) rfl zM30 (Nat.le_of_ble_eq_true rfl) (hw.mono (fun r0 h9 hr10 => ?_))
        obtain ⟨v7, rfl, hw⟩ := hr10
        show zP X (d + 1) 101 43 [some (.ref 0), some (.int a1), some (.int a2), some (.int a3)] [.int v7] z_S0 h9 (zI A)
        refine zl zM101 q101_43 (pc' := 48) (ls' := _) (st' := _) rfl ?_
        exact zri zM101 q101_48 rfl rfl hw
    · have hw := hw.1 hc
      refine zkB zM101 q101_20 kBm2 ?_
      exact zri zM101 q101_22 rfl rfl hw
-- X11_row
theorem b102 {X : Option (List Int32)} {d : Nat} {h : zH} {A : Int32 → zH → Prop} {a1 : Int32} {a2 : Int32} (hw : zP X d 119 0 (z_ent [.int a1, .int 0, .int 999] 3) [] z_S0 h (zI fun v1 h2 => ((v1 = 0 → A (-2) h2) ∧ (¬ v1 = 0 → zP X d 119 0 (z_ent [.int a2, .int 0, .int 999] 3) [] z_S0 h2 (zI fun v3 h4 => ((v3 = 0 → A (-2) h4) ∧ (¬ v3 = 0 → (((h4 0 15) < 5 → (z_ib (h4 0 15) 5 ∧ (z_ib (h4 0 15) 5 ∧ A (((h4 0 15) + 1) - 1) (z_up (z_up (z_up h4 58 (Int32.toNatClampNeg (h4 0 15)) a1) 59 (Int32.toNatClampNeg (h4 0 15)) a2) 0 15 ((h4 0 15) + 1))))) ∧ (¬ (h4 0 15) < 5 → A (-4) h4))))))))) : zP X (d + 1) 102 0 (z_ent [.ref 0, .int a1, .int a2] 3) [] z_S0 h (zI A) := by
  show zP X (d + 1) 102 0 [some (.ref 0), some (.int a1), some (.int a2)] [] z_S0 h (zI A)
  refine zl zM102 q102_0 rfl ?_
  refine zkI zM102 q102_1 kI0 ?_
  refine zkS zM102 q102_2 kS999 ?_
  refine zcS zM102 q102_5 ky11_128 kl11_128 (by decide) rfl (Nat.le_of_ble_eq_true rfl) zM119 (Nat.le_of_ble_eq_true rfl) (hw.mono (fun r0 h2 hr6 => ?_))
  obtain ⟨v1, rfl, hw⟩ := hr6
  show zP X (d + 1) 102 8 [some (.ref 0), some (.int a1), some (.int a2)] [.int v1] z_S0 h2 (zI A)
  refine zb1_eq zM102 q102_8 (tgt := 22) rfl (fun hc => ?_) (fun hc => ?_)
  · have hw := hw.1 hc
    refine zkB zM102 q102_22 kBm2 ?_
    exact zri zM102 q102_24 rfl rfl hw
  · have hw := hw.2 hc
    refine zl zM102 q102_11 rfl ?_
    refine zkI zM102 q102_12 kI0 ?_
    refine zkS zM102 q102_13 kS999 ?_
    refine zcS zM102 q102_16 ky11_128 kl11_128 (by decide) rfl (Nat.le_of_ble_eq_true rfl) zM119 (Nat.le_of_ble_eq_true rfl) (hw.mono (fun r0 h4 hr5 => ?_))
    obtain ⟨v3, rfl, hw⟩ := hr5
    show zP X (d + 1) 102 19 [some (.ref 0), some (.int a1), some (.int a2)] [.int v3] z_S0 h4 (zI A)
    refine zb1_ne zM102 q102_19 (tgt := 25) rfl (fun hc => ?_) (fun hc => ?_)
    · have hw := hw.2 hc
      refine zl zM102 q102_25 rfl ?_
      refine zgI zM102 q102_26 (by decide) g11_306 s0 rfl (v := (h4 0 15)) rfl ?_
      refine zkI zM102 q102_29 kI5 ?_
      refine zb2_lt zM102 q102_30 (tgt := 36) rfl (fun hc => ?_) (fun hc => ?_)
      · have hw := hw.1 hc
        refine zl zM102 q102_36 rfl ?_
        refine zgR (a := 58) zM102 q102_37 (by decide) g11_61 s0 rfl ?_
        refine zl zM102 q102_40 rfl ?_
        refine zgI zM102 q102_41 (by decide) g11_306 s0 rfl (v := (h4 0 15)) rfl ?_
        refine zl zM102 q102_44 rfl ?_
        obtain ⟨hb, hw⟩ := hw
        refine ziS zM102 q102_45 (by decide) s58 hb rfl ?_
        refine zl zM102 q102_46 rfl ?_
        refine zgR (a := 59) zM102 q102_47 (by decide) g11_64 s0 rfl ?_
        refine zl zM102 q102_50 rfl ?_
        refine zgI zM102 q102_51 (by decide) g11_306 s0 rfl (v := (h4 0 15)) rfl ?_
        refine zl zM102 q102_54 rfl ?_
        obtain ⟨hb, hw⟩ := hw
        refine ziS zM102 q102_55 (by decide) s59 hb rfl ?_
        refine zl zM102 q102_56 rfl ?_
        refine zl zM102 q102_57 rfl ?_
        refine zgI zM102 q102_58 (by decide) g11_306 s0 rfl (v := (h4 0 15)) rfl ?_
        refine zkI zM102 q102_61 kI1 ?_
        refine zl zM102 q102_62 (pc' := 63) (st' := .int ((h4 0 15) + 1) :: _) rfl ?_
        refine zpi zM102 q102_63 (by decide) g11_306 s0 rfl rfl ?_
        refine zl zM102 q102_66 rfl ?_
        refine zgI zM102 q102_67 (by decide) g11_306 s0 rfl (v := ((h4 0 15) + 1)) rfl ?_
        refine zkI zM102 q102_70 kI1 ?_
        refine zl zM102 q102_71 (pc' := 72) (st' := .int (((h4 0 15) + 1) - 1) :: _) rfl ?_
        exact zri zM102 q102_72 rfl rfl hw
      · have hw := hw.2 hc
        refine zkB zM102 q102_33 kBm4 ?_
        exact zri zM102 q102_35 rfl rfl hw
    · have hw := hw.1 hc
      refine zkB zM102 q102_22 kBm2 ?_
      exact zri zM102 q102_24 rfl rfl hw
-- X11_bid
theorem b103 {X : Option (List Int32)} {d : Nat} {h : zH} {A : Int64 → zH → Prop} {a1 : Int32} {a2 : Int32} {a3 : Int32} {a4 : Int32} (hw : zP X d 120 0 (z_ent [.int a1] 1) [] z_S0 h (zI fun v1 h2 => ((v1 = 0 → A (-4611686018427387904) h2) ∧ (¬ v1 = 0 → zP X d 126 0 (z_ent [.int a2, .int a3] 2) [] z_S0 h2 (zI fun v3 h4 => ((v3 = 0 → A (-4611686018427387904) h4) ∧ (¬ v3 = 0 → zP X d 119 0 (z_ent [.int a4, .int (-1), .int ((h4 0 15) - 1)] 3) [] z_S0 h4 (zI fun v5 h6 => ((v5 = 0 → A (-4611686018427387904) h6) ∧ (¬ v5 = 0 → ((a4 = (-1) → zP X (d + 1) 103 56 [some (.ref 0), some (.int a1), some (.int a2), some (.int a3), none, some (.long 0), none, some (.int 0), none, none] [] z_S0 h6 (zJ A)) ∧ (¬ a4 = (-1) → zP X d 104 0 (z_ent [.ref 0, .int a4, .int a1, .int a2, .int a3] 9) [] z_S0 h6 (zJ fun v7 h8 => A v7 h8))))))))))))) : zP X (d + 1) 103 0 (z_ent [.ref 0, .int a1, .int a2, .int a3, .int a4] 10) [] z_S0 h (zJ A) := by
  show zP X (d + 1) 103 0 [some (.ref 0), some (.int a1), some (.int a2), some (.int a3), some (.int a4), none, none, none, none, none] [] z_S0 h (zJ A)
  refine zl zM103 q103_0 rfl ?_
  refine zcS zM103 q103_1 ky11_135 kl11_135 (by decide) rfl (Nat.le_of_ble_eq_true rfl) zM120 (Nat.le_of_ble_eq_true rfl) (hw.mono (fun r0 h2 hr12 => ?_))
  obtain ⟨v1, rfl, hw⟩ := hr12
  show zP X (d + 1) 103 4 [some (.ref 0), some (.int a1), some (.int a2), some (.int a3), some (.int a4), none, none, none, none, none] [.int v1] z_S0 h2 (zJ A)
  refine zb1_eq zM103 q103_4 (tgt := 30) rfl (fun hc => ?_) (fun hc => ?_)
  · have hw := hw.1 hc
    refine zkJ zM103 q103_30 kc11_235 ?_
    exact zrj zM103 q103_33 rfl hw
  · have hw := hw.2 hc
    refine zl zM103 q103_7 rfl ?_
    refine zl zM103 q103_8 rfl ?_
    refine zcS zM103 q103_9 ky11_250 kl11_250 (by decide) rfl (Nat.le_of_ble_eq_true rfl) zM126 (Nat.le_of_ble_eq_true rfl) (hw.mono (fun r0 h4 hr11 => ?_))
    obtain ⟨v3, rfl, hw⟩ := hr11
    show zP X (d + 1) 103 12 [some (.ref 0), some (.int a1), some (.int a2), some (.int a3), some (.int a4), none, none, none, none, none] [.int v3] z_S0 h4 (zJ A)
    refine zb1_eq zM103 q103_12 (tgt := 30) rfl (fun hc => ?_) (fun hc => ?_)
    · have hw := hw.1 hc
      refine zkJ zM103 q103_30 kc11_235 ?_
      exact zrj zM103 q103_33 rfl hw
    · have hw := hw.2 hc
      refine zl zM103 q103_15 rfl ?_
      refine zkI zM103 q103_17 kIm1 ?_
      refine zl zM103 q103_18 rfl ?_
      refine zgI zM103 q103_19 (by decide) g11_306 s0 rfl (v := (h4 0 15)) rfl ?_
      refine zkI zM103 q103_22 kI1 ?_
      refine zl zM103 q103_23 (pc' := 24) (st' := .int ((h4 0 15) - 1) :: _) rfl ?_
      refine zcS zM103 q103_24 ky11_128 kl11_128 (by decide) rfl (Nat.le_of_ble_eq_true rfl) zM119 (Nat.le_of_ble_eq_true rfl) (hw.mono (fun r0 h6 hr10 => ?_))
      obtain ⟨v5, rfl, hw⟩ := hr10
      show zP X (d + 1) 103 27 [some (.ref 0), some (.int a1), some (.int a2), some (.int a3), some (.int a4), none, none, none, none, none] [.int v5] z_S0 h6 (zJ A)
      refine zb1_ne zM103 q103_27 (tgt := 34) rfl (fun hc => ?_) (fun hc => ?_)
      · have hw := hw.2 hc
        refine zl zM103 q103_34 rfl ?_
        refine zkI zM103 q103_36 kIm1 ?_
        refine zb2_eq zM103 q103_37 (tgt := 50) rfl (fun hc => ?_) (fun hc => ?_)
        · have hw := hw.1 hc
          refine zkL (v := 0) zM103 q103_50 rfl ?_
          refine zl zM103 q103_51 (ls' := [some (.ref 0), some (.int a1), some (.int a2), some (.int a3), some (.int a4), some (.long 0), none, none, none, none]) rfl ?_
          refine zkI zM103 q103_53 kI0 ?_
          refine zl zM103 q103_54 (ls' := [some (.ref 0), some (.int a1), some (.int a2), some (.int a3), some (.int a4), some (.long 0), none, some (.int 0), none, none]) rfl ?_
          refine zweak (a := [some (.ref 0), some (.int a1), some (.int a2), some (.int a3), none, some (.long 0), none, some (.int 0), none, none]) ?_ hw
          exact ⟨rfl, ⟨rfl, ⟨rfl, ⟨rfl, ⟨rfl, ⟨rfl, trivial⟩⟩⟩⟩⟩⟩
        · have hw := hw.2 hc
          refine zl zM103 q103_40 rfl ?_
          refine zl zM103 q103_41 rfl ?_
          refine zl zM103 q103_43 rfl ?_
          refine zl zM103 q103_44 rfl ?_
          refine zl zM103 q103_45 rfl ?_
          refine zcV zM103 q103_46 kl11_309 rfl rfl (Nat.le_of_ble_eq_true rfl) rfl zM104 (Nat.le_of_ble_eq_true rfl) (hw.mono (fun r0 h8 hr9 => ?_))
          obtain ⟨v7, rfl, hw⟩ := hr9
          show zP X (d + 1) 103 49 [some (.ref 0), some (.int a1), some (.int a2), some (.int a3), some (.int a4), none, none, none, none, none] [.long v7] z_S0 h8 (zJ A)
          exact zrj zM103 q103_49 rfl hw
      · have hw := hw.1 hc
        refine zkJ zM103 q103_30 kc11_235 ?_
        exact zrj zM103 q103_33 rfl hw
theorem b103_56 {X : Option (List Int32)} {d : Nat} {h : zH} {A : Int64 → zH → Prop} {l1 : Int32} {l2 : Int32} {l3 : Int32} {l5 : Int64} {l7 : Int32} (hw : ((l7 < (h 0 15) → zP X d 104 0 (z_ent [.ref 0, .int l7, .int l1, .int l2, .int l3] 9) [] z_S0 h (zJ fun v13 h14 => ((l7 = 0 → zP X (d + 1) 103 89 [some (.ref 0), some (.int l1), some (.int l2), some (.int l3), none, none, none, some (.int l7), some (.long v13), none] [] z_S0 h14 (zJ A)) ∧ (¬ l7 = 0 → (((lg_cmp v13 l5) < 0 → zP X (d + 1) 103 89 [some (.ref 0), some (.int l1), some (.int l2), some (.int l3), none, none, none, some (.int l7), some (.long v13), none] [] z_S0 h14 (zJ A)) ∧ (¬ (lg_cmp v13 l5) < 0 → zP X (d + 1) 103 93 [some (.ref 0), some (.int l1), some (.int l2), some (.int l3), none, some (.long l5), none, some (.int l7), none, none] [] z_S0 h14 (zJ A))))))) ∧ (¬ l7 < (h 0 15) → A l5 h))) : zP X (d + 1) 103 56 [some (.ref 0), some (.int l1), some (.int l2), some (.int l3), none, some (.long l5), none, some (.int l7), none, none] [] z_S0 h (zJ A) := by
  refine zl zM103 q103_56 rfl ?_
  refine zl zM103 q103_58 rfl ?_
  refine zgI zM103 q103_59 (by decide) g11_306 s0 rfl (v := (h 0 15)) rfl ?_
  refine zb2_ge zM103 q103_62 (tgt := 99) rfl (fun hc => ?_) (fun hc => ?_)
  · have hw := hw.2 hc
    refine zl zM103 q103_99 rfl ?_
    exact zrj zM103 q103_101 rfl hw
  · have hw := hw.1 hc
    refine zl zM103 q103_65 rfl ?_
    refine zl zM103 q103_66 rfl ?_
    refine zl zM103 q103_68 rfl ?_
    refine zl zM103 q103_69 rfl ?_
    refine zl zM103 q103_70 rfl ?_
    refine zcV zM103 q103_71 kl11_309 rfl rfl (Nat.le_of_ble_eq_true rfl) rfl zM104 (Nat.le_of_ble_eq_true rfl) (hw.mono (fun r0 h14 hr15 => ?_))
    obtain ⟨v13, rfl, hw⟩ := hr15
    show zP X (d + 1) 103 74 [some (.ref 0), some (.int l1), some (.int l2), some (.int l3), none, some (.long l5), none, some (.int l7), none, none] [.long v13] z_S0 h14 (zJ A)
    refine zl zM103 q103_74 (ls' := [some (.ref 0), some (.int l1), some (.int l2), some (.int l3), none, some (.long l5), none, some (.int l7), some (.long v13), none]) rfl ?_
    refine zl zM103 q103_76 rfl ?_
    refine zb1_eq zM103 q103_78 (tgt := 89) rfl (fun hc => ?_) (fun hc => ?_)
    · have hw := hw.1 hc
      refine zweak (a := [some (.ref 0), some (.int l1), some (.int l2), some (.int l3), none, none, none, some (.int l7), some (.long v13), none]) ?_ hw
      exact ⟨rfl, ⟨rfl, ⟨rfl, ⟨rfl, ⟨rfl, ⟨rfl, trivial⟩⟩⟩⟩⟩⟩
    · have hw := hw.2 hc
      refine zl zM103 q103_81 rfl ?_
      refine zl zM103 q103_83 rfl ?_
      refine zl zM103 q103_85 (pc' := 86) (st' := .int (lg_cmp v13 l5) :: _) rfl ?_
      refine zb1_ge zM103 q103_86 (tgt := 93) rfl (fun hc => ?_) (fun hc => ?_)
      · have hw := hw.2 hc
        refine zweak (a := [some (.ref 0), some (.int l1), some (.int l2), some (.int l3), none, some (.long l5), none, some (.int l7), none, none]) ?_ hw
        exact ⟨rfl, ⟨rfl, ⟨rfl, ⟨rfl, ⟨rfl, ⟨rfl, trivial⟩⟩⟩⟩⟩⟩
      · have hw := hw.1 hc
        refine zweak (a := [some (.ref 0), some (.int l1), some (.int l2), some (.int l3), none, none, none, some (.int l7), some (.long v13), none]) ?_ hw
        exact ⟨rfl, ⟨rfl, ⟨rfl, ⟨rfl, ⟨rfl, ⟨rfl, trivial⟩⟩⟩⟩⟩⟩
theorem b103_89 {X : Option (List Int32)} {d : Nat} {h : zH} {A : Int64 → zH → Prop} {l1 : Int32} {l2 : Int32} {l3 : Int32} {l7 : Int32} {l8 : Int64} (hw : zP X (d + 1) 103 93 [some (.ref 0), some (.int l1), some (.int l2), some (.int l3), none, some (.long l8), none, some (.int l7), none, none] [] z_S0 h (zJ A)) : zP X (d + 1) 103 89 [some (.ref 0), some (.int l1), some (.int l2), some (.int l3), none, none, none, some (.int l7), some (.long l8), none] [] z_S0 h (zJ A) := by
  refine zl zM103 q103_89 rfl ?_
  refine zl zM103 q103_91 (ls' := [some (.ref 0), some (.int l1), some (.int l2), some (.int l3), none, some (.long l8), none, some (.int l7), some (.long l8), none]) rfl ?_
  refine zweak (a := [some (.ref 0), some (.int l1), some (.int l2), some (.int l3), none, some (.long l8), none, some (.int l7), none, none]) ?_ hw
  exact ⟨rfl, ⟨rfl, ⟨rfl, ⟨rfl, ⟨rfl, ⟨rfl, trivial⟩⟩⟩⟩⟩⟩
theorem b103_93 {X : Option (List Int32)} {d : Nat} {h : zH} {A : Int64 → zH → Prop} {l1 : Int32} {l2 : Int32} {l3 : Int32} {l5 : Int64} {l7 : Int32} (hw : zP X (d + 1) 103 56 [some (.ref 0), some (.int l1), some (.int l2), some (.int l3), none, some (.long l5), none, some (.int (l7 + 1)), none, none] [] z_S0 h (zJ A)) : zP X (d + 1) 103 93 [some (.ref 0), some (.int l1), some (.int l2), some (.int l3), none, some (.long l5), none, some (.int l7), none, none] [] z_S0 h (zJ A) := by
  refine zl zM103 q103_93 (ls' := [some (.ref 0), some (.int l1), some (.int l2), some (.int l3), none, some (.long l5), none, some (.int (l7 + 1)), none, none]) rfl ?_
  refine zl zM103 q103_96 (pc' := 56) (ls' := _) (st' := _) rfl ?_
  exact hw
-- X11_worthBy
theorem b104 {X : Option (List Int32)} {d : Nat} {h : zH} {A : Int64 → zH → Prop} {a1 : Int32} {a2 : Int32} {a3 : Int32} {a4 : Int32} (hw : zP X (d + 1) 104 6 [some (.ref 0), some (.int a1), some (.int a2), some (.int a3), some (.int a4), some (.long 0), none, some (.int 0), none] [] z_S0 h (zJ A)) : zP X (d + 1) 104 0 (z_ent [.ref 0, .int a1, .int a2, .int a3, .int a4] 9) [] z_S0 h (zJ A) := by
  show zP X (d + 1) 104 0 [some (.ref 0), some (.int a1), some (.int a2), some (.int a3), some (.int a4), none, none, none, none] [] z_S0 h (zJ A)
  refine zkL (v := 0) zM104 q104_0 rfl ?_
  refine zl zM104 q104_1 (ls' := [some (.ref 0), some (.int a1), some (.int a2), some (.int a3), some (.int a4), some (.long 0), none, none, none]) rfl ?_
  refine zkI zM104 q104_3 kI0 ?_
  refine zl zM104 q104_4 (ls' := [some (.ref 0), some (.int a1), some (.int a2), some (.int a3), some (.int a4), some (.long 0), none, some (.int 0), none]) rfl ?_
  exact hw
theorem b104_6 {X : Option (List Int32)} {d : Nat} {h : zH} {A : Int64 → zH → Prop} {l1 : Int32} {l2 : Int32} {l3 : Int32} {l4 : Int32} {l5 : Int64} {l7 : Int32} (hw : ((l7 < (h 1 10) → zP X d 15 0 (z_ent [.ref 1, .int l7, .int l2, .int l3, .int l4] 5) [] z_S0 h (zI fun v1 h2 => ((v1 = 0 → zP X (d + 1) 104 100 [some (.ref 0), some (.int l1), some (.int l2), some (.int l3), some (.int l4), some (.long l5), none, some (.int l7), none] [] z_S0 h2 (zJ A)) ∧ (¬ v1 = 0 → (z_ib l7 40 ∧ zP X d 16 0 (z_ent [.ref 1, .int l7, .int 0, .int (h2 9 (Int32.toNatClampNeg l7))] 4) [] z_S0 h2 (zI fun v3 h4 => (z_ib l1 5 ∧ zP X d 127 0 (z_ent [.int v3, .int (h4 58 (Int32.toNatClampNeg l1))] 2) [] z_S0 h4 (zI fun v5 h6 => zP X d 16 0 (z_ent [.ref 1, .int l7, .int 1, .int (h2 9 (Int32.toNatClampNeg l7))] 4) [] z_S0 h6 (zI fun v7 h8 => (z_ib l1 5 ∧ zP X d 127 0 (z_ent [.int v7, .int (h8 59 (Int32.toNatClampNeg l1))] 2) [] z_S0 h8 (zI fun v9 h10 => zP X (d + 1) 104 100 [some (.ref 0), some (.int l1), some (.int l2), some (.int l3), some (.int l4), some (.long ((l5 + (Int32.toInt64 v5)) + (Int32.toInt64 v9))), none, some (.int l7), none] [] z_S0 h10 (zJ A)))))))))))) ∧ (¬ l7 < (h 1 10) → A l5 h))) : zP X (d + 1) 104 6 [some (.ref 0), some (.int l1), some (.int l2), some (.int l3), some (.int l4), some (.long l5), none, some (.int l7), none] [] z_S0 h (zJ A) := by
  refine zl zM104 q104_6 rfl ?_
  refine zl zM104 q104_8 rfl ?_
  refine zgR (a := 1) zM104 q104_9 (by decide) g11_10 s0 rfl ?_
  refine zgI zM104 q104_12 (by decide) g11_142 s1 rfl (v := (h 1 10)) rfl ?_
  refine zb2_ge zM104 q104_15 (tgt := 106) rfl (fun hc => ?_) (fun hc => ?_)
  · have hw := hw.2 hc
    refine zl zM104 q104_106 rfl ?_
    exact zrj zM104 q104_108 rfl hw
  · have hw := hw.1 hc
    refine zl zM104 q104_18 rfl ?_
    refine zgR (a := 1) zM104 q104_19 (by decide) g11_10 s0 rfl ?_
    refine zl zM104 q104_22 rfl ?_
    refine zl zM104 q104_24 rfl ?_
    refine zl zM104 q104_25 rfl ?_
    refine zl zM104 q104_26 rfl ?_
    refine zcV zM104 q104_28 kl11_253 rfl rfl (Nat.le_of_ble_eq_true rfl) rfl zM15 (Nat.le_of_ble_eq_true rfl) (hw.mono (fun r0 h2 hr15 => ?_))
    obtain ⟨v1, rfl, hw⟩ := hr15
    show zP X (d + 1) 104 31 [some (.ref 0), some (.int l1), some (.int l2), some (.int l3), some (.int l4), some (.long l5), none, some (.int l7), none] [.int v1] z_S0 h2 (zJ A)
    refine zb1_eq zM104 q104_31 (tgt := 100) rfl (fun hc => ?_) (fun hc => ?_)
    · have hw := hw.1 hc
      exact hw
    · have hw := hw.2 hc
      refine zl zM104 q104_34 rfl ?_
      refine zgR (a := 1) zM104 q104_35 (by decide) g11_10 s0 rfl ?_
      refine zgR (a := 9) zM104 q104_38 (by decide) g11_313 s1 rfl ?_
      refine zl zM104 q104_41 rfl ?_
      obtain ⟨hb, hw⟩ := hw
      refine ziA zM104 q104_43 (by decide) s9 hb (v := (h2 9 (Int32.toNatClampNeg l7))) rfl ?_
      refine zl zM104 q104_44 (ls' := [some (.ref 0), some (.int l1), some (.int l2), some (.int l3), some (.int l4), some (.long l5), none, some (.int l7), some (.int (h2 9 (Int32.toNatClampNeg l7)))]) rfl ?_
      refine zl zM104 q104_46 rfl ?_
      refine zl zM104 q104_48 rfl ?_
      refine zgR (a := 1) zM104 q104_49 (by decide) g11_10 s0 rfl ?_
      refine zl zM104 q104_52 rfl ?_
      refine zkI zM104 q104_54 kI0 ?_
      refine zl zM104 q104_55 rfl ?_
      refine zcV zM104 q104_57 kl11_171 rfl rfl (Nat.le_of_ble_eq_true rfl) rfl zM16 (Nat.le_of_ble_eq_true rfl) (hw.mono (fun r0 h4 hr14 => ?_))
      obtain ⟨v3, rfl, hw⟩ := hr14
      show zP X (d + 1) 104 60 [some (.ref 0), some (.int l1), some (.int l2), some (.int l3), some (.int l4), some (.long l5), none, some (.int l7), some (.int (h2 9 (Int32.toNatClampNeg l7)))] [.int v3, .long l5] z_S0 h4 (zJ A)
      refine zl zM104 q104_60 rfl ?_
      refine zgR (a := 58) zM104 q104_61 (by decide) g11_61 s0 rfl ?_
      refine zl zM104 q104_64 rfl ?_
      obtain ⟨hb, hw⟩ := hw
      refine ziA zM104 q104_65 (by decide) s58 hb (v := (h4 58 (Int32.toNatClampNeg l1))) rfl ?_
      refine zcS zM104 q104_66 ky11_209 kl11_209 (by decide) rfl (Nat.le_of_ble_eq_true rfl) zM127 (Nat.le_of_ble_eq_true rfl) (hw.mono (fun r0 h6 hr13 => ?_))
      obtain ⟨v5, rfl, hw⟩ := hr13
      show zP X (d + 1) 104 69 [some (.ref 0), some (.int l1), some (.int l2), some (.int l3), some (.int l4), some (.long l5), none, some (.int l7), some (.int (h2 9 (Int32.toNatClampNeg l7)))] [.int v5, .long l5] z_S0 h6 (zJ A)
      refine zl zM104 q104_69 (pc' := 70) (st' := .long (Int32.toInt64 v5) :: _) rfl ?_
      refine zl zM104 q104_70 (pc' := 71) (st' := .long (l5 + (Int32.toInt64 v5)) :: _) rfl ?_
      refine zl zM104 q104_71 (ls' := [some (.ref 0), some (.int l1), some (.int l2), some (.int l3), some (.int l4), some (.long (l5 + (Int32.toInt64 v5))), none, some (.int l7), some (.int (h2 9 (Int32.toNatClampNeg l7)))]) rfl ?_
      refine zl zM104 q104_73 rfl ?_
      refine zl zM104 q104_75 rfl ?_
      refine zgR (a := 1) zM104 q104_76 (by decide) g11_10 s0 rfl ?_
      refine zl zM104 q104_79 rfl ?_
      refine zkI zM104 q104_81 kI1 ?_
      refine zl zM104 q104_82 rfl ?_
      refine zcV zM104 q104_84 kl11_171 rfl rfl (Nat.le_of_ble_eq_true rfl) rfl zM16 (Nat.le_of_ble_eq_true rfl) (hw.mono (fun r0 h8 hr12 => ?_))
      obtain ⟨v7, rfl, hw⟩ := hr12
      show zP X (d + 1) 104 87 [some (.ref 0), some (.int l1), some (.int l2), some (.int l3), some (.int l4), some (.long (l5 + (Int32.toInt64 v5))), none, some (.int l7), some (.int (h2 9 (Int32.toNatClampNeg l7)))] [.int v7, .long (l5 + (Int32.toInt64 v5))] z_S0 h8 (zJ A)
      refine zl zM104 q104_87 rfl ?_
      refine zgR (a := 59) zM104 q104_88 (by decide) g11_64 s0 rfl ?_
      refine zl zM104 q104_91 rfl ?_
      obtain ⟨hb, hw⟩ := hw
      refine ziA zM104 q104_92 (by decide) s59 hb (v := (h8 59 (Int32.toNatClampNeg l1))) rfl ?_
      refine zcS zM104 q104_93 ky11_209 kl11_209 (by decide) rfl (Nat.le_of_ble_eq_true rfl) zM127 (Nat.le_of_ble_eq_true rfl) (hw.mono (fun r0 h10 hr11 => ?_))
      obtain ⟨v9, rfl, hw⟩ := hr11
      show zP X (d + 1) 104 96 [some (.ref 0), some (.int l1), some (.int l2), some (.int l3), some (.int l4), some (.long (l5 + (Int32.toInt64 v5))), none, some (.int l7), some (.int (h2 9 (Int32.toNatClampNeg l7)))] [.int v9, .long (l5 + (Int32.toInt64 v5))] z_S0 h10 (zJ A)
      refine zl zM104 q104_96 (pc' := 97) (st' := .long (Int32.toInt64 v9) :: _) rfl ?_
      refine zl zM104 q104_97 (pc' := 98) (st' := .long ((l5 + (Int32.toInt64 v5)) + (Int32.toInt64 v9)) :: _) rfl ?_
      refine zl zM104 q104_98 (ls' := [some (.ref 0), some (.int l1), some (.int l2), some (.int l3), some (.int l4), some (.long ((l5 + (Int32.toInt64 v5)) + (Int32.toInt64 v9))), none, some (.int l7), some (.int (h2 9 (Int32.toNatClampNeg l7)))]) rfl ?_
      refine zweak (a := [some (.ref 0), some (.int l1), some (.int l2), some (.int l3), some (.int l4), some (.long ((l5 + (Int32.toInt64 v5)) + (Int32.toInt64 v9))), none, some (.int l7), none]) ?_ hw
      exact ⟨rfl, ⟨rfl, ⟨rfl, ⟨rfl, ⟨rfl, ⟨rfl, ⟨rfl, trivial⟩⟩⟩⟩⟩⟩⟩
theorem b104_100 {X : Option (List Int32)} {d : Nat} {h : zH} {A : Int64 → zH → Prop} {l1 : Int32} {l2 : Int32} {l3 : Int32} {l4 : Int32} {l5 : Int64} {l7 : Int32} (hw : zP X (d + 1) 104 6 [some (.ref 0), some (.int l1), some (.int l2), some (.int l3), some (.int l4), some (.long l5), none, some (.int (l7 + 1)), none] [] z_S0 h (zJ A)) : zP X (d + 1) 104 100 [some (.ref 0), some (.int l1), some (.int l2), some (.int l3), some (.int l4), some (.long l5), none, some (.int l7), none] [] z_S0 h (zJ A) := by
  refine zl zM104 q104_100 (ls' := [some (.ref 0), some (.int l1), some (.int l2), some (.int l3), some (.int l4), some (.long l5), none, some (.int (l7 + 1)), none]) rfl ?_
  refine zl zM104 q104_103 (pc' := 6) (ls' := _) (st' := _) rfl ?_
  exact hw
-- X11_wins
theorem b105 {X : Option (List Int32)} {d : Nat} {h : zH} {A : Int32 → zH → Prop} {a1 : Int32} {a2 : Int32} {a3 : Int32} (hw : zP X d 123 0 (z_ent [.int a1] 1) [] z_S0 h (zI fun v1 h2 => ((v1 = 0 → A (-2) h2) ∧ (¬ v1 = 0 → zP X d 121 0 (z_ent [.int a2] 1) [] z_S0 h2 (zI fun v3 h4 => ((v3 = 0 → A (-2) h4) ∧ (¬ v3 = 0 → zP X d 119 0 (z_ent [.int a3, .int 0, .int 999] 3) [] z_S0 h4 (zI fun v5 h6 => ((v5 = 0 → A (-2) h6) ∧ (¬ v5 = 0 → zP X d 36 0 (z_ent [.ref 60, .int a1, .int a2, .int a3] 5) [] z_S0 h6 (zI fun v7 h9 => A v7 h9))))))))))) : zP X (d + 1) 105 0 (z_ent [.ref 0, .int a1, .int a2, .int a3] 4) [] z_S0 h (zI A) := by
  show zP X (d + 1) 105 0 [some (.ref 0), some (.int a1), some (.int a2), some (.int a3)] [] z_S0 h (zI A)
  refine zl zM105 q105_0 rfl ?_
  refine zcS zM105 q105_1 ky11_262 kl11_262 (by decide) rfl (Nat.le_of_ble_eq_true rfl) zM123 (Nat.le_of_ble_eq_true rfl) (hw.mono (fun r0 h2 hr13 => ?_))
  obtain ⟨v1, rfl, hw⟩ := hr13
  show zP X (d + 1) 105 4 [some (.ref 0), some (.int a1), some (.int a2), some (.int a3)] [.int v1] z_S0 h2 (zI A)
  refine zb1_eq zM105 q105_4 (tgt := 25) rfl (fun hc => ?_) (fun hc => ?_)
  · have hw := hw.1 hc
    refine zkB zM105 q105_25 kBm2 ?_
    exact zri zM105 q105_27 rfl rfl hw
  · have hw := hw.2 hc
    refine zl zM105 q105_7 rfl ?_
    refine zcS zM105 q105_8 ky11_139 kl11_139 (by decide) rfl (Nat.le_of_ble_eq_true rfl) zM121 (Nat.le_of_ble_eq_true rfl) (hw.mono (fun r0 h4 hr12 => ?_))
    obtain ⟨v3, rfl, hw⟩ := hr12
    show zP X (d + 1) 105 11 [some (.ref 0), some (.int a1), some (.int a2), some (.int a3)] [.int v3] z_S0 h4 (zI A)
    refine zb1_eq zM105 q105_11 (tgt := 25) rfl (fun hc => ?_) (fun hc => ?_)
    · have hw := hw.1 hc
      refine zkB zM105 q105_25 kBm2 ?_
      exact zri zM105 q105_27 rfl rfl hw
    · have hw := hw.2 hc
      refine zl zM105 q105_14 rfl ?_
      refine zkI zM105 q105_15 kI0 ?_
      refine zkS zM105 q105_16 kS999 ?_
      refine zcS zM105 q105_19 ky11_128 kl11_128 (by decide) rfl (Nat.le_of_ble_eq_true rfl) zM119 (Nat.le_of_ble_eq_true rfl) (hw.mono (fun r0 h6 hr11 => ?_))
      obtain ⟨v5, rfl, hw⟩ := hr11
      show zP X (d + 1) 105 22 [some (.ref 0), some (.int a1), some (.int a2), some (.int a3)] [.int v5] z_S0 h6 (zI A)
      refine zb1_ne zM105 q105_22 (tgt := 28) rfl (fun hc => ?_) (fun hc => ?_)
      · have hw := hw.2 hc
        refine zl zM105 q105_28 rfl ?_
        refine zgR (a := 60) zM105 q105_29 (by decide) g11_70 s0 rfl ?_
        refine zl zM105 q105_32 rfl ?_
        refine zl zM105 q105_33 rfl ?_
        refine zl zM105 q105_34 rfl ?_
        refine zcV zM105 q105_35 kl11_316 rfl rfl (Nat.le_of_ble_eq_true rfl) rfl zM36 (Nat.le_of_ble_eq_true rfl) (hw.mono (fun r0 h9 hr10 => ?_))
        obtain ⟨v7, rfl, hw⟩ := hr10
        show zP X (d + 1) 105 38 [some (.ref 0), some (.int a1), some (.int a2), some (.int a3)] [.int v7] z_S0 h9 (zI A)
        exact zri zM105 q105_38 rfl rfl hw
      · have hw := hw.1 hc
        refine zkB zM105 q105_25 kBm2 ?_
        exact zri zM105 q105_27 rfl rfl hw
-- X11_laid
theorem b106 {X : Option (List Int32)} {d : Nat} {h : zH} {A : Int32 → zH → Prop} {a1 : Int32} {a2 : Int32} (hw : zP X d 119 0 (z_ent [.int a1, .int 0, .int 1023] 3) [] z_S0 h (zI fun v1 h2 => ((v1 = 0 → A (-2) h2) ∧ (¬ v1 = 0 → zP X d 212 0 (z_ent [.int a1] 1) [] z_S0 h2 (zI fun v3 h4 => (((5 : Int32) < v3 → A (-2) h4) ∧ (¬ (5 : Int32) < v3 → zP X d 212 0 (z_ent [.int a1] 1) [] z_S0 h4 (zI fun v5 h6 => zP X d 119 0 (z_ent [.int a2, .int (-1), .int (v5 - 1)] 3) [] z_S0 h6 (zI fun v7 h8 => ((v7 = 0 → A (-1) h8) ∧ (¬ v7 = 0 → zP X d 37 0 (z_ent [.ref 60, .int a1] 3) [] z_S0 h8 (zV fun h11 => ((a2 = (-1) → A (h11 60 5) h11) ∧ (¬ a2 = (-1) → (z_ib a2 5 ∧ A (h11 64 (Int32.toNatClampNeg a2)) h11))))))))))))))) : zP X (d + 1) 106 0 (z_ent [.ref 0, .int a1, .int a2] 3) [] z_S0 h (zI A) := by
  show zP X (d + 1) 106 0 [some (.ref 0), some (.int a1), some (.int a2)] [] z_S0 h (zI A)
  refine zl zM106 q106_0 rfl ?_
  refine zkI zM106 q106_1 kI0 ?_
  refine zkS zM106 q106_2 kS1023 ?_
  refine zcS zM106 q106_5 ky11_128 kl11_128 (by decide) rfl (Nat.le_of_ble_eq_true rfl) zM119 (Nat.le_of_ble_eq_true rfl) (hw.mono (fun r0 h2 hr16 => ?_))
  obtain ⟨v1, rfl, hw⟩ := hr16
  show zP X (d + 1) 106 8 [some (.ref 0), some (.int a1), some (.int a2)] [.int v1] z_S0 h2 (zI A)
  refine zb1_eq zM106 q106_8 (tgt := 19) rfl (fun hc => ?_) (fun hc => ?_)
  · have hw := hw.1 hc
    refine zkB zM106 q106_19 kBm2 ?_
    exact zri zM106 q106_21 rfl rfl hw
  · have hw := hw.2 hc
    refine zl zM106 q106_11 rfl ?_
    refine zcS zM106 q106_12 ky11_319 kl11_319 (by decide) rfl (Nat.le_of_ble_eq_true rfl) zM212 (Nat.le_of_ble_eq_true rfl) (hw.mono (fun r0 h4 hr15 => ?_))
    obtain ⟨v3, rfl, hw⟩ := hr15
    show zP X (d + 1) 106 15 [some (.ref 0), some (.int a1), some (.int a2)] [.int v3] z_S0 h4 (zI A)
    refine zkI zM106 q106_15 kI5 ?_
    refine zb2_le zM106 q106_16 (tgt := 22) rfl (fun hc => ?_) (fun hc => ?_)
    · have hw := hw.2 hc
      refine zl zM106 q106_22 rfl ?_
      refine zkI zM106 q106_23 kIm1 ?_
      refine zl zM106 q106_24 rfl ?_
      refine zcS zM106 q106_25 ky11_319 kl11_319 (by decide) rfl (Nat.le_of_ble_eq_true rfl) zM212 (Nat.le_of_ble_eq_true rfl) (hw.mono (fun r0 h6 hr14 => ?_))
      obtain ⟨v5, rfl, hw⟩ := hr14
      show zP X (d + 1) 106 28 [some (.ref 0), some (.int a1), some (.int a2)] [.int v5, .int (-1), .int a2] z_S0 h6 (zI A)
      refine zkI zM106 q106_28 kI1 ?_
      refine zl zM106 q106_29 (pc' := 30) (st' := .int (v5 - 1) :: _) rfl ?_
      refine zcS zM106 q106_30 ky11_128 kl11_128 (by decide) rfl (Nat.le_of_ble_eq_true rfl) zM119 (Nat.le_of_ble_eq_true rfl) (hw.mono (fun r0 h8 hr13 => ?_))
      obtain ⟨v7, rfl, hw⟩ := hr13
      show zP X (d + 1) 106 33 [some (.ref 0), some (.int a1), some (.int a2)] [.int v7] z_S0 h8 (zI A)
      refine zb1_ne zM106 q106_33 (tgt := 38) rfl (fun hc => ?_) (fun hc => ?_)
      · have hw := hw.2 hc
        refine zl zM106 q106_38 rfl ?_
        refine zgR (a := 60) zM106 q106_39 (by decide) g11_70 s0 rfl ?_
        refine zl zM106 q106_42 rfl ?_
        refine zcV zM106 q106_43 kl11_324 rfl rfl (Nat.le_of_ble_eq_true rfl) rfl zM37 (Nat.le_of_ble_eq_true rfl) (hw.mono (fun r0 h11 hr12 => ?_))
        obtain ⟨rfl, hw⟩ := hr12
        show zP X (d + 1) 106 46 [some (.ref 0), some (.int a1), some (.int a2)] [] z_S0 h11 (zI A)
        refine zl zM106 q106_46 rfl ?_
        refine zkI zM106 q106_47 kIm1 ?_
        refine zb2_ne zM106 q106_48 (tgt := 61) rfl (fun hc => ?_) (fun hc => ?_)
        · have hw := hw.2 hc
          refine zl zM106 q106_61 rfl ?_
          refine zgR (a := 60) zM106 q106_62 (by decide) g11_70 s0 rfl ?_
          refine zgR (a := 64) zM106 q106_65 (by decide) g11_330 s60 rfl ?_
          refine zl zM106 q106_68 rfl ?_
          obtain ⟨hb, hw⟩ := hw
          refine ziA zM106 q106_69 (by decide) s64 hb (v := (h11 64 (Int32.toNatClampNeg a2))) rfl ?_
          exact zri zM106 q106_70 rfl rfl hw
        · have hw := hw.1 hc
          refine zl zM106 q106_51 rfl ?_
          refine zgR (a := 60) zM106 q106_52 (by decide) g11_70 s0 rfl ?_
          refine zgI zM106 q106_55 (by decide) g11_327 s60 rfl (v := (h11 60 5)) rfl ?_
          refine zl zM106 q106_58 (pc' := 70) (ls' := _) (st' := _) rfl ?_
          exact zri zM106 q106_70 rfl rfl hw
      · have hw := hw.1 hc
        refine zkI zM106 q106_36 kIm1 ?_
        exact zri zM106 q106_37 rfl rfl hw
    · have hw := hw.1 hc
      refine zkB zM106 q106_19 kBm2 ?_
      exact zri zM106 q106_21 rfl rfl hw
-- X11_barge
theorem b107 {X : Option (List Int32)} {d : Nat} {h : zH} {A : Int32 → zH → Prop} {a1 : Int32} {a2 : Int32} (hw : zP X d 119 0 (z_ent [.int a1, .int 1, .int 9999] 3) [] z_S0 h (zI fun v1 h2 => ((v1 = 0 → A (-2) h2) ∧ (¬ v1 = 0 → zP X d 119 0 (z_ent [.int a2, .int 0, .int 9999] 3) [] z_S0 h2 (zI fun v3 h4 => ((v3 = 0 → A (-2) h4) ∧ (¬ v3 = 0 → (((h4 65 2) < 8 → zP X d 2 0 (z_ent [.ref 65, .int a1, .int a2] 3) [] z_S0 h4 (zI fun v5 h7 => A v5 h7)) ∧ (¬ (h4 65 2) < 8 → A (-4) h4))))))))) : zP X (d + 1) 107 0 (z_ent [.ref 0, .int a1, .int a2] 3) [] z_S0 h (zI A) := by
  show zP X (d + 1) 107 0 [some (.ref 0), some (.int a1), some (.int a2)] [] z_S0 h (zI A)
  refine zl zM107 q107_0 rfl ?_
  refine zkI zM107 q107_1 kI1 ?_
  refine zkS zM107 q107_2 kS9999 ?_
  refine zcS zM107 q107_5 ky11_128 kl11_128 (by decide) rfl (Nat.le_of_ble_eq_true rfl) zM119 (Nat.le_of_ble_eq_true rfl) (hw.mono (fun r0 h2 hr10 => ?_))
  obtain ⟨v1, rfl, hw⟩ := hr10
  show zP X (d + 1) 107 8 [some (.ref 0), some (.int a1), some (.int a2)] [.int v1] z_S0 h2 (zI A)
  refine zb1_eq zM107 q107_8 (tgt := 22) rfl (fun hc => ?_) (fun hc => ?_)
  · have hw := hw.1 hc
    refine zkB zM107 q107_22 kBm2 ?_
    exact zri zM107 q107_24 rfl rfl hw
  · have hw := hw.2 hc
    refine zl zM107 q107_11 rfl ?_
    refine zkI zM107 q107_12 kI0 ?_
    refine zkS zM107 q107_13 kS9999 ?_
    refine zcS zM107 q107_16 ky11_128 kl11_128 (by decide) rfl (Nat.le_of_ble_eq_true rfl) zM119 (Nat.le_of_ble_eq_true rfl) (hw.mono (fun r0 h4 hr9 => ?_))
    obtain ⟨v3, rfl, hw⟩ := hr9
    show zP X (d + 1) 107 19 [some (.ref 0), some (.int a1), some (.int a2)] [.int v3] z_S0 h4 (zI A)
    refine zb1_ne zM107 q107_19 (tgt := 25) rfl (fun hc => ?_) (fun hc => ?_)
    · have hw := hw.2 hc
      refine zl zM107 q107_25 rfl ?_
      refine zgR (a := 65) zM107 q107_26 (by decide) g11_77 s0 rfl ?_
      refine zgI zM107 q107_29 (by decide) g11_333 s65 rfl (v := (h4 65 2)) rfl ?_
      refine zkB zM107 q107_32 kB8 ?_
      refine zb2_lt zM107 q107_34 (tgt := 42) rfl (fun hc => ?_) (fun hc => ?_)
      · have hw := hw.1 hc
        refine zl zM107 q107_42 rfl ?_
        refine zgR (a := 65) zM107 q107_43 (by decide) g11_77 s0 rfl ?_
        refine zl zM107 q107_46 rfl ?_
        refine zl zM107 q107_47 rfl ?_
        refine zcV zM107 q107_48 kl11_334 rfl rfl (Nat.le_of_ble_eq_true rfl) rfl zM2 (Nat.le_of_ble_eq_true rfl) (hw.mono (fun r0 h7 hr8 => ?_))
        obtain ⟨v5, rfl, hw⟩ := hr8
        show zP X (d + 1) 107 51 [some (.ref 0), some (.int a1), some (.int a2)] [.int v5] z_S0 h7 (zI A)
        exact zri zM107 q107_51 rfl rfl hw
      · have hw := hw.2 hc
        refine zkB zM107 q107_37 kBm4 ?_
        refine zl zM107 q107_39 (pc' := 51) (ls' := _) (st' := _) rfl ?_
        exact zri zM107 q107_51 rfl rfl hw
    · have hw := hw.1 hc
      refine zkB zM107 q107_22 kBm2 ?_
      exact zri zM107 q107_24 rfl rfl hw
-- X11_tide
theorem b108 {X : Option (List Int32)} {d : Nat} {h : zH} {A : Int32 → zH → Prop} {a1 : Int32} {a2 : Int32} (hw : zP X d 119 0 (z_ent [.int a1, .int 0, .int 99999] 3) [] z_S0 h (zI fun v1 h2 => ((v1 = 0 → A (-2) h2) ∧ (¬ v1 = 0 → zP X d 119 0 (z_ent [.int a2, .int 0, .int 1] 3) [] z_S0 h2 (zI fun v3 h4 => ((v3 = 0 → A (-2) h4) ∧ (¬ v3 = 0 → zP X d 3 0 (z_ent [.ref 65, .int a1] 8) [] z_S0 h4 (zI fun v5 h6 => ((a2 = 0 → A v5 h6) ∧ (¬ a2 = 0 → zP X d 4 0 (z_ent [.ref 65, .ref 67, .int v5] 5) [] z_S0 h6 (zI fun v7 h8 => A v7 h8))))))))))) : zP X (d + 1) 108 0 (z_ent [.ref 0, .int a1, .int a2] 4) [] z_S0 h (zI A) := by
  show zP X (d + 1) 108 0 [some (.ref 0), some (.int a1), some (.int a2), none] [] z_S0 h (zI A)
  refine zl zM108 q108_0 rfl ?_
  refine zkI zM108 q108_1 kI0 ?_
  refine zkC zM108 q108_2 kc11_188 ?_
  refine zcS zM108 q108_4 ky11_128 kl11_128 (by decide) rfl (Nat.le_of_ble_eq_true rfl) zM119 (Nat.le_of_ble_eq_true rfl) (hw.mono (fun r0 h2 hr12 => ?_))
  obtain ⟨v1, rfl, hw⟩ := hr12
  show zP X (d + 1) 108 7 [some (.ref 0), some (.int a1), some (.int a2), none] [.int v1] z_S0 h2 (zI A)
  refine zb1_eq zM108 q108_7 (tgt := 19) rfl (fun hc => ?_) (fun hc => ?_)
  · have hw := hw.1 hc
    refine zkB zM108 q108_19 kBm2 ?_
    exact zri zM108 q108_21 rfl rfl hw
  · have hw := hw.2 hc
    refine zl zM108 q108_10 rfl ?_
    refine zkI zM108 q108_11 kI0 ?_
    refine zkI zM108 q108_12 kI1 ?_
    refine zcS zM108 q108_13 ky11_128 kl11_128 (by decide) rfl (Nat.le_of_ble_eq_true rfl) zM119 (Nat.le_of_ble_eq_true rfl) (hw.mono (fun r0 h4 hr11 => ?_))
    obtain ⟨v3, rfl, hw⟩ := hr11
    show zP X (d + 1) 108 16 [some (.ref 0), some (.int a1), some (.int a2), none] [.int v3] z_S0 h4 (zI A)
    refine zb1_ne zM108 q108_16 (tgt := 22) rfl (fun hc => ?_) (fun hc => ?_)
    · have hw := hw.2 hc
      refine zl zM108 q108_22 rfl ?_
      refine zgR (a := 65) zM108 q108_23 (by decide) g11_77 s0 rfl ?_
      refine zl zM108 q108_26 rfl ?_
      refine zcV zM108 q108_27 kl11_336 rfl rfl (Nat.le_of_ble_eq_true rfl) rfl zM3 (Nat.le_of_ble_eq_true rfl) (hw.mono (fun r0 h6 hr10 => ?_))
      obtain ⟨v5, rfl, hw⟩ := hr10
      show zP X (d + 1) 108 30 [some (.ref 0), some (.int a1), some (.int a2), none] [.int v5] z_S0 h6 (zI A)
      refine zl zM108 q108_30 (ls' := [some (.ref 0), some (.int a1), some (.int a2), some (.int v5)]) rfl ?_
      refine zl zM108 q108_31 rfl ?_
      refine zb1_ne zM108 q108_32 (tgt := 39) rfl (fun hc => ?_) (fun hc => ?_)
      · have hw := hw.2 hc
        refine zl zM108 q108_39 rfl ?_
        refine zgR (a := 65) zM108 q108_40 (by decide) g11_77 s0 rfl ?_
        refine zl zM108 q108_43 rfl ?_
        refine zgR (a := 65) zM108 q108_44 (by decide) g11_77 s0 rfl ?_
        refine zgR (a := 67) zM108 q108_47 (by decide) g11_339 s65 rfl ?_
        refine zl zM108 q108_50 rfl ?_
        refine zcV zM108 q108_51 kl11_342 rfl rfl (Nat.le_of_ble_eq_true rfl) rfl zM4 (Nat.le_of_ble_eq_true rfl) (hw.mono (fun r0 h8 hr9 => ?_))
        obtain ⟨v7, rfl, hw⟩ := hr9
        show zP X (d + 1) 108 54 [some (.ref 0), some (.int a1), some (.int a2), some (.int v5)] [.int v7] z_S0 h8 (zI A)
        exact zri zM108 q108_54 rfl rfl hw
      · have hw := hw.1 hc
        refine zl zM108 q108_35 rfl ?_
        refine zl zM108 q108_36 (pc' := 54) (ls' := _) (st' := _) rfl ?_
        exact zri zM108 q108_54 rfl rfl hw
    · have hw := hw.1 hc
      refine zkB zM108 q108_19 kBm2 ?_
      exact zri zM108 q108_21 rfl rfl hw
-- X11_buyer
theorem b109 {X : Option (List Int32)} {d : Nat} {h : zH} {A : Int32 → zH → Prop} {a1 : Int32} {a2 : Int32} (hw : zP X d 119 0 (z_ent [.int a1, .int 0, .int 9999] 3) [] z_S0 h (zI fun v1 h2 => ((v1 = 0 → A (-2) h2) ∧ (¬ v1 = 0 → zP X d 119 0 (z_ent [.int a2, .int 0, .int 999] 3) [] z_S0 h2 (zI fun v3 h4 => ((v3 = 0 → A (-2) h4) ∧ (¬ v3 = 0 → (((h4 68 4) < 6 → zP X d 6 0 (z_ent [.ref 68, .int a1, .int a2] 3) [] z_S0 h4 (zI fun v5 h7 => A v5 h7)) ∧ (¬ (h4 68 4) < 6 → A (-4) h4))))))))) : zP X (d + 1) 109 0 (z_ent [.ref 0, .int a1, .int a2] 3) [] z_S0 h (zI A) := by
  show zP X (d + 1) 109 0 [some (.ref 0), some (.int a1), some (.int a2)] [] z_S0 h (zI A)
  refine zl zM109 q109_0 rfl ?_
  refine zkI zM109 q109_1 kI0 ?_
  refine zkS zM109 q109_2 kS9999 ?_
  refine zcS zM109 q109_5 ky11_128 kl11_128 (by decide) rfl (Nat.le_of_ble_eq_true rfl) zM119 (Nat.le_of_ble_eq_true rfl) (hw.mono (fun r0 h2 hr10 => ?_))
  obtain ⟨v1, rfl, hw⟩ := hr10
  show zP X (d + 1) 109 8 [some (.ref 0), some (.int a1), some (.int a2)] [.int v1] z_S0 h2 (zI A)
  refine zb1_eq zM109 q109_8 (tgt := 22) rfl (fun hc => ?_) (fun hc => ?_)
  · have hw := hw.1 hc
    refine zkB zM109 q109_22 kBm2 ?_
    exact zri zM109 q109_24 rfl rfl hw
  · have hw := hw.2 hc
    refine zl zM109 q109_11 rfl ?_
    refine zkI zM109 q109_12 kI0 ?_
    refine zkS zM109 q109_13 kS999 ?_
    refine zcS zM109 q109_16 ky11_128 kl11_128 (by decide) rfl (Nat.le_of_ble_eq_true rfl) zM119 (Nat.le_of_ble_eq_true rfl) (hw.mono (fun r0 h4 hr9 => ?_))
    obtain ⟨v3, rfl, hw⟩ := hr9
    show zP X (d + 1) 109 19 [some (.ref 0), some (.int a1), some (.int a2)] [.int v3] z_S0 h4 (zI A)
    refine zb1_ne zM109 q109_19 (tgt := 25) rfl (fun hc => ?_) (fun hc => ?_)
    · have hw := hw.2 hc
      refine zl zM109 q109_25 rfl ?_
      refine zgR (a := 68) zM109 q109_26 (by decide) g11_84 s0 rfl ?_
      refine zgI zM109 q109_29 (by decide) g11_346 s68 rfl (v := (h4 68 4)) rfl ?_
      refine zkB zM109 q109_32 kB6 ?_
      refine zb2_lt zM109 q109_34 (tgt := 42) rfl (fun hc => ?_) (fun hc => ?_)
      · have hw := hw.1 hc
        refine zl zM109 q109_42 rfl ?_
        refine zgR (a := 68) zM109 q109_43 (by decide) g11_84 s0 rfl ?_
        refine zl zM109 q109_46 rfl ?_
        refine zl zM109 q109_47 rfl ?_
        refine zcV zM109 q109_48 kl11_347 rfl rfl (Nat.le_of_ble_eq_true rfl) rfl zM6 (Nat.le_of_ble_eq_true rfl) (hw.mono (fun r0 h7 hr8 => ?_))
        obtain ⟨v5, rfl, hw⟩ := hr8
        show zP X (d + 1) 109 51 [some (.ref 0), some (.int a1), some (.int a2)] [.int v5] z_S0 h7 (zI A)
        exact zri zM109 q109_51 rfl rfl hw
      · have hw := hw.2 hc
        refine zkB zM109 q109_37 kBm4 ?_
        refine zl zM109 q109_39 (pc' := 51) (ls' := _) (st' := _) rfl ?_
        exact zri zM109 q109_51 rfl rfl hw
    · have hw := hw.1 hc
      refine zkB zM109 q109_22 kBm2 ?_
      exact zri zM109 q109_24 rfl rfl hw

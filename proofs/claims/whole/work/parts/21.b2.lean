-- X10_readCompared
theorem b66 {X : Option (List Int32)} {d : Nat} {h : zH} {A : Int32 → zH → Prop} {t : Nat} {a2 : Int32} (ht0 : t ∈ ([25, 28, 31, 34, 37, 40] : List Nat)) (hw : zP X d 67 0 (z_ent [.ref (t), .ref 18, .int a2] 5) [] z_S0 h (zI fun v1 h3 => ((v1 = 0 → A 0 h3) ∧ (¬ v1 = 0 → (((h3 18 4) = 60 → zP X (d + 1) 66 30 [some (.ref (t)), some (.ref 18), some (.int a2), some (.int (h3 18 4))] [] z_S0 h3 (zI A)) ∧ (¬ (h3 18 4) = 60 → (((h3 18 4) = 61 → zP X (d + 1) 66 30 [some (.ref (t)), some (.ref 18), some (.int a2), some (.int (h3 18 4))] [] z_S0 h3 (zI A)) ∧ (¬ (h3 18 4) = 61 → A 1 h3)))))))) : zP X (d + 1) 66 0 (z_ent [.ref (t), .ref 18, .int a2] 4) [] z_S0 h (zI A) := by
  show zP X (d + 1) 66 0 [some (.ref (t)), some (.ref 18), some (.int a2), none] [] z_S0 h (zI A)
  refine zl zM66 q66_0 rfl ?_
  refine zl zM66 q66_1 rfl ?_
  refine zl zM66 q66_2 rfl ?_
  refine zcV zM66 q66_3 kl10_54 rfl rfl (Nat.le_of_ble_eq_true rfl) (z_rcvT ht0) zM67 (Nat.le_of_ble_eq_true rfl) (hw.mono (fun r0 h3 hr4 => ?_))
  obtain ⟨v1, rfl, hw⟩ := hr4
  show zP X (d + 1) 66 6 [some (.ref (t)), some (.ref 18), some (.int a2), none] [.int v1] z_S0 h3 (zI A)
  refine zb1_ne zM66 q66_6 (tgt := 11) rfl (fun hc => ?_) (fun hc => ?_)
  · have hw := hw.2 hc
    refine zl zM66 q66_11 rfl ?_
    refine zgI zM66 q66_12 (by decide) g10_35 s18 rfl (v := (h3 18 4)) rfl ?_
    refine zl zM66 q66_15 (ls' := [some (.ref (t)), some (.ref 18), some (.int a2), some (.int (h3 18 4))]) rfl ?_
    refine zl zM66 q66_16 rfl ?_
    refine zkB zM66 q66_17 kB60 ?_
    refine zb2_eq zM66 q66_19 (tgt := 30) rfl (fun hc => ?_) (fun hc => ?_)
    · have hw := hw.1 hc
      exact hw
    · have hw := hw.2 hc
      refine zl zM66 q66_22 rfl ?_
      refine zkB zM66 q66_23 kB61 ?_
      refine zb2_eq zM66 q66_25 (tgt := 30) rfl (fun hc => ?_) (fun hc => ?_)
      · have hw := hw.1 hc
        exact hw
      · have hw := hw.2 hc
        refine zkI zM66 q66_28 kI1 ?_
        exact zri zM66 q66_29 rfl rfl hw
  · have hw := hw.1 hc
    refine zkI zM66 q66_9 kI0 ?_
    exact zri zM66 q66_10 rfl rfl hw
theorem b66_30 {X : Option (List Int32)} {d : Nat} {h : zH} {A : Int32 → zH → Prop} {l0 : Nat} {l2 : Int32} {l3 : Int32} (hl0 : l0 ∈ ([25, 28, 31, 34, 37, 40] : List Nat)) (hw : zP X d 52 0 (z_ent [.ref 18] 1) [] z_S0 h (zV fun h7 => zP X d 67 0 (z_ent [.ref (l0), .ref 18, .int l2] 5) [] z_S0 h7 (zI fun v8 h10 => ((v8 = 0 → A 0 h10) ∧ (¬ v8 = 0 → ((l3 = 60 → zP X d 62 0 (z_ent [.ref (l0), .int (-6)] 2) [] z_S0 h10 (zV fun h17 => A 1 h17)) ∧ (¬ l3 = 60 → zP X d 62 0 (z_ent [.ref (l0), .int (-7)] 2) [] z_S0 h10 (zV fun h13 => A 1 h13)))))))) : zP X (d + 1) 66 30 [some (.ref (l0)), some (.ref 18), some (.int l2), some (.int l3)] [] z_S0 h (zI A) := by
  refine zl zM66 q66_30 rfl ?_
  refine zcV zM66 q66_31 kl10_41 rfl rfl (Nat.le_of_ble_eq_true rfl) rfl zM52 (Nat.le_of_ble_eq_true rfl) (hw.mono (fun r0 h7 hr20 => ?_))
  obtain ⟨rfl, hw⟩ := hr20
  show zP X (d + 1) 66 34 [some (.ref (l0)), some (.ref 18), some (.int l2), some (.int l3)] [] z_S0 h7 (zI A)
  refine zl zM66 q66_34 rfl ?_
  refine zl zM66 q66_35 rfl ?_
  refine zl zM66 q66_36 rfl ?_
  refine zcV zM66 q66_37 kl10_54 rfl rfl (Nat.le_of_ble_eq_true rfl) (z_rcvT hl0) zM67 (Nat.le_of_ble_eq_true rfl) (hw.mono (fun r0 h10 hr19 => ?_))
  obtain ⟨v8, rfl, hw⟩ := hr19
  show zP X (d + 1) 66 40 [some (.ref (l0)), some (.ref 18), some (.int l2), some (.int l3)] [.int v8] z_S0 h10 (zI A)
  refine zb1_ne zM66 q66_40 (tgt := 45) rfl (fun hc => ?_) (fun hc => ?_)
  · have hw := hw.2 hc
    refine zl zM66 q66_45 rfl ?_
    refine zl zM66 q66_46 rfl ?_
    refine zkB zM66 q66_47 kB60 ?_
    refine zb2_ne zM66 q66_49 (tgt := 57) rfl (fun hc => ?_) (fun hc => ?_)
    · have hw := hw.2 hc
      refine zkB zM66 q66_57 kBm7 ?_
      refine zcV zM66 q66_59 kl10_44 rfl rfl (Nat.le_of_ble_eq_true rfl) (z_rcvT hl0) zM62 (Nat.le_of_ble_eq_true rfl) (hw.mono (fun r0 h13 hr14 => ?_))
      obtain ⟨rfl, hw⟩ := hr14
      show zP X (d + 1) 66 62 [some (.ref (l0)), some (.ref 18), some (.int l2), some (.int l3)] [] z_S0 h13 (zI A)
      refine zkI zM66 q66_62 kI1 ?_
      exact zri zM66 q66_63 rfl rfl hw
    · have hw := hw.1 hc
      refine zkB zM66 q66_52 kBm6 ?_
      refine zl zM66 q66_54 (pc' := 59) (ls' := _) (st' := _) rfl ?_
      refine zcV zM66 q66_59 kl10_44 rfl rfl (Nat.le_of_ble_eq_true rfl) (z_rcvT hl0) zM62 (Nat.le_of_ble_eq_true rfl) (hw.mono (fun r0 h17 hr18 => ?_))
      obtain ⟨rfl, hw⟩ := hr18
      show zP X (d + 1) 66 62 [some (.ref (l0)), some (.ref 18), some (.int l2), some (.int l3)] [] z_S0 h17 (zI A)
      refine zkI zM66 q66_62 kI1 ?_
      exact zri zM66 q66_63 rfl rfl hw
  · have hw := hw.1 hc
    refine zkI zM66 q66_43 kI0 ?_
    exact zri zM66 q66_44 rfl rfl hw
-- X10_readSum
theorem b67 {X : Option (List Int32)} {d : Nat} {h : zH} {A : Int32 → zH → Prop} {t : Nat} {a2 : Int32} (ht0 : t ∈ ([25, 28, 31, 34, 37, 40] : List Nat)) (hw : zP X d 68 0 (z_ent [.ref (t), .ref 18, .int a2] 4) [] z_S0 h (zI fun v1 h3 => ((v1 = 0 → A 0 h3) ∧ (¬ v1 = 0 → zP X (d + 1) 67 13 [some (.ref (t)), some (.ref 18), some (.int a2), some (.int 0), none] [] z_S0 h3 (zI A))))) : zP X (d + 1) 67 0 (z_ent [.ref (t), .ref 18, .int a2] 5) [] z_S0 h (zI A) := by
  show zP X (d + 1) 67 0 [some (.ref (t)), some (.ref 18), some (.int a2), none, none] [] z_S0 h (zI A)
  refine zl zM67 q67_0 rfl ?_
  refine zl zM67 q67_1 rfl ?_
  refine zl zM67 q67_2 rfl ?_
  refine zcV zM67 q67_3 kl10_57 rfl rfl (Nat.le_of_ble_eq_true rfl) (z_rcvT ht0) zM68 (Nat.le_of_ble_eq_true rfl) (hw.mono (fun r0 h3 hr4 => ?_))
  obtain ⟨v1, rfl, hw⟩ := hr4
  show zP X (d + 1) 67 6 [some (.ref (t)), some (.ref 18), some (.int a2), none, none] [.int v1] z_S0 h3 (zI A)
  refine zb1_ne zM67 q67_6 (tgt := 11) rfl (fun hc => ?_) (fun hc => ?_)
  · have hw := hw.2 hc
    refine zkI zM67 q67_11 kI0 ?_
    refine zl zM67 q67_12 (ls' := [some (.ref (t)), some (.ref 18), some (.int a2), some (.int 0), none]) rfl ?_
    exact hw
  · have hw := hw.1 hc
    refine zkI zM67 q67_9 kI0 ?_
    exact zri zM67 q67_10 rfl rfl hw
theorem b67_13 {X : Option (List Int32)} {d : Nat} {h : zH} {A : Int32 → zH → Prop} {l0 : Nat} {l2 : Int32} {l3 : Int32} (hl0 : l0 ∈ ([25, 28, 31, 34, 37, 40] : List Nat)) (hw : ((l3 < 160 → (((h 18 4) = 43 → zP X (d + 1) 67 38 [some (.ref (l0)), some (.ref 18), some (.int l2), some (.int l3), none] [] z_S0 h (zI A)) ∧ (¬ (h 18 4) = 43 → (((h 18 4) = 45 → zP X (d + 1) 67 38 [some (.ref (l0)), some (.ref 18), some (.int l2), some (.int l3), none] [] z_S0 h (zI A)) ∧ (¬ (h 18 4) = 45 → A 1 h))))) ∧ (¬ l3 < 160 → A 1 h))) : zP X (d + 1) 67 13 [some (.ref (l0)), some (.ref 18), some (.int l2), some (.int l3), none] [] z_S0 h (zI A) := by
  refine zl zM67 q67_13 rfl ?_
  refine zkS zM67 q67_14 kS160 ?_
  refine zb2_ge zM67 q67_17 (tgt := 83) rfl (fun hc => ?_) (fun hc => ?_)
  · have hw := hw.2 hc
    refine zkI zM67 q67_83 kI1 ?_
    exact zri zM67 q67_84 rfl rfl hw
  · have hw := hw.1 hc
    refine zl zM67 q67_20 rfl ?_
    refine zgI zM67 q67_21 (by decide) g10_35 s18 rfl (v := (h 18 4)) rfl ?_
    refine zkB zM67 q67_24 kB43 ?_
    refine zb2_eq zM67 q67_26 (tgt := 38) rfl (fun hc => ?_) (fun hc => ?_)
    · have hw := hw.1 hc
      exact hw
    · have hw := hw.2 hc
      refine zl zM67 q67_29 rfl ?_
      refine zgI zM67 q67_30 (by decide) g10_35 s18 rfl (v := (h 18 4)) rfl ?_
      refine zkB zM67 q67_33 kB45 ?_
      refine zb2_ne zM67 q67_35 (tgt := 83) rfl (fun hc => ?_) (fun hc => ?_)
      · have hw := hw.2 hc
        refine zkI zM67 q67_83 kI1 ?_
        exact zri zM67 q67_84 rfl rfl hw
      · have hw := hw.1 hc
        exact hw
theorem b67_38 {X : Option (List Int32)} {d : Nat} {h : zH} {A : Int32 → zH → Prop} {l0 : Nat} {l2 : Int32} {l3 : Int32} (hl0 : l0 ∈ ([25, 28, 31, 34, 37, 40] : List Nat)) (hw : zP X d 52 0 (z_ent [.ref 18] 1) [] z_S0 h (zV fun h7 => zP X d 68 0 (z_ent [.ref (l0), .ref 18, .int l2] 4) [] z_S0 h7 (zI fun v8 h10 => ((v8 = 0 → A 0 h10) ∧ (¬ v8 = 0 → (((h 18 4) = 43 → zP X (d + 1) 67 74 [some (.ref (l0)), some (.ref 18), some (.int l2), some (.int l3), none] [.int (-3), .ref (l0)] z_S0 h10 (zI A)) ∧ (¬ (h 18 4) = 43 → zP X (d + 1) 67 74 [some (.ref (l0)), some (.ref 18), some (.int l2), some (.int l3), none] [.int (-4), .ref (l0)] z_S0 h10 (zI A)))))))) : zP X (d + 1) 67 38 [some (.ref (l0)), some (.ref 18), some (.int l2), some (.int l3), none] [] z_S0 h (zI A) := by
  refine zl zM67 q67_38 rfl ?_
  refine zgI zM67 q67_39 (by decide) g10_35 s18 rfl (v := (h 18 4)) rfl ?_
  refine zl zM67 q67_42 (ls' := [some (.ref (l0)), some (.ref 18), some (.int l2), some (.int l3), some (.int (h 18 4))]) rfl ?_
  refine zl zM67 q67_44 rfl ?_
  refine zcV zM67 q67_45 kl10_41 rfl rfl (Nat.le_of_ble_eq_true rfl) rfl zM52 (Nat.le_of_ble_eq_true rfl) (hw.mono (fun r0 h7 hr12 => ?_))
  obtain ⟨rfl, hw⟩ := hr12
  show zP X (d + 1) 67 48 [some (.ref (l0)), some (.ref 18), some (.int l2), some (.int l3), some (.int (h 18 4))] [] z_S0 h7 (zI A)
  refine zl zM67 q67_48 rfl ?_
  refine zl zM67 q67_49 rfl ?_
  refine zl zM67 q67_50 rfl ?_
  refine zcV zM67 q67_51 kl10_57 rfl rfl (Nat.le_of_ble_eq_true rfl) (z_rcvT hl0) zM68 (Nat.le_of_ble_eq_true rfl) (hw.mono (fun r0 h10 hr11 => ?_))
  obtain ⟨v8, rfl, hw⟩ := hr11
  show zP X (d + 1) 67 54 [some (.ref (l0)), some (.ref 18), some (.int l2), some (.int l3), some (.int (h 18 4))] [.int v8] z_S0 h10 (zI A)
  refine zb1_ne zM67 q67_54 (tgt := 59) rfl (fun hc => ?_) (fun hc => ?_)
  · have hw := hw.2 hc
    refine zl zM67 q67_59 rfl ?_
    refine zl zM67 q67_60 rfl ?_
    refine zkB zM67 q67_62 kB43 ?_
    refine zb2_ne zM67 q67_64 (tgt := 72) rfl (fun hc => ?_) (fun hc => ?_)
    · have hw := hw.2 hc
      refine zkB zM67 q67_72 kBm4 ?_
      refine zweak (a := [some (.ref (l0)), some (.ref 18), some (.int l2), some (.int l3), none]) ?_ hw
      exact ⟨rfl, ⟨rfl, ⟨rfl, ⟨rfl, trivial⟩⟩⟩⟩
    · have hw := hw.1 hc
      refine zkB zM67 q67_67 kBm3 ?_
      refine zl zM67 q67_69 (pc' := 74) (ls' := _) (st' := _) rfl ?_
      refine zweak (a := [some (.ref (l0)), some (.ref 18), some (.int l2), some (.int l3), none]) ?_ hw
      exact ⟨rfl, ⟨rfl, ⟨rfl, ⟨rfl, trivial⟩⟩⟩⟩
  · have hw := hw.1 hc
    refine zkI zM67 q67_57 kI0 ?_
    exact zri zM67 q67_58 rfl rfl hw
theorem b67_74 {X : Option (List Int32)} {d : Nat} {h : zH} {A : Int32 → zH → Prop} {l0 : Nat} {l2 : Int32} {l3 : Int32} {w0 : Nat} {w1 : Int32} (hl0 : l0 ∈ ([25, 28, 31, 34, 37, 40] : List Nat)) (hv0 : w0 ∈ ([25, 28, 31, 34, 37, 40] : List Nat)) (hw : zP X d 62 0 (z_ent [.ref (w0), .int w1] 2) [] z_S0 h (zV fun h15 => zP X (d + 1) 67 13 [some (.ref (l0)), some (.ref 18), some (.int l2), some (.int (l3 + 1)), none] [] z_S0 h15 (zI A))) : zP X (d + 1) 67 74 [some (.ref (l0)), some (.ref 18), some (.int l2), some (.int l3), none] [.int w1, .ref (w0)] z_S0 h (zI A) := by
  refine zcV zM67 q67_74 kl10_44 rfl rfl (Nat.le_of_ble_eq_true rfl) (z_rcvT hv0) zM62 (Nat.le_of_ble_eq_true rfl) (hw.mono (fun r0 h15 hr16 => ?_))
  obtain ⟨rfl, hw⟩ := hr16
  show zP X (d + 1) 67 77 [some (.ref (l0)), some (.ref 18), some (.int l2), some (.int l3), none] [] z_S0 h15 (zI A)
  refine zl zM67 q67_77 (ls' := [some (.ref (l0)), some (.ref 18), some (.int l2), some (.int (l3 + 1)), none]) rfl ?_
  refine zl zM67 q67_80 (pc' := 13) (ls' := _) (st' := _) rfl ?_
  exact hw
-- X10_readTerm
theorem b68 {X : Option (List Int32)} {d : Nat} {h : zH} {A : Int32 → zH → Prop} {t : Nat} {a2 : Int32} (ht0 : t ∈ ([25, 28, 31, 34, 37, 40] : List Nat)) (hw : zP X d 69 0 (z_ent [.ref (t), .ref 18, .int a2] 4) [] z_S0 h (zI fun v1 h3 => ((v1 = 0 → A 0 h3) ∧ (¬ v1 = 0 → zP X (d + 1) 68 13 [some (.ref (t)), some (.ref 18), some (.int a2), some (.int 0)] [] z_S0 h3 (zI A))))) : zP X (d + 1) 68 0 (z_ent [.ref (t), .ref 18, .int a2] 4) [] z_S0 h (zI A) := by
  show zP X (d + 1) 68 0 [some (.ref (t)), some (.ref 18), some (.int a2), none] [] z_S0 h (zI A)
  refine zl zM68 q68_0 rfl ?_
  refine zl zM68 q68_1 rfl ?_
  refine zl zM68 q68_2 rfl ?_
  refine zcV zM68 q68_3 kl10_60 rfl rfl (Nat.le_of_ble_eq_true rfl) (z_rcvT ht0) zM69 (Nat.le_of_ble_eq_true rfl) (hw.mono (fun r0 h3 hr4 => ?_))
  obtain ⟨v1, rfl, hw⟩ := hr4
  show zP X (d + 1) 68 6 [some (.ref (t)), some (.ref 18), some (.int a2), none] [.int v1] z_S0 h3 (zI A)
  refine zb1_ne zM68 q68_6 (tgt := 11) rfl (fun hc => ?_) (fun hc => ?_)
  · have hw := hw.2 hc
    refine zkI zM68 q68_11 kI0 ?_
    refine zl zM68 q68_12 (ls' := [some (.ref (t)), some (.ref 18), some (.int a2), some (.int 0)]) rfl ?_
    exact hw
  · have hw := hw.1 hc
    refine zkI zM68 q68_9 kI0 ?_
    exact zri zM68 q68_10 rfl rfl hw
theorem b68_13 {X : Option (List Int32)} {d : Nat} {h : zH} {A : Int32 → zH → Prop} {l0 : Nat} {l2 : Int32} {l3 : Int32} (hl0 : l0 ∈ ([25, 28, 31, 34, 37, 40] : List Nat)) (hw : ((l3 < 160 → (((h 18 4) = 42 → zP X d 52 0 (z_ent [.ref 18] 1) [] z_S0 h (zV fun h7 => zP X d 69 0 (z_ent [.ref (l0), .ref 18, .int l2] 4) [] z_S0 h7 (zI fun v8 h10 => ((v8 = 0 → A 0 h10) ∧ (¬ v8 = 0 → zP X d 62 0 (z_ent [.ref (l0), .int (-5)] 2) [] z_S0 h10 (zV fun h13 => zP X (d + 1) 68 13 [some (.ref (l0)), some (.ref 18), some (.int l2), some (.int (l3 + 1))] [] z_S0 h13 (zI A))))))) ∧ (¬ (h 18 4) = 42 → A 1 h))) ∧ (¬ l3 < 160 → A 1 h))) : zP X (d + 1) 68 13 [some (.ref (l0)), some (.ref 18), some (.int l2), some (.int l3)] [] z_S0 h (zI A) := by
  refine zl zM68 q68_13 rfl ?_
  refine zkS zM68 q68_14 kS160 ?_
  refine zb2_ge zM68 q68_17 (tgt := 56) rfl (fun hc => ?_) (fun hc => ?_)
  · have hw := hw.2 hc
    refine zkI zM68 q68_56 kI1 ?_
    exact zri zM68 q68_57 rfl rfl hw
  · have hw := hw.1 hc
    refine zl zM68 q68_20 rfl ?_
    refine zgI zM68 q68_21 (by decide) g10_35 s18 rfl (v := (h 18 4)) rfl ?_
    refine zkB zM68 q68_24 kB42 ?_
    refine zb2_ne zM68 q68_26 (tgt := 56) rfl (fun hc => ?_) (fun hc => ?_)
    · have hw := hw.2 hc
      refine zkI zM68 q68_56 kI1 ?_
      exact zri zM68 q68_57 rfl rfl hw
    · have hw := hw.1 hc
      refine zl zM68 q68_29 rfl ?_
      refine zcV zM68 q68_30 kl10_41 rfl rfl (Nat.le_of_ble_eq_true rfl) rfl zM52 (Nat.le_of_ble_eq_true rfl) (hw.mono (fun r0 h7 hr16 => ?_))
      obtain ⟨rfl, hw⟩ := hr16
      show zP X (d + 1) 68 33 [some (.ref (l0)), some (.ref 18), some (.int l2), some (.int l3)] [] z_S0 h7 (zI A)
      refine zl zM68 q68_33 rfl ?_
      refine zl zM68 q68_34 rfl ?_
      refine zl zM68 q68_35 rfl ?_
      refine zcV zM68 q68_36 kl10_60 rfl rfl (Nat.le_of_ble_eq_true rfl) (z_rcvT hl0) zM69 (Nat.le_of_ble_eq_true rfl) (hw.mono (fun r0 h10 hr15 => ?_))
      obtain ⟨v8, rfl, hw⟩ := hr15
      show zP X (d + 1) 68 39 [some (.ref (l0)), some (.ref 18), some (.int l2), some (.int l3)] [.int v8] z_S0 h10 (zI A)
      refine zb1_ne zM68 q68_39 (tgt := 44) rfl (fun hc => ?_) (fun hc => ?_)
      · have hw := hw.2 hc
        refine zl zM68 q68_44 rfl ?_
        refine zkB zM68 q68_45 kBm5 ?_
        refine zcV zM68 q68_47 kl10_44 rfl rfl (Nat.le_of_ble_eq_true rfl) (z_rcvT hl0) zM62 (Nat.le_of_ble_eq_true rfl) (hw.mono (fun r0 h13 hr14 => ?_))
        obtain ⟨rfl, hw⟩ := hr14
        show zP X (d + 1) 68 50 [some (.ref (l0)), some (.ref 18), some (.int l2), some (.int l3)] [] z_S0 h13 (zI A)
        refine zl zM68 q68_50 (ls' := [some (.ref (l0)), some (.ref 18), some (.int l2), some (.int (l3 + 1))]) rfl ?_
        refine zl zM68 q68_53 (pc' := 13) (ls' := _) (st' := _) rfl ?_
        exact hw
      · have hw := hw.1 hc
        refine zkI zM68 q68_42 kI0 ?_
        exact zri zM68 q68_43 rfl rfl hw
-- X10_readOne
theorem b69 {X : Option (List Int32)} {d : Nat} {h : zH} {A : Int32 → zH → Prop} {t : Nat} {a2 : Int32} (ht0 : t ∈ ([25, 28, 31, 34, 37, 40] : List Nat)) (hw : (((h 18 4) = 45 → ((a2 < 5 → zP X d 70 0 (z_ent [.ref (t), .ref 18, .int (a2 + 1)] 3) [] z_S0 h (zI fun v5 h7 => ((v5 = 0 → A 0 h7) ∧ (¬ v5 = 0 → A 1 h7)))) ∧ (¬ a2 < 5 → A 0 h))) ∧ (¬ (h 18 4) = 45 → (((h 18 4) = 40 → ((a2 < 5 → zP X d 71 0 (z_ent [.ref (t), .ref 18, .int (a2 + 1)] 3) [] z_S0 h (zI fun v1 h3 => ((v1 = 0 → A 0 h3) ∧ (¬ v1 = 0 → A 1 h3)))) ∧ (¬ a2 < 5 → A 0 h))) ∧ (¬ (h 18 4) = 40 → (((h 18 4) = 258 → zP X (d + 1) 69 77 [some (.ref (t)), some (.ref 18), none, some (.int (h 18 4))] [] z_S0 h (zI A)) ∧ (¬ (h 18 4) = 258 → (((h 18 4) < 270 → A 0 h) ∧ (¬ (h 18 4) < 270 → zP X (d + 1) 69 77 [some (.ref (t)), some (.ref 18), none, some (.int (h 18 4))] [] z_S0 h (zI A)))))))))) : zP X (d + 1) 69 0 (z_ent [.ref (t), .ref 18, .int a2] 4) [] z_S0 h (zI A) := by
  show zP X (d + 1) 69 0 [some (.ref (t)), some (.ref 18), some (.int a2), none] [] z_S0 h (zI A)
  refine zl zM69 q69_0 rfl ?_
  refine zgI zM69 q69_1 (by decide) g10_35 s18 rfl (v := (h 18 4)) rfl ?_
  refine zl zM69 q69_4 (ls' := [some (.ref (t)), some (.ref 18), some (.int a2), some (.int (h 18 4))]) rfl ?_
  refine zl zM69 q69_5 rfl ?_
  refine zkB zM69 q69_6 kB45 ?_
  refine zb2_ne zM69 q69_8 (tgt := 33) rfl (fun hc => ?_) (fun hc => ?_)
  · have hw := hw.2 hc
    refine zl zM69 q69_33 rfl ?_
    refine zkB zM69 q69_34 kB40 ?_
    refine zb2_ne zM69 q69_36 (tgt := 61) rfl (fun hc => ?_) (fun hc => ?_)
    · have hw := hw.2 hc
      refine zl zM69 q69_61 rfl ?_
      refine zkS zM69 q69_62 kS258 ?_
      refine zb2_eq zM69 q69_65 (tgt := 77) rfl (fun hc => ?_) (fun hc => ?_)
      · have hw := hw.1 hc
        refine zweak (a := [some (.ref (t)), some (.ref 18), none, some (.int (h 18 4))]) ?_ hw
        exact ⟨rfl, ⟨rfl, ⟨rfl, trivial⟩⟩⟩
      · have hw := hw.2 hc
        refine zl zM69 q69_68 rfl ?_
        refine zkS zM69 q69_69 kS270 ?_
        refine zb2_ge zM69 q69_72 (tgt := 77) rfl (fun hc => ?_) (fun hc => ?_)
        · have hw := hw.2 hc
          refine zweak (a := [some (.ref (t)), some (.ref 18), none, some (.int (h 18 4))]) ?_ hw
          exact ⟨rfl, ⟨rfl, ⟨rfl, trivial⟩⟩⟩
        · have hw := hw.1 hc
          refine zkI zM69 q69_75 kI0 ?_
          exact zri zM69 q69_76 rfl rfl hw
    · have hw := hw.1 hc
      refine zl zM69 q69_39 rfl ?_
      refine zkI zM69 q69_40 kI5 ?_
      refine zb2_ge zM69 q69_41 (tgt := 59) rfl (fun hc => ?_) (fun hc => ?_)
      · have hw := hw.2 hc
        refine zkI zM69 q69_59 kI0 ?_
        exact zri zM69 q69_60 rfl rfl hw
      · have hw := hw.1 hc
        refine zl zM69 q69_44 rfl ?_
        refine zl zM69 q69_45 rfl ?_
        refine zl zM69 q69_46 rfl ?_
        refine zkI zM69 q69_47 kI1 ?_
        refine zl zM69 q69_48 (pc' := 49) (st' := .int (a2 + 1) :: _) rfl ?_
        refine zcV zM69 q69_49 kl10_66 rfl rfl (Nat.le_of_ble_eq_true rfl) (z_rcvT ht0) zM71 (Nat.le_of_ble_eq_true rfl) (hw.mono (fun r0 h3 hr4 => ?_))
        obtain ⟨v1, rfl, hw⟩ := hr4
        show zP X (d + 1) 69 52 [some (.ref (t)), some (.ref 18), some (.int a2), some (.int (h 18 4))] [.int v1] z_S0 h3 (zI A)
        refine zb1_eq zM69 q69_52 (tgt := 59) rfl (fun hc => ?_) (fun hc => ?_)
        · have hw := hw.1 hc
          refine zkI zM69 q69_59 kI0 ?_
          exact zri zM69 q69_60 rfl rfl hw
        · have hw := hw.2 hc
          refine zkI zM69 q69_55 kI1 ?_
          refine zl zM69 q69_56 (pc' := 60) (ls' := _) (st' := _) rfl ?_
          exact zri zM69 q69_60 rfl rfl hw
  · have hw := hw.1 hc
    refine zl zM69 q69_11 rfl ?_
    refine zkI zM69 q69_12 kI5 ?_
    refine zb2_ge zM69 q69_13 (tgt := 31) rfl (fun hc => ?_) (fun hc => ?_)
    · have hw := hw.2 hc
      refine zkI zM69 q69_31 kI0 ?_
      exact zri zM69 q69_32 rfl rfl hw
    · have hw := hw.1 hc
      refine zl zM69 q69_16 rfl ?_
      refine zl zM69 q69_17 rfl ?_
      refine zl zM69 q69_18 rfl ?_
      refine zkI zM69 q69_19 kI1 ?_
      refine zl zM69 q69_20 (pc' := 21) (st' := .int (a2 + 1) :: _) rfl ?_
      refine zcV zM69 q69_21 kl10_63 rfl rfl (Nat.le_of_ble_eq_true rfl) (z_rcvT ht0) zM70 (Nat.le_of_ble_eq_true rfl) (hw.mono (fun r0 h7 hr8 => ?_))
      obtain ⟨v5, rfl, hw⟩ := hr8
      show zP X (d + 1) 69 24 [some (.ref (t)), some (.ref 18), some (.int a2), some (.int (h 18 4))] [.int v5] z_S0 h7 (zI A)
      refine zb1_eq zM69 q69_24 (tgt := 31) rfl (fun hc => ?_) (fun hc => ?_)
      · have hw := hw.1 hc
        refine zkI zM69 q69_31 kI0 ?_
        exact zri zM69 q69_32 rfl rfl hw
      · have hw := hw.2 hc
        refine zkI zM69 q69_27 kI1 ?_
        refine zl zM69 q69_28 (pc' := 32) (ls' := _) (st' := _) rfl ?_
        exact zri zM69 q69_32 rfl rfl hw
theorem b69_77 {X : Option (List Int32)} {d : Nat} {h : zH} {A : Int32 → zH → Prop} {l0 : Nat} {l3 : Int32} (hl0 : l0 ∈ ([25, 28, 31, 34, 37, 40] : List Nat)) (hw : ((l3 = 258 → zP X (d + 1) 69 100 [none, some (.ref 18), none, none] [.int (h 18 5), .ref (l0)] z_S0 h (zI A)) ∧ (¬ l3 = 258 → zP X (d + 1) 69 100 [none, some (.ref 18), none, none] [.int ((-10) - (l3 - 270)), .ref (l0)] z_S0 h (zI A)))) : zP X (d + 1) 69 77 [some (.ref (l0)), some (.ref 18), none, some (.int l3)] [] z_S0 h (zI A) := by
  refine zl zM69 q69_77 rfl ?_
  refine zl zM69 q69_78 rfl ?_
  refine zkS zM69 q69_79 kS258 ?_
  refine zb2_ne zM69 q69_82 (tgt := 92) rfl (fun hc => ?_) (fun hc => ?_)
  · have hw := hw.2 hc
    refine zkB zM69 q69_92 kBm10 ?_
    refine zl zM69 q69_94 rfl ?_
    refine zkS zM69 q69_95 kS270 ?_
    refine zl zM69 q69_98 (pc' := 99) (st' := .int (l3 - 270) :: _) rfl ?_
    refine zl zM69 q69_99 (pc' := 100) (st' := .int ((-10) - (l3 - 270)) :: _) rfl ?_
    refine zweak (a := [none, some (.ref 18), none, none]) ?_ hw
    exact ⟨rfl, trivial⟩
  · have hw := hw.1 hc
    refine zl zM69 q69_85 rfl ?_
    refine zgI zM69 q69_86 (by decide) g10_69 s18 rfl (v := (h 18 5)) rfl ?_
    refine zl zM69 q69_89 (pc' := 100) (ls' := _) (st' := _) rfl ?_
    refine zweak (a := [none, some (.ref 18), none, none]) ?_ hw
    exact ⟨rfl, trivial⟩
theorem b69_100 {X : Option (List Int32)} {d : Nat} {h : zH} {A : Int32 → zH → Prop} {w0 : Nat} {w1 : Int32} (hv0 : w0 ∈ ([25, 28, 31, 34, 37, 40] : List Nat)) (hw : zP X d 62 0 (z_ent [.ref (w0), .int w1] 2) [] z_S0 h (zV fun h11 => zP X d 52 0 (z_ent [.ref 18] 1) [] z_S0 h11 (zV fun h14 => A 1 h14))) : zP X (d + 1) 69 100 [none, some (.ref 18), none, none] [.int w1, .ref (w0)] z_S0 h (zI A) := by
  refine zcV zM69 q69_100 kl10_44 rfl rfl (Nat.le_of_ble_eq_true rfl) (z_rcvT hv0) zM62 (Nat.le_of_ble_eq_true rfl) (hw.mono (fun r0 h11 hr16 => ?_))
  obtain ⟨rfl, hw⟩ := hr16
  show zP X (d + 1) 69 103 [none, some (.ref 18), none, none] [] z_S0 h11 (zI A)
  refine zl zM69 q69_103 rfl ?_
  refine zcV zM69 q69_104 kl10_41 rfl rfl (Nat.le_of_ble_eq_true rfl) rfl zM52 (Nat.le_of_ble_eq_true rfl) (hw.mono (fun r0 h14 hr15 => ?_))
  obtain ⟨rfl, hw⟩ := hr15
  show zP X (d + 1) 69 107 [none, some (.ref 18), none, none] [] z_S0 h14 (zI A)
  refine zkI zM69 q69_107 kI1 ?_
  exact zri zM69 q69_108 rfl rfl hw
-- X10_readNegated
theorem b70 {X : Option (List Int32)} {d : Nat} {h : zH} {A : Int32 → zH → Prop} {t : Nat} {a2 : Int32} (ht0 : t ∈ ([25, 28, 31, 34, 37, 40] : List Nat)) (hw : zP X d 52 0 (z_ent [.ref 18] 1) [] z_S0 h (zV fun h3 => zP X d 69 0 (z_ent [.ref (t), .ref 18, .int a2] 4) [] z_S0 h3 (zI fun v4 h6 => ((v4 = 0 → A 0 h6) ∧ (¬ v4 = 0 → zP X d 62 0 (z_ent [.ref (t), .int (-1)] 2) [] z_S0 h6 (zV fun h9 => A 1 h9)))))) : zP X (d + 1) 70 0 (z_ent [.ref (t), .ref 18, .int a2] 3) [] z_S0 h (zI A) := by
  show zP X (d + 1) 70 0 [some (.ref (t)), some (.ref 18), some (.int a2)] [] z_S0 h (zI A)
  refine zl zM70 q70_0 rfl ?_
  refine zcV zM70 q70_1 kl10_41 rfl rfl (Nat.le_of_ble_eq_true rfl) rfl zM52 (Nat.le_of_ble_eq_true rfl) (hw.mono (fun r0 h3 hr12 => ?_))
  obtain ⟨rfl, hw⟩ := hr12
  show zP X (d + 1) 70 4 [some (.ref (t)), some (.ref 18), some (.int a2)] [] z_S0 h3 (zI A)
  refine zl zM70 q70_4 rfl ?_
  refine zl zM70 q70_5 rfl ?_
  refine zl zM70 q70_6 rfl ?_
  refine zcV zM70 q70_7 kl10_60 rfl rfl (Nat.le_of_ble_eq_true rfl) (z_rcvT ht0) zM69 (Nat.le_of_ble_eq_true rfl) (hw.mono (fun r0 h6 hr11 => ?_))
  obtain ⟨v4, rfl, hw⟩ := hr11
  show zP X (d + 1) 70 10 [some (.ref (t)), some (.ref 18), some (.int a2)] [.int v4] z_S0 h6 (zI A)
  refine zb1_ne zM70 q70_10 (tgt := 15) rfl (fun hc => ?_) (fun hc => ?_)
  · have hw := hw.2 hc
    refine zl zM70 q70_15 rfl ?_
    refine zkI zM70 q70_16 kIm1 ?_
    refine zcV zM70 q70_17 kl10_44 rfl rfl (Nat.le_of_ble_eq_true rfl) (z_rcvT ht0) zM62 (Nat.le_of_ble_eq_true rfl) (hw.mono (fun r0 h9 hr10 => ?_))
    obtain ⟨rfl, hw⟩ := hr10
    show zP X (d + 1) 70 20 [some (.ref (t)), some (.ref 18), some (.int a2)] [] z_S0 h9 (zI A)
    refine zkI zM70 q70_20 kI1 ?_
    exact zri zM70 q70_21 rfl rfl hw
  · have hw := hw.1 hc
    refine zkI zM70 q70_13 kI0 ?_
    exact zri zM70 q70_14 rfl rfl hw
-- X10_readBracket
theorem b71 {X : Option (List Int32)} {d : Nat} {h : zH} {A : Int32 → zH → Prop} {t : Nat} {a2 : Int32} (ht0 : t ∈ ([25, 28, 31, 34, 37, 40] : List Nat)) (hw : zP X d 52 0 (z_ent [.ref 18] 1) [] z_S0 h (zV fun h3 => zP X d 63 0 (z_ent [.ref (t), .ref 18, .int a2] 4) [] z_S0 h3 (zI fun v4 h6 => ((v4 = 0 → A 0 h6) ∧ (¬ v4 = 0 → zP X d 51 0 (z_ent [.ref 18, .int 41] 2) [] z_S0 h6 (zI fun v7 h9 => ((v7 = 0 → A 0 h9) ∧ (¬ v7 = 0 → A 1 h9)))))))) : zP X (d + 1) 71 0 (z_ent [.ref (t), .ref 18, .int a2] 3) [] z_S0 h (zI A) := by
  show zP X (d + 1) 71 0 [some (.ref (t)), some (.ref 18), some (.int a2)] [] z_S0 h (zI A)
  refine zl zM71 q71_0 rfl ?_
  refine zcV zM71 q71_1 kl10_41 rfl rfl (Nat.le_of_ble_eq_true rfl) rfl zM52 (Nat.le_of_ble_eq_true rfl) (hw.mono (fun r0 h3 hr12 => ?_))
  obtain ⟨rfl, hw⟩ := hr12
  show zP X (d + 1) 71 4 [some (.ref (t)), some (.ref 18), some (.int a2)] [] z_S0 h3 (zI A)
  refine zl zM71 q71_4 rfl ?_
  refine zl zM71 q71_5 rfl ?_
  refine zl zM71 q71_6 rfl ?_
  refine zcV zM71 q71_7 kl10_31 rfl rfl (Nat.le_of_ble_eq_true rfl) (z_rcvT ht0) zM63 (Nat.le_of_ble_eq_true rfl) (hw.mono (fun r0 h6 hr11 => ?_))
  obtain ⟨v4, rfl, hw⟩ := hr11
  show zP X (d + 1) 71 10 [some (.ref (t)), some (.ref 18), some (.int a2)] [.int v4] z_S0 h6 (zI A)
  refine zb1_eq zM71 q71_10 (tgt := 26) rfl (fun hc => ?_) (fun hc => ?_)
  · have hw := hw.1 hc
    refine zkI zM71 q71_26 kI0 ?_
    exact zri zM71 q71_27 rfl rfl hw
  · have hw := hw.2 hc
    refine zl zM71 q71_13 rfl ?_
    refine zkB zM71 q71_14 kB41 ?_
    refine zcV zM71 q71_16 kl10_27 rfl rfl (Nat.le_of_ble_eq_true rfl) rfl zM51 (Nat.le_of_ble_eq_true rfl) (hw.mono (fun r0 h9 hr10 => ?_))
    obtain ⟨v7, rfl, hw⟩ := hr10
    show zP X (d + 1) 71 19 [some (.ref (t)), some (.ref 18), some (.int a2)] [.int v7] z_S0 h9 (zI A)
    refine zb1_eq zM71 q71_19 (tgt := 26) rfl (fun hc => ?_) (fun hc => ?_)
    · have hw := hw.1 hc
      refine zkI zM71 q71_26 kI0 ?_
      exact zri zM71 q71_27 rfl rfl hw
    · have hw := hw.2 hc
      refine zkI zM71 q71_22 kI1 ?_
      refine zl zM71 q71_23 (pc' := 27) (ls' := _) (st' := _) rfl ?_
      exact zri zM71 q71_27 rfl rfl hw
-- X10_worked
theorem b72 {X : Option (List Int32)} {d : Nat} {h : zH} {A : Int32 → zH → Prop} {t : Nat} {a1 : Int32} (ht0 : t ∈ ([25, 28, 31, 34, 37, 40] : List Nat)) (hw : ((a1 = 0 → zP X (d + 1) 72 19 [some (.ref (t)), some (.int a1), some (.ref 43), some (.ref 44), some (.int 0), none, none] [.int 0] z_S0 h (zI A)) ∧ (¬ a1 = 0 → (z_ib (a1 - 1) 3 ∧ zP X (d + 1) 72 19 [some (.ref (t)), some (.int a1), some (.ref 43), some (.ref 44), some (.int 0), none, none] [.int (h (t + 2) (Int32.toNatClampNeg (a1 - 1)))] z_S0 h (zI A))))) : zP X (d + 1) 72 0 (z_ent [.ref (t), .int a1, .ref 43, .ref 44] 7) [] z_S0 h (zI A) := by
  show zP X (d + 1) 72 0 [some (.ref (t)), some (.int a1), some (.ref 43), some (.ref 44), none, none, none] [] z_S0 h (zI A)
  refine zkI zM72 q72_0 kI0 ?_
  refine zl zM72 q72_1 (ls' := [some (.ref (t)), some (.int a1), some (.ref 43), some (.ref 44), some (.int 0), none, none]) rfl ?_
  refine zl zM72 q72_3 rfl ?_
  refine zb1_ne zM72 q72_4 (tgt := 11) rfl (fun hc => ?_) (fun hc => ?_)
  · have hw := hw.2 hc
    refine zl zM72 q72_11 rfl ?_
    refine zgR (a := t + 2) zM72 q72_12 (sTx ht0).1 g10_15 (sTx ht0).2.2.2.1 rfl ?_
    refine zl zM72 q72_15 rfl ?_
    refine zkI zM72 q72_16 kI1 ?_
    refine zl zM72 q72_17 (pc' := 18) (st' := .int (a1 - 1) :: _) rfl ?_
    obtain ⟨hb, hw⟩ := hw
    refine ziA zM72 q72_18 (sTx ht0).2.2.1 (sTx ht0).2.2.2.2.2 hb (v := (h (t + 2) (Int32.toNatClampNeg (a1 - 1)))) rfl ?_
    exact hw
  · have hw := hw.1 hc
    refine zkI zM72 q72_7 kI0 ?_
    refine zl zM72 q72_8 (pc' := 19) (ls' := _) (st' := _) rfl ?_
    exact hw
theorem b72_19 {X : Option (List Int32)} {d : Nat} {h : zH} {A : Int32 → zH → Prop} {l0 : Nat} {l1 : Int32} {l4 : Int32} {w0 : Int32} (hl0 : l0 ∈ ([25, 28, 31, 34, 37, 40] : List Nat)) (hw : zP X (d + 1) 72 21 [some (.ref (l0)), some (.int l1), some (.ref 43), some (.ref 44), some (.int l4), some (.int w0), none] [] z_S0 h (zI A)) : zP X (d + 1) 72 19 [some (.ref (l0)), some (.int l1), some (.ref 43), some (.ref 44), some (.int l4), none, none] [.int w0] z_S0 h (zI A) := by
  refine zl zM72 q72_19 (ls' := [some (.ref (l0)), some (.int l1), some (.ref 43), some (.ref 44), some (.int l4), some (.int w0), none]) rfl ?_
  exact hw
theorem b72_21 {X : Option (List Int32)} {d : Nat} {h : zH} {A : Int32 → zH → Prop} {l0 : Nat} {l1 : Int32} {l4 : Int32} {l5 : Int32} (hl0 : l0 ∈ ([25, 28, 31, 34, 37, 40] : List Nat)) (hw : (z_ib l1 3 ∧ ((l5 < (h (l0 + 2) (Int32.toNatClampNeg l1)) → (z_ib l5 160 ∧ (((h (l0 + 1) (Int32.toNatClampNeg l5)) < 0 → ((((-10) : Int32) < (h (l0 + 1) (Int32.toNatClampNeg l5)) → (((h (l0 + 1) (Int32.toNatClampNeg l5)) = (-1) → zP X (d + 1) 72 102 [some (.ref (l0)), some (.int l1), some (.ref 43), some (.ref 44), some (.int l4), some (.int l5), some (.int (h (l0 + 1) (Int32.toNatClampNeg l5)))] [] z_S0 h (zI A)) ∧ (¬ (h (l0 + 1) (Int32.toNatClampNeg l5)) = (-1) → (((h (l0 + 1) (Int32.toNatClampNeg l5)) = (-2) → zP X (d + 1) 72 102 [some (.ref (l0)), some (.int l1), some (.ref 43), some (.ref 44), some (.int l4), some (.int l5), some (.int (h (l0 + 1) (Int32.toNatClampNeg l5)))] [] z_S0 h (zI A)) ∧ (¬ (h (l0 + 1) (Int32.toNatClampNeg l5)) = (-2) → ((l4 < 2 → A 0 h) ∧ (¬ l4 < 2 → (z_ib ((l4 + (-1)) - 1) 160 ∧ (z_ib (l4 + (-1)) 160 ∧ zP X d 73 0 (z_ent [.int (h (l0 + 1) (Int32.toNatClampNeg l5)), .int (h 44 (Int32.toNatClampNeg ((l4 + (-1)) - 1))), .int (h 44 (Int32.toNatClampNeg (l4 + (-1))))] 3) [] z_S0 h (zI fun v1 h2 => (z_ib ((l4 + (-1)) - 1) 160 ∧ zP X (d + 1) 72 184 [some (.ref (l0)), some (.int l1), some (.ref 43), some (.ref 44), some (.int (l4 + (-1))), some (.int l5), none] [] z_S0 (z_up h2 44 (Int32.toNatClampNeg ((l4 + (-1)) - 1)) v1) (zI A)))))))))))) ∧ (¬ ((-10) : Int32) < (h (l0 + 1) (Int32.toNatClampNeg l5)) → zP X (d + 1) 72 53 [some (.ref (l0)), some (.int l1), some (.ref 43), some (.ref 44), some (.int l4), some (.int l5), some (.int (h (l0 + 1) (Int32.toNatClampNeg l5)))] [] z_S0 h (zI A)))) ∧ (¬ (h (l0 + 1) (Int32.toNatClampNeg l5)) < 0 → zP X (d + 1) 72 53 [some (.ref (l0)), some (.int l1), some (.ref 43), some (.ref 44), some (.int l4), some (.int l5), some (.int (h (l0 + 1) (Int32.toNatClampNeg l5)))] [] z_S0 h (zI A))))) ∧ (¬ l5 < (h (l0 + 2) (Int32.toNatClampNeg l1)) → ((l4 = 1 → A (h 44 0) h) ∧ (¬ l4 = 1 → A 0 h)))))) : zP X (d + 1) 72 21 [some (.ref (l0)), some (.int l1), some (.ref 43), some (.ref 44), some (.int l4), some (.int l5), none] [] z_S0 h (zI A) := by
  refine zl zM72 q72_21 rfl ?_
  refine zl zM72 q72_23 rfl ?_
  refine zgR (a := l0 + 2) zM72 q72_24 (sTx hl0).1 g10_15 (sTx hl0).2.2.2.1 rfl ?_
  refine zl zM72 q72_27 rfl ?_
  obtain ⟨hb, hw⟩ := hw
  refine ziA zM72 q72_28 (sTx hl0).2.2.1 (sTx hl0).2.2.2.2.2 hb (v := (h (l0 + 2) (Int32.toNatClampNeg l1))) rfl ?_
  refine zb2_ge zM72 q72_29 (tgt := 190) rfl (fun hc => ?_) (fun hc => ?_)
  · have hw := hw.2 hc
    refine zl zM72 q72_190 rfl ?_
    refine zkI zM72 q72_192 kI1 ?_
    refine zb2_ne zM72 q72_193 (tgt := 202) rfl (fun hc => ?_) (fun hc => ?_)
    · have hw := hw.2 hc
      refine zkI zM72 q72_202 kI0 ?_
      exact zri zM72 q72_203 rfl rfl hw
    · have hw := hw.1 hc
      refine zl zM72 q72_196 rfl ?_
      refine zkI zM72 q72_197 kI0 ?_
      refine ziA zM72 q72_198 (by decide) s44 (by decide) (v := (h 44 0)) rfl ?_
      refine zl zM72 q72_199 (pc' := 203) (ls' := _) (st' := _) rfl ?_
      exact zri zM72 q72_203 rfl rfl hw
  · have hw := hw.1 hc
    refine zl zM72 q72_32 rfl ?_
    refine zgR (a := l0 + 1) zM72 q72_33 (sTx hl0).1 g10_9 (sTx hl0).2.2.2.1 rfl ?_
    refine zl zM72 q72_36 rfl ?_
    obtain ⟨hb, hw⟩ := hw
    refine ziA zM72 q72_38 (sTx hl0).2.1 (sTx hl0).2.2.2.2.1 hb (v := (h (l0 + 1) (Int32.toNatClampNeg l5))) rfl ?_
    refine zl zM72 q72_39 (ls' := [some (.ref (l0)), some (.int l1), some (.ref 43), some (.ref 44), some (.int l4), some (.int l5), some (.int (h (l0 + 1) (Int32.toNatClampNeg l5)))]) rfl ?_
    refine zl zM72 q72_41 rfl ?_
    refine zb1_ge zM72 q72_43 (tgt := 53) rfl (fun hc => ?_) (fun hc => ?_)
    · have hw := hw.2 hc
      exact hw
    · have hw := hw.1 hc
      refine zl zM72 q72_46 rfl ?_
      refine zkB zM72 q72_48 kBm10 ?_
      refine zb2_gt zM72 q72_50 (tgt := 89) rfl (fun hc => ?_) (fun hc => ?_)
      · have hw := hw.1 hc
        refine zl zM72 q72_89 rfl ?_
        refine zkI zM72 q72_91 kIm1 ?_
        refine zb2_eq zM72 q72_92 (tgt := 102) rfl (fun hc => ?_) (fun hc => ?_)
        · have hw := hw.1 hc
          exact hw
        · have hw := hw.2 hc
          refine zl zM72 q72_95 rfl ?_
          refine zkB zM72 q72_97 kBm2 ?_
          refine zb2_ne zM72 q72_99 (tgt := 152) rfl (fun hc => ?_) (fun hc => ?_)
          · have hw := hw.2 hc
            refine zl zM72 q72_152 rfl ?_
            refine zkI zM72 q72_154 kI2 ?_
            refine zb2_ge zM72 q72_155 (tgt := 160) rfl (fun hc => ?_) (fun hc => ?_)
            · have hw := hw.2 hc
              refine zl zM72 q72_160 (ls' := [some (.ref (l0)), some (.int l1), some (.ref 43), some (.ref 44), some (.int (l4 + (-1))), some (.int l5), some (.int (h (l0 + 1) (Int32.toNatClampNeg l5)))]) rfl ?_
              refine zl zM72 q72_163 rfl ?_
              refine zl zM72 q72_164 rfl ?_
              refine zkI zM72 q72_166 kI1 ?_
              refine zl zM72 q72_167 (pc' := 168) (st' := .int ((l4 + (-1)) - 1) :: _) rfl ?_
              refine zl zM72 q72_168 rfl ?_
              refine zl zM72 q72_170 rfl ?_
              refine zl zM72 q72_171 rfl ?_
              refine zkI zM72 q72_173 kI1 ?_
              refine zl zM72 q72_174 (pc' := 175) (st' := .int ((l4 + (-1)) - 1) :: _) rfl ?_
              obtain ⟨hb, hw⟩ := hw
              refine ziA zM72 q72_175 (by decide) s44 hb (v := (h 44 (Int32.toNatClampNeg ((l4 + (-1)) - 1)))) rfl ?_
              refine zl zM72 q72_176 rfl ?_
              refine zl zM72 q72_177 rfl ?_
              obtain ⟨hb, hw⟩ := hw
              refine ziA zM72 q72_179 (by decide) s44 hb (v := (h 44 (Int32.toNatClampNeg (l4 + (-1))))) rfl ?_
              refine zcS zM72 q72_180 ky10_76 kl10_76 (by decide) rfl (Nat.le_of_ble_eq_true rfl) zM73 (Nat.le_of_ble_eq_true rfl) (hw.mono (fun r0 h2 hr3 => ?_))
              obtain ⟨v1, rfl, hw⟩ := hr3
              show zP X (d + 1) 72 183 [some (.ref (l0)), some (.int l1), some (.ref 43), some (.ref 44), some (.int (l4 + (-1))), some (.int l5), some (.int (h (l0 + 1) (Int32.toNatClampNeg l5)))] [.int v1, .int ((l4 + (-1)) - 1), .ref 44] z_S0 h2 (zI A)
              obtain ⟨hb, hw⟩ := hw
              refine ziS zM72 q72_183 (by decide) s44 hb rfl ?_
              refine zweak (a := [some (.ref (l0)), some (.int l1), some (.ref 43), some (.ref 44), some (.int (l4 + (-1))), some (.int l5), none]) ?_ hw
              exact ⟨rfl, ⟨rfl, ⟨rfl, ⟨rfl, ⟨rfl, ⟨rfl, trivial⟩⟩⟩⟩⟩⟩
            · have hw := hw.1 hc
              refine zkI zM72 q72_158 kI0 ?_
              exact zri zM72 q72_159 rfl rfl hw
          · have hw := hw.1 hc
            exact hw
      · have hw := hw.2 hc
        exact hw
theorem b72_53 {X : Option (List Int32)} {d : Nat} {h : zH} {A : Int32 → zH → Prop} {l0 : Nat} {l1 : Int32} {l4 : Int32} {l5 : Int32} {l6 : Int32} (hl0 : l0 ∈ ([25, 28, 31, 34, 37, 40] : List Nat)) (hw : ((l4 < (Int32.ofNat 160) → ((l6 < 0 → (z_ib ((-10) - l6) 6 ∧ zP X (d + 1) 72 82 [some (.ref (l0)), some (.int l1), some (.ref 43), some (.ref 44), some (.int l4), some (.int l5), none] [.int (h 43 (Int32.toNatClampNeg ((-10) - l6))), .int l4, .ref 44] z_S0 h (zI A))) ∧ (¬ l6 < 0 → zP X (d + 1) 72 82 [some (.ref (l0)), some (.int l1), some (.ref 43), some (.ref 44), some (.int l4), some (.int l5), none] [.int l6, .int l4, .ref 44] z_S0 h (zI A)))) ∧ (¬ l4 < (Int32.ofNat 160) → A 0 h))) : zP X (d + 1) 72 53 [some (.ref (l0)), some (.int l1), some (.ref 43), some (.ref 44), some (.int l4), some (.int l5), some (.int l6)] [] z_S0 h (zI A) := by
  refine zl zM72 q72_53 rfl ?_
  refine zl zM72 q72_55 rfl ?_
  refine zln zM72 q72_56 (by decide) s44 (by decide) ?_
  refine zb2_lt zM72 q72_57 (tgt := 62) rfl (fun hc => ?_) (fun hc => ?_)
  · have hw := hw.1 hc
    refine zl zM72 q72_62 rfl ?_
    refine zl zM72 q72_63 rfl ?_
    refine zl zM72 q72_65 rfl ?_
    refine zb1_lt zM72 q72_67 (tgt := 75) rfl (fun hc => ?_) (fun hc => ?_)
    · have hw := hw.1 hc
      refine zl zM72 q72_75 rfl ?_
      refine zkB zM72 q72_76 kBm10 ?_
      refine zl zM72 q72_78 rfl ?_
      refine zl zM72 q72_80 (pc' := 81) (st' := .int ((-10) - l6) :: _) rfl ?_
      obtain ⟨hb, hw⟩ := hw
      refine ziA zM72 q72_81 (by decide) s43 hb (v := (h 43 (Int32.toNatClampNeg ((-10) - l6)))) rfl ?_
      refine zweak (a := [some (.ref (l0)), some (.int l1), some (.ref 43), some (.ref 44), some (.int l4), some (.int l5), none]) ?_ hw
      exact ⟨rfl, ⟨rfl, ⟨rfl, ⟨rfl, ⟨rfl, ⟨rfl, trivial⟩⟩⟩⟩⟩⟩
    · have hw := hw.2 hc
      refine zl zM72 q72_70 rfl ?_
      refine zl zM72 q72_72 (pc' := 82) (ls' := _) (st' := _) rfl ?_
      refine zweak (a := [some (.ref (l0)), some (.int l1), some (.ref 43), some (.ref 44), some (.int l4), some (.int l5), none]) ?_ hw
      exact ⟨rfl, ⟨rfl, ⟨rfl, ⟨rfl, ⟨rfl, ⟨rfl, trivial⟩⟩⟩⟩⟩⟩
  · have hw := hw.2 hc
    refine zkI zM72 q72_60 kI0 ?_
    exact zri zM72 q72_61 rfl rfl hw
theorem b72_102 {X : Option (List Int32)} {d : Nat} {h : zH} {A : Int32 → zH → Prop} {l0 : Nat} {l1 : Int32} {l4 : Int32} {l5 : Int32} {l6 : Int32} (hl0 : l0 ∈ ([25, 28, 31, 34, 37, 40] : List Nat)) (hw : ((l4 < 1 → A 0 h) ∧ (¬ l4 < 1 → ((l6 = (-1) → (z_ib (l4 - 1) 160 ∧ zP X (d + 1) 72 148 [some (.ref (l0)), some (.int l1), some (.ref 43), some (.ref 44), some (.int l4), some (.int l5), none] [.int (-(h 44 (Int32.toNatClampNeg (l4 - 1)))), .int (l4 - 1), .ref 44] z_S0 h (zI A))) ∧ (¬ l6 = (-1) → (z_ib (l4 - 1) 160 ∧ (((h 44 (Int32.toNatClampNeg (l4 - 1))) = 0 → zP X (d + 1) 72 145 [some (.ref (l0)), some (.int l1), some (.ref 43), some (.ref 44), some (.int l4), some (.int l5), none] [.int 1, .int (l4 - 1), .ref 44] z_S0 h (zI A)) ∧ (¬ (h 44 (Int32.toNatClampNeg (l4 - 1))) = 0 → zP X (d + 1) 72 145 [some (.ref (l0)), some (.int l1), some (.ref 43), some (.ref 44), some (.int l4), some (.int l5), none] [.int 0, .int (l4 - 1), .ref 44] z_S0 h (zI A))))))))) : zP X (d + 1) 72 102 [some (.ref (l0)), some (.int l1), some (.ref 43), some (.ref 44), some (.int l4), some (.int l5), some (.int l6)] [] z_S0 h (zI A) := by
  refine zl zM72 q72_102 rfl ?_
  refine zkI zM72 q72_104 kI1 ?_
  refine zb2_ge zM72 q72_105 (tgt := 110) rfl (fun hc => ?_) (fun hc => ?_)
  · have hw := hw.2 hc
    refine zl zM72 q72_110 rfl ?_
    refine zl zM72 q72_111 rfl ?_
    refine zkI zM72 q72_113 kI1 ?_
    refine zl zM72 q72_114 (pc' := 115) (st' := .int (l4 - 1) :: _) rfl ?_
    refine zl zM72 q72_115 rfl ?_
    refine zkI zM72 q72_117 kIm1 ?_
    refine zb2_ne zM72 q72_118 (tgt := 131) rfl (fun hc => ?_) (fun hc => ?_)
    · have hw := hw.2 hc
      refine zl zM72 q72_131 rfl ?_
      refine zl zM72 q72_132 rfl ?_
      refine zkI zM72 q72_134 kI1 ?_
      refine zl zM72 q72_135 (pc' := 136) (st' := .int (l4 - 1) :: _) rfl ?_
      obtain ⟨hb, hw⟩ := hw
      refine ziA zM72 q72_136 (by decide) s44 hb (v := (h 44 (Int32.toNatClampNeg (l4 - 1)))) rfl ?_
      refine zb1_ne zM72 q72_137 (tgt := 144) rfl (fun hc => ?_) (fun hc => ?_)
      · have hw := hw.2 hc
        refine zkI zM72 q72_144 kI0 ?_
        refine zweak (a := [some (.ref (l0)), some (.int l1), some (.ref 43), some (.ref 44), some (.int l4), some (.int l5), none]) ?_ hw
        exact ⟨rfl, ⟨rfl, ⟨rfl, ⟨rfl, ⟨rfl, ⟨rfl, trivial⟩⟩⟩⟩⟩⟩
      · have hw := hw.1 hc
        refine zkI zM72 q72_140 kI1 ?_
        refine zl zM72 q72_141 (pc' := 145) (ls' := _) (st' := _) rfl ?_
        refine zweak (a := [some (.ref (l0)), some (.int l1), some (.ref 43), some (.ref 44), some (.int l4), some (.int l5), none]) ?_ hw
        exact ⟨rfl, ⟨rfl, ⟨rfl, ⟨rfl, ⟨rfl, ⟨rfl, trivial⟩⟩⟩⟩⟩⟩
    · have hw := hw.1 hc
      refine zl zM72 q72_121 rfl ?_
      refine zl zM72 q72_122 rfl ?_
      refine zkI zM72 q72_124 kI1 ?_
      refine zl zM72 q72_125 (pc' := 126) (st' := .int (l4 - 1) :: _) rfl ?_
      obtain ⟨hb, hw⟩ := hw
      refine ziA zM72 q72_126 (by decide) s44 hb (v := (h 44 (Int32.toNatClampNeg (l4 - 1)))) rfl ?_
      refine zl zM72 q72_127 (pc' := 128) (st' := .int (-(h 44 (Int32.toNatClampNeg (l4 - 1)))) :: _) rfl ?_
      refine zl zM72 q72_128 (pc' := 148) (ls' := _) (st' := _) rfl ?_
      refine zweak (a := [some (.ref (l0)), some (.int l1), some (.ref 43), some (.ref 44), some (.int l4), some (.int l5), none]) ?_ hw
      exact ⟨rfl, ⟨rfl, ⟨rfl, ⟨rfl, ⟨rfl, ⟨rfl, trivial⟩⟩⟩⟩⟩⟩
  · have hw := hw.1 hc
    refine zkI zM72 q72_108 kI0 ?_
    exact zri zM72 q72_109 rfl rfl hw
theorem b72_184 {X : Option (List Int32)} {d : Nat} {h : zH} {A : Int32 → zH → Prop} {l0 : Nat} {l1 : Int32} {l4 : Int32} {l5 : Int32} (hl0 : l0 ∈ ([25, 28, 31, 34, 37, 40] : List Nat)) (hw : zP X (d + 1) 72 21 [some (.ref (l0)), some (.int l1), some (.ref 43), some (.ref 44), some (.int l4), some (.int (l5 + 1)), none] [] z_S0 h (zI A)) : zP X (d + 1) 72 184 [some (.ref (l0)), some (.int l1), some (.ref 43), some (.ref 44), some (.int l4), some (.int l5), none] [] z_S0 h (zI A) := by
  refine zl zM72 q72_184 (ls' := [some (.ref (l0)), some (.int l1), some (.ref 43), some (.ref 44), some (.int l4), some (.int (l5 + 1)), none]) rfl ?_
  refine zl zM72 q72_187 (pc' := 21) (ls' := _) (st' := _) rfl ?_
  exact hw
theorem b72_82 {X : Option (List Int32)} {d : Nat} {h : zH} {A : Int32 → zH → Prop} {l0 : Nat} {l1 : Int32} {l4 : Int32} {l5 : Int32} {w1 : Int32} {w2 : Int32} (hl0 : l0 ∈ ([25, 28, 31, 34, 37, 40] : List Nat)) (hw : (z_ib w1 160 ∧ zP X (d + 1) 72 184 [some (.ref (l0)), some (.int l1), some (.ref 43), some (.ref 44), some (.int (l4 + 1)), some (.int l5), none] [] z_S0 (z_up h 44 (Int32.toNatClampNeg w1) w2) (zI A))) : zP X (d + 1) 72 82 [some (.ref (l0)), some (.int l1), some (.ref 43), some (.ref 44), some (.int l4), some (.int l5), none] [.int w2, .int w1, .ref 44] z_S0 h (zI A) := by
  obtain ⟨hb, hw⟩ := hw
  refine ziS zM72 q72_82 (by decide) s44 hb rfl ?_
  refine zl zM72 q72_83 (ls' := [some (.ref (l0)), some (.int l1), some (.ref 43), some (.ref 44), some (.int (l4 + 1)), some (.int l5), none]) rfl ?_
  refine zl zM72 q72_86 (pc' := 184) (ls' := _) (st' := _) rfl ?_
  exact hw
theorem b72_145 {X : Option (List Int32)} {d : Nat} {h : zH} {A : Int32 → zH → Prop} {l0 : Nat} {l1 : Int32} {l4 : Int32} {l5 : Int32} {w1 : Int32} {w2 : Int32} (hl0 : l0 ∈ ([25, 28, 31, 34, 37, 40] : List Nat)) (hw : zP X d 74 0 (z_ent [.int w2] 1) [] z_S0 h (zI fun v4 h5 => zP X (d + 1) 72 148 [some (.ref (l0)), some (.int l1), some (.ref 43), some (.ref 44), some (.int l4), some (.int l5), none] [.int v4, .int w1, .ref 44] z_S0 h5 (zI A))) : zP X (d + 1) 72 145 [some (.ref (l0)), some (.int l1), some (.ref 43), some (.ref 44), some (.int l4), some (.int l5), none] [.int w2, .int w1, .ref 44] z_S0 h (zI A) := by
  refine zcS zM72 q72_145 ky10_72 kl10_72 (by decide) rfl (Nat.le_of_ble_eq_true rfl) zM74 (Nat.le_of_ble_eq_true rfl) (hw.mono (fun r0 h5 hr6 => ?_))
  obtain ⟨v4, rfl, hw⟩ := hr6
  show zP X (d + 1) 72 148 [some (.ref (l0)), some (.int l1), some (.ref 43), some (.ref 44), some (.int l4), some (.int l5), none] [.int v4, .int w1, .ref 44] z_S0 h5 (zI A)
  exact hw
theorem b72_148 {X : Option (List Int32)} {d : Nat} {h : zH} {A : Int32 → zH → Prop} {l0 : Nat} {l1 : Int32} {l4 : Int32} {l5 : Int32} {w1 : Int32} {w2 : Int32} (hl0 : l0 ∈ ([25, 28, 31, 34, 37, 40] : List Nat)) (hw : (z_ib w1 160 ∧ zP X (d + 1) 72 184 [some (.ref (l0)), some (.int l1), some (.ref 43), some (.ref 44), some (.int l4), some (.int l5), none] [] z_S0 (z_up h 44 (Int32.toNatClampNeg w1) w2) (zI A))) : zP X (d + 1) 72 148 [some (.ref (l0)), some (.int l1), some (.ref 43), some (.ref 44), some (.int l4), some (.int l5), none] [.int w2, .int w1, .ref 44] z_S0 h (zI A) := by
  obtain ⟨hb, hw⟩ := hw
  refine ziS zM72 q72_148 (by decide) s44 hb rfl ?_
  refine zl zM72 q72_149 (pc' := 184) (ls' := _) (st' := _) rfl ?_
  exact hw
-- X10_joined
theorem b73 {X : Option (List Int32)} {d : Nat} {h : zH} {A : Int32 → zH → Prop} {a1 : Int32} {a2 : Int32} {a3 : Int32} (hw : ((a1 = (-8) → ((a2 = 0 → zP X d 74 0 (z_ent [.int 0] 1) [] z_S0 h (zI fun v1 h2 => A v1 h2)) ∧ (¬ a2 = 0 → ((a3 = 0 → zP X d 74 0 (z_ent [.int 0] 1) [] z_S0 h (zI fun v4 h5 => A v4 h5)) ∧ (¬ a3 = 0 → zP X d 74 0 (z_ent [.int 1] 1) [] z_S0 h (zI fun v7 h8 => A v7 h8)))))) ∧ (a1 = (-7) → ((a2 = a3 → zP X d 74 0 (z_ent [.int 1] 1) [] z_S0 h (zI fun v14 h15 => A v14 h15)) ∧ (¬ a2 = a3 → zP X d 74 0 (z_ent [.int 0] 1) [] z_S0 h (zI fun v11 h12 => A v11 h12)))) ∧ (a1 = (-6) → ((a2 < a3 → zP X d 74 0 (z_ent [.int 1] 1) [] z_S0 h (zI fun v21 h22 => A v21 h22)) ∧ (¬ a2 < a3 → zP X d 74 0 (z_ent [.int 0] 1) [] z_S0 h (zI fun v18 h19 => A v18 h19)))) ∧ (a1 = (-5) → A (a2 * a3) h) ∧ (a1 = (-4) → A (a2 - a3) h) ∧ (a1 = (-3) → A (a2 + a3) h) ∧ ((¬ a1 = (-8) ∧ ¬ a1 = (-7) ∧ ¬ a1 = (-6) ∧ ¬ a1 = (-5) ∧ ¬ a1 = (-4) ∧ ¬ a1 = (-3)) → ((a2 = 0 → ((a3 = 0 → zP X d 74 0 (z_ent [.int 0] 1) [] z_S0 h (zI fun v28 h29 => A v28 h29)) ∧ (¬ a3 = 0 → zP X (d + 1) 73 105 [none, none, none] [] z_S0 h (zI A)))) ∧ (¬ a2 = 0 → zP X (d + 1) 73 105 [none, none, none] [] z_S0 h (zI A)))))) : zP X (d + 1) 73 0 (z_ent [.int a1, .int a2, .int a3] 3) [] z_S0 h (zI A) := by
  show zP X (d + 1) 73 0 [some (.int a1), some (.int a2), some (.int a3)] [] z_S0 h (zI A)
  refine zl zM73 q73_0 rfl ?_
  by_cases hs10 : a1 = (-8)
  · have hw := hw.1 hs10
    refine zts (-8) hs10 zM73 q73_1 (tgt := 80) (by decide) rfl rfl ?_
    refine zl zM73 q73_80 rfl ?_
    refine zb1_eq zM73 q73_81 (tgt := 92) rfl (fun hc => ?_) (fun hc => ?_)
    · have hw := hw.1 hc
      refine zkI zM73 q73_92 kI0 ?_
      refine zcS zM73 q73_93 ky10_72 kl10_72 (by decide) rfl (Nat.le_of_ble_eq_true rfl) zM74 (Nat.le_of_ble_eq_true rfl) (hw.mono (fun r0 h2 hr3 => ?_))
      obtain ⟨v1, rfl, hw⟩ := hr3
      show zP X (d + 1) 73 96 [some (.int a1), some (.int a2), some (.int a3)] [.int v1] z_S0 h2 (zI A)
      exact zri zM73 q73_96 rfl rfl hw
    · have hw := hw.2 hc
      refine zl zM73 q73_84 rfl ?_
      refine zb1_eq zM73 q73_85 (tgt := 92) rfl (fun hc => ?_) (fun hc => ?_)
      · have hw := hw.1 hc
        refine zkI zM73 q73_92 kI0 ?_
        refine zcS zM73 q73_93 ky10_72 kl10_72 (by decide) rfl (Nat.le_of_ble_eq_true rfl) zM74 (Nat.le_of_ble_eq_true rfl) (hw.mono (fun r0 h5 hr6 => ?_))
        obtain ⟨v4, rfl, hw⟩ := hr6
        show zP X (d + 1) 73 96 [some (.int a1), some (.int a2), some (.int a3)] [.int v4] z_S0 h5 (zI A)
        exact zri zM73 q73_96 rfl rfl hw
      · have hw := hw.2 hc
        refine zkI zM73 q73_88 kI1 ?_
        refine zl zM73 q73_89 (pc' := 93) (ls' := _) (st' := _) rfl ?_
        refine zcS zM73 q73_93 ky10_72 kl10_72 (by decide) rfl (Nat.le_of_ble_eq_true rfl) zM74 (Nat.le_of_ble_eq_true rfl) (hw.mono (fun r0 h8 hr9 => ?_))
        obtain ⟨v7, rfl, hw⟩ := hr9
        show zP X (d + 1) 73 96 [some (.int a1), some (.int a2), some (.int a3)] [.int v7] z_S0 h8 (zI A)
        exact zri zM73 q73_96 rfl rfl hw
  by_cases hs17 : a1 = (-7)
  · have hw := hw.2.1 hs17
    refine zts (-7) hs17 zM73 q73_1 (tgt := 66) (by decide) rfl rfl ?_
    refine zl zM73 q73_66 rfl ?_
    refine zl zM73 q73_67 rfl ?_
    refine zb2_ne zM73 q73_68 (tgt := 75) rfl (fun hc => ?_) (fun hc => ?_)
    · have hw := hw.2 hc
      refine zkI zM73 q73_75 kI0 ?_
      refine zcS zM73 q73_76 ky10_72 kl10_72 (by decide) rfl (Nat.le_of_ble_eq_true rfl) zM74 (Nat.le_of_ble_eq_true rfl) (hw.mono (fun r0 h12 hr13 => ?_))
      obtain ⟨v11, rfl, hw⟩ := hr13
      show zP X (d + 1) 73 79 [some (.int a1), some (.int a2), some (.int a3)] [.int v11] z_S0 h12 (zI A)
      exact zri zM73 q73_79 rfl rfl hw
    · have hw := hw.1 hc
      refine zkI zM73 q73_71 kI1 ?_
      refine zl zM73 q73_72 (pc' := 76) (ls' := _) (st' := _) rfl ?_
      refine zcS zM73 q73_76 ky10_72 kl10_72 (by decide) rfl (Nat.le_of_ble_eq_true rfl) zM74 (Nat.le_of_ble_eq_true rfl) (hw.mono (fun r0 h15 hr16 => ?_))
      obtain ⟨v14, rfl, hw⟩ := hr16
      show zP X (d + 1) 73 79 [some (.int a1), some (.int a2), some (.int a3)] [.int v14] z_S0 h15 (zI A)
      exact zri zM73 q73_79 rfl rfl hw
  by_cases hs24 : a1 = (-6)
  · have hw := hw.2.2.1 hs24
    refine zts (-6) hs24 zM73 q73_1 (tgt := 52) (by decide) rfl rfl ?_
    refine zl zM73 q73_52 rfl ?_
    refine zl zM73 q73_53 rfl ?_
    refine zb2_ge zM73 q73_54 (tgt := 61) rfl (fun hc => ?_) (fun hc => ?_)
    · have hw := hw.2 hc
      refine zkI zM73 q73_61 kI0 ?_
      refine zcS zM73 q73_62 ky10_72 kl10_72 (by decide) rfl (Nat.le_of_ble_eq_true rfl) zM74 (Nat.le_of_ble_eq_true rfl) (hw.mono (fun r0 h19 hr20 => ?_))
      obtain ⟨v18, rfl, hw⟩ := hr20
      show zP X (d + 1) 73 65 [some (.int a1), some (.int a2), some (.int a3)] [.int v18] z_S0 h19 (zI A)
      exact zri zM73 q73_65 rfl rfl hw
    · have hw := hw.1 hc
      refine zkI zM73 q73_57 kI1 ?_
      refine zl zM73 q73_58 (pc' := 62) (ls' := _) (st' := _) rfl ?_
      refine zcS zM73 q73_62 ky10_72 kl10_72 (by decide) rfl (Nat.le_of_ble_eq_true rfl) zM74 (Nat.le_of_ble_eq_true rfl) (hw.mono (fun r0 h22 hr23 => ?_))
      obtain ⟨v21, rfl, hw⟩ := hr23
      show zP X (d + 1) 73 65 [some (.int a1), some (.int a2), some (.int a3)] [.int v21] z_S0 h22 (zI A)
      exact zri zM73 q73_65 rfl rfl hw
  by_cases hs25 : a1 = (-5)
  · have hw := hw.2.2.2.1 hs25
    refine zts (-5) hs25 zM73 q73_1 (tgt := 48) (by decide) rfl rfl ?_
    refine zl zM73 q73_48 rfl ?_
    refine zl zM73 q73_49 rfl ?_
    refine zl zM73 q73_50 (pc' := 51) (st' := .int (a2 * a3) :: _) rfl ?_
    exact zri zM73 q73_51 rfl rfl hw
  by_cases hs26 : a1 = (-4)
  · have hw := hw.2.2.2.2.1 hs26
    refine zts (-4) hs26 zM73 q73_1 (tgt := 44) (by decide) rfl rfl ?_
    refine zl zM73 q73_44 rfl ?_
    refine zl zM73 q73_45 rfl ?_
    refine zl zM73 q73_46 (pc' := 47) (st' := .int (a2 - a3) :: _) rfl ?_
    exact zri zM73 q73_47 rfl rfl hw
  by_cases hs27 : a1 = (-3)
  · have hw := hw.2.2.2.2.2.1 hs27
    refine zts (-3) hs27 zM73 q73_1 (tgt := 40) (by decide) rfl rfl ?_
    refine zl zM73 q73_40 rfl ?_
    refine zl zM73 q73_41 rfl ?_
    refine zl zM73 q73_42 (pc' := 43) (st' := .int (a2 + a3) :: _) rfl ?_
    exact zri zM73 q73_43 rfl rfl hw
  have hw := hw.2.2.2.2.2.2 ⟨hs10, hs17, hs24, hs25, hs26, hs27⟩
  have hs10 := z_neI hs10
  have hs17 := z_neI hs17
  have hs24 := z_neI hs24
  have hs25 := z_neI hs25
  have hs26 := z_neI hs26
  have hs27 := z_neI hs27
  refine ztd (tgt := 97) ?_ zM73 q73_1 rfl ?_
  · simp only [show ((-8) : Int32).toInt = (-8) from rfl, show ((-7) : Int32).toInt = (-7) from rfl, show ((-6) : Int32).toInt = (-6) from rfl, show ((-5) : Int32).toInt = (-5) from rfl, show ((-4) : Int32).toInt = (-4) from rfl, show ((-3) : Int32).toInt = (-3) from rfl] at hs10 hs17 hs24 hs25 hs26 hs27; omega
  refine zl zM73 q73_97 rfl ?_
  refine zb1_ne zM73 q73_98 (tgt := 105) rfl (fun hc => ?_) (fun hc => ?_)
  · have hw := hw.2 hc
    refine zweak (a := [none, none, none]) ?_ hw
    exact trivial
  · have hw := hw.1 hc
    refine zl zM73 q73_101 rfl ?_
    refine zb1_eq zM73 q73_102 (tgt := 109) rfl (fun hc => ?_) (fun hc => ?_)
    · have hw := hw.1 hc
      refine zkI zM73 q73_109 kI0 ?_
      refine zcS zM73 q73_110 ky10_72 kl10_72 (by decide) rfl (Nat.le_of_ble_eq_true rfl) zM74 (Nat.le_of_ble_eq_true rfl) (hw.mono (fun r0 h29 hr30 => ?_))
      obtain ⟨v28, rfl, hw⟩ := hr30
      show zP X (d + 1) 73 113 [some (.int a1), some (.int a2), some (.int a3)] [.int v28] z_S0 h29 (zI A)
      exact zri zM73 q73_113 rfl rfl hw
    · have hw := hw.2 hc
      refine zweak (a := [none, none, none]) ?_ hw
      exact trivial
theorem b73_105 {X : Option (List Int32)} {d : Nat} {h : zH} {A : Int32 → zH → Prop}  (hw : zP X d 74 0 (z_ent [.int 1] 1) [] z_S0 h (zI fun v31 h32 => A v31 h32)) : zP X (d + 1) 73 105 [none, none, none] [] z_S0 h (zI A) := by
  refine zkI zM73 q73_105 kI1 ?_
  refine zl zM73 q73_106 (pc' := 110) (ls' := _) (st' := _) rfl ?_
  refine zcS zM73 q73_110 ky10_72 kl10_72 (by decide) rfl (Nat.le_of_ble_eq_true rfl) zM74 (Nat.le_of_ble_eq_true rfl) (hw.mono (fun r0 h32 hr33 => ?_))
  obtain ⟨v31, rfl, hw⟩ := hr33
  show zP X (d + 1) 73 113 [none, none, none] [.int v31] z_S0 h32 (zI A)
  exact zri zM73 q73_113 rfl rfl hw
-- X10_truth
theorem b74 {X : Option (List Int32)} {d : Nat} {h : zH} {A : Int32 → zH → Prop} {a1 : Int32} (hw : ((a1 = 0 → A 0 h) ∧ (¬ a1 = 0 → A 1 h))) : zP X d 74 0 (z_ent [.int a1] 1) [] z_S0 h (zI A) := by
  show zP X d 74 0 [some (.int a1)] [] z_S0 h (zI A)
  refine zl zM74 q74_0 rfl ?_
  refine zb1_eq zM74 q74_1 (tgt := 8) rfl (fun hc => ?_) (fun hc => ?_)
  · have hw := hw.1 hc
    refine zkI zM74 q74_8 kI0 ?_
    exact zri zM74 q74_9 rfl rfl hw
  · have hw := hw.2 hc
    refine zkI zM74 q74_4 kI1 ?_
    refine zl zM74 q74_5 (pc' := 9) (ls' := _) (st' := _) rfl ?_
    exact zri zM74 q74_9 rfl rfl hw
-- X11_pass
theorem b76 {X : Option (List Int32)} {d : Nat} {h : zH} {A : Int32 → zH → Prop} {a1 : Int32} (hw : zP X d 119 0 (z_ent [.int a1, .int 1, .int 60] 3) [] z_S0 h (zI fun v1 h2 => ((v1 = 0 → A (-2) h2) ∧ (¬ v1 = 0 → (((399 : Int32) < ((h2 0 16) + a1) → A (-4) h2) ∧ (¬ (399 : Int32) < ((h2 0 16) + a1) → A ((h2 0 16) + a1) (z_up h2 0 16 ((h2 0 16) + a1)))))))) : zP X (d + 1) 76 0 (z_ent [.ref 0, .int a1] 2) [] z_S0 h (zI A) := by
  show zP X (d + 1) 76 0 [some (.ref 0), some (.int a1)] [] z_S0 h (zI A)
  refine zl zM76 q76_0 rfl ?_
  refine zkI zM76 q76_1 kI1 ?_
  refine zkB zM76 q76_2 kB60 ?_
  refine zcS zM76 q76_4 ky11_128 kl11_128 (by decide) rfl (Nat.le_of_ble_eq_true rfl) zM119 (Nat.le_of_ble_eq_true rfl) (hw.mono (fun r0 h2 hr3 => ?_))
  obtain ⟨v1, rfl, hw⟩ := hr3
  show zP X (d + 1) 76 7 [some (.ref 0), some (.int a1)] [.int v1] z_S0 h2 (zI A)
  refine zb1_ne zM76 q76_7 (tgt := 13) rfl (fun hc => ?_) (fun hc => ?_)
  · have hw := hw.2 hc
    refine zl zM76 q76_13 rfl ?_
    refine zgI zM76 q76_14 (by decide) g11_132 s0 rfl (v := (h2 0 16)) rfl ?_
    refine zl zM76 q76_17 rfl ?_
    refine zl zM76 q76_18 (pc' := 19) (st' := .int ((h2 0 16) + a1) :: _) rfl ?_
    refine zkS zM76 q76_19 kS399 ?_
    refine zb2_le zM76 q76_22 (tgt := 28) rfl (fun hc => ?_) (fun hc => ?_)
    · have hw := hw.2 hc
      refine zl zM76 q76_28 rfl ?_
      refine zl zM76 q76_29 rfl ?_
      refine zgI zM76 q76_30 (by decide) g11_132 s0 rfl (v := (h2 0 16)) rfl ?_
      refine zl zM76 q76_33 rfl ?_
      refine zl zM76 q76_34 (pc' := 35) (st' := .int ((h2 0 16) + a1) :: _) rfl ?_
      refine zpi zM76 q76_35 (by decide) g11_132 s0 rfl rfl ?_
      refine zl zM76 q76_38 rfl ?_
      refine zgI zM76 q76_39 (by decide) g11_132 s0 rfl (v := ((h2 0 16) + a1)) rfl ?_
      exact zri zM76 q76_42 rfl rfl hw
    · have hw := hw.1 hc
      refine zkB zM76 q76_25 kBm4 ?_
      exact zri zM76 q76_27 rfl rfl hw
  · have hw := hw.1 hc
    refine zkB zM76 q76_10 kBm2 ?_
    exact zri zM76 q76_12 rfl rfl hw
-- X11_cart
theorem b77 {X : Option (List Int32)} {d : Nat} {h : zH} {A : Int32 → zH → Prop} {a1 : Int32} {a2 : Int32} {a3 : Int32} {a4 : Int32} {a5 : Int32} {a6 : Int32} (hw : zP X d 119 0 (z_ent [.int a1, .int 0, .int 5] 3) [] z_S0 h (zI fun v1 h2 => ((v1 = 0 → A (-2) h2) ∧ (¬ v1 = 0 → zP X d 120 0 (z_ent [.int a2] 1) [] z_S0 h2 (zI fun v3 h4 => ((v3 = 0 → A (-2) h4) ∧ (¬ v3 = 0 → zP X d 121 0 (z_ent [.int a3] 1) [] z_S0 h4 (zI fun v5 h6 => ((v5 = 0 → A (-2) h6) ∧ (¬ v5 = 0 → zP X d 119 0 (z_ent [.int a4, .int 1, .int 9999] 3) [] z_S0 h6 (zI fun v7 h8 => ((v7 = 0 → A (-2) h8) ∧ (¬ v7 = 0 → zP X d 119 0 (z_ent [.int a5, .int 0, .int 90] 3) [] z_S0 h8 (zI fun v9 h10 => ((v9 = 0 → A (-2) h10) ∧ (¬ v9 = 0 → zP X d 119 0 (z_ent [.int a6, .int 0, .int 9999] 3) [] z_S0 h10 (zI fun v11 h12 => ((v11 = 0 → A (-2) h12) ∧ (¬ v11 = 0 → (((h12 1 10) < 40 → zP X d 12 0 (z_ent [.ref 1, .int a1, .int a2, .int a3, .int (h12 0 16)] 6) [] z_S0 h12 (zI fun v13 h15 => zP X d 13 0 (z_ent [.ref 1, .int v13, .int a4, .int a5, .int a6] 5) [] z_S0 h15 (zV fun h18 => A v13 h18))) ∧ (¬ (h12 1 10) < 40 → A (-4) h12))))))))))))))))))))) : zP X (d + 1) 77 0 (z_ent [.ref 0, .int a1, .int a2, .int a3, .int a4, .int a5, .int a6] 8) [] z_S0 h (zI A) := by
  show zP X (d + 1) 77 0 [some (.ref 0), some (.int a1), some (.int a2), some (.int a3), some (.int a4), some (.int a5), some (.int a6), none] [] z_S0 h (zI A)
  refine zl zM77 q77_0 rfl ?_
  refine zkI zM77 q77_1 kI0 ?_
  refine zkI zM77 q77_2 kI5 ?_
  refine zcS zM77 q77_3 ky11_128 kl11_128 (by decide) rfl (Nat.le_of_ble_eq_true rfl) zM119 (Nat.le_of_ble_eq_true rfl) (hw.mono (fun r0 h2 hr26 => ?_))
  obtain ⟨v1, rfl, hw⟩ := hr26
  show zP X (d + 1) 77 6 [some (.ref 0), some (.int a1), some (.int a2), some (.int a3), some (.int a4), some (.int a5), some (.int a6), none] [.int v1] z_S0 h2 (zI A)
  refine zb1_eq zM77 q77_6 (tgt := 23) rfl (fun hc => ?_) (fun hc => ?_)
  · have hw := hw.1 hc
    refine zkB zM77 q77_23 kBm2 ?_
    exact zri zM77 q77_25 rfl rfl hw
  · have hw := hw.2 hc
    refine zl zM77 q77_9 rfl ?_
    refine zcS zM77 q77_10 ky11_135 kl11_135 (by decide) rfl (Nat.le_of_ble_eq_true rfl) zM120 (Nat.le_of_ble_eq_true rfl) (hw.mono (fun r0 h4 hr25 => ?_))
    obtain ⟨v3, rfl, hw⟩ := hr25
    show zP X (d + 1) 77 13 [some (.ref 0), some (.int a1), some (.int a2), some (.int a3), some (.int a4), some (.int a5), some (.int a6), none] [.int v3] z_S0 h4 (zI A)
    refine zb1_eq zM77 q77_13 (tgt := 23) rfl (fun hc => ?_) (fun hc => ?_)
    · have hw := hw.1 hc
      refine zkB zM77 q77_23 kBm2 ?_
      exact zri zM77 q77_25 rfl rfl hw
    · have hw := hw.2 hc
      refine zl zM77 q77_16 rfl ?_
      refine zcS zM77 q77_17 ky11_139 kl11_139 (by decide) rfl (Nat.le_of_ble_eq_true rfl) zM121 (Nat.le_of_ble_eq_true rfl) (hw.mono (fun r0 h6 hr24 => ?_))
      obtain ⟨v5, rfl, hw⟩ := hr24
      show zP X (d + 1) 77 20 [some (.ref 0), some (.int a1), some (.int a2), some (.int a3), some (.int a4), some (.int a5), some (.int a6), none] [.int v5] z_S0 h6 (zI A)
      refine zb1_ne zM77 q77_20 (tgt := 26) rfl (fun hc => ?_) (fun hc => ?_)
      · have hw := hw.2 hc
        refine zl zM77 q77_26 rfl ?_
        refine zkI zM77 q77_28 kI1 ?_
        refine zkS zM77 q77_29 kS9999 ?_
        refine zcS zM77 q77_32 ky11_128 kl11_128 (by decide) rfl (Nat.le_of_ble_eq_true rfl) zM119 (Nat.le_of_ble_eq_true rfl) (hw.mono (fun r0 h8 hr23 => ?_))
        obtain ⟨v7, rfl, hw⟩ := hr23
        show zP X (d + 1) 77 35 [some (.ref 0), some (.int a1), some (.int a2), some (.int a3), some (.int a4), some (.int a5), some (.int a6), none] [.int v7] z_S0 h8 (zI A)
        refine zb1_eq zM77 q77_35 (tgt := 61) rfl (fun hc => ?_) (fun hc => ?_)
        · have hw := hw.1 hc
          refine zkB zM77 q77_61 kBm2 ?_
          exact zri zM77 q77_63 rfl rfl hw
        · have hw := hw.2 hc
          refine zl zM77 q77_38 rfl ?_
          refine zkI zM77 q77_40 kI0 ?_
          refine zkB zM77 q77_41 kB90 ?_
          refine zcS zM77 q77_43 ky11_128 kl11_128 (by decide) rfl (Nat.le_of_ble_eq_true rfl) zM119 (Nat.le_of_ble_eq_true rfl) (hw.mono (fun r0 h10 hr22 => ?_))
          obtain ⟨v9, rfl, hw⟩ := hr22
          show zP X (d + 1) 77 46 [some (.ref 0), some (.int a1), some (.int a2), some (.int a3), some (.int a4), some (.int a5), some (.int a6), none] [.int v9] z_S0 h10 (zI A)
          refine zb1_eq zM77 q77_46 (tgt := 61) rfl (fun hc => ?_) (fun hc => ?_)
          · have hw := hw.1 hc
            refine zkB zM77 q77_61 kBm2 ?_
            exact zri zM77 q77_63 rfl rfl hw
          · have hw := hw.2 hc
            refine zl zM77 q77_49 rfl ?_
            refine zkI zM77 q77_51 kI0 ?_
            refine zkS zM77 q77_52 kS9999 ?_
            refine zcS zM77 q77_55 ky11_128 kl11_128 (by decide) rfl (Nat.le_of_ble_eq_true rfl) zM119 (Nat.le_of_ble_eq_true rfl) (hw.mono (fun r0 h12 hr21 => ?_))
            obtain ⟨v11, rfl, hw⟩ := hr21
            show zP X (d + 1) 77 58 [some (.ref 0), some (.int a1), some (.int a2), some (.int a3), some (.int a4), some (.int a5), some (.int a6), none] [.int v11] z_S0 h12 (zI A)
            refine zb1_ne zM77 q77_58 (tgt := 64) rfl (fun hc => ?_) (fun hc => ?_)
            · have hw := hw.2 hc
              refine zl zM77 q77_64 rfl ?_
              refine zgR (a := 1) zM77 q77_65 (by decide) g11_10 s0 rfl ?_
              refine zgI zM77 q77_68 (by decide) g11_142 s1 rfl (v := (h12 1 10)) rfl ?_
              refine zkB zM77 q77_71 kB40 ?_
              refine zb2_lt zM77 q77_73 (tgt := 79) rfl (fun hc => ?_) (fun hc => ?_)
              · have hw := hw.1 hc
                refine zl zM77 q77_79 rfl ?_
                refine zgR (a := 1) zM77 q77_80 (by decide) g11_10 s0 rfl ?_
                refine zl zM77 q77_83 rfl ?_
                refine zl zM77 q77_84 rfl ?_
                refine zl zM77 q77_85 rfl ?_
                refine zl zM77 q77_86 rfl ?_
                refine zgI zM77 q77_87 (by decide) g11_132 s0 rfl (v := (h12 0 16)) rfl ?_
                refine zcV zM77 q77_90 kl11_145 rfl rfl (Nat.le_of_ble_eq_true rfl) rfl zM12 (Nat.le_of_ble_eq_true rfl) (hw.mono (fun r0 h15 hr20 => ?_))
                obtain ⟨v13, rfl, hw⟩ := hr20
                show zP X (d + 1) 77 93 [some (.ref 0), some (.int a1), some (.int a2), some (.int a3), some (.int a4), some (.int a5), some (.int a6), none] [.int v13] z_S0 h15 (zI A)
                refine zl zM77 q77_93 (ls' := [some (.ref 0), some (.int a1), some (.int a2), some (.int a3), some (.int a4), some (.int a5), some (.int a6), some (.int v13)]) rfl ?_
                refine zl zM77 q77_95 rfl ?_
                refine zgR (a := 1) zM77 q77_96 (by decide) g11_10 s0 rfl ?_
                refine zl zM77 q77_99 rfl ?_
                refine zl zM77 q77_101 rfl ?_
                refine zl zM77 q77_103 rfl ?_
                refine zl zM77 q77_105 rfl ?_
                refine zcV zM77 q77_107 kl11_149 rfl rfl (Nat.le_of_ble_eq_true rfl) rfl zM13 (Nat.le_of_ble_eq_true rfl) (hw.mono (fun r0 h18 hr19 => ?_))
                obtain ⟨rfl, hw⟩ := hr19
                show zP X (d + 1) 77 110 [some (.ref 0), some (.int a1), some (.int a2), some (.int a3), some (.int a4), some (.int a5), some (.int a6), some (.int v13)] [] z_S0 h18 (zI A)
                refine zl zM77 q77_110 rfl ?_
                exact zri zM77 q77_112 rfl rfl hw
              · have hw := hw.2 hc
                refine zkB zM77 q77_76 kBm4 ?_
                exact zri zM77 q77_78 rfl rfl hw
            · have hw := hw.1 hc
              refine zkB zM77 q77_61 kBm2 ?_
              exact zri zM77 q77_63 rfl rfl hw
      · have hw := hw.1 hc
        refine zkB zM77 q77_23 kBm2 ?_
        exact zri zM77 q77_25 rfl rfl hw
-- X11_cartTold
theorem b78 {X : Option (List Int32)} {d : Nat} {h : zH} {A : Int32 → zH → Prop} {a1 : Int32} {a2 : Int32} (hw : zP X d 11 0 (z_ent [.ref 1, .int a1] 2) [] z_S0 h (zI fun v1 h2 => ((v1 = 0 → A (-2) h2) ∧ (¬ v1 = 0 → ((a2 = 0 → (z_ib a1 40 ∧ A (h2 2 (Int32.toNatClampNeg a1)) h2)) ∧ (a2 = 1 → (z_ib a1 40 ∧ A (h2 3 (Int32.toNatClampNeg a1)) h2)) ∧ (a2 = 2 → (z_ib a1 40 ∧ A (h2 4 (Int32.toNatClampNeg a1)) h2)) ∧ (a2 = 3 → (z_ib a1 40 ∧ A (h2 6 (Int32.toNatClampNeg a1)) h2)) ∧ (a2 = 4 → (z_ib a1 40 ∧ A (h2 10 (Int32.toNatClampNeg a1)) h2)) ∧ (a2 = 5 → (z_ib a1 40 ∧ zP X d 16 0 (z_ent [.ref 1, .int a1, .int (a2 - 5), .int (h2 10 (Int32.toNatClampNeg a1))] 4) [] z_S0 h2 (zI fun v8 h9 => A v8 h9))) ∧ (a2 = 6 → (z_ib a1 40 ∧ zP X d 16 0 (z_ent [.ref 1, .int a1, .int (a2 - 5), .int (h2 10 (Int32.toNatClampNeg a1))] 4) [] z_S0 h2 (zI fun v12 h13 => A v12 h13))) ∧ (a2 = 7 → (z_ib a1 40 ∧ zP X d 16 0 (z_ent [.ref 1, .int a1, .int (a2 - 5), .int (h2 10 (Int32.toNatClampNeg a1))] 4) [] z_S0 h2 (zI fun v16 h17 => A v16 h17))) ∧ (a2 = 8 → (z_ib a1 40 ∧ zP X d 16 0 (z_ent [.ref 1, .int a1, .int (a2 - 5), .int (h2 10 (Int32.toNatClampNeg a1))] 4) [] z_S0 h2 (zI fun v20 h21 => A v20 h21))) ∧ (a2 = 9 → zP X d 17 0 (z_ent [.ref 1, .int a1] 4) [] z_S0 h2 (zI fun v24 h25 => A v24 h25)) ∧ (a2 = 10 → zP X d 18 0 (z_ent [.ref 1, .int a1] 3) [] z_S0 h2 (zI fun v28 h29 => A v28 h29)) ∧ (a2 = 11 → (z_ib a1 40 ∧ A (h2 5 (Int32.toNatClampNeg a1)) h2)) ∧ (a2 = 12 → (z_ib a1 40 ∧ (((h2 11 (Int32.toNatClampNeg a1)) = 0 → A 0 h2) ∧ (¬ (h2 11 (Int32.toNatClampNeg a1)) = 0 → A 1 h2)))) ∧ ((¬ a2 = 0 ∧ ¬ a2 = 1 ∧ ¬ a2 = 2 ∧ ¬ a2 = 3 ∧ ¬ a2 = 4 ∧ ¬ a2 = 5 ∧ ¬ a2 = 6 ∧ ¬ a2 = 7 ∧ ¬ a2 = 8 ∧ ¬ a2 = 9 ∧ ¬ a2 = 10 ∧ ¬ a2 = 11 ∧ ¬ a2 = 12) → A (-2) h2)))))) : zP X (d + 1) 78 0 (z_ent [.ref 0, .int a1, .int a2] 3) [] z_S0 h (zI A) := by
  show zP X (d + 1) 78 0 [some (.ref 0), some (.int a1), some (.int a2)] [] z_S0 h (zI A)
  refine zl zM78 q78_0 rfl ?_
  refine zgR (a := 1) zM78 q78_1 (by decide) g11_10 s0 rfl ?_
  refine zl zM78 q78_4 rfl ?_
  refine zcV zM78 q78_5 kl11_153 rfl rfl (Nat.le_of_ble_eq_true rfl) rfl zM11 (Nat.le_of_ble_eq_true rfl) (hw.mono (fun r0 h2 hr34 => ?_))
  obtain ⟨v1, rfl, hw⟩ := hr34
  show zP X (d + 1) 78 8 [some (.ref 0), some (.int a1), some (.int a2)] [.int v1] z_S0 h2 (zI A)
  refine zb1_ne zM78 q78_8 (tgt := 14) rfl (fun hc => ?_) (fun hc => ?_)
  · have hw := hw.2 hc
    refine zl zM78 q78_14 rfl ?_
    by_cases hs3 : a2 = 0
    · have hw := hw.1 hs3
      refine zts 0 hs3 zM78 q78_15 (tgt := 80) (by decide) rfl rfl ?_
      refine zl zM78 q78_80 rfl ?_
      refine zgR (a := 1) zM78 q78_81 (by decide) g11_10 s0 rfl ?_
      refine zgR (a := 2) zM78 q78_84 (by decide) g11_156 s1 rfl ?_
      refine zl zM78 q78_87 rfl ?_
      obtain ⟨hb, hw⟩ := hw
      refine ziA zM78 q78_88 (by decide) s2 hb (v := (h2 2 (Int32.toNatClampNeg a1))) rfl ?_
      exact zri zM78 q78_89 rfl rfl hw
    by_cases hs4 : a2 = 1
    · have hw := hw.2.1 hs4
      refine zts 1 hs4 zM78 q78_15 (tgt := 90) (by decide) rfl rfl ?_
      refine zl zM78 q78_90 rfl ?_
      refine zgR (a := 1) zM78 q78_91 (by decide) g11_10 s0 rfl ?_
      refine zgR (a := 3) zM78 q78_94 (by decide) g11_159 s1 rfl ?_
      refine zl zM78 q78_97 rfl ?_
      obtain ⟨hb, hw⟩ := hw
      refine ziA zM78 q78_98 (by decide) s3 hb (v := (h2 3 (Int32.toNatClampNeg a1))) rfl ?_
      exact zri zM78 q78_99 rfl rfl hw
    by_cases hs5 : a2 = 2
    · have hw := hw.2.2.1 hs5
      refine zts 2 hs5 zM78 q78_15 (tgt := 100) (by decide) rfl rfl ?_
      refine zl zM78 q78_100 rfl ?_
      refine zgR (a := 1) zM78 q78_101 (by decide) g11_10 s0 rfl ?_
      refine zgR (a := 4) zM78 q78_104 (by decide) g11_162 s1 rfl ?_
      refine zl zM78 q78_107 rfl ?_
      obtain ⟨hb, hw⟩ := hw
      refine ziA zM78 q78_108 (by decide) s4 hb (v := (h2 4 (Int32.toNatClampNeg a1))) rfl ?_
      exact zri zM78 q78_109 rfl rfl hw
    by_cases hs6 : a2 = 3
    · have hw := hw.2.2.2.1 hs6
      refine zts 3 hs6 zM78 q78_15 (tgt := 110) (by decide) rfl rfl ?_
      refine zl zM78 q78_110 rfl ?_
      refine zgR (a := 1) zM78 q78_111 (by decide) g11_10 s0 rfl ?_
      refine zgR (a := 6) zM78 q78_114 (by decide) g11_165 s1 rfl ?_
      refine zl zM78 q78_117 rfl ?_
      obtain ⟨hb, hw⟩ := hw
      refine ziA zM78 q78_118 (by decide) s6 hb (v := (h2 6 (Int32.toNatClampNeg a1))) rfl ?_
      exact zri zM78 q78_119 rfl rfl hw
    by_cases hs7 : a2 = 4
    · have hw := hw.2.2.2.2.1 hs7
      refine zts 4 hs7 zM78 q78_15 (tgt := 120) (by decide) rfl rfl ?_
      refine zl zM78 q78_120 rfl ?_
      refine zgR (a := 1) zM78 q78_121 (by decide) g11_10 s0 rfl ?_
      refine zgR (a := 10) zM78 q78_124 (by decide) g11_168 s1 rfl ?_
      refine zl zM78 q78_127 rfl ?_
      obtain ⟨hb, hw⟩ := hw
      refine ziA zM78 q78_128 (by decide) s10 hb (v := (h2 10 (Int32.toNatClampNeg a1))) rfl ?_
      exact zri zM78 q78_129 rfl rfl hw
    by_cases hs11 : a2 = 5
    · have hw := hw.2.2.2.2.2.1 hs11
      refine zts 5 hs11 zM78 q78_15 (tgt := 130) (by decide) rfl rfl ?_
      refine zl zM78 q78_130 rfl ?_
      refine zgR (a := 1) zM78 q78_131 (by decide) g11_10 s0 rfl ?_
      refine zl zM78 q78_134 rfl ?_
      refine zl zM78 q78_135 rfl ?_
      refine zkI zM78 q78_136 kI5 ?_
      refine zl zM78 q78_137 (pc' := 138) (st' := .int (a2 - 5) :: _) rfl ?_
      refine zl zM78 q78_138 rfl ?_
      refine zgR (a := 1) zM78 q78_139 (by decide) g11_10 s0 rfl ?_
      refine zgR (a := 10) zM78 q78_142 (by decide) g11_168 s1 rfl ?_
      refine zl zM78 q78_145 rfl ?_
      obtain ⟨hb, hw⟩ := hw
      refine ziA zM78 q78_146 (by decide) s10 hb (v := (h2 10 (Int32.toNatClampNeg a1))) rfl ?_
      refine zcV zM78 q78_147 kl11_171 rfl rfl (Nat.le_of_ble_eq_true rfl) rfl zM16 (Nat.le_of_ble_eq_true rfl) (hw.mono (fun r0 h9 hr10 => ?_))
      obtain ⟨v8, rfl, hw⟩ := hr10
      show zP X (d + 1) 78 150 [some (.ref 0), some (.int a1), some (.int a2)] [.int v8] z_S0 h9 (zI A)
      exact zri zM78 q78_150 rfl rfl hw
    by_cases hs15 : a2 = 6
    · have hw := hw.2.2.2.2.2.2.1 hs15
      refine zts 6 hs15 zM78 q78_15 (tgt := 130) (by decide) rfl rfl ?_
      refine zl zM78 q78_130 rfl ?_
      refine zgR (a := 1) zM78 q78_131 (by decide) g11_10 s0 rfl ?_
      refine zl zM78 q78_134 rfl ?_
      refine zl zM78 q78_135 rfl ?_
      refine zkI zM78 q78_136 kI5 ?_
      refine zl zM78 q78_137 (pc' := 138) (st' := .int (a2 - 5) :: _) rfl ?_
      refine zl zM78 q78_138 rfl ?_
      refine zgR (a := 1) zM78 q78_139 (by decide) g11_10 s0 rfl ?_
      refine zgR (a := 10) zM78 q78_142 (by decide) g11_168 s1 rfl ?_
      refine zl zM78 q78_145 rfl ?_
      obtain ⟨hb, hw⟩ := hw
      refine ziA zM78 q78_146 (by decide) s10 hb (v := (h2 10 (Int32.toNatClampNeg a1))) rfl ?_
      refine zcV zM78 q78_147 kl11_171 rfl rfl (Nat.le_of_ble_eq_true rfl) rfl zM16 (Nat.le_of_ble_eq_true rfl) (hw.mono (fun r0 h13 hr14 => ?_))
      obtain ⟨v12, rfl, hw⟩ := hr14
      show zP X (d + 1) 78 150 [some (.ref 0), some (.int a1), some (.int a2)] [.int v12] z_S0 h13 (zI A)
      exact zri zM78 q78_150 rfl rfl hw
    by_cases hs19 : a2 = 7
    · have hw := hw.2.2.2.2.2.2.2.1 hs19
      refine zts 7 hs19 zM78 q78_15 (tgt := 130) (by decide) rfl rfl ?_
      refine zl zM78 q78_130 rfl ?_
      refine zgR (a := 1) zM78 q78_131 (by decide) g11_10 s0 rfl ?_
      refine zl zM78 q78_134 rfl ?_
      refine zl zM78 q78_135 rfl ?_
      refine zkI zM78 q78_136 kI5 ?_
      refine zl zM78 q78_137 (pc' := 138) (st' := .int (a2 - 5) :: _) rfl ?_
      refine zl zM78 q78_138 rfl ?_
      refine zgR (a := 1) zM78 q78_139 (by decide) g11_10 s0 rfl ?_
      refine zgR (a := 10) zM78 q78_142 (by decide) g11_168 s1 rfl ?_
      refine zl zM78 q78_145 rfl ?_
      obtain ⟨hb, hw⟩ := hw
      refine ziA zM78 q78_146 (by decide) s10 hb (v := (h2 10 (Int32.toNatClampNeg a1))) rfl ?_
      refine zcV zM78 q78_147 kl11_171 rfl rfl (Nat.le_of_ble_eq_true rfl) rfl zM16 (Nat.le_of_ble_eq_true rfl) (hw.mono (fun r0 h17 hr18 => ?_))
      obtain ⟨v16, rfl, hw⟩ := hr18
      show zP X (d + 1) 78 150 [some (.ref 0), some (.int a1), some (.int a2)] [.int v16] z_S0 h17 (zI A)
      exact zri zM78 q78_150 rfl rfl hw
    by_cases hs23 : a2 = 8
    · have hw := hw.2.2.2.2.2.2.2.2.1 hs23
      refine zts 8 hs23 zM78 q78_15 (tgt := 130) (by decide) rfl rfl ?_
      refine zl zM78 q78_130 rfl ?_
      refine zgR (a := 1) zM78 q78_131 (by decide) g11_10 s0 rfl ?_
      refine zl zM78 q78_134 rfl ?_
      refine zl zM78 q78_135 rfl ?_
      refine zkI zM78 q78_136 kI5 ?_
      refine zl zM78 q78_137 (pc' := 138) (st' := .int (a2 - 5) :: _) rfl ?_
      refine zl zM78 q78_138 rfl ?_
      refine zgR (a := 1) zM78 q78_139 (by decide) g11_10 s0 rfl ?_
      refine zgR (a := 10) zM78 q78_142 (by decide) g11_168 s1 rfl ?_
      refine zl zM78 q78_145 rfl ?_
      obtain ⟨hb, hw⟩ := hw
      refine ziA zM78 q78_146 (by decide) s10 hb (v := (h2 10 (Int32.toNatClampNeg a1))) rfl ?_
      refine zcV zM78 q78_147 kl11_171 rfl rfl (Nat.le_of_ble_eq_true rfl) rfl zM16 (Nat.le_of_ble_eq_true rfl) (hw.mono (fun r0 h21 hr22 => ?_))
      obtain ⟨v20, rfl, hw⟩ := hr22
      show zP X (d + 1) 78 150 [some (.ref 0), some (.int a1), some (.int a2)] [.int v20] z_S0 h21 (zI A)
      exact zri zM78 q78_150 rfl rfl hw
    by_cases hs27 : a2 = 9
    · have hw := hw.2.2.2.2.2.2.2.2.2.1 hs27
      refine zts 9 hs27 zM78 q78_15 (tgt := 151) (by decide) rfl rfl ?_
      refine zl zM78 q78_151 rfl ?_
      refine zgR (a := 1) zM78 q78_152 (by decide) g11_10 s0 rfl ?_
      refine zl zM78 q78_155 rfl ?_
      refine zcV zM78 q78_156 kl11_175 rfl rfl (Nat.le_of_ble_eq_true rfl) rfl zM17 (Nat.le_of_ble_eq_true rfl) (hw.mono (fun r0 h25 hr26 => ?_))
      obtain ⟨v24, rfl, hw⟩ := hr26
      show zP X (d + 1) 78 159 [some (.ref 0), some (.int a1), some (.int a2)] [.int v24] z_S0 h25 (zI A)
      exact zri zM78 q78_159 rfl rfl hw
    by_cases hs31 : a2 = 10
    · have hw := hw.2.2.2.2.2.2.2.2.2.2.1 hs31
      refine zts 10 hs31 zM78 q78_15 (tgt := 160) (by decide) rfl rfl ?_
      refine zl zM78 q78_160 rfl ?_
      refine zgR (a := 1) zM78 q78_161 (by decide) g11_10 s0 rfl ?_
      refine zl zM78 q78_164 rfl ?_
      refine zcV zM78 q78_165 kl11_179 rfl rfl (Nat.le_of_ble_eq_true rfl) rfl zM18 (Nat.le_of_ble_eq_true rfl) (hw.mono (fun r0 h29 hr30 => ?_))
      obtain ⟨v28, rfl, hw⟩ := hr30
      show zP X (d + 1) 78 168 [some (.ref 0), some (.int a1), some (.int a2)] [.int v28] z_S0 h29 (zI A)
      exact zri zM78 q78_168 rfl rfl hw
    by_cases hs32 : a2 = 11
    · have hw := hw.2.2.2.2.2.2.2.2.2.2.2.1 hs32
      refine zts 11 hs32 zM78 q78_15 (tgt := 169) (by decide) rfl rfl ?_
      refine zl zM78 q78_169 rfl ?_
      refine zgR (a := 1) zM78 q78_170 (by decide) g11_10 s0 rfl ?_
      refine zgR (a := 5) zM78 q78_173 (by decide) g11_182 s1 rfl ?_
      refine zl zM78 q78_176 rfl ?_
      obtain ⟨hb, hw⟩ := hw
      refine ziA zM78 q78_177 (by decide) s5 hb (v := (h2 5 (Int32.toNatClampNeg a1))) rfl ?_
      exact zri zM78 q78_178 rfl rfl hw
    by_cases hs33 : a2 = 12
    · have hw := hw.2.2.2.2.2.2.2.2.2.2.2.2.1 hs33
      refine zts 12 hs33 zM78 q78_15 (tgt := 179) (by decide) rfl rfl ?_
      refine zl zM78 q78_179 rfl ?_
      refine zgR (a := 1) zM78 q78_180 (by decide) g11_10 s0 rfl ?_
      refine zgR (a := 11) zM78 q78_183 (by decide) g11_184 s1 rfl ?_
      refine zl zM78 q78_186 rfl ?_
      obtain ⟨hb, hw⟩ := hw
      refine zbA zM78 q78_187 (by decide) s11 (by decide) hb (v := (h2 11 (Int32.toNatClampNeg a1))) rfl ?_
      refine zb1_eq zM78 q78_188 (tgt := 195) rfl (fun hc => ?_) (fun hc => ?_)
      · have hw := hw.1 hc
        refine zkI zM78 q78_195 kI0 ?_
        exact zri zM78 q78_196 rfl rfl hw
      · have hw := hw.2 hc
        refine zkI zM78 q78_191 kI1 ?_
        refine zl zM78 q78_192 (pc' := 196) (ls' := _) (st' := _) rfl ?_
        exact zri zM78 q78_196 rfl rfl hw
    have hw := hw.2.2.2.2.2.2.2.2.2.2.2.2.2 ⟨hs3, hs4, hs5, hs6, hs7, hs11, hs15, hs19, hs23, hs27, hs31, hs32, hs33⟩
    have hs3 := z_neI hs3
    have hs4 := z_neI hs4
    have hs5 := z_neI hs5
    have hs6 := z_neI hs6
    have hs7 := z_neI hs7
    have hs11 := z_neI hs11
    have hs15 := z_neI hs15
    have hs19 := z_neI hs19
    have hs23 := z_neI hs23
    have hs27 := z_neI hs27
    have hs31 := z_neI hs31
    have hs32 := z_neI hs32
    have hs33 := z_neI hs33
    refine ztd (tgt := 197) ?_ zM78 q78_15 rfl ?_
    · simp only [show (0 : Int32).toInt = 0 from rfl, show (1 : Int32).toInt = 1 from rfl, show (2 : Int32).toInt = 2 from rfl, show (3 : Int32).toInt = 3 from rfl, show (4 : Int32).toInt = 4 from rfl, show (5 : Int32).toInt = 5 from rfl, show (6 : Int32).toInt = 6 from rfl, show (7 : Int32).toInt = 7 from rfl, show (8 : Int32).toInt = 8 from rfl, show (9 : Int32).toInt = 9 from rfl, show (10 : Int32).toInt = 10 from rfl, show (11 : Int32).toInt = 11 from rfl, show (12 : Int32).toInt = 12 from rfl] at hs3 hs4 hs5 hs6 hs7 hs11 hs15 hs19 hs23 hs27 hs31 hs32 hs33; omega
    refine zkB zM78 q78_197 kBm2 ?_
    exact zri zM78 q78_199 rfl rfl hw
  · have hw := hw.1 hc
    refine zkB zM78 q78_11 kBm2 ?_
    exact zri zM78 q78_13 rfl rfl hw
-- X11_sift
theorem b79 {X : Option (List Int32)} {d : Nat} {h : zH} {A : Int32 → zH → Prop} {a1 : Int32} {a2 : Int32} (hw : zP X d 121 0 (z_ent [.int a1] 1) [] z_S0 h (zI fun v1 h2 => ((v1 = 0 → A (-2) h2) ∧ (¬ v1 = 0 → zP X d 119 0 (z_ent [.int a2, .int 0, .int 99999] 3) [] z_S0 h2 (zI fun v3 h4 => ((v3 = 0 → A (-2) h4) ∧ (¬ v3 = 0 → zP X (d + 1) 79 28 [some (.ref 0), some (.int a1), none, some (.int a2), some (.int 0), some (.int 0)] [] z_S0 h4 (zI A)))))))) : zP X (d + 1) 79 0 (z_ent [.ref 0, .int a1, .int a2] 6) [] z_S0 h (zI A) := by
  show zP X (d + 1) 79 0 [some (.ref 0), some (.int a1), some (.int a2), none, none, none] [] z_S0 h (zI A)
  refine zl zM79 q79_0 rfl ?_
  refine zcS zM79 q79_1 ky11_139 kl11_139 (by decide) rfl (Nat.le_of_ble_eq_true rfl) zM121 (Nat.le_of_ble_eq_true rfl) (hw.mono (fun r0 h2 hr6 => ?_))
  obtain ⟨v1, rfl, hw⟩ := hr6
  show zP X (d + 1) 79 4 [some (.ref 0), some (.int a1), some (.int a2), none, none, none] [.int v1] z_S0 h2 (zI A)
  refine zb1_eq zM79 q79_4 (tgt := 17) rfl (fun hc => ?_) (fun hc => ?_)
  · have hw := hw.1 hc
    refine zkB zM79 q79_17 kBm2 ?_
    exact zri zM79 q79_19 rfl rfl hw
  · have hw := hw.2 hc
    refine zl zM79 q79_7 rfl ?_
    refine zkI zM79 q79_8 kI0 ?_
    refine zkC zM79 q79_9 kc11_188 ?_
    refine zcS zM79 q79_11 ky11_128 kl11_128 (by decide) rfl (Nat.le_of_ble_eq_true rfl) zM119 (Nat.le_of_ble_eq_true rfl) (hw.mono (fun r0 h4 hr5 => ?_))
    obtain ⟨v3, rfl, hw⟩ := hr5
    show zP X (d + 1) 79 14 [some (.ref 0), some (.int a1), some (.int a2), none, none, none] [.int v3] z_S0 h4 (zI A)
    refine zb1_ne zM79 q79_14 (tgt := 20) rfl (fun hc => ?_) (fun hc => ?_)
    · have hw := hw.2 hc
      refine zl zM79 q79_20 rfl ?_
      refine zl zM79 q79_21 (ls' := [some (.ref 0), some (.int a1), some (.int a2), some (.int a2), none, none]) rfl ?_
      refine zkI zM79 q79_22 kI0 ?_
      refine zl zM79 q79_23 (ls' := [some (.ref 0), some (.int a1), some (.int a2), some (.int a2), some (.int 0), none]) rfl ?_
      refine zkI zM79 q79_25 kI0 ?_
      refine zl zM79 q79_26 (ls' := [some (.ref 0), some (.int a1), some (.int a2), some (.int a2), some (.int 0), some (.int 0)]) rfl ?_
      refine zweak (a := [some (.ref 0), some (.int a1), none, some (.int a2), some (.int 0), some (.int 0)]) ?_ hw
      exact ⟨rfl, ⟨rfl, ⟨rfl, ⟨rfl, ⟨rfl, trivial⟩⟩⟩⟩⟩
    · have hw := hw.1 hc
      refine zkB zM79 q79_17 kBm2 ?_
      exact zri zM79 q79_19 rfl rfl hw
theorem b79_28 {X : Option (List Int32)} {d : Nat} {h : zH} {A : Int32 → zH → Prop} {l1 : Int32} {l3 : Int32} {l4 : Int32} {l5 : Int32} (hw : ((l5 < (h 1 10) → zP X d 14 0 (z_ent [.ref 1, .int l5, .int l1] 3) [] z_S0 h (zI fun v7 h8 => ((v7 = 0 → zP X (d + 1) 79 95 [some (.ref 0), some (.int l1), none, some (.int l3), some (.int l4), some (.int l5)] [] z_S0 h8 (zI A)) ∧ (¬ v7 = 0 → (z_ib l5 40 ∧ ((l3 < (h8 10 (Int32.toNatClampNeg l5)) → A l4 h8) ∧ (¬ l3 < (h8 10 (Int32.toNatClampNeg l5)) → (z_ib l5 40 ∧ zP X d 80 0 (z_ent [.ref 0, .int l5] 3) [] z_S0 h8 (zV fun h11 => zP X (d + 1) 79 95 [some (.ref 0), some (.int l1), none, some (.int (l3 - (h8 10 (Int32.toNatClampNeg l5)))), some (.int (l4 + 1)), some (.int l5)] [] z_S0 h11 (zI A)))))))))) ∧ (¬ l5 < (h 1 10) → A l4 h))) : zP X (d + 1) 79 28 [some (.ref 0), some (.int l1), none, some (.int l3), some (.int l4), some (.int l5)] [] z_S0 h (zI A) := by
  refine zl zM79 q79_28 rfl ?_
  refine zl zM79 q79_30 rfl ?_
  refine zgR (a := 1) zM79 q79_31 (by decide) g11_10 s0 rfl ?_
  refine zgI zM79 q79_34 (by decide) g11_142 s1 rfl (v := (h 1 10)) rfl ?_
  refine zb2_ge zM79 q79_37 (tgt := 101) rfl (fun hc => ?_) (fun hc => ?_)
  · have hw := hw.2 hc
    refine zl zM79 q79_101 rfl ?_
    exact zri zM79 q79_103 rfl rfl hw
  · have hw := hw.1 hc
    refine zl zM79 q79_40 rfl ?_
    refine zgR (a := 1) zM79 q79_41 (by decide) g11_10 s0 rfl ?_
    refine zl zM79 q79_44 rfl ?_
    refine zl zM79 q79_46 rfl ?_
    refine zcV zM79 q79_47 kl11_189 rfl rfl (Nat.le_of_ble_eq_true rfl) rfl zM14 (Nat.le_of_ble_eq_true rfl) (hw.mono (fun r0 h8 hr13 => ?_))
    obtain ⟨v7, rfl, hw⟩ := hr13
    show zP X (d + 1) 79 50 [some (.ref 0), some (.int l1), none, some (.int l3), some (.int l4), some (.int l5)] [.int v7] z_S0 h8 (zI A)
    refine zb1_ne zM79 q79_50 (tgt := 56) rfl (fun hc => ?_) (fun hc => ?_)
    · have hw := hw.2 hc
      refine zl zM79 q79_56 rfl ?_
      refine zgR (a := 1) zM79 q79_57 (by decide) g11_10 s0 rfl ?_
      refine zgR (a := 10) zM79 q79_60 (by decide) g11_168 s1 rfl ?_
      refine zl zM79 q79_63 rfl ?_
      obtain ⟨hb, hw⟩ := hw
      refine ziA zM79 q79_65 (by decide) s10 hb (v := (h8 10 (Int32.toNatClampNeg l5))) rfl ?_
      refine zl zM79 q79_66 rfl ?_
      refine zb2_le zM79 q79_67 (tgt := 73) rfl (fun hc => ?_) (fun hc => ?_)
      · have hw := hw.2 hc
        refine zl zM79 q79_73 rfl ?_
        refine zl zM79 q79_74 rfl ?_
        refine zgR (a := 1) zM79 q79_75 (by decide) g11_10 s0 rfl ?_
        refine zgR (a := 10) zM79 q79_78 (by decide) g11_168 s1 rfl ?_
        refine zl zM79 q79_81 rfl ?_
        obtain ⟨hb, hw⟩ := hw
        refine ziA zM79 q79_83 (by decide) s10 hb (v := (h8 10 (Int32.toNatClampNeg l5))) rfl ?_
        refine zl zM79 q79_84 (pc' := 85) (st' := .int (l3 - (h8 10 (Int32.toNatClampNeg l5))) :: _) rfl ?_
        refine zl zM79 q79_85 (ls' := [some (.ref 0), some (.int l1), none, some (.int (l3 - (h8 10 (Int32.toNatClampNeg l5)))), some (.int l4), some (.int l5)]) rfl ?_
        refine zl zM79 q79_86 rfl ?_
        refine zl zM79 q79_87 rfl ?_
        refine zcV zM79 q79_89 kl11_193 rfl rfl (Nat.le_of_ble_eq_true rfl) rfl zM80 (Nat.le_of_ble_eq_true rfl) (hw.mono (fun r0 h11 hr12 => ?_))
        obtain ⟨rfl, hw⟩ := hr12
        show zP X (d + 1) 79 92 [some (.ref 0), some (.int l1), none, some (.int (l3 - (h8 10 (Int32.toNatClampNeg l5)))), some (.int l4), some (.int l5)] [] z_S0 h11 (zI A)
        refine zl zM79 q79_92 (ls' := [some (.ref 0), some (.int l1), none, some (.int (l3 - (h8 10 (Int32.toNatClampNeg l5)))), some (.int (l4 + 1)), some (.int l5)]) rfl ?_
        exact hw
      · have hw := hw.1 hc
        refine zl zM79 q79_70 (pc' := 101) (ls' := _) (st' := _) rfl ?_
        refine zl zM79 q79_101 rfl ?_
        exact zri zM79 q79_103 rfl rfl hw
    · have hw := hw.1 hc
      refine zl zM79 q79_53 (pc' := 95) (ls' := _) (st' := _) rfl ?_
      exact hw
theorem b79_95 {X : Option (List Int32)} {d : Nat} {h : zH} {A : Int32 → zH → Prop} {l1 : Int32} {l3 : Int32} {l4 : Int32} {l5 : Int32} (hw : zP X (d + 1) 79 28 [some (.ref 0), some (.int l1), none, some (.int l3), some (.int l4), some (.int (l5 + 1))] [] z_S0 h (zI A)) : zP X (d + 1) 79 95 [some (.ref 0), some (.int l1), none, some (.int l3), some (.int l4), some (.int l5)] [] z_S0 h (zI A) := by
  refine zl zM79 q79_95 (ls' := [some (.ref 0), some (.int l1), none, some (.int l3), some (.int l4), some (.int (l5 + 1))]) rfl ?_
  refine zl zM79 q79_98 (pc' := 28) (ls' := _) (st' := _) rfl ?_
  exact hw
-- X11_bringToStore
theorem b80 {X : Option (List Int32)} {d : Nat} {h : zH} {A : zH → Prop} {a1 : Int32} (hw : zP X (d + 1) 80 2 [some (.ref 0), some (.int a1), some (.int 0)] [] z_S0 h (zV A)) : zP X (d + 1) 80 0 (z_ent [.ref 0, .int a1] 3) [] z_S0 h (zV A) := by
  show zP X (d + 1) 80 0 [some (.ref 0), some (.int a1), none] [] z_S0 h (zV A)
  refine zkI zM80 q80_0 kI0 ?_
  refine zl zM80 q80_1 (ls' := [some (.ref 0), some (.int a1), some (.int 0)]) rfl ?_
  exact hw
theorem b80_2 {X : Option (List Int32)} {d : Nat} {h : zH} {A : zH → Prop} {l1 : Int32} {l2 : Int32} (hw : ((l2 < 4 → (z_ib l2 6 ∧ (z_ib l1 40 ∧ zP X d 16 0 (z_ent [.ref 1, .int l1, .int l2, .int (h 10 (Int32.toNatClampNeg l1))] 4) [] z_S0 h (zI fun v4 h5 => (z_ib l2 6 ∧ zP X (d + 1) 80 2 [some (.ref 0), some (.int l1), some (.int (l2 + 1))] [] z_S0 (z_up h5 12 (Int32.toNatClampNeg l2) ((h 12 (Int32.toNatClampNeg l2)) + v4)) (zV A)))))) ∧ (¬ l2 < 4 → zP X d 17 0 (z_ent [.ref 1, .int l1] 4) [] z_S0 h (zI fun v1 h2 => (z_ib l1 40 ∧ A (z_up (z_up h2 12 4 ((h 12 4) + v1)) 11 (Int32.toNatClampNeg l1) 1)))))) : zP X (d + 1) 80 2 [some (.ref 0), some (.int l1), some (.int l2)] [] z_S0 h (zV A) := by
  refine zl zM80 q80_2 rfl ?_
  refine zkI zM80 q80_3 kI4 ?_
  refine zb2_ge zM80 q80_4 (tgt := 40) rfl (fun hc => ?_) (fun hc => ?_)
  · have hw := hw.2 hc
    refine zl zM80 q80_40 rfl ?_
    refine zgR (a := 12) zM80 q80_41 (by decide) g11_16 s0 rfl ?_
    refine zkI zM80 q80_44 kI4 ?_
    refine zl zM80 q80_45 rfl ?_
    refine ziA zM80 q80_46 (by decide) s12 (by decide) (v := (h 12 4)) rfl ?_
    refine zl zM80 q80_47 rfl ?_
    refine zgR (a := 1) zM80 q80_48 (by decide) g11_10 s0 rfl ?_
    refine zl zM80 q80_51 rfl ?_
    refine zcV zM80 q80_52 kl11_175 rfl rfl (Nat.le_of_ble_eq_true rfl) rfl zM17 (Nat.le_of_ble_eq_true rfl) (hw.mono (fun r0 h2 hr3 => ?_))
    obtain ⟨v1, rfl, hw⟩ := hr3
    show zP X (d + 1) 80 55 [some (.ref 0), some (.int l1), some (.int l2)] [.int v1, .int (h 12 4), .int 4, .ref 12] z_S0 h2 (zV A)
    refine zl zM80 q80_55 (pc' := 56) (st' := .int ((h 12 4) + v1) :: _) rfl ?_
    refine ziS (j := 4) zM80 q80_56 (by decide) s12 (by decide) rfl ?_
    refine zl zM80 q80_57 rfl ?_
    refine zgR (a := 1) zM80 q80_58 (by decide) g11_10 s0 rfl ?_
    refine zgR (a := 11) zM80 q80_61 (by decide) g11_184 s1 rfl ?_
    refine zl zM80 q80_64 rfl ?_
    refine zkI zM80 q80_65 kI1 ?_
    obtain ⟨hb, hw⟩ := hw
    refine zbS zM80 q80_66 (by decide) s11 (by decide) hb rfl (w := 1) rfl ?_
    exact zrv zM80 q80_67 rfl hw
  · have hw := hw.1 hc
    refine zl zM80 q80_7 rfl ?_
    refine zgR (a := 12) zM80 q80_8 (by decide) g11_16 s0 rfl ?_
    refine zl zM80 q80_11 rfl ?_
    refine zl zM80 q80_12 rfl ?_
    obtain ⟨hb, hw⟩ := hw
    refine ziA zM80 q80_13 (by decide) s12 hb (v := (h 12 (Int32.toNatClampNeg l2))) rfl ?_
    refine zl zM80 q80_14 rfl ?_
    refine zgR (a := 1) zM80 q80_15 (by decide) g11_10 s0 rfl ?_
    refine zl zM80 q80_18 rfl ?_
    refine zl zM80 q80_19 rfl ?_
    refine zl zM80 q80_20 rfl ?_
    refine zgR (a := 1) zM80 q80_21 (by decide) g11_10 s0 rfl ?_
    refine zgR (a := 10) zM80 q80_24 (by decide) g11_168 s1 rfl ?_
    refine zl zM80 q80_27 rfl ?_
    obtain ⟨hb, hw⟩ := hw
    refine ziA zM80 q80_28 (by decide) s10 hb (v := (h 10 (Int32.toNatClampNeg l1))) rfl ?_
    refine zcV zM80 q80_29 kl11_171 rfl rfl (Nat.le_of_ble_eq_true rfl) rfl zM16 (Nat.le_of_ble_eq_true rfl) (hw.mono (fun r0 h5 hr6 => ?_))
    obtain ⟨v4, rfl, hw⟩ := hr6
    show zP X (d + 1) 80 32 [some (.ref 0), some (.int l1), some (.int l2)] [.int v4, .int (h 12 (Int32.toNatClampNeg l2)), .int l2, .ref 12] z_S0 h5 (zV A)
    refine zl zM80 q80_32 (pc' := 33) (st' := .int ((h 12 (Int32.toNatClampNeg l2)) + v4) :: _) rfl ?_
    obtain ⟨hb, hw⟩ := hw
    refine ziS zM80 q80_33 (by decide) s12 hb rfl ?_
    refine zl zM80 q80_34 (ls' := [some (.ref 0), some (.int l1), some (.int (l2 + 1))]) rfl ?_
    refine zl zM80 q80_37 (pc' := 2) (ls' := _) (st' := _) rfl ?_
    exact hw
-- X11_fire
theorem b81 {X : Option (List Int32)} {d : Nat} {h : zH} {A : Int32 → zH → Prop} {a1 : Int32} {a2 : Int32} (hw : zP X d 121 0 (z_ent [.int a1] 1) [] z_S0 h (zI fun v1 h2 => ((v1 = 0 → A (-2) h2) ∧ (¬ v1 = 0 → zP X d 119 0 (z_ent [.int a2, .int 0, .int 100] 3) [] z_S0 h2 (zI fun v3 h4 => ((v3 = 0 → A (-2) h4) ∧ (¬ v3 = 0 → zP X d 20 0 (z_ent [.ref 1, .int a1, .int a2] 6) [] z_S0 h4 (zI fun v5 h7 => A v5 (z_up h7 12 5 ((h7 12 5) + v5)))))))))) : zP X (d + 1) 81 0 (z_ent [.ref 0, .int a1, .int a2] 4) [] z_S0 h (zI A) := by
  show zP X (d + 1) 81 0 [some (.ref 0), some (.int a1), some (.int a2), none] [] z_S0 h (zI A)
  refine zl zM81 q81_0 rfl ?_
  refine zcS zM81 q81_1 ky11_139 kl11_139 (by decide) rfl (Nat.le_of_ble_eq_true rfl) zM121 (Nat.le_of_ble_eq_true rfl) (hw.mono (fun r0 h2 hr10 => ?_))
  obtain ⟨v1, rfl, hw⟩ := hr10
  show zP X (d + 1) 81 4 [some (.ref 0), some (.int a1), some (.int a2), none] [.int v1] z_S0 h2 (zI A)
  refine zb1_eq zM81 q81_4 (tgt := 17) rfl (fun hc => ?_) (fun hc => ?_)
  · have hw := hw.1 hc
    refine zkB zM81 q81_17 kBm2 ?_
    exact zri zM81 q81_19 rfl rfl hw
  · have hw := hw.2 hc
    refine zl zM81 q81_7 rfl ?_
    refine zkI zM81 q81_8 kI0 ?_
    refine zkB zM81 q81_9 kB100 ?_
    refine zcS zM81 q81_11 ky11_128 kl11_128 (by decide) rfl (Nat.le_of_ble_eq_true rfl) zM119 (Nat.le_of_ble_eq_true rfl) (hw.mono (fun r0 h4 hr9 => ?_))
    obtain ⟨v3, rfl, hw⟩ := hr9
    show zP X (d + 1) 81 14 [some (.ref 0), some (.int a1), some (.int a2), none] [.int v3] z_S0 h4 (zI A)
    refine zb1_ne zM81 q81_14 (tgt := 20) rfl (fun hc => ?_) (fun hc => ?_)
    · have hw := hw.2 hc
      refine zl zM81 q81_20 rfl ?_
      refine zgR (a := 1) zM81 q81_21 (by decide) g11_10 s0 rfl ?_
      refine zl zM81 q81_24 rfl ?_
      refine zl zM81 q81_25 rfl ?_
      refine zcV zM81 q81_26 kl11_196 rfl rfl (Nat.le_of_ble_eq_true rfl) rfl zM20 (Nat.le_of_ble_eq_true rfl) (hw.mono (fun r0 h7 hr8 => ?_))
      obtain ⟨v5, rfl, hw⟩ := hr8
      show zP X (d + 1) 81 29 [some (.ref 0), some (.int a1), some (.int a2), none] [.int v5] z_S0 h7 (zI A)
      refine zl zM81 q81_29 (ls' := [some (.ref 0), some (.int a1), some (.int a2), some (.int v5)]) rfl ?_
      refine zl zM81 q81_30 rfl ?_
      refine zgR (a := 12) zM81 q81_31 (by decide) g11_16 s0 rfl ?_
      refine zkI zM81 q81_34 kI5 ?_
      refine zl zM81 q81_35 rfl ?_
      refine ziA zM81 q81_36 (by decide) s12 (by decide) (v := (h7 12 5)) rfl ?_
      refine zl zM81 q81_37 rfl ?_
      refine zl zM81 q81_38 (pc' := 39) (st' := .int ((h7 12 5) + v5) :: _) rfl ?_
      refine ziS (j := 5) zM81 q81_39 (by decide) s12 (by decide) rfl ?_
      refine zl zM81 q81_40 rfl ?_
      exact zri zM81 q81_41 rfl rfl hw
    · have hw := hw.1 hc
      refine zkB zM81 q81_17 kBm2 ?_
      exact zri zM81 q81_19 rfl rfl hw
-- X11_lies
theorem b82 {X : Option (List Int32)} {d : Nat} {h : zH} {A : Int32 → zH → Prop} {a1 : Int32} (hw : zP X d 121 0 (z_ent [.int a1] 1) [] z_S0 h (zI fun v1 h2 => ((v1 = 0 → A (-2) h2) ∧ (¬ v1 = 0 → zP X d 21 0 (z_ent [.ref 1, .int a1] 4) [] z_S0 h2 (zI fun v3 h4 => A v3 h4))))) : zP X (d + 1) 82 0 (z_ent [.ref 0, .int a1] 2) [] z_S0 h (zI A) := by
  show zP X (d + 1) 82 0 [some (.ref 0), some (.int a1)] [] z_S0 h (zI A)
  refine zl zM82 q82_0 rfl ?_
  refine zcS zM82 q82_1 ky11_139 kl11_139 (by decide) rfl (Nat.le_of_ble_eq_true rfl) zM121 (Nat.le_of_ble_eq_true rfl) (hw.mono (fun r0 h2 hr6 => ?_))
  obtain ⟨v1, rfl, hw⟩ := hr6
  show zP X (d + 1) 82 4 [some (.ref 0), some (.int a1)] [.int v1] z_S0 h2 (zI A)
  refine zb1_eq zM82 q82_4 (tgt := 18) rfl (fun hc => ?_) (fun hc => ?_)
  · have hw := hw.1 hc
    refine zkB zM82 q82_18 kBm2 ?_
    exact zri zM82 q82_20 rfl rfl hw
  · have hw := hw.2 hc
    refine zl zM82 q82_7 rfl ?_
    refine zgR (a := 1) zM82 q82_8 (by decide) g11_10 s0 rfl ?_
    refine zl zM82 q82_11 rfl ?_
    refine zcV zM82 q82_12 kl11_200 rfl rfl (Nat.le_of_ble_eq_true rfl) rfl zM21 (Nat.le_of_ble_eq_true rfl) (hw.mono (fun r0 h4 hr5 => ?_))
    obtain ⟨v3, rfl, hw⟩ := hr5
    show zP X (d + 1) 82 15 [some (.ref 0), some (.int a1)] [.int v3] z_S0 h4 (zI A)
    refine zl zM82 q82_15 (pc' := 20) (ls' := _) (st' := _) rfl ?_
    exact zri zM82 q82_20 rfl rfl hw
-- X11_stock
theorem b83 {X : Option (List Int32)} {d : Nat} {h : zH} {A : Int32 → zH → Prop} {a1 : Int32} (hw : zP X d 119 0 (z_ent [.int a1, .int 0, .int 5] 3) [] z_S0 h (zI fun v1 h2 => ((v1 = 0 → A (-2) h2) ∧ (¬ v1 = 0 → (z_ib a1 6 ∧ A (h2 12 (Int32.toNatClampNeg a1)) h2))))) : zP X (d + 1) 83 0 (z_ent [.ref 0, .int a1] 2) [] z_S0 h (zI A) := by
  show zP X (d + 1) 83 0 [some (.ref 0), some (.int a1)] [] z_S0 h (zI A)
  refine zl zM83 q83_0 rfl ?_
  refine zkI zM83 q83_1 kI0 ?_
  refine zkI zM83 q83_2 kI5 ?_
  refine zcS zM83 q83_3 ky11_128 kl11_128 (by decide) rfl (Nat.le_of_ble_eq_true rfl) zM119 (Nat.le_of_ble_eq_true rfl) (hw.mono (fun r0 h2 hr3 => ?_))
  obtain ⟨v1, rfl, hw⟩ := hr3
  show zP X (d + 1) 83 6 [some (.ref 0), some (.int a1)] [.int v1] z_S0 h2 (zI A)
  refine zb1_eq zM83 q83_6 (tgt := 18) rfl (fun hc => ?_) (fun hc => ?_)
  · have hw := hw.1 hc
    refine zkB zM83 q83_18 kBm2 ?_
    exact zri zM83 q83_20 rfl rfl hw
  · have hw := hw.2 hc
    refine zl zM83 q83_9 rfl ?_
    refine zgR (a := 12) zM83 q83_10 (by decide) g11_16 s0 rfl ?_
    refine zl zM83 q83_13 rfl ?_
    obtain ⟨hb, hw⟩ := hw
    refine ziA zM83 q83_14 (by decide) s12 hb (v := (h2 12 (Int32.toNatClampNeg a1))) rfl ?_
    refine zl zM83 q83_15 (pc' := 20) (ls' := _) (st' := _) rfl ?_
    exact zri zM83 q83_20 rfl rfl hw
-- X11_sell
theorem b84 {X : Option (List Int32)} {d : Nat} {h : zH} {A : Int32 → zH → Prop} {a1 : Int32} {a2 : Int32} (hw : zP X d 122 0 (z_ent [.int a1] 1) [] z_S0 h (zI fun v1 h2 => ((v1 = 0 → A (-2) h2) ∧ (¬ v1 = 0 → zP X d 119 0 (z_ent [.int a2, .int 1, .int 99999] 3) [] z_S0 h2 (zI fun v3 h4 => ((v3 = 0 → A (-2) h4) ∧ (¬ v3 = 0 → (z_ib a1 6 ∧ (((h4 12 (Int32.toNatClampNeg a1)) < a2 → A (-3) h4) ∧ (¬ (h4 12 (Int32.toNatClampNeg a1)) < a2 → zP X d 41 0 (z_ent [.ref 13, .int a1, .int (h4 0 16), .int (h4 0 16)] 6) [] z_S0 h4 (zI fun v5 h6 => zP X d 127 0 (z_ent [.int a2, .int v5] 2) [] z_S0 h6 (zI fun v7 h8 => (z_ib a1 6 ∧ (z_ib a1 6 ∧ A v7 (z_up (z_up h8 12 (Int32.toNatClampNeg a1) ((h8 12 (Int32.toNatClampNeg a1)) - a2)) 0 17 ((h8 0 17) + v7)))))))))))))))) : zP X (d + 1) 84 0 (z_ent [.ref 0, .int a1, .int a2] 4) [] z_S0 h (zI A) := by
  show zP X (d + 1) 84 0 [some (.ref 0), some (.int a1), some (.int a2), none] [] z_S0 h (zI A)
  refine zl zM84 q84_0 rfl ?_
  refine zcS zM84 q84_1 ky11_203 kl11_203 (by decide) rfl (Nat.le_of_ble_eq_true rfl) zM122 (Nat.le_of_ble_eq_true rfl) (hw.mono (fun r0 h2 hr12 => ?_))
  obtain ⟨v1, rfl, hw⟩ := hr12
  show zP X (d + 1) 84 4 [some (.ref 0), some (.int a1), some (.int a2), none] [.int v1] z_S0 h2 (zI A)
  refine zb1_eq zM84 q84_4 (tgt := 17) rfl (fun hc => ?_) (fun hc => ?_)
  · have hw := hw.1 hc
    refine zkB zM84 q84_17 kBm2 ?_
    exact zri zM84 q84_19 rfl rfl hw
  · have hw := hw.2 hc
    refine zl zM84 q84_7 rfl ?_
    refine zkI zM84 q84_8 kI1 ?_
    refine zkC zM84 q84_9 kc11_188 ?_
    refine zcS zM84 q84_11 ky11_128 kl11_128 (by decide) rfl (Nat.le_of_ble_eq_true rfl) zM119 (Nat.le_of_ble_eq_true rfl) (hw.mono (fun r0 h4 hr11 => ?_))
    obtain ⟨v3, rfl, hw⟩ := hr11
    show zP X (d + 1) 84 14 [some (.ref 0), some (.int a1), some (.int a2), none] [.int v3] z_S0 h4 (zI A)
    refine zb1_ne zM84 q84_14 (tgt := 20) rfl (fun hc => ?_) (fun hc => ?_)
    · have hw := hw.2 hc
      refine zl zM84 q84_20 rfl ?_
      refine zgR (a := 12) zM84 q84_21 (by decide) g11_16 s0 rfl ?_
      refine zl zM84 q84_24 rfl ?_
      obtain ⟨hb, hw⟩ := hw
      refine ziA zM84 q84_25 (by decide) s12 hb (v := (h4 12 (Int32.toNatClampNeg a1))) rfl ?_
      refine zl zM84 q84_26 rfl ?_
      refine zb2_ge zM84 q84_27 (tgt := 33) rfl (fun hc => ?_) (fun hc => ?_)
      · have hw := hw.2 hc
        refine zl zM84 q84_33 rfl ?_
        refine zl zM84 q84_34 rfl ?_
        refine zgR (a := 13) zM84 q84_35 (by decide) g11_23 s0 rfl ?_
        refine zl zM84 q84_38 rfl ?_
        refine zl zM84 q84_39 rfl ?_
        refine zgI zM84 q84_40 (by decide) g11_132 s0 rfl (v := (h4 0 16)) rfl ?_
        refine zl zM84 q84_43 rfl ?_
        refine zgI zM84 q84_44 (by decide) g11_132 s0 rfl (v := (h4 0 16)) rfl ?_
        refine zcV zM84 q84_47 kl11_206 rfl rfl (Nat.le_of_ble_eq_true rfl) rfl zM41 (Nat.le_of_ble_eq_true rfl) (hw.mono (fun r0 h6 hr10 => ?_))
        obtain ⟨v5, rfl, hw⟩ := hr10
        show zP X (d + 1) 84 50 [some (.ref 0), some (.int a1), some (.int a2), none] [.int v5, .int a2] z_S0 h6 (zI A)
        refine zcS zM84 q84_50 ky11_209 kl11_209 (by decide) rfl (Nat.le_of_ble_eq_true rfl) zM127 (Nat.le_of_ble_eq_true rfl) (hw.mono (fun r0 h8 hr9 => ?_))
        obtain ⟨v7, rfl, hw⟩ := hr9
        show zP X (d + 1) 84 53 [some (.ref 0), some (.int a1), some (.int a2), none] [.int v7] z_S0 h8 (zI A)
        refine zl zM84 q84_53 (ls' := [some (.ref 0), some (.int a1), some (.int a2), some (.int v7)]) rfl ?_
        refine zl zM84 q84_54 rfl ?_
        refine zgR (a := 12) zM84 q84_55 (by decide) g11_16 s0 rfl ?_
        refine zl zM84 q84_58 rfl ?_
        refine zl zM84 q84_59 rfl ?_
        obtain ⟨hb, hw⟩ := hw
        refine ziA zM84 q84_60 (by decide) s12 hb (v := (h8 12 (Int32.toNatClampNeg a1))) rfl ?_
        refine zl zM84 q84_61 rfl ?_
        refine zl zM84 q84_62 (pc' := 63) (st' := .int ((h8 12 (Int32.toNatClampNeg a1)) - a2) :: _) rfl ?_
        obtain ⟨hb, hw⟩ := hw
        refine ziS zM84 q84_63 (by decide) s12 hb rfl ?_
        refine zl zM84 q84_64 rfl ?_
        refine zl zM84 q84_65 rfl ?_
        refine zgI zM84 q84_66 (by decide) g11_212 s0 rfl (v := (h8 0 17)) rfl ?_
        refine zl zM84 q84_69 rfl ?_
        refine zl zM84 q84_70 (pc' := 71) (st' := .int ((h8 0 17) + v7) :: _) rfl ?_
        refine zpi zM84 q84_71 (by decide) g11_212 s0 rfl rfl ?_
        refine zl zM84 q84_74 rfl ?_
        exact zri zM84 q84_75 rfl rfl hw
      · have hw := hw.1 hc
        refine zkB zM84 q84_30 kBm3 ?_
        exact zri zM84 q84_32 rfl rfl hw
    · have hw := hw.1 hc
      refine zkB zM84 q84_17 kBm2 ?_
      exact zri zM84 q84_19 rfl rfl hw

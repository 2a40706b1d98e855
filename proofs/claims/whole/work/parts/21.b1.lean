-- X8_isMissing
theorem b43 {X : Option (List Int32)} {d : Nat} {h : zH} {A : Int32 → zH → Prop} {t : Nat} (ht0 : t ∈ ([74, 76, 78, 80] : List Nat)) (hw : (((h (t) 1) = (-1) → A 1 h) ∧ (¬ (h (t) 1) = (-1) → A 0 h))) : zP X d 43 0 (z_ent [.ref (t)] 1) [] z_S0 h (zI A) := by
  show zP X d 43 0 [some (.ref (t))] [] z_S0 h (zI A)
  refine zl zM43 q43_0 rfl ?_
  refine zgI zM43 q43_1 (sSh ht0).1 g8_15 (sSh ht0).2.2.1 rfl (v := (h (t) 1)) rfl ?_
  refine zkI zM43 q43_4 kIm1 ?_
  refine zb2_ne zM43 q43_5 (tgt := 12) rfl (fun hc => ?_) (fun hc => ?_)
  · have hw := hw.2 hc
    refine zkI zM43 q43_12 kI0 ?_
    exact zri zM43 q43_13 rfl rfl hw
  · have hw := hw.1 hc
    refine zkI zM43 q43_8 kI1 ?_
    refine zl zM43 q43_9 (pc' := 13) (ls' := _) (st' := _) rfl ?_
    exact zri zM43 q43_13 rfl rfl hw
-- X8_become
theorem b44 {X : Option (List Int32)} {d : Nat} {h : zH} {A : zH → Prop} {t : Nat} {a1 : Int32} {a2 : Int32} (ht0 : t ∈ ([74, 76, 78, 80] : List Nat)) (hw : zP X d 222 0 (z_ent [.ref (t + 1), .int 0] 4) [] z_S0 (z_up (z_up h (t) 1 a1) (t) 2 a2) (zV fun h3 => A h3)) : zP X (d + 1) 44 0 (z_ent [.ref (t), .int a1, .int a2] 3) [] z_S0 h (zV A) := by
  show zP X (d + 1) 44 0 [some (.ref (t)), some (.int a1), some (.int a2)] [] z_S0 h (zV A)
  refine zl zM44 q44_0 rfl ?_
  refine zl zM44 q44_1 rfl ?_
  refine zpi zM44 q44_2 (sSh ht0).1 g8_15 (sSh ht0).2.2.1 rfl rfl ?_
  refine zl zM44 q44_5 rfl ?_
  refine zl zM44 q44_6 rfl ?_
  refine zpi zM44 q44_7 (sSh ht0).1 g8_19 (sSh ht0).2.2.1 rfl rfl ?_
  refine zl zM44 q44_10 rfl ?_
  refine zgR (a := t + 1) zM44 q44_11 (sSh ht0).1 g8_9 (sSh ht0).2.2.1 rfl ?_
  refine zkI zM44 q44_14 kI0 ?_
  refine zcS zM44 q44_15 ky8_22 kl8_22 (by decide) rfl (Nat.le_of_ble_eq_true rfl) zM222 (Nat.le_of_ble_eq_true rfl) (hw.mono (fun r0 h3 hr4 => ?_))
  obtain ⟨rfl, hw⟩ := hr4
  show zP X (d + 1) 44 18 [some (.ref (t)), some (.int a1), some (.int a2)] [] z_S0 h3 (zV A)
  exact zrv zM44 q44_18 rfl hw
-- X8_write
theorem b45 {X : Option (List Int32)} {d : Nat} {h : zH} {A : zH → Prop} {t : Nat} {a1 : Int32} {a2 : Int32} (ht0 : t ∈ ([74, 76, 78, 80] : List Nat)) (hw : (((h (t) 1) = 0 → (z_ib a1 40 ∧ A (z_up h (t + 1) (Int32.toNatClampNeg a1) ((Int32.toInt8 a2).toInt32)))) ∧ (¬ (h (t) 1) = 0 → (((h (t) 1) = 1 → (z_ib a1 40 ∧ A (z_up h (t + 1) (Int32.toNatClampNeg a1) ((Int32.toInt16 a2).toInt32)))) ∧ (¬ (h (t) 1) = 1 → (z_ib a1 40 ∧ A (z_up h (t + 1) (Int32.toNatClampNeg a1) a2))))))) : zP X d 45 0 (z_ent [.ref (t), .int a1, .int a2] 3) [] z_S0 h (zV A) := by
  show zP X d 45 0 [some (.ref (t)), some (.int a1), some (.int a2)] [] z_S0 h (zV A)
  refine zl zM45 q45_0 rfl ?_
  refine zgR (a := t + 1) zM45 q45_1 (sSh ht0).1 g8_9 (sSh ht0).2.2.1 rfl ?_
  refine zl zM45 q45_4 rfl ?_
  refine zl zM45 q45_5 rfl ?_
  refine zgI zM45 q45_6 (sSh ht0).1 g8_15 (sSh ht0).2.2.1 rfl (v := (h (t) 1)) rfl ?_
  refine zb1_ne zM45 q45_9 (tgt := 17) rfl (fun hc => ?_) (fun hc => ?_)
  · have hw := hw.2 hc
    refine zl zM45 q45_17 rfl ?_
    refine zgI zM45 q45_18 (sSh ht0).1 g8_15 (sSh ht0).2.2.1 rfl (v := (h (t) 1)) rfl ?_
    refine zkI zM45 q45_21 kI1 ?_
    refine zb2_ne zM45 q45_22 (tgt := 30) rfl (fun hc => ?_) (fun hc => ?_)
    · have hw := hw.2 hc
      refine zl zM45 q45_30 rfl ?_
      obtain ⟨hb, hw⟩ := hw
      refine ziS zM45 q45_31 (sSh ht0).2.1 (sSh ht0).2.2.2 hb rfl ?_
      exact zrv zM45 q45_32 rfl hw
    · have hw := hw.1 hc
      refine zl zM45 q45_25 rfl ?_
      refine zl zM45 q45_26 (pc' := 27) (st' := .int ((Int32.toInt16 a2).toInt32) :: _) rfl ?_
      refine zl zM45 q45_27 (pc' := 31) (ls' := _) (st' := _) rfl ?_
      obtain ⟨hb, hw⟩ := hw
      refine ziS zM45 q45_31 (sSh ht0).2.1 (sSh ht0).2.2.2 hb rfl ?_
      exact zrv zM45 q45_32 rfl hw
  · have hw := hw.1 hc
    refine zl zM45 q45_12 rfl ?_
    refine zl zM45 q45_13 (pc' := 14) (st' := .int ((Int32.toInt8 a2).toInt32) :: _) rfl ?_
    refine zl zM45 q45_14 (pc' := 31) (ls' := _) (st' := _) rfl ?_
    obtain ⟨hb, hw⟩ := hw
    refine ziS zM45 q45_31 (sSh ht0).2.1 (sSh ht0).2.2.2 hb rfl ?_
    exact zrv zM45 q45_32 rfl hw
-- X8_holds
theorem b46 {X : Option (List Int32)} {d : Nat} {h : zH} {A : Int32 → zH → Prop} {t : Nat} {a1 : Int32} {a2 : Int32} (ht0 : t ∈ ([74, 76, 78, 80] : List Nat)) (hw : ((a1 < 0 → A 0 h) ∧ (¬ a1 < 0 → ((a2 < 0 → A 0 h) ∧ (¬ a2 < 0 → ((((h (t) 2) - a2) < a1 → A 0 h) ∧ (¬ ((h (t) 2) - a2) < a1 → A 1 h))))))) : zP X d 46 0 (z_ent [.ref (t), .int a1, .int a2] 3) [] z_S0 h (zI A) := by
  show zP X d 46 0 [some (.ref (t)), some (.int a1), some (.int a2)] [] z_S0 h (zI A)
  refine zl zM46 q46_0 rfl ?_
  refine zb1_lt zM46 q46_1 (tgt := 22) rfl (fun hc => ?_) (fun hc => ?_)
  · have hw := hw.1 hc
    refine zkI zM46 q46_22 kI0 ?_
    exact zri zM46 q46_23 rfl rfl hw
  · have hw := hw.2 hc
    refine zl zM46 q46_4 rfl ?_
    refine zb1_lt zM46 q46_5 (tgt := 22) rfl (fun hc => ?_) (fun hc => ?_)
    · have hw := hw.1 hc
      refine zkI zM46 q46_22 kI0 ?_
      exact zri zM46 q46_23 rfl rfl hw
    · have hw := hw.2 hc
      refine zl zM46 q46_8 rfl ?_
      refine zl zM46 q46_9 rfl ?_
      refine zgI zM46 q46_10 (sSh ht0).1 g8_19 (sSh ht0).2.2.1 rfl (v := (h (t) 2)) rfl ?_
      refine zl zM46 q46_13 rfl ?_
      refine zl zM46 q46_14 (pc' := 15) (st' := .int ((h (t) 2) - a2) :: _) rfl ?_
      refine zb2_gt zM46 q46_15 (tgt := 22) rfl (fun hc => ?_) (fun hc => ?_)
      · have hw := hw.1 hc
        refine zkI zM46 q46_22 kI0 ?_
        exact zri zM46 q46_23 rfl rfl hw
      · have hw := hw.2 hc
        refine zkI zM46 q46_18 kI1 ?_
        refine zl zM46 q46_19 (pc' := 23) (ls' := _) (st' := _) rfl ?_
        exact zri zM46 q46_23 rfl rfl hw
-- X9_put
theorem b48 {X : Option (List Int32)} {d : Nat} {h : zH} {A : zH → Prop} {a1 : Int32} (hw : (((h 18 1) < 160 → (z_ib (h 18 1) 160 ∧ A (z_up (z_up h 19 (Int32.toNatClampNeg (h 18 1)) a1) 18 1 ((h 18 1) + 1)))) ∧ (¬ (h 18 1) < 160 → A h))) : zP X d 48 0 (z_ent [.ref 18, .int a1] 2) [] z_S0 h (zV A) := by
  show zP X d 48 0 [some (.ref 18), some (.int a1)] [] z_S0 h (zV A)
  refine zl zM48 q48_0 rfl ?_
  refine zgI zM48 q48_1 (by decide) g9_15 s18 rfl (v := (h 18 1)) rfl ?_
  refine zkS zM48 q48_4 kS160 ?_
  refine zb2_ge zM48 q48_7 (tgt := 30) rfl (fun hc => ?_) (fun hc => ?_)
  · have hw := hw.2 hc
    exact zrv zM48 q48_30 rfl hw
  · have hw := hw.1 hc
    refine zl zM48 q48_10 rfl ?_
    refine zgR (a := 19) zM48 q48_11 (by decide) g9_9 s18 rfl ?_
    refine zl zM48 q48_14 rfl ?_
    refine zgI zM48 q48_15 (by decide) g9_15 s18 rfl (v := (h 18 1)) rfl ?_
    refine zl zM48 q48_18 rfl ?_
    obtain ⟨hb, hw⟩ := hw
    refine ziS zM48 q48_19 (by decide) s19 hb rfl ?_
    refine zl zM48 q48_20 rfl ?_
    refine zl zM48 q48_21 rfl ?_
    refine zgI zM48 q48_22 (by decide) g9_15 s18 rfl (v := (h 18 1)) rfl ?_
    refine zkI zM48 q48_25 kI1 ?_
    refine zl zM48 q48_26 (pc' := 27) (st' := .int ((h 18 1) + 1) :: _) rfl ?_
    refine zpi zM48 q48_27 (by decide) g9_15 s18 rfl rfl ?_
    exact zrv zM48 q48_30 rfl hw
-- X9_empty
theorem b49 {X : Option (List Int32)} {d : Nat} {h : zH} {A : zH → Prop}  (hw : A (z_up h 18 1 0)) : zP X d 49 0 (z_ent [.ref 18] 1) [] z_S0 h (zV A) := by
  show zP X d 49 0 [some (.ref 18)] [] z_S0 h (zV A)
  refine zl zM49 q49_0 rfl ?_
  refine zkI zM49 q49_1 kI0 ?_
  refine zpi zM49 q49_2 (by decide) g9_15 s18 rfl rfl ?_
  exact zrv zM49 q49_5 rfl hw
-- X9_rewind
theorem b50 {X : Option (List Int32)} {d : Nat} {h : zH} {A : zH → Prop}  (hw : zP X (d + 6) 52 0 (z_ent [.ref 18] 1) [] z_S0 (z_up h 18 3 0) (zV fun h3 => A h3)) : zP X (d + 7) 50 0 (z_ent [.ref 18] 1) [] z_S0 h (zV A) := by
  show zP X (d + 7) 50 0 [some (.ref 18)] [] z_S0 h (zV A)
  refine zl zM50 q50_0 rfl ?_
  refine zkI zM50 q50_1 kI0 ?_
  refine zpi zM50 q50_2 (by decide) g9_19 s18 rfl rfl ?_
  refine zl zM50 q50_5 rfl ?_
  refine zcV zM50 q50_6 kl9_22 rfl rfl (Nat.le_of_ble_eq_true rfl) rfl zM52 (Nat.le_of_ble_eq_true rfl) (hw.mono (fun r0 h3 hr4 => ?_))
  obtain ⟨rfl, hw⟩ := hr4
  show zP X (d + 7) 50 9 [some (.ref 18)] [] z_S0 h3 (zV A)
  exact zrv zM50 q50_9 rfl hw
-- X9_accepts
theorem b51 {X : Option (List Int32)} {d : Nat} {h : zH} {A : Int32 → zH → Prop} {a1 : Int32} (hw : (((h 18 4) = a1 → zP X (d + 6) 52 0 (z_ent [.ref 18] 1) [] z_S0 h (zV fun h3 => A 1 h3)) ∧ (¬ (h 18 4) = a1 → A 0 h))) : zP X (d + 7) 51 0 (z_ent [.ref 18, .int a1] 2) [] z_S0 h (zI A) := by
  show zP X (d + 7) 51 0 [some (.ref 18), some (.int a1)] [] z_S0 h (zI A)
  refine zl zM51 q51_0 rfl ?_
  refine zgI zM51 q51_1 (by decide) g9_25 s18 rfl (v := (h 18 4)) rfl ?_
  refine zl zM51 q51_4 rfl ?_
  refine zb2_eq zM51 q51_5 (tgt := 10) rfl (fun hc => ?_) (fun hc => ?_)
  · have hw := hw.1 hc
    refine zl zM51 q51_10 rfl ?_
    refine zcV zM51 q51_11 kl9_22 rfl rfl (Nat.le_of_ble_eq_true rfl) rfl zM52 (Nat.le_of_ble_eq_true rfl) (hw.mono (fun r0 h3 hr4 => ?_))
    obtain ⟨rfl, hw⟩ := hr4
    show zP X (d + 7) 51 14 [some (.ref 18), some (.int a1)] [] z_S0 h3 (zI A)
    refine zkI zM51 q51_14 kI1 ?_
    exact zri zM51 q51_15 rfl rfl hw
  · have hw := hw.2 hc
    refine zkI zM51 q51_8 kI0 ?_
    exact zri zM51 q51_9 rfl rfl hw
-- X9_advance
theorem b52 {X : Option (List Int32)} {d : Nat} {h : zH} {A : zH → Prop}  (hw : zP X (d + 6) 52 8 [some (.ref 18)] [] z_S0 (z_up h 18 2 (h 18 3)) (zV A)) : zP X (d + 6) 52 0 (z_ent [.ref 18] 1) [] z_S0 h (zV A) := by
  show zP X (d + 6) 52 0 [some (.ref 18)] [] z_S0 h (zV A)
  refine zl zM52 q52_0 rfl ?_
  refine zl zM52 q52_1 rfl ?_
  refine zgI zM52 q52_2 (by decide) g9_19 s18 rfl (v := (h 18 3)) rfl ?_
  refine zpi zM52 q52_5 (by decide) g9_28 s18 rfl rfl ?_
  exact hw
theorem b52_8 {X : Option (List Int32)} {d : Nat} {h : zH} {A : zH → Prop}  (hw : (((h 18 2) < (h 18 1) → (z_ib (h 18 2) 160 ∧ zP X (d + 5) 56 0 (z_ent [.int (h 19 (Int32.toNatClampNeg (h 18 2)))] 1) [] z_S0 h (zI fun v1 h2 => ((v1 = 0 → zP X (d + 6) 52 47 [some (.ref 18)] [] z_S0 h2 (zV A)) ∧ (¬ v1 = 0 → zP X (d + 6) 52 8 [some (.ref 18)] [] z_S0 (z_up h2 18 2 ((h2 18 2) + 1)) (zV A)))))) ∧ (¬ (h 18 2) < (h 18 1) → zP X (d + 6) 52 47 [some (.ref 18)] [] z_S0 h (zV A)))) : zP X (d + 6) 52 8 [some (.ref 18)] [] z_S0 h (zV A) := by
  refine zl zM52 q52_8 rfl ?_
  refine zgI zM52 q52_9 (by decide) g9_28 s18 rfl (v := (h 18 2)) rfl ?_
  refine zl zM52 q52_12 rfl ?_
  refine zgI zM52 q52_13 (by decide) g9_15 s18 rfl (v := (h 18 1)) rfl ?_
  refine zb2_ge zM52 q52_16 (tgt := 47) rfl (fun hc => ?_) (fun hc => ?_)
  · have hw := hw.2 hc
    exact hw
  · have hw := hw.1 hc
    refine zl zM52 q52_19 rfl ?_
    refine zgR (a := 19) zM52 q52_20 (by decide) g9_9 s18 rfl ?_
    refine zl zM52 q52_23 rfl ?_
    refine zgI zM52 q52_24 (by decide) g9_28 s18 rfl (v := (h 18 2)) rfl ?_
    obtain ⟨hb, hw⟩ := hw
    refine ziA zM52 q52_27 (by decide) s19 hb (v := (h 19 (Int32.toNatClampNeg (h 18 2)))) rfl ?_
    refine zcS zM52 q52_28 ky9_31 kl9_31 (by decide) rfl (Nat.le_of_ble_eq_true rfl) zM56 (Nat.le_of_ble_eq_true rfl) (hw.mono (fun r0 h2 hr3 => ?_))
    obtain ⟨v1, rfl, hw⟩ := hr3
    show zP X (d + 6) 52 31 [some (.ref 18)] [.int v1] z_S0 h2 (zV A)
    refine zb1_eq zM52 q52_31 (tgt := 47) rfl (fun hc => ?_) (fun hc => ?_)
    · have hw := hw.1 hc
      exact hw
    · have hw := hw.2 hc
      refine zl zM52 q52_34 rfl ?_
      refine zl zM52 q52_35 rfl ?_
      refine zgI zM52 q52_36 (by decide) g9_28 s18 rfl (v := (h2 18 2)) rfl ?_
      refine zkI zM52 q52_39 kI1 ?_
      refine zl zM52 q52_40 (pc' := 41) (st' := .int ((h2 18 2) + 1) :: _) rfl ?_
      refine zpi zM52 q52_41 (by decide) g9_28 s18 rfl rfl ?_
      refine zl zM52 q52_44 (pc' := 8) (ls' := _) (st' := _) rfl ?_
      exact hw
theorem b52_47 {X : Option (List Int32)} {d : Nat} {h : zH} {A : zH → Prop}  (hw : (((h 18 2) < (h 18 1) → (z_ib (h 18 2) 160 ∧ zP X (d + 5) 57 0 (z_ent [.int (h 19 (Int32.toNatClampNeg (h 18 2)))] 1) [] z_S0 (z_up h 18 3 (h 18 2)) (zI fun v4 h5 => ((v4 = 0 → (z_ib (h5 18 2) 160 ∧ zP X (d + 5) 58 0 (z_ent [.int (h5 19 (Int32.toNatClampNeg (h5 18 2)))] 1) [] z_S0 h5 (zI fun v6 h7 => ((v6 = 0 → (z_ib (h7 18 2) 160 ∧ zP X (d + 5) 59 0 (z_ent [.int (h7 19 (Int32.toNatClampNeg (h7 18 2)))] 1) [] z_S0 (z_up h7 18 3 ((h7 18 2) + 1)) (zI fun v8 h9 => ((v8 = 0 → A (z_up h9 18 4 257)) ∧ (¬ v8 = 0 → (z_ib (h9 18 2) 160 ∧ A (z_up h9 18 4 (h9 19 (Int32.toNatClampNeg (h9 18 2)))))))))) ∧ (¬ v6 = 0 → zP X (d + 5) 54 0 (z_ent [.ref 18] 1) [] z_S0 h7 (zV fun h13 => A h13)))))) ∧ (¬ v4 = 0 → zP X (d + 5) 53 0 (z_ent [.ref 18] 1) [] z_S0 h5 (zV fun h18 => A h18)))))) ∧ (¬ (h 18 2) < (h 18 1) → A (z_up (z_up h 18 3 (h 18 2)) 18 4 256)))) : zP X (d + 6) 52 47 [some (.ref 18)] [] z_S0 h (zV A) := by
  refine zl zM52 q52_47 rfl ?_
  refine zl zM52 q52_48 rfl ?_
  refine zgI zM52 q52_49 (by decide) g9_28 s18 rfl (v := (h 18 2)) rfl ?_
  refine zpi zM52 q52_52 (by decide) g9_19 s18 rfl rfl ?_
  refine zl zM52 q52_55 rfl ?_
  refine zgI zM52 q52_56 (by decide) g9_28 s18 rfl (v := (h 18 2)) rfl ?_
  refine zl zM52 q52_59 rfl ?_
  refine zgI zM52 q52_60 (by decide) g9_15 s18 rfl (v := (h 18 1)) rfl ?_
  refine zb2_lt zM52 q52_63 (tgt := 76) rfl (fun hc => ?_) (fun hc => ?_)
  · have hw := hw.1 hc
    refine zl zM52 q52_76 rfl ?_
    refine zgR (a := 19) zM52 q52_77 (by decide) g9_9 s18 rfl ?_
    refine zl zM52 q52_80 rfl ?_
    refine zgI zM52 q52_81 (by decide) g9_28 s18 rfl (v := (h 18 2)) rfl ?_
    obtain ⟨hb, hw⟩ := hw
    refine ziA zM52 q52_84 (by decide) s19 hb (v := (h 19 (Int32.toNatClampNeg (h 18 2)))) rfl ?_
    refine zcS zM52 q52_85 ky9_35 kl9_35 (by decide) rfl (Nat.le_of_ble_eq_true rfl) zM57 (Nat.le_of_ble_eq_true rfl) (hw.mono (fun r0 h5 hr20 => ?_))
    obtain ⟨v4, rfl, hw⟩ := hr20
    show zP X (d + 6) 52 88 [some (.ref 18)] [.int v4] z_S0 h5 (zV A)
    refine zb1_eq zM52 q52_88 (tgt := 98) rfl (fun hc => ?_) (fun hc => ?_)
    · have hw := hw.1 hc
      refine zl zM52 q52_98 rfl ?_
      refine zgR (a := 19) zM52 q52_99 (by decide) g9_9 s18 rfl ?_
      refine zl zM52 q52_102 rfl ?_
      refine zgI zM52 q52_103 (by decide) g9_28 s18 rfl (v := (h5 18 2)) rfl ?_
      obtain ⟨hb, hw⟩ := hw
      refine ziA zM52 q52_106 (by decide) s19 hb (v := (h5 19 (Int32.toNatClampNeg (h5 18 2)))) rfl ?_
      refine zcS zM52 q52_107 ky9_41 kl9_41 (by decide) rfl (Nat.le_of_ble_eq_true rfl) zM58 (Nat.le_of_ble_eq_true rfl) (hw.mono (fun r0 h7 hr15 => ?_))
      obtain ⟨v6, rfl, hw⟩ := hr15
      show zP X (d + 6) 52 110 [some (.ref 18)] [.int v6] z_S0 h7 (zV A)
      refine zb1_eq zM52 q52_110 (tgt := 120) rfl (fun hc => ?_) (fun hc => ?_)
      · have hw := hw.1 hc
        refine zl zM52 q52_120 rfl ?_
        refine zl zM52 q52_121 rfl ?_
        refine zgI zM52 q52_122 (by decide) g9_28 s18 rfl (v := (h7 18 2)) rfl ?_
        refine zkI zM52 q52_125 kI1 ?_
        refine zl zM52 q52_126 (pc' := 127) (st' := .int ((h7 18 2) + 1) :: _) rfl ?_
        refine zpi zM52 q52_127 (by decide) g9_19 s18 rfl rfl ?_
        refine zl zM52 q52_130 rfl ?_
        refine zl zM52 q52_131 rfl ?_
        refine zgR (a := 19) zM52 q52_132 (by decide) g9_9 s18 rfl ?_
        refine zl zM52 q52_135 rfl ?_
        refine zgI zM52 q52_136 (by decide) g9_28 s18 rfl (v := (h7 18 2)) rfl ?_
        obtain ⟨hb, hw⟩ := hw
        refine ziA zM52 q52_139 (by decide) s19 hb (v := (h7 19 (Int32.toNatClampNeg (h7 18 2)))) rfl ?_
        refine zcS zM52 q52_140 ky9_47 kl9_47 (by decide) rfl (Nat.le_of_ble_eq_true rfl) zM59 (Nat.le_of_ble_eq_true rfl) (hw.mono (fun r0 h9 hr10 => ?_))
        obtain ⟨v8, rfl, hw⟩ := hr10
        show zP X (d + 6) 52 143 [some (.ref 18)] [.int v8, .ref 18] z_S0 h9 (zV A)
        refine zb1_eq zM52 q52_143 (tgt := 158) rfl (fun hc => ?_) (fun hc => ?_)
        · have hw := hw.1 hc
          refine zkS zM52 q52_158 kS257 ?_
          refine zpi zM52 q52_161 (by decide) g9_25 s18 rfl rfl ?_
          exact zrv zM52 q52_164 rfl hw
        · have hw := hw.2 hc
          refine zl zM52 q52_146 rfl ?_
          refine zgR (a := 19) zM52 q52_147 (by decide) g9_9 s18 rfl ?_
          refine zl zM52 q52_150 rfl ?_
          refine zgI zM52 q52_151 (by decide) g9_28 s18 rfl (v := (h9 18 2)) rfl ?_
          obtain ⟨hb, hw⟩ := hw
          refine ziA zM52 q52_154 (by decide) s19 hb (v := (h9 19 (Int32.toNatClampNeg (h9 18 2)))) rfl ?_
          refine zl zM52 q52_155 (pc' := 161) (ls' := _) (st' := _) rfl ?_
          refine zpi zM52 q52_161 (by decide) g9_25 s18 rfl rfl ?_
          exact zrv zM52 q52_164 rfl hw
      · have hw := hw.2 hc
        refine zl zM52 q52_113 rfl ?_
        refine zcV zM52 q52_114 kl9_44 rfl rfl (Nat.le_of_ble_eq_true rfl) rfl zM54 (Nat.le_of_ble_eq_true rfl) (hw.mono (fun r0 h13 hr14 => ?_))
        obtain ⟨rfl, hw⟩ := hr14
        show zP X (d + 6) 52 117 [some (.ref 18)] [] z_S0 h13 (zV A)
        refine zl zM52 q52_117 (pc' := 164) (ls' := _) (st' := _) rfl ?_
        exact zrv zM52 q52_164 rfl hw
    · have hw := hw.2 hc
      refine zl zM52 q52_91 rfl ?_
      refine zcV zM52 q52_92 kl9_38 rfl rfl (Nat.le_of_ble_eq_true rfl) rfl zM53 (Nat.le_of_ble_eq_true rfl) (hw.mono (fun r0 h18 hr19 => ?_))
      obtain ⟨rfl, hw⟩ := hr19
      show zP X (d + 6) 52 95 [some (.ref 18)] [] z_S0 h18 (zV A)
      refine zl zM52 q52_95 (pc' := 164) (ls' := _) (st' := _) rfl ?_
      exact zrv zM52 q52_164 rfl hw
  · have hw := hw.2 hc
    refine zl zM52 q52_66 rfl ?_
    refine zkS zM52 q52_67 kS256 ?_
    refine zpi zM52 q52_70 (by decide) g9_25 s18 rfl rfl ?_
    refine zl zM52 q52_73 (pc' := 164) (ls' := _) (st' := _) rfl ?_
    exact zrv zM52 q52_164 rfl hw
-- X9_readNumber
theorem b54 {X : Option (List Int32)} {d : Nat} {h : zH} {A : zH → Prop}  (hw : zP X (d + 1) 54 5 [some (.ref 18)] [] z_S0 (z_up h 18 5 0) (zV A)) : zP X (d + 1) 54 0 (z_ent [.ref 18] 1) [] z_S0 h (zV A) := by
  show zP X (d + 1) 54 0 [some (.ref 18)] [] z_S0 h (zV A)
  refine zl zM54 q54_0 rfl ?_
  refine zkI zM54 q54_1 kI0 ?_
  refine zpi zM54 q54_2 (by decide) g9_78 s18 rfl rfl ?_
  exact hw
theorem b54_5 {X : Option (List Int32)} {d : Nat} {h : zH} {A : zH → Prop}  (hw : (((h 18 3) < (h 18 1) → (z_ib (h 18 3) 160 ∧ zP X d 58 0 (z_ent [.int (h 19 (Int32.toNatClampNeg (h 18 3)))] 1) [] z_S0 h (zI fun v1 h2 => ((v1 = 0 → zP X (d + 1) 54 68 [some (.ref 18)] [] z_S0 h2 (zV A)) ∧ (¬ v1 = 0 → (z_ib (h2 18 3) 160 ∧ zP X (d + 1) 54 5 [some (.ref 18)] [] z_S0 (z_up (z_up h2 18 5 ((((h2 18 5) * 10) + (h2 19 (Int32.toNatClampNeg (h2 18 3)))) - 48)) 18 3 ((h2 18 3) + 1)) (zV A))))))) ∧ (¬ (h 18 3) < (h 18 1) → zP X (d + 1) 54 68 [some (.ref 18)] [] z_S0 h (zV A)))) : zP X (d + 1) 54 5 [some (.ref 18)] [] z_S0 h (zV A) := by
  refine zl zM54 q54_5 rfl ?_
  refine zgI zM54 q54_6 (by decide) g9_19 s18 rfl (v := (h 18 3)) rfl ?_
  refine zl zM54 q54_9 rfl ?_
  refine zgI zM54 q54_10 (by decide) g9_15 s18 rfl (v := (h 18 1)) rfl ?_
  refine zb2_ge zM54 q54_13 (tgt := 68) rfl (fun hc => ?_) (fun hc => ?_)
  · have hw := hw.2 hc
    exact hw
  · have hw := hw.1 hc
    refine zl zM54 q54_16 rfl ?_
    refine zgR (a := 19) zM54 q54_17 (by decide) g9_9 s18 rfl ?_
    refine zl zM54 q54_20 rfl ?_
    refine zgI zM54 q54_21 (by decide) g9_19 s18 rfl (v := (h 18 3)) rfl ?_
    obtain ⟨hb, hw⟩ := hw
    refine ziA zM54 q54_24 (by decide) s19 hb (v := (h 19 (Int32.toNatClampNeg (h 18 3)))) rfl ?_
    refine zcS zM54 q54_25 ky9_41 kl9_41 (by decide) rfl (Nat.le_of_ble_eq_true rfl) zM58 (Nat.le_of_ble_eq_true rfl) (hw.mono (fun r0 h2 hr3 => ?_))
    obtain ⟨v1, rfl, hw⟩ := hr3
    show zP X (d + 1) 54 28 [some (.ref 18)] [.int v1] z_S0 h2 (zV A)
    refine zb1_eq zM54 q54_28 (tgt := 68) rfl (fun hc => ?_) (fun hc => ?_)
    · have hw := hw.1 hc
      exact hw
    · have hw := hw.2 hc
      refine zl zM54 q54_31 rfl ?_
      refine zl zM54 q54_32 rfl ?_
      refine zgI zM54 q54_33 (by decide) g9_78 s18 rfl (v := (h2 18 5)) rfl ?_
      refine zkB zM54 q54_36 kB10 ?_
      refine zl zM54 q54_38 (pc' := 39) (st' := .int ((h2 18 5) * 10) :: _) rfl ?_
      refine zl zM54 q54_39 rfl ?_
      refine zgR (a := 19) zM54 q54_40 (by decide) g9_9 s18 rfl ?_
      refine zl zM54 q54_43 rfl ?_
      refine zgI zM54 q54_44 (by decide) g9_19 s18 rfl (v := (h2 18 3)) rfl ?_
      obtain ⟨hb, hw⟩ := hw
      refine ziA zM54 q54_47 (by decide) s19 hb (v := (h2 19 (Int32.toNatClampNeg (h2 18 3)))) rfl ?_
      refine zl zM54 q54_48 (pc' := 49) (st' := .int (((h2 18 5) * 10) + (h2 19 (Int32.toNatClampNeg (h2 18 3)))) :: _) rfl ?_
      refine zkB zM54 q54_49 kB48 ?_
      refine zl zM54 q54_51 (pc' := 52) (st' := .int ((((h2 18 5) * 10) + (h2 19 (Int32.toNatClampNeg (h2 18 3)))) - 48) :: _) rfl ?_
      refine zpi zM54 q54_52 (by decide) g9_78 s18 rfl rfl ?_
      refine zl zM54 q54_55 rfl ?_
      refine zl zM54 q54_56 rfl ?_
      refine zgI zM54 q54_57 (by decide) g9_19 s18 rfl (v := (h2 18 3)) rfl ?_
      refine zkI zM54 q54_60 kI1 ?_
      refine zl zM54 q54_61 (pc' := 62) (st' := .int ((h2 18 3) + 1) :: _) rfl ?_
      refine zpi zM54 q54_62 (by decide) g9_19 s18 rfl rfl ?_
      refine zl zM54 q54_65 (pc' := 5) (ls' := _) (st' := _) rfl ?_
      exact hw
theorem b54_68 {X : Option (List Int32)} {d : Nat} {h : zH} {A : zH → Prop}  (hw : (((4 : Int32) < ((h 18 3) - (h 18 2)) → A (z_up h 18 4 257)) ∧ (¬ (4 : Int32) < ((h 18 3) - (h 18 2)) → A (z_up h 18 4 258)))) : zP X (d + 1) 54 68 [some (.ref 18)] [] z_S0 h (zV A) := by
  refine zl zM54 q54_68 rfl ?_
  refine zl zM54 q54_69 rfl ?_
  refine zgI zM54 q54_70 (by decide) g9_19 s18 rfl (v := (h 18 3)) rfl ?_
  refine zl zM54 q54_73 rfl ?_
  refine zgI zM54 q54_74 (by decide) g9_28 s18 rfl (v := (h 18 2)) rfl ?_
  refine zl zM54 q54_77 (pc' := 78) (st' := .int ((h 18 3) - (h 18 2)) :: _) rfl ?_
  refine zkI zM54 q54_78 kI4 ?_
  refine zb2_le zM54 q54_79 (tgt := 88) rfl (fun hc => ?_) (fun hc => ?_)
  · have hw := hw.2 hc
    refine zkS zM54 q54_88 kS258 ?_
    refine zpi zM54 q54_91 (by decide) g9_25 s18 rfl rfl ?_
    exact zrv zM54 q54_94 rfl hw
  · have hw := hw.1 hc
    refine zkS zM54 q54_82 kS257 ?_
    refine zl zM54 q54_85 (pc' := 91) (ls' := _) (st' := _) rfl ?_
    refine zpi zM54 q54_91 (by decide) g9_25 s18 rfl rfl ?_
    exact zrv zM54 q54_94 rfl hw
-- X9_isBlank
theorem b56 {X : Option (List Int32)} {d : Nat} {h : zH} {A : Int32 → zH → Prop} {a1 : Int32} (hw : ((a1 = 32 → A 1 h) ∧ (¬ a1 = 32 → ((a1 = 10 → A 1 h) ∧ (¬ a1 = 10 → A 0 h))))) : zP X d 56 0 (z_ent [.int a1] 1) [] z_S0 h (zI A) := by
  show zP X d 56 0 [some (.int a1)] [] z_S0 h (zI A)
  refine zl zM56 q56_0 rfl ?_
  refine zkB zM56 q56_1 kB32 ?_
  refine zb2_eq zM56 q56_3 (tgt := 12) rfl (fun hc => ?_) (fun hc => ?_)
  · have hw := hw.1 hc
    refine zkI zM56 q56_12 kI1 ?_
    refine zl zM56 q56_13 (pc' := 17) (ls' := _) (st' := _) rfl ?_
    exact zri zM56 q56_17 rfl rfl hw
  · have hw := hw.2 hc
    refine zl zM56 q56_6 rfl ?_
    refine zkB zM56 q56_7 kB10 ?_
    refine zb2_ne zM56 q56_9 (tgt := 16) rfl (fun hc => ?_) (fun hc => ?_)
    · have hw := hw.2 hc
      refine zkI zM56 q56_16 kI0 ?_
      exact zri zM56 q56_17 rfl rfl hw
    · have hw := hw.1 hc
      refine zkI zM56 q56_12 kI1 ?_
      refine zl zM56 q56_13 (pc' := 17) (ls' := _) (st' := _) rfl ?_
      exact zri zM56 q56_17 rfl rfl hw
-- X9_isLetter
theorem b57 {X : Option (List Int32)} {d : Nat} {h : zH} {A : Int32 → zH → Prop} {a1 : Int32} (hw : ((a1 < 97 → A 0 h) ∧ (¬ a1 < 97 → (((122 : Int32) < a1 → A 0 h) ∧ (¬ (122 : Int32) < a1 → A 1 h))))) : zP X d 57 0 (z_ent [.int a1] 1) [] z_S0 h (zI A) := by
  show zP X d 57 0 [some (.int a1)] [] z_S0 h (zI A)
  refine zl zM57 q57_0 rfl ?_
  refine zkB zM57 q57_1 kB97 ?_
  refine zb2_lt zM57 q57_3 (tgt := 16) rfl (fun hc => ?_) (fun hc => ?_)
  · have hw := hw.1 hc
    refine zkI zM57 q57_16 kI0 ?_
    exact zri zM57 q57_17 rfl rfl hw
  · have hw := hw.2 hc
    refine zl zM57 q57_6 rfl ?_
    refine zkB zM57 q57_7 kB122 ?_
    refine zb2_gt zM57 q57_9 (tgt := 16) rfl (fun hc => ?_) (fun hc => ?_)
    · have hw := hw.1 hc
      refine zkI zM57 q57_16 kI0 ?_
      exact zri zM57 q57_17 rfl rfl hw
    · have hw := hw.2 hc
      refine zkI zM57 q57_12 kI1 ?_
      refine zl zM57 q57_13 (pc' := 17) (ls' := _) (st' := _) rfl ?_
      exact zri zM57 q57_17 rfl rfl hw
-- X9_isDigit
theorem b58 {X : Option (List Int32)} {d : Nat} {h : zH} {A : Int32 → zH → Prop} {a1 : Int32} (hw : ((a1 < 48 → A 0 h) ∧ (¬ a1 < 48 → (((57 : Int32) < a1 → A 0 h) ∧ (¬ (57 : Int32) < a1 → A 1 h))))) : zP X d 58 0 (z_ent [.int a1] 1) [] z_S0 h (zI A) := by
  show zP X d 58 0 [some (.int a1)] [] z_S0 h (zI A)
  refine zl zM58 q58_0 rfl ?_
  refine zkB zM58 q58_1 kB48 ?_
  refine zb2_lt zM58 q58_3 (tgt := 16) rfl (fun hc => ?_) (fun hc => ?_)
  · have hw := hw.1 hc
    refine zkI zM58 q58_16 kI0 ?_
    exact zri zM58 q58_17 rfl rfl hw
  · have hw := hw.2 hc
    refine zl zM58 q58_6 rfl ?_
    refine zkB zM58 q58_7 kB57 ?_
    refine zb2_gt zM58 q58_9 (tgt := 16) rfl (fun hc => ?_) (fun hc => ?_)
    · have hw := hw.1 hc
      refine zkI zM58 q58_16 kI0 ?_
      exact zri zM58 q58_17 rfl rfl hw
    · have hw := hw.2 hc
      refine zkI zM58 q58_12 kI1 ?_
      refine zl zM58 q58_13 (pc' := 17) (ls' := _) (st' := _) rfl ?_
      exact zri zM58 q58_17 rfl rfl hw
-- X9_isSign
theorem b59 {X : Option (List Int32)} {d : Nat} {h : zH} {A : Int32 → zH → Prop} {a1 : Int32} (hw : ((a1 = 40 → A 1 h) ∧ (a1 = 41 → A 1 h) ∧ (a1 = 42 → A 1 h) ∧ (a1 = 43 → A 1 h) ∧ (a1 = 44 → A 0 h) ∧ (a1 = 45 → A 1 h) ∧ (a1 = 46 → A 0 h) ∧ (a1 = 47 → A 0 h) ∧ (a1 = 48 → A 0 h) ∧ (a1 = 49 → A 0 h) ∧ (a1 = 50 → A 0 h) ∧ (a1 = 51 → A 0 h) ∧ (a1 = 52 → A 0 h) ∧ (a1 = 53 → A 0 h) ∧ (a1 = 54 → A 0 h) ∧ (a1 = 55 → A 0 h) ∧ (a1 = 56 → A 0 h) ∧ (a1 = 57 → A 0 h) ∧ (a1 = 58 → A 0 h) ∧ (a1 = 59 → A 1 h) ∧ (a1 = 60 → A 1 h) ∧ (a1 = 61 → A 1 h) ∧ ((¬ a1 = 40 ∧ ¬ a1 = 41 ∧ ¬ a1 = 42 ∧ ¬ a1 = 43 ∧ ¬ a1 = 44 ∧ ¬ a1 = 45 ∧ ¬ a1 = 46 ∧ ¬ a1 = 47 ∧ ¬ a1 = 48 ∧ ¬ a1 = 49 ∧ ¬ a1 = 50 ∧ ¬ a1 = 51 ∧ ¬ a1 = 52 ∧ ¬ a1 = 53 ∧ ¬ a1 = 54 ∧ ¬ a1 = 55 ∧ ¬ a1 = 56 ∧ ¬ a1 = 57 ∧ ¬ a1 = 58 ∧ ¬ a1 = 59 ∧ ¬ a1 = 60 ∧ ¬ a1 = 61) → A 0 h))) : zP X d 59 0 (z_ent [.int a1] 1) [] z_S0 h (zI A) := by
  show zP X d 59 0 [some (.int a1)] [] z_S0 h (zI A)
  refine zl zM59 q59_0 rfl ?_
  by_cases hs1 : a1 = 40
  · have hw := hw.1 hs1
    refine zts 40 hs1 zM59 q59_1 (tgt := 104) (by decide) rfl rfl ?_
    refine zkI zM59 q59_104 kI1 ?_
    exact zri zM59 q59_105 rfl rfl hw
  by_cases hs2 : a1 = 41
  · have hw := hw.2.1 hs2
    refine zts 41 hs2 zM59 q59_1 (tgt := 104) (by decide) rfl rfl ?_
    refine zkI zM59 q59_104 kI1 ?_
    exact zri zM59 q59_105 rfl rfl hw
  by_cases hs3 : a1 = 42
  · have hw := hw.2.2.1 hs3
    refine zts 42 hs3 zM59 q59_1 (tgt := 104) (by decide) rfl rfl ?_
    refine zkI zM59 q59_104 kI1 ?_
    exact zri zM59 q59_105 rfl rfl hw
  by_cases hs4 : a1 = 43
  · have hw := hw.2.2.2.1 hs4
    refine zts 43 hs4 zM59 q59_1 (tgt := 104) (by decide) rfl rfl ?_
    refine zkI zM59 q59_104 kI1 ?_
    exact zri zM59 q59_105 rfl rfl hw
  by_cases hs5 : a1 = 44
  · have hw := hw.2.2.2.2.1 hs5
    refine zts 44 hs5 zM59 q59_1 (tgt := 106) (by decide) rfl rfl ?_
    refine zkI zM59 q59_106 kI0 ?_
    exact zri zM59 q59_107 rfl rfl hw
  by_cases hs6 : a1 = 45
  · have hw := hw.2.2.2.2.2.1 hs6
    refine zts 45 hs6 zM59 q59_1 (tgt := 104) (by decide) rfl rfl ?_
    refine zkI zM59 q59_104 kI1 ?_
    exact zri zM59 q59_105 rfl rfl hw
  by_cases hs7 : a1 = 46
  · have hw := hw.2.2.2.2.2.2.1 hs7
    refine zts 46 hs7 zM59 q59_1 (tgt := 106) (by decide) rfl rfl ?_
    refine zkI zM59 q59_106 kI0 ?_
    exact zri zM59 q59_107 rfl rfl hw
  by_cases hs8 : a1 = 47
  · have hw := hw.2.2.2.2.2.2.2.1 hs8
    refine zts 47 hs8 zM59 q59_1 (tgt := 106) (by decide) rfl rfl ?_
    refine zkI zM59 q59_106 kI0 ?_
    exact zri zM59 q59_107 rfl rfl hw
  by_cases hs9 : a1 = 48
  · have hw := hw.2.2.2.2.2.2.2.2.1 hs9
    refine zts 48 hs9 zM59 q59_1 (tgt := 106) (by decide) rfl rfl ?_
    refine zkI zM59 q59_106 kI0 ?_
    exact zri zM59 q59_107 rfl rfl hw
  by_cases hs10 : a1 = 49
  · have hw := hw.2.2.2.2.2.2.2.2.2.1 hs10
    refine zts 49 hs10 zM59 q59_1 (tgt := 106) (by decide) rfl rfl ?_
    refine zkI zM59 q59_106 kI0 ?_
    exact zri zM59 q59_107 rfl rfl hw
  by_cases hs11 : a1 = 50
  · have hw := hw.2.2.2.2.2.2.2.2.2.2.1 hs11
    refine zts 50 hs11 zM59 q59_1 (tgt := 106) (by decide) rfl rfl ?_
    refine zkI zM59 q59_106 kI0 ?_
    exact zri zM59 q59_107 rfl rfl hw
  by_cases hs12 : a1 = 51
  · have hw := hw.2.2.2.2.2.2.2.2.2.2.2.1 hs12
    refine zts 51 hs12 zM59 q59_1 (tgt := 106) (by decide) rfl rfl ?_
    refine zkI zM59 q59_106 kI0 ?_
    exact zri zM59 q59_107 rfl rfl hw
  by_cases hs13 : a1 = 52
  · have hw := hw.2.2.2.2.2.2.2.2.2.2.2.2.1 hs13
    refine zts 52 hs13 zM59 q59_1 (tgt := 106) (by decide) rfl rfl ?_
    refine zkI zM59 q59_106 kI0 ?_
    exact zri zM59 q59_107 rfl rfl hw
  by_cases hs14 : a1 = 53
  · have hw := hw.2.2.2.2.2.2.2.2.2.2.2.2.2.1 hs14
    refine zts 53 hs14 zM59 q59_1 (tgt := 106) (by decide) rfl rfl ?_
    refine zkI zM59 q59_106 kI0 ?_
    exact zri zM59 q59_107 rfl rfl hw
  by_cases hs15 : a1 = 54
  · have hw := hw.2.2.2.2.2.2.2.2.2.2.2.2.2.2.1 hs15
    refine zts 54 hs15 zM59 q59_1 (tgt := 106) (by decide) rfl rfl ?_
    refine zkI zM59 q59_106 kI0 ?_
    exact zri zM59 q59_107 rfl rfl hw
  by_cases hs16 : a1 = 55
  · have hw := hw.2.2.2.2.2.2.2.2.2.2.2.2.2.2.2.1 hs16
    refine zts 55 hs16 zM59 q59_1 (tgt := 106) (by decide) rfl rfl ?_
    refine zkI zM59 q59_106 kI0 ?_
    exact zri zM59 q59_107 rfl rfl hw
  by_cases hs17 : a1 = 56
  · have hw := hw.2.2.2.2.2.2.2.2.2.2.2.2.2.2.2.2.1 hs17
    refine zts 56 hs17 zM59 q59_1 (tgt := 106) (by decide) rfl rfl ?_
    refine zkI zM59 q59_106 kI0 ?_
    exact zri zM59 q59_107 rfl rfl hw
  by_cases hs18 : a1 = 57
  · have hw := hw.2.2.2.2.2.2.2.2.2.2.2.2.2.2.2.2.2.1 hs18
    refine zts 57 hs18 zM59 q59_1 (tgt := 106) (by decide) rfl rfl ?_
    refine zkI zM59 q59_106 kI0 ?_
    exact zri zM59 q59_107 rfl rfl hw
  by_cases hs19 : a1 = 58
  · have hw := hw.2.2.2.2.2.2.2.2.2.2.2.2.2.2.2.2.2.2.1 hs19
    refine zts 58 hs19 zM59 q59_1 (tgt := 106) (by decide) rfl rfl ?_
    refine zkI zM59 q59_106 kI0 ?_
    exact zri zM59 q59_107 rfl rfl hw
  by_cases hs20 : a1 = 59
  · have hw := hw.2.2.2.2.2.2.2.2.2.2.2.2.2.2.2.2.2.2.2.1 hs20
    refine zts 59 hs20 zM59 q59_1 (tgt := 104) (by decide) rfl rfl ?_
    refine zkI zM59 q59_104 kI1 ?_
    exact zri zM59 q59_105 rfl rfl hw
  by_cases hs21 : a1 = 60
  · have hw := hw.2.2.2.2.2.2.2.2.2.2.2.2.2.2.2.2.2.2.2.2.1 hs21
    refine zts 60 hs21 zM59 q59_1 (tgt := 104) (by decide) rfl rfl ?_
    refine zkI zM59 q59_104 kI1 ?_
    exact zri zM59 q59_105 rfl rfl hw
  by_cases hs22 : a1 = 61
  · have hw := hw.2.2.2.2.2.2.2.2.2.2.2.2.2.2.2.2.2.2.2.2.2.1 hs22
    refine zts 61 hs22 zM59 q59_1 (tgt := 104) (by decide) rfl rfl ?_
    refine zkI zM59 q59_104 kI1 ?_
    exact zri zM59 q59_105 rfl rfl hw
  have hw := hw.2.2.2.2.2.2.2.2.2.2.2.2.2.2.2.2.2.2.2.2.2.2 ⟨hs1, hs2, hs3, hs4, hs5, hs6, hs7, hs8, hs9, hs10, hs11, hs12, hs13, hs14, hs15, hs16, hs17, hs18, hs19, hs20, hs21, hs22⟩
  have hs1 := z_neI hs1
  have hs2 := z_neI hs2
  have hs3 := z_neI hs3
  have hs4 := z_neI hs4
  have hs5 := z_neI hs5
  have hs6 := z_neI hs6
  have hs7 := z_neI hs7
  have hs8 := z_neI hs8
  have hs9 := z_neI hs9
  have hs10 := z_neI hs10
  have hs11 := z_neI hs11
  have hs12 := z_neI hs12
  have hs13 := z_neI hs13
  have hs14 := z_neI hs14
  have hs15 := z_neI hs15
  have hs16 := z_neI hs16
  have hs17 := z_neI hs17
  have hs18 := z_neI hs18
  have hs19 := z_neI hs19
  have hs20 := z_neI hs20
  have hs21 := z_neI hs21
  have hs22 := z_neI hs22
  refine ztd (tgt := 106) ?_ zM59 q59_1 rfl ?_
  · simp only [show (40 : Int32).toInt = 40 from rfl, show (41 : Int32).toInt = 41 from rfl, show (42 : Int32).toInt = 42 from rfl, show (43 : Int32).toInt = 43 from rfl, show (44 : Int32).toInt = 44 from rfl, show (45 : Int32).toInt = 45 from rfl, show (46 : Int32).toInt = 46 from rfl, show (47 : Int32).toInt = 47 from rfl, show (48 : Int32).toInt = 48 from rfl, show (49 : Int32).toInt = 49 from rfl, show (50 : Int32).toInt = 50 from rfl, show (51 : Int32).toInt = 51 from rfl, show (52 : Int32).toInt = 52 from rfl, show (53 : Int32).toInt = 53 from rfl, show (54 : Int32).toInt = 54 from rfl, show (55 : Int32).toInt = 55 from rfl, show (56 : Int32).toInt = 56 from rfl, show (57 : Int32).toInt = 57 from rfl, show (58 : Int32).toInt = 58 from rfl, show (59 : Int32).toInt = 59 from rfl, show (60 : Int32).toInt = 60 from rfl, show (61 : Int32).toInt = 61 from rfl] at hs1 hs2 hs3 hs4 hs5 hs6 hs7 hs8 hs9 hs10 hs11 hs12 hs13 hs14 hs15 hs16 hs17 hs18 hs19 hs20 hs21 hs22; omega
  refine zkI zM59 q59_106 kI0 ?_
  exact zri zM59 q59_107 rfl rfl hw
-- X10_add
theorem b62 {X : Option (List Int32)} {d : Nat} {h : zH} {A : zH → Prop} {t : Nat} {a1 : Int32} (ht0 : t ∈ ([25, 28, 31, 34, 37, 40] : List Nat)) (hw : (((h (t) 2) < 160 → (z_ib (h (t) 2) 160 ∧ A (z_up (z_up h (t + 1) (Int32.toNatClampNeg (h (t) 2)) a1) (t) 2 (((z_up h (t + 1) (Int32.toNatClampNeg (h (t) 2)) a1) (t) 2) + 1)))) ∧ (¬ (h (t) 2) < 160 → A h))) : zP X d 62 0 (z_ent [.ref (t), .int a1] 2) [] z_S0 h (zV A) := by
  show zP X d 62 0 [some (.ref (t)), some (.int a1)] [] z_S0 h (zV A)
  refine zl zM62 q62_0 rfl ?_
  refine zgI zM62 q62_1 (sTx ht0).1 g10_18 (sTx ht0).2.2.2.1 rfl (v := (h (t) 2)) rfl ?_
  refine zkS zM62 q62_4 kS160 ?_
  refine zb2_ge zM62 q62_7 (tgt := 30) rfl (fun hc => ?_) (fun hc => ?_)
  · have hw := hw.2 hc
    exact zrv zM62 q62_30 rfl hw
  · have hw := hw.1 hc
    refine zl zM62 q62_10 rfl ?_
    refine zgR (a := t + 1) zM62 q62_11 (sTx ht0).1 g10_9 (sTx ht0).2.2.2.1 rfl ?_
    refine zl zM62 q62_14 rfl ?_
    refine zgI zM62 q62_15 (sTx ht0).1 g10_18 (sTx ht0).2.2.2.1 rfl (v := (h (t) 2)) rfl ?_
    refine zl zM62 q62_18 rfl ?_
    obtain ⟨hb, hw⟩ := hw
    refine ziS zM62 q62_19 (sTx ht0).2.1 (sTx ht0).2.2.2.2.1 hb rfl ?_
    refine zl zM62 q62_20 rfl ?_
    refine zl zM62 q62_21 rfl ?_
    refine zgI zM62 q62_22 (sTx ht0).1 g10_18 (sTx ht0).2.2.2.1 rfl (v := ((z_up h (t + 1) (Int32.toNatClampNeg (h (t) 2)) a1) (t) 2)) rfl ?_
    refine zkI zM62 q62_25 kI1 ?_
    refine zl zM62 q62_26 (pc' := 27) (st' := .int (((z_up h (t + 1) (Int32.toNatClampNeg (h (t) 2)) a1) (t) 2) + 1) :: _) rfl ?_
    refine zpi zM62 q62_27 (sTx ht0).1 g10_18 (sTx ht0).2.2.2.1 rfl rfl ?_
    exact zrv zM62 q62_30 rfl hw
-- X10_joined
theorem b73 {X : Option (List Int32)} {d : Nat} {h : zH} {A : Int32 → zH → Prop} {a1 : Int32} {a2 : Int32} {a3 : Int32} (hw : ((a1 = (-8) → ((a2 = 0 → zP X d 74 0 (z_ent [.int 0] 1) [] z_S0 h (zI fun v1 h2 => A v1 h2)) ∧ (¬ a2 = 0 → ((a3 = 0 → zP X d 74 0 (z_ent [.int 0] 1) [] z_S0 h (zI fun v4 h5 => A v4 h5)) ∧ (¬ a3 = 0 → zP X d 74 0 (z_ent [.int 1] 1) [] z_S0 h (zI fun v7 h8 => A v7 h8)))))) ∧ (a1 = (-7) → ((a2 = a3 → zP X d 74 0 (z_ent [.int 1] 1) [] z_S0 h (zI fun v14 h15 => A v14 h15)) ∧ (¬ a2 = a3 → zP X d 74 0 (z_ent [.int 0] 1) [] z_S0 h (zI fun v11 h12 => A v11 h12)))) ∧ (a1 = (-6) → ((a2 < a3 → zP X d 74 0 (z_ent [.int 1] 1) [] z_S0 h (zI fun v21 h22 => A v21 h22)) ∧ (¬ a2 < a3 → zP X d 74 0 (z_ent [.int 0] 1) [] z_S0 h (zI fun v18 h19 => A v18 h19)))) ∧ (a1 = (-5) → A (a2 * a3) h) ∧ (a1 = (-4) → A (a2 - a3) h) ∧ (a1 = (-3) → A (a2 + a3) h) ∧ ((¬ a1 = (-8) ∧ ¬ a1 = (-7) ∧ ¬ a1 = (-6) ∧ ¬ a1 = (-5) ∧ ¬ a1 = (-4) ∧ ¬ a1 = (-3)) → ((a2 = 0 → ((a3 = 0 → zP X d 74 0 (z_ent [.int 0] 1) [] z_S0 h (zI fun v28 h29 => A v28 h29)) ∧ (¬ a3 = 0 → zP X (d + 1) 73 105 [none, none, none] [] z_S0 h (zI A)))) ∧ (¬ a2 = 0 → zP X (d + 1) 73 105 [none, none, none] [] z_S0 h (zI A)))))) : zP X (d + 1) 73 0 (z_ent [.int a1, .int a2, .int a3] 3) [] z_S0 h (zI A) := by
  show zP X (d + 1) 73 0 [some (.int a1), some (.int a2), some (.int a3)] [] z_S0 h (zI A)
  refine zl zM73 q73_0 rfl ?_
  by_cases hs10 : a1 = (-8)
  · have hw := hw.1 hs10
    refine zts (-8) hs10 zM73 q73_1 (tgt := 80) (by decide) rfl rfl ?_
    refine zl zM73 q73_80 rfl ?_
    refine zb1_eq zM73 q73_81 (tgt := 92) rfl (fun hc => ?_) (fun hc => ?_)
    · have hw := hw.1 hc
      refine zkI zM73 q73_92 kI0 ?_
      refine zcS zM73 q73_93 ky10_72 kl10_72 (by decide) rfl (Nat.le_of_ble_eq_true rfl) zM74 (Nat.le_of_ble_eq_true rfl) (hw.mono (fun r0 h2 hr3 => ?_))
      obtain ⟨v1, rfl, hw⟩ := hr3
      show zP X (d + 1) 73 96 [some (.int a1), some (.int a2), some (.int a3)] [.int v1] z_S0 h2 (zI A)
      exact zri zM73 q73_96 rfl rfl hw
    · have hw := hw.2 hc
      refine zl zM73 q73_84 rfl ?_
      refine zb1_eq zM73 q73_85 (tgt := 92) rfl (fun hc => ?_) (fun hc => ?_)
      · have hw := hw.1 hc
        refine zkI zM73 q73_92 kI0 ?_
        refine zcS zM73 q73_93 ky10_72 kl10_72 (by decide) rfl (Nat.le_of_ble_eq_true rfl) zM74 (Nat.le_of_ble_eq_true rfl) (hw.mono (fun r0 h5 hr6 => ?_))
        obtain ⟨v4, rfl, hw⟩ := hr6
        show zP X (d + 1) 73 96 [some (.int a1), some (.int a2), some (.int a3)] [.int v4] z_S0 h5 (zI A)
        exact zri zM73 q73_96 rfl rfl hw
      · have hw := hw.2 hc
        refine zkI zM73 q73_88 kI1 ?_
        refine zl zM73 q73_89 (pc' := 93) (ls' := _) (st' := _) rfl ?_
        refine zcS zM73 q73_93 ky10_72 kl10_72 (by decide) rfl (Nat.le_of_ble_eq_true rfl) zM74 (Nat.le_of_ble_eq_true rfl) (hw.mono (fun r0 h8 hr9 => ?_))
        obtain ⟨v7, rfl, hw⟩ := hr9
        show zP X (d + 1) 73 96 [some (.int a1), some (.int a2), some (.int a3)] [.int v7] z_S0 h8 (zI A)
        exact zri zM73 q73_96 rfl rfl hw
  by_cases hs17 : a1 = (-7)
  · have hw := hw.2.1 hs17
    refine zts (-7) hs17 zM73 q73_1 (tgt := 66) (by decide) rfl rfl ?_
    refine zl zM73 q73_66 rfl ?_
    refine zl zM73 q73_67 rfl ?_
    refine zb2_ne zM73 q73_68 (tgt := 75) rfl (fun hc => ?_) (fun hc => ?_)
    · have hw := hw.2 hc
      refine zkI zM73 q73_75 kI0 ?_
      refine zcS zM73 q73_76 ky10_72 kl10_72 (by decide) rfl (Nat.le_of_ble_eq_true rfl) zM74 (Nat.le_of_ble_eq_true rfl) (hw.mono (fun r0 h12 hr13 => ?_))
      obtain ⟨v11, rfl, hw⟩ := hr13
      show zP X (d + 1) 73 79 [some (.int a1), some (.int a2), some (.int a3)] [.int v11] z_S0 h12 (zI A)
      exact zri zM73 q73_79 rfl rfl hw
    · have hw := hw.1 hc
      refine zkI zM73 q73_71 kI1 ?_
      refine zl zM73 q73_72 (pc' := 76) (ls' := _) (st' := _) rfl ?_
      refine zcS zM73 q73_76 ky10_72 kl10_72 (by decide) rfl (Nat.le_of_ble_eq_true rfl) zM74 (Nat.le_of_ble_eq_true rfl) (hw.mono (fun r0 h15 hr16 => ?_))
      obtain ⟨v14, rfl, hw⟩ := hr16
      show zP X (d + 1) 73 79 [some (.int a1), some (.int a2), some (.int a3)] [.int v14] z_S0 h15 (zI A)
      exact zri zM73 q73_79 rfl rfl hw
  by_cases hs24 : a1 = (-6)
  · have hw := hw.2.2.1 hs24
    refine zts (-6) hs24 zM73 q73_1 (tgt := 52) (by decide) rfl rfl ?_
    refine zl zM73 q73_52 rfl ?_
    refine zl zM73 q73_53 rfl ?_
    refine zb2_ge zM73 q73_54 (tgt := 61) rfl (fun hc => ?_) (fun hc => ?_)
    · have hw := hw.2 hc
      refine zkI zM73 q73_61 kI0 ?_
      refine zcS zM73 q73_62 ky10_72 kl10_72 (by decide) rfl (Nat.le_of_ble_eq_true rfl) zM74 (Nat.le_of_ble_eq_true rfl) (hw.mono (fun r0 h19 hr20 => ?_))
      obtain ⟨v18, rfl, hw⟩ := hr20
      show zP X (d + 1) 73 65 [some (.int a1), some (.int a2), some (.int a3)] [.int v18] z_S0 h19 (zI A)
      exact zri zM73 q73_65 rfl rfl hw
    · have hw := hw.1 hc
      refine zkI zM73 q73_57 kI1 ?_
      refine zl zM73 q73_58 (pc' := 62) (ls' := _) (st' := _) rfl ?_
      refine zcS zM73 q73_62 ky10_72 kl10_72 (by decide) rfl (Nat.le_of_ble_eq_true rfl) zM74 (Nat.le_of_ble_eq_true rfl) (hw.mono (fun r0 h22 hr23 => ?_))
      obtain ⟨v21, rfl, hw⟩ := hr23
      show zP X (d + 1) 73 65 [some (.int a1), some (.int a2), some (.int a3)] [.int v21] z_S0 h22 (zI A)
      exact zri zM73 q73_65 rfl rfl hw
  by_cases hs25 : a1 = (-5)
  · have hw := hw.2.2.2.1 hs25
    refine zts (-5) hs25 zM73 q73_1 (tgt := 48) (by decide) rfl rfl ?_
    refine zl zM73 q73_48 rfl ?_
    refine zl zM73 q73_49 rfl ?_
    refine zl zM73 q73_50 (pc' := 51) (st' := .int (a2 * a3) :: _) rfl ?_
    exact zri zM73 q73_51 rfl rfl hw
  by_cases hs26 : a1 = (-4)
  · have hw := hw.2.2.2.2.1 hs26
    refine zts (-4) hs26 zM73 q73_1 (tgt := 44) (by decide) rfl rfl ?_
    refine zl zM73 q73_44 rfl ?_
    refine zl zM73 q73_45 rfl ?_
    refine zl zM73 q73_46 (pc' := 47) (st' := .int (a2 - a3) :: _) rfl ?_
    exact zri zM73 q73_47 rfl rfl hw
  by_cases hs27 : a1 = (-3)
  · have hw := hw.2.2.2.2.2.1 hs27
    refine zts (-3) hs27 zM73 q73_1 (tgt := 40) (by decide) rfl rfl ?_
    refine zl zM73 q73_40 rfl ?_
    refine zl zM73 q73_41 rfl ?_
    refine zl zM73 q73_42 (pc' := 43) (st' := .int (a2 + a3) :: _) rfl ?_
    exact zri zM73 q73_43 rfl rfl hw
  have hw := hw.2.2.2.2.2.2 ⟨hs10, hs17, hs24, hs25, hs26, hs27⟩
  have hs10 := z_neI hs10
  have hs17 := z_neI hs17
  have hs24 := z_neI hs24
  have hs25 := z_neI hs25
  have hs26 := z_neI hs26
  have hs27 := z_neI hs27
  refine ztd (tgt := 97) ?_ zM73 q73_1 rfl ?_
  · simp only [show ((-8) : Int32).toInt = (-8) from rfl, show ((-7) : Int32).toInt = (-7) from rfl, show ((-6) : Int32).toInt = (-6) from rfl, show ((-5) : Int32).toInt = (-5) from rfl, show ((-4) : Int32).toInt = (-4) from rfl, show ((-3) : Int32).toInt = (-3) from rfl] at hs10 hs17 hs24 hs25 hs26 hs27; omega
  refine zl zM73 q73_97 rfl ?_
  refine zb1_ne zM73 q73_98 (tgt := 105) rfl (fun hc => ?_) (fun hc => ?_)
  · have hw := hw.2 hc
    refine zweak (a := [none, none, none]) ?_ hw
    exact trivial
  · have hw := hw.1 hc
    refine zl zM73 q73_101 rfl ?_
    refine zb1_eq zM73 q73_102 (tgt := 109) rfl (fun hc => ?_) (fun hc => ?_)
    · have hw := hw.1 hc
      refine zkI zM73 q73_109 kI0 ?_
      refine zcS zM73 q73_110 ky10_72 kl10_72 (by decide) rfl (Nat.le_of_ble_eq_true rfl) zM74 (Nat.le_of_ble_eq_true rfl) (hw.mono (fun r0 h29 hr30 => ?_))
      obtain ⟨v28, rfl, hw⟩ := hr30
      show zP X (d + 1) 73 113 [some (.int a1), some (.int a2), some (.int a3)] [.int v28] z_S0 h29 (zI A)
      exact zri zM73 q73_113 rfl rfl hw
    · have hw := hw.2 hc
      refine zweak (a := [none, none, none]) ?_ hw
      exact trivial
theorem b73_105 {X : Option (List Int32)} {d : Nat} {h : zH} {A : Int32 → zH → Prop}  (hw : zP X d 74 0 (z_ent [.int 1] 1) [] z_S0 h (zI fun v31 h32 => A v31 h32)) : zP X (d + 1) 73 105 [none, none, none] [] z_S0 h (zI A) := by
  refine zkI zM73 q73_105 kI1 ?_
  refine zl zM73 q73_106 (pc' := 110) (ls' := _) (st' := _) rfl ?_
  refine zcS zM73 q73_110 ky10_72 kl10_72 (by decide) rfl (Nat.le_of_ble_eq_true rfl) zM74 (Nat.le_of_ble_eq_true rfl) (hw.mono (fun r0 h32 hr33 => ?_))
  obtain ⟨v31, rfl, hw⟩ := hr33
  show zP X (d + 1) 73 113 [none, none, none] [.int v31] z_S0 h32 (zI A)
  exact zri zM73 q73_113 rfl rfl hw
-- X10_truth
theorem b74 {X : Option (List Int32)} {d : Nat} {h : zH} {A : Int32 → zH → Prop} {a1 : Int32} (hw : ((a1 = 0 → A 0 h) ∧ (¬ a1 = 0 → A 1 h))) : zP X d 74 0 (z_ent [.int a1] 1) [] z_S0 h (zI A) := by
  show zP X d 74 0 [some (.int a1)] [] z_S0 h (zI A)
  refine zl zM74 q74_0 rfl ?_
  refine zb1_eq zM74 q74_1 (tgt := 8) rfl (fun hc => ?_) (fun hc => ?_)
  · have hw := hw.1 hc
    refine zkI zM74 q74_8 kI0 ?_
    exact zri zM74 q74_9 rfl rfl hw
  · have hw := hw.2 hc
    refine zkI zM74 q74_4 kI1 ?_
    refine zl zM74 q74_5 (pc' := 9) (ls' := _) (st' := _) rfl ?_
    exact zri zM74 q74_9 rfl rfl hw
-- X11_pass
theorem b76 {X : Option (List Int32)} {d : Nat} {h : zH} {A : Int32 → zH → Prop} {a1 : Int32} (hw : zP X d 119 0 (z_ent [.int a1, .int 1, .int 60] 3) [] z_S0 h (zI fun v1 h2 => ((v1 = 0 → A (-2) h2) ∧ (¬ v1 = 0 → (((399 : Int32) < ((h2 0 16) + a1) → A (-4) h2) ∧ (¬ (399 : Int32) < ((h2 0 16) + a1) → A ((h2 0 16) + a1) (z_up h2 0 16 ((h2 0 16) + a1)))))))) : zP X (d + 1) 76 0 (z_ent [.ref 0, .int a1] 2) [] z_S0 h (zI A) := by
  show zP X (d + 1) 76 0 [some (.ref 0), some (.int a1)] [] z_S0 h (zI A)
  refine zl zM76 q76_0 rfl ?_
  refine zkI zM76 q76_1 kI1 ?_
  refine zkB zM76 q76_2 kB60 ?_
  refine zcS zM76 q76_4 ky11_114 kl11_114 (by decide) rfl (Nat.le_of_ble_eq_true rfl) zM119 (Nat.le_of_ble_eq_true rfl) (hw.mono (fun r0 h2 hr3 => ?_))
  obtain ⟨v1, rfl, hw⟩ := hr3
  show zP X (d + 1) 76 7 [some (.ref 0), some (.int a1)] [.int v1] z_S0 h2 (zI A)
  refine zb1_ne zM76 q76_7 (tgt := 13) rfl (fun hc => ?_) (fun hc => ?_)
  · have hw := hw.2 hc
    refine zl zM76 q76_13 rfl ?_
    refine zgI zM76 q76_14 (by decide) g11_118 s0 rfl (v := (h2 0 16)) rfl ?_
    refine zl zM76 q76_17 rfl ?_
    refine zl zM76 q76_18 (pc' := 19) (st' := .int ((h2 0 16) + a1) :: _) rfl ?_
    refine zkS zM76 q76_19 kS399 ?_
    refine zb2_le zM76 q76_22 (tgt := 28) rfl (fun hc => ?_) (fun hc => ?_)
    · have hw := hw.2 hc
      refine zl zM76 q76_28 rfl ?_
      refine zl zM76 q76_29 rfl ?_
      refine zgI zM76 q76_30 (by decide) g11_118 s0 rfl (v := (h2 0 16)) rfl ?_
      refine zl zM76 q76_33 rfl ?_
      refine zl zM76 q76_34 (pc' := 35) (st' := .int ((h2 0 16) + a1) :: _) rfl ?_
      refine zpi zM76 q76_35 (by decide) g11_118 s0 rfl rfl ?_
      refine zl zM76 q76_38 rfl ?_
      refine zgI zM76 q76_39 (by decide) g11_118 s0 rfl (v := ((h2 0 16) + a1)) rfl ?_
      exact zri zM76 q76_42 rfl rfl hw
    · have hw := hw.1 hc
      refine zkB zM76 q76_25 kBm4 ?_
      exact zri zM76 q76_27 rfl rfl hw
  · have hw := hw.1 hc
    refine zkB zM76 q76_10 kBm2 ?_
    exact zri zM76 q76_12 rfl rfl hw
-- X11_cart
theorem b77 {X : Option (List Int32)} {d : Nat} {h : zH} {A : Int32 → zH → Prop} {a1 : Int32} {a2 : Int32} {a3 : Int32} {a4 : Int32} {a5 : Int32} {a6 : Int32} (hw : zP X (d + 1) 119 0 (z_ent [.int a1, .int 0, .int 5] 3) [] z_S0 h (zI fun v1 h2 => ((v1 = 0 → A (-2) h2) ∧ (¬ v1 = 0 → zP X (d + 1) 120 0 (z_ent [.int a2] 1) [] z_S0 h2 (zI fun v3 h4 => ((v3 = 0 → A (-2) h4) ∧ (¬ v3 = 0 → zP X (d + 1) 121 0 (z_ent [.int a3] 1) [] z_S0 h4 (zI fun v5 h6 => ((v5 = 0 → A (-2) h6) ∧ (¬ v5 = 0 → zP X (d + 1) 119 0 (z_ent [.int a4, .int 1, .int 9999] 3) [] z_S0 h6 (zI fun v7 h8 => ((v7 = 0 → A (-2) h8) ∧ (¬ v7 = 0 → zP X (d + 1) 119 0 (z_ent [.int a5, .int 0, .int 90] 3) [] z_S0 h8 (zI fun v9 h10 => ((v9 = 0 → A (-2) h10) ∧ (¬ v9 = 0 → zP X (d + 1) 119 0 (z_ent [.int a6, .int 0, .int 9999] 3) [] z_S0 h10 (zI fun v11 h12 => ((v11 = 0 → A (-2) h12) ∧ (¬ v11 = 0 → (((h12 1 10) < 40 → zP X (d + 1) 12 0 (z_ent [.ref 1, .int a1, .int a2, .int a3, .int (h12 0 16)] 6) [] z_S0 h12 (zI fun v13 h15 => zP X (d + 1) 13 0 (z_ent [.ref 1, .int v13, .int a4, .int a5, .int a6] 5) [] z_S0 h15 (zV fun h18 => A v13 h18))) ∧ (¬ (h12 1 10) < 40 → A (-4) h12))))))))))))))))))))) : zP X (d + 2) 77 0 (z_ent [.ref 0, .int a1, .int a2, .int a3, .int a4, .int a5, .int a6] 8) [] z_S0 h (zI A) := by
  show zP X (d + 2) 77 0 [some (.ref 0), some (.int a1), some (.int a2), some (.int a3), some (.int a4), some (.int a5), some (.int a6), none] [] z_S0 h (zI A)
  refine zl zM77 q77_0 rfl ?_
  refine zkI zM77 q77_1 kI0 ?_
  refine zkI zM77 q77_2 kI5 ?_
  refine zcS zM77 q77_3 ky11_114 kl11_114 (by decide) rfl (Nat.le_of_ble_eq_true rfl) zM119 (Nat.le_of_ble_eq_true rfl) (hw.mono (fun r0 h2 hr26 => ?_))
  obtain ⟨v1, rfl, hw⟩ := hr26
  show zP X (d + 2) 77 6 [some (.ref 0), some (.int a1), some (.int a2), some (.int a3), some (.int a4), some (.int a5), some (.int a6), none] [.int v1] z_S0 h2 (zI A)
  refine zb1_eq zM77 q77_6 (tgt := 23) rfl (fun hc => ?_) (fun hc => ?_)
  · have hw := hw.1 hc
    refine zkB zM77 q77_23 kBm2 ?_
    exact zri zM77 q77_25 rfl rfl hw
  · have hw := hw.2 hc
    refine zl zM77 q77_9 rfl ?_
    refine zcS zM77 q77_10 ky11_122 kl11_122 (by decide) rfl (Nat.le_of_ble_eq_true rfl) zM120 (Nat.le_of_ble_eq_true rfl) (hw.mono (fun r0 h4 hr25 => ?_))
    obtain ⟨v3, rfl, hw⟩ := hr25
    show zP X (d + 2) 77 13 [some (.ref 0), some (.int a1), some (.int a2), some (.int a3), some (.int a4), some (.int a5), some (.int a6), none] [.int v3] z_S0 h4 (zI A)
    refine zb1_eq zM77 q77_13 (tgt := 23) rfl (fun hc => ?_) (fun hc => ?_)
    · have hw := hw.1 hc
      refine zkB zM77 q77_23 kBm2 ?_
      exact zri zM77 q77_25 rfl rfl hw
    · have hw := hw.2 hc
      refine zl zM77 q77_16 rfl ?_
      refine zcS zM77 q77_17 ky11_126 kl11_126 (by decide) rfl (Nat.le_of_ble_eq_true rfl) zM121 (Nat.le_of_ble_eq_true rfl) (hw.mono (fun r0 h6 hr24 => ?_))
      obtain ⟨v5, rfl, hw⟩ := hr24
      show zP X (d + 2) 77 20 [some (.ref 0), some (.int a1), some (.int a2), some (.int a3), some (.int a4), some (.int a5), some (.int a6), none] [.int v5] z_S0 h6 (zI A)
      refine zb1_ne zM77 q77_20 (tgt := 26) rfl (fun hc => ?_) (fun hc => ?_)
      · have hw := hw.2 hc
        refine zl zM77 q77_26 rfl ?_
        refine zkI zM77 q77_28 kI1 ?_
        refine zkS zM77 q77_29 kS9999 ?_
        refine zcS zM77 q77_32 ky11_114 kl11_114 (by decide) rfl (Nat.le_of_ble_eq_true rfl) zM119 (Nat.le_of_ble_eq_true rfl) (hw.mono (fun r0 h8 hr23 => ?_))
        obtain ⟨v7, rfl, hw⟩ := hr23
        show zP X (d + 2) 77 35 [some (.ref 0), some (.int a1), some (.int a2), some (.int a3), some (.int a4), some (.int a5), some (.int a6), none] [.int v7] z_S0 h8 (zI A)
        refine zb1_eq zM77 q77_35 (tgt := 61) rfl (fun hc => ?_) (fun hc => ?_)
        · have hw := hw.1 hc
          refine zkB zM77 q77_61 kBm2 ?_
          exact zri zM77 q77_63 rfl rfl hw
        · have hw := hw.2 hc
          refine zl zM77 q77_38 rfl ?_
          refine zkI zM77 q77_40 kI0 ?_
          refine zkB zM77 q77_41 kB90 ?_
          refine zcS zM77 q77_43 ky11_114 kl11_114 (by decide) rfl (Nat.le_of_ble_eq_true rfl) zM119 (Nat.le_of_ble_eq_true rfl) (hw.mono (fun r0 h10 hr22 => ?_))
          obtain ⟨v9, rfl, hw⟩ := hr22
          show zP X (d + 2) 77 46 [some (.ref 0), some (.int a1), some (.int a2), some (.int a3), some (.int a4), some (.int a5), some (.int a6), none] [.int v9] z_S0 h10 (zI A)
          refine zb1_eq zM77 q77_46 (tgt := 61) rfl (fun hc => ?_) (fun hc => ?_)
          · have hw := hw.1 hc
            refine zkB zM77 q77_61 kBm2 ?_
            exact zri zM77 q77_63 rfl rfl hw
          · have hw := hw.2 hc
            refine zl zM77 q77_49 rfl ?_
            refine zkI zM77 q77_51 kI0 ?_
            refine zkS zM77 q77_52 kS9999 ?_
            refine zcS zM77 q77_55 ky11_114 kl11_114 (by decide) rfl (Nat.le_of_ble_eq_true rfl) zM119 (Nat.le_of_ble_eq_true rfl) (hw.mono (fun r0 h12 hr21 => ?_))
            obtain ⟨v11, rfl, hw⟩ := hr21
            show zP X (d + 2) 77 58 [some (.ref 0), some (.int a1), some (.int a2), some (.int a3), some (.int a4), some (.int a5), some (.int a6), none] [.int v11] z_S0 h12 (zI A)
            refine zb1_ne zM77 q77_58 (tgt := 64) rfl (fun hc => ?_) (fun hc => ?_)
            · have hw := hw.2 hc
              refine zl zM77 q77_64 rfl ?_
              refine zgR (a := 1) zM77 q77_65 (by decide) g11_10 s0 rfl ?_
              refine zgI zM77 q77_68 (by decide) g11_129 s1 rfl (v := (h12 1 10)) rfl ?_
              refine zkB zM77 q77_71 kB40 ?_
              refine zb2_lt zM77 q77_73 (tgt := 79) rfl (fun hc => ?_) (fun hc => ?_)
              · have hw := hw.1 hc
                refine zl zM77 q77_79 rfl ?_
                refine zgR (a := 1) zM77 q77_80 (by decide) g11_10 s0 rfl ?_
                refine zl zM77 q77_83 rfl ?_
                refine zl zM77 q77_84 rfl ?_
                refine zl zM77 q77_85 rfl ?_
                refine zl zM77 q77_86 rfl ?_
                refine zgI zM77 q77_87 (by decide) g11_118 s0 rfl (v := (h12 0 16)) rfl ?_
                refine zcV zM77 q77_90 kl11_132 rfl rfl (Nat.le_of_ble_eq_true rfl) rfl zM12 (Nat.le_of_ble_eq_true rfl) (hw.mono (fun r0 h15 hr20 => ?_))
                obtain ⟨v13, rfl, hw⟩ := hr20
                show zP X (d + 2) 77 93 [some (.ref 0), some (.int a1), some (.int a2), some (.int a3), some (.int a4), some (.int a5), some (.int a6), none] [.int v13] z_S0 h15 (zI A)
                refine zl zM77 q77_93 (ls' := [some (.ref 0), some (.int a1), some (.int a2), some (.int a3), some (.int a4), some (.int a5), some (.int a6), some (.int v13)]) rfl ?_
                refine zl zM77 q77_95 rfl ?_
                refine zgR (a := 1) zM77 q77_96 (by decide) g11_10 s0 rfl ?_
                refine zl zM77 q77_99 rfl ?_
                refine zl zM77 q77_101 rfl ?_
                refine zl zM77 q77_103 rfl ?_
                refine zl zM77 q77_105 rfl ?_
                refine zcV zM77 q77_107 kl11_136 rfl rfl (Nat.le_of_ble_eq_true rfl) rfl zM13 (Nat.le_of_ble_eq_true rfl) (hw.mono (fun r0 h18 hr19 => ?_))
                obtain ⟨rfl, hw⟩ := hr19
                show zP X (d + 2) 77 110 [some (.ref 0), some (.int a1), some (.int a2), some (.int a3), some (.int a4), some (.int a5), some (.int a6), some (.int v13)] [] z_S0 h18 (zI A)
                refine zl zM77 q77_110 rfl ?_
                exact zri zM77 q77_112 rfl rfl hw
              · have hw := hw.2 hc
                refine zkB zM77 q77_76 kBm4 ?_
                exact zri zM77 q77_78 rfl rfl hw
            · have hw := hw.1 hc
              refine zkB zM77 q77_61 kBm2 ?_
              exact zri zM77 q77_63 rfl rfl hw
      · have hw := hw.1 hc
        refine zkB zM77 q77_23 kBm2 ?_
        exact zri zM77 q77_25 rfl rfl hw
-- X11_cartTold
theorem b78 {X : Option (List Int32)} {d : Nat} {h : zH} {A : Int32 → zH → Prop} {a1 : Int32} {a2 : Int32} (hw : zP X (d + 1) 11 0 (z_ent [.ref 1, .int a1] 2) [] z_S0 h (zI fun v1 h2 => ((v1 = 0 → A (-2) h2) ∧ (¬ v1 = 0 → ((a2 = 0 → (z_ib a1 40 ∧ A (h2 2 (Int32.toNatClampNeg a1)) h2)) ∧ (a2 = 1 → (z_ib a1 40 ∧ A (h2 3 (Int32.toNatClampNeg a1)) h2)) ∧ (a2 = 2 → (z_ib a1 40 ∧ A (h2 4 (Int32.toNatClampNeg a1)) h2)) ∧ (a2 = 3 → (z_ib a1 40 ∧ A (h2 6 (Int32.toNatClampNeg a1)) h2)) ∧ (a2 = 4 → (z_ib a1 40 ∧ A (h2 10 (Int32.toNatClampNeg a1)) h2)) ∧ (a2 = 5 → (z_ib a1 40 ∧ zP X (d + 1) 16 0 (z_ent [.ref 1, .int a1, .int (a2 - 5), .int (h2 10 (Int32.toNatClampNeg a1))] 4) [] z_S0 h2 (zI fun v8 h9 => A v8 h9))) ∧ (a2 = 6 → (z_ib a1 40 ∧ zP X (d + 1) 16 0 (z_ent [.ref 1, .int a1, .int (a2 - 5), .int (h2 10 (Int32.toNatClampNeg a1))] 4) [] z_S0 h2 (zI fun v12 h13 => A v12 h13))) ∧ (a2 = 7 → (z_ib a1 40 ∧ zP X (d + 1) 16 0 (z_ent [.ref 1, .int a1, .int (a2 - 5), .int (h2 10 (Int32.toNatClampNeg a1))] 4) [] z_S0 h2 (zI fun v16 h17 => A v16 h17))) ∧ (a2 = 8 → (z_ib a1 40 ∧ zP X (d + 1) 16 0 (z_ent [.ref 1, .int a1, .int (a2 - 5), .int (h2 10 (Int32.toNatClampNeg a1))] 4) [] z_S0 h2 (zI fun v20 h21 => A v20 h21))) ∧ (a2 = 9 → zP X (d + 1) 17 0 (z_ent [.ref 1, .int a1] 4) [] z_S0 h2 (zI fun v24 h25 => A v24 h25)) ∧ (a2 = 10 → zP X (d + 1) 18 0 (z_ent [.ref 1, .int a1] 3) [] z_S0 h2 (zI fun v28 h29 => A v28 h29)) ∧ (a2 = 11 → (z_ib a1 40 ∧ A (h2 5 (Int32.toNatClampNeg a1)) h2)) ∧ (a2 = 12 → (z_ib a1 40 ∧ (((h2 11 (Int32.toNatClampNeg a1)) = 0 → A 0 h2) ∧ (¬ (h2 11 (Int32.toNatClampNeg a1)) = 0 → A 1 h2)))) ∧ ((¬ a2 = 0 ∧ ¬ a2 = 1 ∧ ¬ a2 = 2 ∧ ¬ a2 = 3 ∧ ¬ a2 = 4 ∧ ¬ a2 = 5 ∧ ¬ a2 = 6 ∧ ¬ a2 = 7 ∧ ¬ a2 = 8 ∧ ¬ a2 = 9 ∧ ¬ a2 = 10 ∧ ¬ a2 = 11 ∧ ¬ a2 = 12) → A (-2) h2)))))) : zP X (d + 2) 78 0 (z_ent [.ref 0, .int a1, .int a2] 3) [] z_S0 h (zI A) := by
  show zP X (d + 2) 78 0 [some (.ref 0), some (.int a1), some (.int a2)] [] z_S0 h (zI A)
  refine zl zM78 q78_0 rfl ?_
  refine zgR (a := 1) zM78 q78_1 (by decide) g11_10 s0 rfl ?_
  refine zl zM78 q78_4 rfl ?_
  refine zcV zM78 q78_5 kl11_140 rfl rfl (Nat.le_of_ble_eq_true rfl) rfl zM11 (Nat.le_of_ble_eq_true rfl) (hw.mono (fun r0 h2 hr34 => ?_))
  obtain ⟨v1, rfl, hw⟩ := hr34
  show zP X (d + 2) 78 8 [some (.ref 0), some (.int a1), some (.int a2)] [.int v1] z_S0 h2 (zI A)
  refine zb1_ne zM78 q78_8 (tgt := 14) rfl (fun hc => ?_) (fun hc => ?_)
  · have hw := hw.2 hc
    refine zl zM78 q78_14 rfl ?_
    by_cases hs3 : a2 = 0
    · have hw := hw.1 hs3
      refine zts 0 hs3 zM78 q78_15 (tgt := 80) (by decide) rfl rfl ?_
      refine zl zM78 q78_80 rfl ?_
      refine zgR (a := 1) zM78 q78_81 (by decide) g11_10 s0 rfl ?_
      refine zgR (a := 2) zM78 q78_84 (by decide) g11_143 s1 rfl ?_
      refine zl zM78 q78_87 rfl ?_
      obtain ⟨hb, hw⟩ := hw
      refine ziA zM78 q78_88 (by decide) s2 hb (v := (h2 2 (Int32.toNatClampNeg a1))) rfl ?_
      exact zri zM78 q78_89 rfl rfl hw
    by_cases hs4 : a2 = 1
    · have hw := hw.2.1 hs4
      refine zts 1 hs4 zM78 q78_15 (tgt := 90) (by decide) rfl rfl ?_
      refine zl zM78 q78_90 rfl ?_
      refine zgR (a := 1) zM78 q78_91 (by decide) g11_10 s0 rfl ?_
      refine zgR (a := 3) zM78 q78_94 (by decide) g11_146 s1 rfl ?_
      refine zl zM78 q78_97 rfl ?_
      obtain ⟨hb, hw⟩ := hw
      refine ziA zM78 q78_98 (by decide) s3 hb (v := (h2 3 (Int32.toNatClampNeg a1))) rfl ?_
      exact zri zM78 q78_99 rfl rfl hw
    by_cases hs5 : a2 = 2
    · have hw := hw.2.2.1 hs5
      refine zts 2 hs5 zM78 q78_15 (tgt := 100) (by decide) rfl rfl ?_
      refine zl zM78 q78_100 rfl ?_
      refine zgR (a := 1) zM78 q78_101 (by decide) g11_10 s0 rfl ?_
      refine zgR (a := 4) zM78 q78_104 (by decide) g11_149 s1 rfl ?_
      refine zl zM78 q78_107 rfl ?_
      obtain ⟨hb, hw⟩ := hw
      refine ziA zM78 q78_108 (by decide) s4 hb (v := (h2 4 (Int32.toNatClampNeg a1))) rfl ?_
      exact zri zM78 q78_109 rfl rfl hw
    by_cases hs6 : a2 = 3
    · have hw := hw.2.2.2.1 hs6
      refine zts 3 hs6 zM78 q78_15 (tgt := 110) (by decide) rfl rfl ?_
      refine zl zM78 q78_110 rfl ?_
      refine zgR (a := 1) zM78 q78_111 (by decide) g11_10 s0 rfl ?_
      refine zgR (a := 6) zM78 q78_114 (by decide) g11_152 s1 rfl ?_
      refine zl zM78 q78_117 rfl ?_
      obtain ⟨hb, hw⟩ := hw
      refine ziA zM78 q78_118 (by decide) s6 hb (v := (h2 6 (Int32.toNatClampNeg a1))) rfl ?_
      exact zri zM78 q78_119 rfl rfl hw
    by_cases hs7 : a2 = 4
    · have hw := hw.2.2.2.2.1 hs7
      refine zts 4 hs7 zM78 q78_15 (tgt := 120) (by decide) rfl rfl ?_
      refine zl zM78 q78_120 rfl ?_
      refine zgR (a := 1) zM78 q78_121 (by decide) g11_10 s0 rfl ?_
      refine zgR (a := 10) zM78 q78_124 (by decide) g11_155 s1 rfl ?_
      refine zl zM78 q78_127 rfl ?_
      obtain ⟨hb, hw⟩ := hw
      refine ziA zM78 q78_128 (by decide) s10 hb (v := (h2 10 (Int32.toNatClampNeg a1))) rfl ?_
      exact zri zM78 q78_129 rfl rfl hw
    by_cases hs11 : a2 = 5
    · have hw := hw.2.2.2.2.2.1 hs11
      refine zts 5 hs11 zM78 q78_15 (tgt := 130) (by decide) rfl rfl ?_
      refine zl zM78 q78_130 rfl ?_
      refine zgR (a := 1) zM78 q78_131 (by decide) g11_10 s0 rfl ?_
      refine zl zM78 q78_134 rfl ?_
      refine zl zM78 q78_135 rfl ?_
      refine zkI zM78 q78_136 kI5 ?_
      refine zl zM78 q78_137 (pc' := 138) (st' := .int (a2 - 5) :: _) rfl ?_
      refine zl zM78 q78_138 rfl ?_
      refine zgR (a := 1) zM78 q78_139 (by decide) g11_10 s0 rfl ?_
      refine zgR (a := 10) zM78 q78_142 (by decide) g11_155 s1 rfl ?_
      refine zl zM78 q78_145 rfl ?_
      obtain ⟨hb, hw⟩ := hw
      refine ziA zM78 q78_146 (by decide) s10 hb (v := (h2 10 (Int32.toNatClampNeg a1))) rfl ?_
      refine zcV zM78 q78_147 kl11_158 rfl rfl (Nat.le_of_ble_eq_true rfl) rfl zM16 (Nat.le_of_ble_eq_true rfl) (hw.mono (fun r0 h9 hr10 => ?_))
      obtain ⟨v8, rfl, hw⟩ := hr10
      show zP X (d + 2) 78 150 [some (.ref 0), some (.int a1), some (.int a2)] [.int v8] z_S0 h9 (zI A)
      exact zri zM78 q78_150 rfl rfl hw
    by_cases hs15 : a2 = 6
    · have hw := hw.2.2.2.2.2.2.1 hs15
      refine zts 6 hs15 zM78 q78_15 (tgt := 130) (by decide) rfl rfl ?_
      refine zl zM78 q78_130 rfl ?_
      refine zgR (a := 1) zM78 q78_131 (by decide) g11_10 s0 rfl ?_
      refine zl zM78 q78_134 rfl ?_
      refine zl zM78 q78_135 rfl ?_
      refine zkI zM78 q78_136 kI5 ?_
      refine zl zM78 q78_137 (pc' := 138) (st' := .int (a2 - 5) :: _) rfl ?_
      refine zl zM78 q78_138 rfl ?_
      refine zgR (a := 1) zM78 q78_139 (by decide) g11_10 s0 rfl ?_
      refine zgR (a := 10) zM78 q78_142 (by decide) g11_155 s1 rfl ?_
      refine zl zM78 q78_145 rfl ?_
      obtain ⟨hb, hw⟩ := hw
      refine ziA zM78 q78_146 (by decide) s10 hb (v := (h2 10 (Int32.toNatClampNeg a1))) rfl ?_
      refine zcV zM78 q78_147 kl11_158 rfl rfl (Nat.le_of_ble_eq_true rfl) rfl zM16 (Nat.le_of_ble_eq_true rfl) (hw.mono (fun r0 h13 hr14 => ?_))
      obtain ⟨v12, rfl, hw⟩ := hr14
      show zP X (d + 2) 78 150 [some (.ref 0), some (.int a1), some (.int a2)] [.int v12] z_S0 h13 (zI A)
      exact zri zM78 q78_150 rfl rfl hw
    by_cases hs19 : a2 = 7
    · have hw := hw.2.2.2.2.2.2.2.1 hs19
      refine zts 7 hs19 zM78 q78_15 (tgt := 130) (by decide) rfl rfl ?_
      refine zl zM78 q78_130 rfl ?_
      refine zgR (a := 1) zM78 q78_131 (by decide) g11_10 s0 rfl ?_
      refine zl zM78 q78_134 rfl ?_
      refine zl zM78 q78_135 rfl ?_
      refine zkI zM78 q78_136 kI5 ?_
      refine zl zM78 q78_137 (pc' := 138) (st' := .int (a2 - 5) :: _) rfl ?_
      refine zl zM78 q78_138 rfl ?_
      refine zgR (a := 1) zM78 q78_139 (by decide) g11_10 s0 rfl ?_
      refine zgR (a := 10) zM78 q78_142 (by decide) g11_155 s1 rfl ?_
      refine zl zM78 q78_145 rfl ?_
      obtain ⟨hb, hw⟩ := hw
      refine ziA zM78 q78_146 (by decide) s10 hb (v := (h2 10 (Int32.toNatClampNeg a1))) rfl ?_
      refine zcV zM78 q78_147 kl11_158 rfl rfl (Nat.le_of_ble_eq_true rfl) rfl zM16 (Nat.le_of_ble_eq_true rfl) (hw.mono (fun r0 h17 hr18 => ?_))
      obtain ⟨v16, rfl, hw⟩ := hr18
      show zP X (d + 2) 78 150 [some (.ref 0), some (.int a1), some (.int a2)] [.int v16] z_S0 h17 (zI A)
      exact zri zM78 q78_150 rfl rfl hw
    by_cases hs23 : a2 = 8
    · have hw := hw.2.2.2.2.2.2.2.2.1 hs23
      refine zts 8 hs23 zM78 q78_15 (tgt := 130) (by decide) rfl rfl ?_
      refine zl zM78 q78_130 rfl ?_
      refine zgR (a := 1) zM78 q78_131 (by decide) g11_10 s0 rfl ?_
      refine zl zM78 q78_134 rfl ?_
      refine zl zM78 q78_135 rfl ?_
      refine zkI zM78 q78_136 kI5 ?_
      refine zl zM78 q78_137 (pc' := 138) (st' := .int (a2 - 5) :: _) rfl ?_
      refine zl zM78 q78_138 rfl ?_
      refine zgR (a := 1) zM78 q78_139 (by decide) g11_10 s0 rfl ?_
      refine zgR (a := 10) zM78 q78_142 (by decide) g11_155 s1 rfl ?_
      refine zl zM78 q78_145 rfl ?_
      obtain ⟨hb, hw⟩ := hw
      refine ziA zM78 q78_146 (by decide) s10 hb (v := (h2 10 (Int32.toNatClampNeg a1))) rfl ?_
      refine zcV zM78 q78_147 kl11_158 rfl rfl (Nat.le_of_ble_eq_true rfl) rfl zM16 (Nat.le_of_ble_eq_true rfl) (hw.mono (fun r0 h21 hr22 => ?_))
      obtain ⟨v20, rfl, hw⟩ := hr22
      show zP X (d + 2) 78 150 [some (.ref 0), some (.int a1), some (.int a2)] [.int v20] z_S0 h21 (zI A)
      exact zri zM78 q78_150 rfl rfl hw
    by_cases hs27 : a2 = 9
    · have hw := hw.2.2.2.2.2.2.2.2.2.1 hs27
      refine zts 9 hs27 zM78 q78_15 (tgt := 151) (by decide) rfl rfl ?_
      refine zl zM78 q78_151 rfl ?_
      refine zgR (a := 1) zM78 q78_152 (by decide) g11_10 s0 rfl ?_
      refine zl zM78 q78_155 rfl ?_
      refine zcV zM78 q78_156 kl11_162 rfl rfl (Nat.le_of_ble_eq_true rfl) rfl zM17 (Nat.le_of_ble_eq_true rfl) (hw.mono (fun r0 h25 hr26 => ?_))
      obtain ⟨v24, rfl, hw⟩ := hr26
      show zP X (d + 2) 78 159 [some (.ref 0), some (.int a1), some (.int a2)] [.int v24] z_S0 h25 (zI A)
      exact zri zM78 q78_159 rfl rfl hw
    by_cases hs31 : a2 = 10
    · have hw := hw.2.2.2.2.2.2.2.2.2.2.1 hs31
      refine zts 10 hs31 zM78 q78_15 (tgt := 160) (by decide) rfl rfl ?_
      refine zl zM78 q78_160 rfl ?_
      refine zgR (a := 1) zM78 q78_161 (by decide) g11_10 s0 rfl ?_
      refine zl zM78 q78_164 rfl ?_
      refine zcV zM78 q78_165 kl11_166 rfl rfl (Nat.le_of_ble_eq_true rfl) rfl zM18 (Nat.le_of_ble_eq_true rfl) (hw.mono (fun r0 h29 hr30 => ?_))
      obtain ⟨v28, rfl, hw⟩ := hr30
      show zP X (d + 2) 78 168 [some (.ref 0), some (.int a1), some (.int a2)] [.int v28] z_S0 h29 (zI A)
      exact zri zM78 q78_168 rfl rfl hw
    by_cases hs32 : a2 = 11
    · have hw := hw.2.2.2.2.2.2.2.2.2.2.2.1 hs32
      refine zts 11 hs32 zM78 q78_15 (tgt := 169) (by decide) rfl rfl ?_
      refine zl zM78 q78_169 rfl ?_
      refine zgR (a := 1) zM78 q78_170 (by decide) g11_10 s0 rfl ?_
      refine zgR (a := 5) zM78 q78_173 (by decide) g11_169 s1 rfl ?_
      refine zl zM78 q78_176 rfl ?_
      obtain ⟨hb, hw⟩ := hw
      refine ziA zM78 q78_177 (by decide) s5 hb (v := (h2 5 (Int32.toNatClampNeg a1))) rfl ?_
      exact zri zM78 q78_178 rfl rfl hw
    by_cases hs33 : a2 = 12
    · have hw := hw.2.2.2.2.2.2.2.2.2.2.2.2.1 hs33
      refine zts 12 hs33 zM78 q78_15 (tgt := 179) (by decide) rfl rfl ?_
      refine zl zM78 q78_179 rfl ?_
      refine zgR (a := 1) zM78 q78_180 (by decide) g11_10 s0 rfl ?_
      refine zgR (a := 11) zM78 q78_183 (by decide) g11_171 s1 rfl ?_
      refine zl zM78 q78_186 rfl ?_
      obtain ⟨hb, hw⟩ := hw
      refine zbA zM78 q78_187 (by decide) s11 (by decide) hb (v := (h2 11 (Int32.toNatClampNeg a1))) rfl ?_
      refine zb1_eq zM78 q78_188 (tgt := 195) rfl (fun hc => ?_) (fun hc => ?_)
      · have hw := hw.1 hc
        refine zkI zM78 q78_195 kI0 ?_
        exact zri zM78 q78_196 rfl rfl hw
      · have hw := hw.2 hc
        refine zkI zM78 q78_191 kI1 ?_
        refine zl zM78 q78_192 (pc' := 196) (ls' := _) (st' := _) rfl ?_
        exact zri zM78 q78_196 rfl rfl hw
    have hw := hw.2.2.2.2.2.2.2.2.2.2.2.2.2 ⟨hs3, hs4, hs5, hs6, hs7, hs11, hs15, hs19, hs23, hs27, hs31, hs32, hs33⟩
    have hs3 := z_neI hs3
    have hs4 := z_neI hs4
    have hs5 := z_neI hs5
    have hs6 := z_neI hs6
    have hs7 := z_neI hs7
    have hs11 := z_neI hs11
    have hs15 := z_neI hs15
    have hs19 := z_neI hs19
    have hs23 := z_neI hs23
    have hs27 := z_neI hs27
    have hs31 := z_neI hs31
    have hs32 := z_neI hs32
    have hs33 := z_neI hs33
    refine ztd (tgt := 197) ?_ zM78 q78_15 rfl ?_
    · simp only [show (0 : Int32).toInt = 0 from rfl, show (1 : Int32).toInt = 1 from rfl, show (2 : Int32).toInt = 2 from rfl, show (3 : Int32).toInt = 3 from rfl, show (4 : Int32).toInt = 4 from rfl, show (5 : Int32).toInt = 5 from rfl, show (6 : Int32).toInt = 6 from rfl, show (7 : Int32).toInt = 7 from rfl, show (8 : Int32).toInt = 8 from rfl, show (9 : Int32).toInt = 9 from rfl, show (10 : Int32).toInt = 10 from rfl, show (11 : Int32).toInt = 11 from rfl, show (12 : Int32).toInt = 12 from rfl] at hs3 hs4 hs5 hs6 hs7 hs11 hs15 hs19 hs23 hs27 hs31 hs32 hs33; omega
    refine zkB zM78 q78_197 kBm2 ?_
    exact zri zM78 q78_199 rfl rfl hw
  · have hw := hw.1 hc
    refine zkB zM78 q78_11 kBm2 ?_
    exact zri zM78 q78_13 rfl rfl hw
-- X11_sift
theorem b79 {X : Option (List Int32)} {d : Nat} {h : zH} {A : Int32 → zH → Prop} {a1 : Int32} {a2 : Int32} (hw : zP X (d + 2) 121 0 (z_ent [.int a1] 1) [] z_S0 h (zI fun v1 h2 => ((v1 = 0 → A (-2) h2) ∧ (¬ v1 = 0 → zP X (d + 2) 119 0 (z_ent [.int a2, .int 0, .int 99999] 3) [] z_S0 h2 (zI fun v3 h4 => ((v3 = 0 → A (-2) h4) ∧ (¬ v3 = 0 → zP X (d + 3) 79 28 [some (.ref 0), some (.int a1), none, some (.int a2), some (.int 0), some (.int 0)] [] z_S0 h4 (zI A)))))))) : zP X (d + 3) 79 0 (z_ent [.ref 0, .int a1, .int a2] 6) [] z_S0 h (zI A) := by
  show zP X (d + 3) 79 0 [some (.ref 0), some (.int a1), some (.int a2), none, none, none] [] z_S0 h (zI A)
  refine zl zM79 q79_0 rfl ?_
  refine zcS zM79 q79_1 ky11_126 kl11_126 (by decide) rfl (Nat.le_of_ble_eq_true rfl) zM121 (Nat.le_of_ble_eq_true rfl) (hw.mono (fun r0 h2 hr6 => ?_))
  obtain ⟨v1, rfl, hw⟩ := hr6
  show zP X (d + 3) 79 4 [some (.ref 0), some (.int a1), some (.int a2), none, none, none] [.int v1] z_S0 h2 (zI A)
  refine zb1_eq zM79 q79_4 (tgt := 17) rfl (fun hc => ?_) (fun hc => ?_)
  · have hw := hw.1 hc
    refine zkB zM79 q79_17 kBm2 ?_
    exact zri zM79 q79_19 rfl rfl hw
  · have hw := hw.2 hc
    refine zl zM79 q79_7 rfl ?_
    refine zkI zM79 q79_8 kI0 ?_
    refine zkC zM79 q79_9 kc11_175 ?_
    refine zcS zM79 q79_11 ky11_114 kl11_114 (by decide) rfl (Nat.le_of_ble_eq_true rfl) zM119 (Nat.le_of_ble_eq_true rfl) (hw.mono (fun r0 h4 hr5 => ?_))
    obtain ⟨v3, rfl, hw⟩ := hr5
    show zP X (d + 3) 79 14 [some (.ref 0), some (.int a1), some (.int a2), none, none, none] [.int v3] z_S0 h4 (zI A)
    refine zb1_ne zM79 q79_14 (tgt := 20) rfl (fun hc => ?_) (fun hc => ?_)
    · have hw := hw.2 hc
      refine zl zM79 q79_20 rfl ?_
      refine zl zM79 q79_21 (ls' := [some (.ref 0), some (.int a1), some (.int a2), some (.int a2), none, none]) rfl ?_
      refine zkI zM79 q79_22 kI0 ?_
      refine zl zM79 q79_23 (ls' := [some (.ref 0), some (.int a1), some (.int a2), some (.int a2), some (.int 0), none]) rfl ?_
      refine zkI zM79 q79_25 kI0 ?_
      refine zl zM79 q79_26 (ls' := [some (.ref 0), some (.int a1), some (.int a2), some (.int a2), some (.int 0), some (.int 0)]) rfl ?_
      refine zweak (a := [some (.ref 0), some (.int a1), none, some (.int a2), some (.int 0), some (.int 0)]) ?_ hw
      exact ⟨rfl, ⟨rfl, ⟨rfl, ⟨rfl, ⟨rfl, trivial⟩⟩⟩⟩⟩
    · have hw := hw.1 hc
      refine zkB zM79 q79_17 kBm2 ?_
      exact zri zM79 q79_19 rfl rfl hw
theorem b79_28 {X : Option (List Int32)} {d : Nat} {h : zH} {A : Int32 → zH → Prop} {l1 : Int32} {l3 : Int32} {l4 : Int32} {l5 : Int32} (hw : ((l5 < (h 1 10) → zP X (d + 2) 14 0 (z_ent [.ref 1, .int l5, .int l1] 3) [] z_S0 h (zI fun v7 h8 => ((v7 = 0 → zP X (d + 3) 79 95 [some (.ref 0), some (.int l1), none, some (.int l3), some (.int l4), some (.int l5)] [] z_S0 h8 (zI A)) ∧ (¬ v7 = 0 → (z_ib l5 40 ∧ ((l3 < (h8 10 (Int32.toNatClampNeg l5)) → A l4 h8) ∧ (¬ l3 < (h8 10 (Int32.toNatClampNeg l5)) → (z_ib l5 40 ∧ zP X (d + 2) 80 0 (z_ent [.ref 0, .int l5] 3) [] z_S0 h8 (zV fun h11 => zP X (d + 3) 79 95 [some (.ref 0), some (.int l1), none, some (.int (l3 - (h8 10 (Int32.toNatClampNeg l5)))), some (.int (l4 + 1)), some (.int l5)] [] z_S0 h11 (zI A)))))))))) ∧ (¬ l5 < (h 1 10) → A l4 h))) : zP X (d + 3) 79 28 [some (.ref 0), some (.int l1), none, some (.int l3), some (.int l4), some (.int l5)] [] z_S0 h (zI A) := by
  refine zl zM79 q79_28 rfl ?_
  refine zl zM79 q79_30 rfl ?_
  refine zgR (a := 1) zM79 q79_31 (by decide) g11_10 s0 rfl ?_
  refine zgI zM79 q79_34 (by decide) g11_129 s1 rfl (v := (h 1 10)) rfl ?_
  refine zb2_ge zM79 q79_37 (tgt := 101) rfl (fun hc => ?_) (fun hc => ?_)
  · have hw := hw.2 hc
    refine zl zM79 q79_101 rfl ?_
    exact zri zM79 q79_103 rfl rfl hw
  · have hw := hw.1 hc
    refine zl zM79 q79_40 rfl ?_
    refine zgR (a := 1) zM79 q79_41 (by decide) g11_10 s0 rfl ?_
    refine zl zM79 q79_44 rfl ?_
    refine zl zM79 q79_46 rfl ?_
    refine zcV zM79 q79_47 kl11_176 rfl rfl (Nat.le_of_ble_eq_true rfl) rfl zM14 (Nat.le_of_ble_eq_true rfl) (hw.mono (fun r0 h8 hr13 => ?_))
    obtain ⟨v7, rfl, hw⟩ := hr13
    show zP X (d + 3) 79 50 [some (.ref 0), some (.int l1), none, some (.int l3), some (.int l4), some (.int l5)] [.int v7] z_S0 h8 (zI A)
    refine zb1_ne zM79 q79_50 (tgt := 56) rfl (fun hc => ?_) (fun hc => ?_)
    · have hw := hw.2 hc
      refine zl zM79 q79_56 rfl ?_
      refine zgR (a := 1) zM79 q79_57 (by decide) g11_10 s0 rfl ?_
      refine zgR (a := 10) zM79 q79_60 (by decide) g11_155 s1 rfl ?_
      refine zl zM79 q79_63 rfl ?_
      obtain ⟨hb, hw⟩ := hw
      refine ziA zM79 q79_65 (by decide) s10 hb (v := (h8 10 (Int32.toNatClampNeg l5))) rfl ?_
      refine zl zM79 q79_66 rfl ?_
      refine zb2_le zM79 q79_67 (tgt := 73) rfl (fun hc => ?_) (fun hc => ?_)
      · have hw := hw.2 hc
        refine zl zM79 q79_73 rfl ?_
        refine zl zM79 q79_74 rfl ?_
        refine zgR (a := 1) zM79 q79_75 (by decide) g11_10 s0 rfl ?_
        refine zgR (a := 10) zM79 q79_78 (by decide) g11_155 s1 rfl ?_
        refine zl zM79 q79_81 rfl ?_
        obtain ⟨hb, hw⟩ := hw
        refine ziA zM79 q79_83 (by decide) s10 hb (v := (h8 10 (Int32.toNatClampNeg l5))) rfl ?_
        refine zl zM79 q79_84 (pc' := 85) (st' := .int (l3 - (h8 10 (Int32.toNatClampNeg l5))) :: _) rfl ?_
        refine zl zM79 q79_85 (ls' := [some (.ref 0), some (.int l1), none, some (.int (l3 - (h8 10 (Int32.toNatClampNeg l5)))), some (.int l4), some (.int l5)]) rfl ?_
        refine zl zM79 q79_86 rfl ?_
        refine zl zM79 q79_87 rfl ?_
        refine zcV zM79 q79_89 kl11_180 rfl rfl (Nat.le_of_ble_eq_true rfl) rfl zM80 (Nat.le_of_ble_eq_true rfl) (hw.mono (fun r0 h11 hr12 => ?_))
        obtain ⟨rfl, hw⟩ := hr12
        show zP X (d + 3) 79 92 [some (.ref 0), some (.int l1), none, some (.int (l3 - (h8 10 (Int32.toNatClampNeg l5)))), some (.int l4), some (.int l5)] [] z_S0 h11 (zI A)
        refine zl zM79 q79_92 (ls' := [some (.ref 0), some (.int l1), none, some (.int (l3 - (h8 10 (Int32.toNatClampNeg l5)))), some (.int (l4 + 1)), some (.int l5)]) rfl ?_
        exact hw
      · have hw := hw.1 hc
        refine zl zM79 q79_70 (pc' := 101) (ls' := _) (st' := _) rfl ?_
        refine zl zM79 q79_101 rfl ?_
        exact zri zM79 q79_103 rfl rfl hw
    · have hw := hw.1 hc
      refine zl zM79 q79_53 (pc' := 95) (ls' := _) (st' := _) rfl ?_
      exact hw
theorem b79_95 {X : Option (List Int32)} {d : Nat} {h : zH} {A : Int32 → zH → Prop} {l1 : Int32} {l3 : Int32} {l4 : Int32} {l5 : Int32} (hw : zP X (d + 3) 79 28 [some (.ref 0), some (.int l1), none, some (.int l3), some (.int l4), some (.int (l5 + 1))] [] z_S0 h (zI A)) : zP X (d + 3) 79 95 [some (.ref 0), some (.int l1), none, some (.int l3), some (.int l4), some (.int l5)] [] z_S0 h (zI A) := by
  refine zl zM79 q79_95 (ls' := [some (.ref 0), some (.int l1), none, some (.int l3), some (.int l4), some (.int (l5 + 1))]) rfl ?_
  refine zl zM79 q79_98 (pc' := 28) (ls' := _) (st' := _) rfl ?_
  exact hw
-- X11_bringToStore
theorem b80 {X : Option (List Int32)} {d : Nat} {h : zH} {A : zH → Prop} {a1 : Int32} (hw : zP X (d + 2) 80 2 [some (.ref 0), some (.int a1), some (.int 0)] [] z_S0 h (zV A)) : zP X (d + 2) 80 0 (z_ent [.ref 0, .int a1] 3) [] z_S0 h (zV A) := by
  show zP X (d + 2) 80 0 [some (.ref 0), some (.int a1), none] [] z_S0 h (zV A)
  refine zkI zM80 q80_0 kI0 ?_
  refine zl zM80 q80_1 (ls' := [some (.ref 0), some (.int a1), some (.int 0)]) rfl ?_
  exact hw
theorem b80_2 {X : Option (List Int32)} {d : Nat} {h : zH} {A : zH → Prop} {l1 : Int32} {l2 : Int32} (hw : ((l2 < 4 → (z_ib l2 6 ∧ (z_ib l1 40 ∧ zP X (d + 1) 16 0 (z_ent [.ref 1, .int l1, .int l2, .int (h 10 (Int32.toNatClampNeg l1))] 4) [] z_S0 h (zI fun v4 h5 => (z_ib l2 6 ∧ zP X (d + 2) 80 2 [some (.ref 0), some (.int l1), some (.int (l2 + 1))] [] z_S0 (z_up h5 12 (Int32.toNatClampNeg l2) ((h 12 (Int32.toNatClampNeg l2)) + v4)) (zV A)))))) ∧ (¬ l2 < 4 → zP X (d + 1) 17 0 (z_ent [.ref 1, .int l1] 4) [] z_S0 h (zI fun v1 h2 => (z_ib l1 40 ∧ A (z_up (z_up h2 12 4 ((h 12 4) + v1)) 11 (Int32.toNatClampNeg l1) 1)))))) : zP X (d + 2) 80 2 [some (.ref 0), some (.int l1), some (.int l2)] [] z_S0 h (zV A) := by
  refine zl zM80 q80_2 rfl ?_
  refine zkI zM80 q80_3 kI4 ?_
  refine zb2_ge zM80 q80_4 (tgt := 40) rfl (fun hc => ?_) (fun hc => ?_)
  · have hw := hw.2 hc
    refine zl zM80 q80_40 rfl ?_
    refine zgR (a := 12) zM80 q80_41 (by decide) g11_16 s0 rfl ?_
    refine zkI zM80 q80_44 kI4 ?_
    refine zl zM80 q80_45 rfl ?_
    refine ziA zM80 q80_46 (by decide) s12 (by decide) (v := (h 12 4)) rfl ?_
    refine zl zM80 q80_47 rfl ?_
    refine zgR (a := 1) zM80 q80_48 (by decide) g11_10 s0 rfl ?_
    refine zl zM80 q80_51 rfl ?_
    refine zcV zM80 q80_52 kl11_162 rfl rfl (Nat.le_of_ble_eq_true rfl) rfl zM17 (Nat.le_of_ble_eq_true rfl) (hw.mono (fun r0 h2 hr3 => ?_))
    obtain ⟨v1, rfl, hw⟩ := hr3
    show zP X (d + 2) 80 55 [some (.ref 0), some (.int l1), some (.int l2)] [.int v1, .int (h 12 4), .int 4, .ref 12] z_S0 h2 (zV A)
    refine zl zM80 q80_55 (pc' := 56) (st' := .int ((h 12 4) + v1) :: _) rfl ?_
    refine ziS (j := 4) zM80 q80_56 (by decide) s12 (by decide) rfl ?_
    refine zl zM80 q80_57 rfl ?_
    refine zgR (a := 1) zM80 q80_58 (by decide) g11_10 s0 rfl ?_
    refine zgR (a := 11) zM80 q80_61 (by decide) g11_171 s1 rfl ?_
    refine zl zM80 q80_64 rfl ?_
    refine zkI zM80 q80_65 kI1 ?_
    obtain ⟨hb, hw⟩ := hw
    refine zbS zM80 q80_66 (by decide) s11 (by decide) hb rfl (w := 1) rfl ?_
    exact zrv zM80 q80_67 rfl hw
  · have hw := hw.1 hc
    refine zl zM80 q80_7 rfl ?_
    refine zgR (a := 12) zM80 q80_8 (by decide) g11_16 s0 rfl ?_
    refine zl zM80 q80_11 rfl ?_
    refine zl zM80 q80_12 rfl ?_
    obtain ⟨hb, hw⟩ := hw
    refine ziA zM80 q80_13 (by decide) s12 hb (v := (h 12 (Int32.toNatClampNeg l2))) rfl ?_
    refine zl zM80 q80_14 rfl ?_
    refine zgR (a := 1) zM80 q80_15 (by decide) g11_10 s0 rfl ?_
    refine zl zM80 q80_18 rfl ?_
    refine zl zM80 q80_19 rfl ?_
    refine zl zM80 q80_20 rfl ?_
    refine zgR (a := 1) zM80 q80_21 (by decide) g11_10 s0 rfl ?_
    refine zgR (a := 10) zM80 q80_24 (by decide) g11_155 s1 rfl ?_
    refine zl zM80 q80_27 rfl ?_
    obtain ⟨hb, hw⟩ := hw
    refine ziA zM80 q80_28 (by decide) s10 hb (v := (h 10 (Int32.toNatClampNeg l1))) rfl ?_
    refine zcV zM80 q80_29 kl11_158 rfl rfl (Nat.le_of_ble_eq_true rfl) rfl zM16 (Nat.le_of_ble_eq_true rfl) (hw.mono (fun r0 h5 hr6 => ?_))
    obtain ⟨v4, rfl, hw⟩ := hr6
    show zP X (d + 2) 80 32 [some (.ref 0), some (.int l1), some (.int l2)] [.int v4, .int (h 12 (Int32.toNatClampNeg l2)), .int l2, .ref 12] z_S0 h5 (zV A)
    refine zl zM80 q80_32 (pc' := 33) (st' := .int ((h 12 (Int32.toNatClampNeg l2)) + v4) :: _) rfl ?_
    obtain ⟨hb, hw⟩ := hw
    refine ziS zM80 q80_33 (by decide) s12 hb rfl ?_
    refine zl zM80 q80_34 (ls' := [some (.ref 0), some (.int l1), some (.int (l2 + 1))]) rfl ?_
    refine zl zM80 q80_37 (pc' := 2) (ls' := _) (st' := _) rfl ?_
    exact hw
-- X11_fire
theorem b81 {X : Option (List Int32)} {d : Nat} {h : zH} {A : Int32 → zH → Prop} {a1 : Int32} {a2 : Int32} (hw : zP X (d + 1) 121 0 (z_ent [.int a1] 1) [] z_S0 h (zI fun v1 h2 => ((v1 = 0 → A (-2) h2) ∧ (¬ v1 = 0 → zP X (d + 1) 119 0 (z_ent [.int a2, .int 0, .int 100] 3) [] z_S0 h2 (zI fun v3 h4 => ((v3 = 0 → A (-2) h4) ∧ (¬ v3 = 0 → zP X (d + 1) 20 0 (z_ent [.ref 1, .int a1, .int a2] 6) [] z_S0 h4 (zI fun v5 h7 => A v5 (z_up h7 12 5 ((h7 12 5) + v5)))))))))) : zP X (d + 2) 81 0 (z_ent [.ref 0, .int a1, .int a2] 4) [] z_S0 h (zI A) := by
  show zP X (d + 2) 81 0 [some (.ref 0), some (.int a1), some (.int a2), none] [] z_S0 h (zI A)
  refine zl zM81 q81_0 rfl ?_
  refine zcS zM81 q81_1 ky11_126 kl11_126 (by decide) rfl (Nat.le_of_ble_eq_true rfl) zM121 (Nat.le_of_ble_eq_true rfl) (hw.mono (fun r0 h2 hr10 => ?_))
  obtain ⟨v1, rfl, hw⟩ := hr10
  show zP X (d + 2) 81 4 [some (.ref 0), some (.int a1), some (.int a2), none] [.int v1] z_S0 h2 (zI A)
  refine zb1_eq zM81 q81_4 (tgt := 17) rfl (fun hc => ?_) (fun hc => ?_)
  · have hw := hw.1 hc
    refine zkB zM81 q81_17 kBm2 ?_
    exact zri zM81 q81_19 rfl rfl hw
  · have hw := hw.2 hc
    refine zl zM81 q81_7 rfl ?_
    refine zkI zM81 q81_8 kI0 ?_
    refine zkB zM81 q81_9 kB100 ?_
    refine zcS zM81 q81_11 ky11_114 kl11_114 (by decide) rfl (Nat.le_of_ble_eq_true rfl) zM119 (Nat.le_of_ble_eq_true rfl) (hw.mono (fun r0 h4 hr9 => ?_))
    obtain ⟨v3, rfl, hw⟩ := hr9
    show zP X (d + 2) 81 14 [some (.ref 0), some (.int a1), some (.int a2), none] [.int v3] z_S0 h4 (zI A)
    refine zb1_ne zM81 q81_14 (tgt := 20) rfl (fun hc => ?_) (fun hc => ?_)
    · have hw := hw.2 hc
      refine zl zM81 q81_20 rfl ?_
      refine zgR (a := 1) zM81 q81_21 (by decide) g11_10 s0 rfl ?_
      refine zl zM81 q81_24 rfl ?_
      refine zl zM81 q81_25 rfl ?_
      refine zcV zM81 q81_26 kl11_183 rfl rfl (Nat.le_of_ble_eq_true rfl) rfl zM20 (Nat.le_of_ble_eq_true rfl) (hw.mono (fun r0 h7 hr8 => ?_))
      obtain ⟨v5, rfl, hw⟩ := hr8
      show zP X (d + 2) 81 29 [some (.ref 0), some (.int a1), some (.int a2), none] [.int v5] z_S0 h7 (zI A)
      refine zl zM81 q81_29 (ls' := [some (.ref 0), some (.int a1), some (.int a2), some (.int v5)]) rfl ?_
      refine zl zM81 q81_30 rfl ?_
      refine zgR (a := 12) zM81 q81_31 (by decide) g11_16 s0 rfl ?_
      refine zkI zM81 q81_34 kI5 ?_
      refine zl zM81 q81_35 rfl ?_
      refine ziA zM81 q81_36 (by decide) s12 (by decide) (v := (h7 12 5)) rfl ?_
      refine zl zM81 q81_37 rfl ?_
      refine zl zM81 q81_38 (pc' := 39) (st' := .int ((h7 12 5) + v5) :: _) rfl ?_
      refine ziS (j := 5) zM81 q81_39 (by decide) s12 (by decide) rfl ?_
      refine zl zM81 q81_40 rfl ?_
      exact zri zM81 q81_41 rfl rfl hw
    · have hw := hw.1 hc
      refine zkB zM81 q81_17 kBm2 ?_
      exact zri zM81 q81_19 rfl rfl hw
-- X11_lies
theorem b82 {X : Option (List Int32)} {d : Nat} {h : zH} {A : Int32 → zH → Prop} {a1 : Int32} (hw : zP X (d + 1) 121 0 (z_ent [.int a1] 1) [] z_S0 h (zI fun v1 h2 => ((v1 = 0 → A (-2) h2) ∧ (¬ v1 = 0 → zP X (d + 1) 21 0 (z_ent [.ref 1, .int a1] 4) [] z_S0 h2 (zI fun v3 h4 => A v3 h4))))) : zP X (d + 2) 82 0 (z_ent [.ref 0, .int a1] 2) [] z_S0 h (zI A) := by
  show zP X (d + 2) 82 0 [some (.ref 0), some (.int a1)] [] z_S0 h (zI A)
  refine zl zM82 q82_0 rfl ?_
  refine zcS zM82 q82_1 ky11_126 kl11_126 (by decide) rfl (Nat.le_of_ble_eq_true rfl) zM121 (Nat.le_of_ble_eq_true rfl) (hw.mono (fun r0 h2 hr6 => ?_))
  obtain ⟨v1, rfl, hw⟩ := hr6
  show zP X (d + 2) 82 4 [some (.ref 0), some (.int a1)] [.int v1] z_S0 h2 (zI A)
  refine zb1_eq zM82 q82_4 (tgt := 18) rfl (fun hc => ?_) (fun hc => ?_)
  · have hw := hw.1 hc
    refine zkB zM82 q82_18 kBm2 ?_
    exact zri zM82 q82_20 rfl rfl hw
  · have hw := hw.2 hc
    refine zl zM82 q82_7 rfl ?_
    refine zgR (a := 1) zM82 q82_8 (by decide) g11_10 s0 rfl ?_
    refine zl zM82 q82_11 rfl ?_
    refine zcV zM82 q82_12 kl11_187 rfl rfl (Nat.le_of_ble_eq_true rfl) rfl zM21 (Nat.le_of_ble_eq_true rfl) (hw.mono (fun r0 h4 hr5 => ?_))
    obtain ⟨v3, rfl, hw⟩ := hr5
    show zP X (d + 2) 82 15 [some (.ref 0), some (.int a1)] [.int v3] z_S0 h4 (zI A)
    refine zl zM82 q82_15 (pc' := 20) (ls' := _) (st' := _) rfl ?_
    exact zri zM82 q82_20 rfl rfl hw
-- X11_stock
theorem b83 {X : Option (List Int32)} {d : Nat} {h : zH} {A : Int32 → zH → Prop} {a1 : Int32} (hw : zP X d 119 0 (z_ent [.int a1, .int 0, .int 5] 3) [] z_S0 h (zI fun v1 h2 => ((v1 = 0 → A (-2) h2) ∧ (¬ v1 = 0 → (z_ib a1 6 ∧ A (h2 12 (Int32.toNatClampNeg a1)) h2))))) : zP X (d + 1) 83 0 (z_ent [.ref 0, .int a1] 2) [] z_S0 h (zI A) := by
  show zP X (d + 1) 83 0 [some (.ref 0), some (.int a1)] [] z_S0 h (zI A)
  refine zl zM83 q83_0 rfl ?_
  refine zkI zM83 q83_1 kI0 ?_
  refine zkI zM83 q83_2 kI5 ?_
  refine zcS zM83 q83_3 ky11_114 kl11_114 (by decide) rfl (Nat.le_of_ble_eq_true rfl) zM119 (Nat.le_of_ble_eq_true rfl) (hw.mono (fun r0 h2 hr3 => ?_))
  obtain ⟨v1, rfl, hw⟩ := hr3
  show zP X (d + 1) 83 6 [some (.ref 0), some (.int a1)] [.int v1] z_S0 h2 (zI A)
  refine zb1_eq zM83 q83_6 (tgt := 18) rfl (fun hc => ?_) (fun hc => ?_)
  · have hw := hw.1 hc
    refine zkB zM83 q83_18 kBm2 ?_
    exact zri zM83 q83_20 rfl rfl hw
  · have hw := hw.2 hc
    refine zl zM83 q83_9 rfl ?_
    refine zgR (a := 12) zM83 q83_10 (by decide) g11_16 s0 rfl ?_
    refine zl zM83 q83_13 rfl ?_
    obtain ⟨hb, hw⟩ := hw
    refine ziA zM83 q83_14 (by decide) s12 hb (v := (h2 12 (Int32.toNatClampNeg a1))) rfl ?_
    refine zl zM83 q83_15 (pc' := 20) (ls' := _) (st' := _) rfl ?_
    exact zri zM83 q83_20 rfl rfl hw
-- X11_sell
theorem b84 {X : Option (List Int32)} {d : Nat} {h : zH} {A : Int32 → zH → Prop} {a1 : Int32} {a2 : Int32} (hw : zP X (d + 1) 122 0 (z_ent [.int a1] 1) [] z_S0 h (zI fun v1 h2 => ((v1 = 0 → A (-2) h2) ∧ (¬ v1 = 0 → zP X (d + 1) 119 0 (z_ent [.int a2, .int 1, .int 99999] 3) [] z_S0 h2 (zI fun v3 h4 => ((v3 = 0 → A (-2) h4) ∧ (¬ v3 = 0 → (z_ib a1 6 ∧ (((h4 12 (Int32.toNatClampNeg a1)) < a2 → A (-3) h4) ∧ (¬ (h4 12 (Int32.toNatClampNeg a1)) < a2 → zP X (d + 1) 41 0 (z_ent [.ref 13, .int a1, .int (h4 0 16), .int (h4 0 16)] 6) [] z_S0 h4 (zI fun v5 h6 => zP X (d + 1) 127 0 (z_ent [.int a2, .int v5] 2) [] z_S0 h6 (zI fun v7 h8 => (z_ib a1 6 ∧ (z_ib a1 6 ∧ A v7 (z_up (z_up h8 12 (Int32.toNatClampNeg a1) ((h8 12 (Int32.toNatClampNeg a1)) - a2)) 0 17 ((h8 0 17) + v7)))))))))))))))) : zP X (d + 2) 84 0 (z_ent [.ref 0, .int a1, .int a2] 4) [] z_S0 h (zI A) := by
  show zP X (d + 2) 84 0 [some (.ref 0), some (.int a1), some (.int a2), none] [] z_S0 h (zI A)
  refine zl zM84 q84_0 rfl ?_
  refine zcS zM84 q84_1 ky11_190 kl11_190 (by decide) rfl (Nat.le_of_ble_eq_true rfl) zM122 (Nat.le_of_ble_eq_true rfl) (hw.mono (fun r0 h2 hr12 => ?_))
  obtain ⟨v1, rfl, hw⟩ := hr12
  show zP X (d + 2) 84 4 [some (.ref 0), some (.int a1), some (.int a2), none] [.int v1] z_S0 h2 (zI A)
  refine zb1_eq zM84 q84_4 (tgt := 17) rfl (fun hc => ?_) (fun hc => ?_)
  · have hw := hw.1 hc
    refine zkB zM84 q84_17 kBm2 ?_
    exact zri zM84 q84_19 rfl rfl hw
  · have hw := hw.2 hc
    refine zl zM84 q84_7 rfl ?_
    refine zkI zM84 q84_8 kI1 ?_
    refine zkC zM84 q84_9 kc11_175 ?_
    refine zcS zM84 q84_11 ky11_114 kl11_114 (by decide) rfl (Nat.le_of_ble_eq_true rfl) zM119 (Nat.le_of_ble_eq_true rfl) (hw.mono (fun r0 h4 hr11 => ?_))
    obtain ⟨v3, rfl, hw⟩ := hr11
    show zP X (d + 2) 84 14 [some (.ref 0), some (.int a1), some (.int a2), none] [.int v3] z_S0 h4 (zI A)
    refine zb1_ne zM84 q84_14 (tgt := 20) rfl (fun hc => ?_) (fun hc => ?_)
    · have hw := hw.2 hc
      refine zl zM84 q84_20 rfl ?_
      refine zgR (a := 12) zM84 q84_21 (by decide) g11_16 s0 rfl ?_
      refine zl zM84 q84_24 rfl ?_
      obtain ⟨hb, hw⟩ := hw
      refine ziA zM84 q84_25 (by decide) s12 hb (v := (h4 12 (Int32.toNatClampNeg a1))) rfl ?_
      refine zl zM84 q84_26 rfl ?_
      refine zb2_ge zM84 q84_27 (tgt := 33) rfl (fun hc => ?_) (fun hc => ?_)
      · have hw := hw.2 hc
        refine zl zM84 q84_33 rfl ?_
        refine zl zM84 q84_34 rfl ?_
        refine zgR (a := 13) zM84 q84_35 (by decide) g11_23 s0 rfl ?_
        refine zl zM84 q84_38 rfl ?_
        refine zl zM84 q84_39 rfl ?_
        refine zgI zM84 q84_40 (by decide) g11_118 s0 rfl (v := (h4 0 16)) rfl ?_
        refine zl zM84 q84_43 rfl ?_
        refine zgI zM84 q84_44 (by decide) g11_118 s0 rfl (v := (h4 0 16)) rfl ?_
        refine zcV zM84 q84_47 kl11_193 rfl rfl (Nat.le_of_ble_eq_true rfl) rfl zM41 (Nat.le_of_ble_eq_true rfl) (hw.mono (fun r0 h6 hr10 => ?_))
        obtain ⟨v5, rfl, hw⟩ := hr10
        show zP X (d + 2) 84 50 [some (.ref 0), some (.int a1), some (.int a2), none] [.int v5, .int a2] z_S0 h6 (zI A)
        refine zcS zM84 q84_50 ky11_196 kl11_196 (by decide) rfl (Nat.le_of_ble_eq_true rfl) zM127 (Nat.le_of_ble_eq_true rfl) (hw.mono (fun r0 h8 hr9 => ?_))
        obtain ⟨v7, rfl, hw⟩ := hr9
        show zP X (d + 2) 84 53 [some (.ref 0), some (.int a1), some (.int a2), none] [.int v7] z_S0 h8 (zI A)
        refine zl zM84 q84_53 (ls' := [some (.ref 0), some (.int a1), some (.int a2), some (.int v7)]) rfl ?_
        refine zl zM84 q84_54 rfl ?_
        refine zgR (a := 12) zM84 q84_55 (by decide) g11_16 s0 rfl ?_
        refine zl zM84 q84_58 rfl ?_
        refine zl zM84 q84_59 rfl ?_
        obtain ⟨hb, hw⟩ := hw
        refine ziA zM84 q84_60 (by decide) s12 hb (v := (h8 12 (Int32.toNatClampNeg a1))) rfl ?_
        refine zl zM84 q84_61 rfl ?_
        refine zl zM84 q84_62 (pc' := 63) (st' := .int ((h8 12 (Int32.toNatClampNeg a1)) - a2) :: _) rfl ?_
        obtain ⟨hb, hw⟩ := hw
        refine ziS zM84 q84_63 (by decide) s12 hb rfl ?_
        refine zl zM84 q84_64 rfl ?_
        refine zl zM84 q84_65 rfl ?_
        refine zgI zM84 q84_66 (by decide) g11_199 s0 rfl (v := (h8 0 17)) rfl ?_
        refine zl zM84 q84_69 rfl ?_
        refine zl zM84 q84_70 (pc' := 71) (st' := .int ((h8 0 17) + v7) :: _) rfl ?_
        refine zpi zM84 q84_71 (by decide) g11_199 s0 rfl rfl ?_
        refine zl zM84 q84_74 rfl ?_
        exact zri zM84 q84_75 rfl rfl hw
      · have hw := hw.1 hc
        refine zkB zM84 q84_30 kBm3 ?_
        exact zri zM84 q84_32 rfl rfl hw
    · have hw := hw.1 hc
      refine zkB zM84 q84_17 kBm2 ?_
      exact zri zM84 q84_19 rfl rfl hw

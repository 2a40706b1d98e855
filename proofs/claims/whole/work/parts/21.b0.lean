-- X0_put
theorem b2 {X : Option (List Int32)} {d : Nat} {h : zH} {A : Int32 → zH → Prop} {a1 : Int32} {a2 : Int32} (hw : (z_ib (h 65 2) 8 ∧ (z_ib (h 65 2) 8 ∧ A (((h 65 2) + 1) - 1) (z_up (z_up (z_up h 66 (Int32.toNatClampNeg (h 65 2)) a1) 67 (Int32.toNatClampNeg (h 65 2)) a2) 65 2 ((h 65 2) + 1))))) : zP X d 2 0 (z_ent [.ref 65, .int a1, .int a2] 3) [] z_S0 h (zI A) := by
  show zP X d 2 0 [some (.ref 65), some (.int a1), some (.int a2)] [] z_S0 h (zI A)
  refine zl zM2 q2_0 rfl ?_
  refine zgR (a := 66) zM2 q2_1 (by decide) g0_9 s65 rfl ?_
  refine zl zM2 q2_4 rfl ?_
  refine zgI zM2 q2_5 (by decide) g0_18 s65 rfl (v := (h 65 2)) rfl ?_
  refine zl zM2 q2_8 rfl ?_
  obtain ⟨hb, hw⟩ := hw
  refine ziS zM2 q2_9 (by decide) s66 hb rfl ?_
  refine zl zM2 q2_10 rfl ?_
  refine zgR (a := 67) zM2 q2_11 (by decide) g0_15 s65 rfl ?_
  refine zl zM2 q2_14 rfl ?_
  refine zgI zM2 q2_15 (by decide) g0_18 s65 rfl (v := (h 65 2)) rfl ?_
  refine zl zM2 q2_18 rfl ?_
  obtain ⟨hb, hw⟩ := hw
  refine ziS zM2 q2_19 (by decide) s67 hb rfl ?_
  refine zl zM2 q2_20 rfl ?_
  refine zl zM2 q2_21 rfl ?_
  refine zgI zM2 q2_22 (by decide) g0_18 s65 rfl (v := (h 65 2)) rfl ?_
  refine zkI zM2 q2_25 kI1 ?_
  refine zl zM2 q2_26 (pc' := 27) (st' := .int ((h 65 2) + 1) :: _) rfl ?_
  refine zpi zM2 q2_27 (by decide) g0_18 s65 rfl rfl ?_
  refine zl zM2 q2_30 rfl ?_
  refine zgI zM2 q2_31 (by decide) g0_18 s65 rfl (v := ((h 65 2) + 1)) rfl ?_
  refine zkI zM2 q2_34 kI1 ?_
  refine zl zM2 q2_35 (pc' := 36) (st' := .int (((h 65 2) + 1) - 1) :: _) rfl ?_
  exact zri zM2 q2_36 rfl rfl hw
-- X0_bestSet
theorem b3 {X : Option (List Int32)} {d : Nat} {h : zH} {A : Int32 → zH → Prop} {a1 : Int32} (hw : zP X (d + 1) 3 10 [some (.ref 65), some (.int a1), some (.int 0), some (.int 0), some (.int 0), some (.int 1), none, none] [] z_S0 h (zI A)) : zP X (d + 1) 3 0 (z_ent [.ref 65, .int a1] 8) [] z_S0 h (zI A) := by
  show zP X (d + 1) 3 0 [some (.ref 65), some (.int a1), none, none, none, none, none, none] [] z_S0 h (zI A)
  refine zkI zM3 q3_0 kI0 ?_
  refine zl zM3 q3_1 (ls' := [some (.ref 65), some (.int a1), some (.int 0), none, none, none, none, none]) rfl ?_
  refine zkI zM3 q3_2 kI0 ?_
  refine zl zM3 q3_3 (ls' := [some (.ref 65), some (.int a1), some (.int 0), some (.int 0), none, none, none, none]) rfl ?_
  refine zkI zM3 q3_4 kI0 ?_
  refine zl zM3 q3_5 (ls' := [some (.ref 65), some (.int a1), some (.int 0), some (.int 0), some (.int 0), none, none, none]) rfl ?_
  refine zkI zM3 q3_7 kI1 ?_
  refine zl zM3 q3_8 (ls' := [some (.ref 65), some (.int a1), some (.int 0), some (.int 0), some (.int 0), some (.int 1), none, none]) rfl ?_
  exact hw
theorem b3_10 {X : Option (List Int32)} {d : Nat} {h : zH} {A : Int32 → zH → Prop} {l1 : Int32} {l2 : Int32} {l3 : Int32} {l4 : Int32} {l5 : Int32} (hw : ((l5 < (1 <<< ((h 65 2) &&& 31)) → zP X d 4 0 (z_ent [.ref 65, .ref 66, .int l5] 5) [] z_S0 h (zI fun v1 h2 => zP X d 4 0 (z_ent [.ref 65, .ref 67, .int l5] 5) [] z_S0 h2 (zI fun v3 h4 => ((l1 < v1 → zP X (d + 1) 3 81 [some (.ref 65), some (.int l1), some (.int l2), some (.int l3), some (.int l4), some (.int l5), none, none] [] z_S0 h4 (zI A)) ∧ (¬ l1 < v1 → ((l4 < v3 → zP X (d + 1) 3 71 [some (.ref 65), some (.int l1), none, none, none, some (.int l5), some (.int v1), some (.int v3)] [] z_S0 h4 (zI A)) ∧ (¬ l4 < v3 → ((v3 = l4 → ((v1 < l3 → zP X (d + 1) 3 71 [some (.ref 65), some (.int l1), none, none, none, some (.int l5), some (.int v1), some (.int v3)] [] z_S0 h4 (zI A)) ∧ (¬ v1 < l3 → zP X (d + 1) 3 81 [some (.ref 65), some (.int l1), some (.int l2), some (.int l3), some (.int l4), some (.int l5), none, none] [] z_S0 h4 (zI A)))) ∧ (¬ v3 = l4 → zP X (d + 1) 3 81 [some (.ref 65), some (.int l1), some (.int l2), some (.int l3), some (.int l4), some (.int l5), none, none] [] z_S0 h4 (zI A)))))))))) ∧ (¬ l5 < (1 <<< ((h 65 2) &&& 31)) → A l2 h))) : zP X (d + 1) 3 10 [some (.ref 65), some (.int l1), some (.int l2), some (.int l3), some (.int l4), some (.int l5), none, none] [] z_S0 h (zI A) := by
  refine zl zM3 q3_10 rfl ?_
  refine zkI zM3 q3_12 kI1 ?_
  refine zl zM3 q3_13 rfl ?_
  refine zgI zM3 q3_14 (by decide) g0_18 s65 rfl (v := (h 65 2)) rfl ?_
  refine zl zM3 q3_17 (pc' := 18) (st' := .int (1 <<< ((h 65 2) &&& 31)) :: _) rfl ?_
  refine zb2_ge zM3 q3_18 (tgt := 87) rfl (fun hc => ?_) (fun hc => ?_)
  · have hw := hw.2 hc
    refine zl zM3 q3_87 rfl ?_
    exact zri zM3 q3_88 rfl rfl hw
  · have hw := hw.1 hc
    refine zl zM3 q3_21 rfl ?_
    refine zl zM3 q3_22 rfl ?_
    refine zgR (a := 66) zM3 q3_23 (by decide) g0_9 s65 rfl ?_
    refine zl zM3 q3_26 rfl ?_
    refine zcV zM3 q3_28 kl0_22 rfl rfl (Nat.le_of_ble_eq_true rfl) rfl zM4 (Nat.le_of_ble_eq_true rfl) (hw.mono (fun r0 h2 hr6 => ?_))
    obtain ⟨v1, rfl, hw⟩ := hr6
    show zP X (d + 1) 3 31 [some (.ref 65), some (.int l1), some (.int l2), some (.int l3), some (.int l4), some (.int l5), none, none] [.int v1] z_S0 h2 (zI A)
    refine zl zM3 q3_31 (ls' := [some (.ref 65), some (.int l1), some (.int l2), some (.int l3), some (.int l4), some (.int l5), some (.int v1), none]) rfl ?_
    refine zl zM3 q3_33 rfl ?_
    refine zl zM3 q3_34 rfl ?_
    refine zgR (a := 67) zM3 q3_35 (by decide) g0_15 s65 rfl ?_
    refine zl zM3 q3_38 rfl ?_
    refine zcV zM3 q3_40 kl0_22 rfl rfl (Nat.le_of_ble_eq_true rfl) rfl zM4 (Nat.le_of_ble_eq_true rfl) (hw.mono (fun r0 h4 hr5 => ?_))
    obtain ⟨v3, rfl, hw⟩ := hr5
    show zP X (d + 1) 3 43 [some (.ref 65), some (.int l1), some (.int l2), some (.int l3), some (.int l4), some (.int l5), some (.int v1), none] [.int v3] z_S0 h4 (zI A)
    refine zl zM3 q3_43 (ls' := [some (.ref 65), some (.int l1), some (.int l2), some (.int l3), some (.int l4), some (.int l5), some (.int v1), some (.int v3)]) rfl ?_
    refine zl zM3 q3_45 rfl ?_
    refine zl zM3 q3_47 rfl ?_
    refine zb2_gt zM3 q3_48 (tgt := 81) rfl (fun hc => ?_) (fun hc => ?_)
    · have hw := hw.1 hc
      refine zweak (a := [some (.ref 65), some (.int l1), some (.int l2), some (.int l3), some (.int l4), some (.int l5), none, none]) ?_ hw
      exact ⟨rfl, ⟨rfl, ⟨rfl, ⟨rfl, ⟨rfl, ⟨rfl, trivial⟩⟩⟩⟩⟩⟩
    · have hw := hw.2 hc
      refine zl zM3 q3_51 rfl ?_
      refine zl zM3 q3_53 rfl ?_
      refine zb2_gt zM3 q3_55 (tgt := 71) rfl (fun hc => ?_) (fun hc => ?_)
      · have hw := hw.1 hc
        refine zweak (a := [some (.ref 65), some (.int l1), none, none, none, some (.int l5), some (.int v1), some (.int v3)]) ?_ hw
        exact ⟨rfl, ⟨rfl, ⟨rfl, ⟨rfl, ⟨rfl, trivial⟩⟩⟩⟩⟩
      · have hw := hw.2 hc
        refine zl zM3 q3_58 rfl ?_
        refine zl zM3 q3_60 rfl ?_
        refine zb2_ne zM3 q3_62 (tgt := 81) rfl (fun hc => ?_) (fun hc => ?_)
        · have hw := hw.2 hc
          refine zweak (a := [some (.ref 65), some (.int l1), some (.int l2), some (.int l3), some (.int l4), some (.int l5), none, none]) ?_ hw
          exact ⟨rfl, ⟨rfl, ⟨rfl, ⟨rfl, ⟨rfl, ⟨rfl, trivial⟩⟩⟩⟩⟩⟩
        · have hw := hw.1 hc
          refine zl zM3 q3_65 rfl ?_
          refine zl zM3 q3_67 rfl ?_
          refine zb2_ge zM3 q3_68 (tgt := 81) rfl (fun hc => ?_) (fun hc => ?_)
          · have hw := hw.2 hc
            refine zweak (a := [some (.ref 65), some (.int l1), some (.int l2), some (.int l3), some (.int l4), some (.int l5), none, none]) ?_ hw
            exact ⟨rfl, ⟨rfl, ⟨rfl, ⟨rfl, ⟨rfl, ⟨rfl, trivial⟩⟩⟩⟩⟩⟩
          · have hw := hw.1 hc
            refine zweak (a := [some (.ref 65), some (.int l1), none, none, none, some (.int l5), some (.int v1), some (.int v3)]) ?_ hw
            exact ⟨rfl, ⟨rfl, ⟨rfl, ⟨rfl, ⟨rfl, trivial⟩⟩⟩⟩⟩
theorem b3_81 {X : Option (List Int32)} {d : Nat} {h : zH} {A : Int32 → zH → Prop} {l1 : Int32} {l2 : Int32} {l3 : Int32} {l4 : Int32} {l5 : Int32} (hw : zP X (d + 1) 3 10 [some (.ref 65), some (.int l1), some (.int l2), some (.int l3), some (.int l4), some (.int (l5 + 1)), none, none] [] z_S0 h (zI A)) : zP X (d + 1) 3 81 [some (.ref 65), some (.int l1), some (.int l2), some (.int l3), some (.int l4), some (.int l5), none, none] [] z_S0 h (zI A) := by
  refine zl zM3 q3_81 (ls' := [some (.ref 65), some (.int l1), some (.int l2), some (.int l3), some (.int l4), some (.int (l5 + 1)), none, none]) rfl ?_
  refine zl zM3 q3_84 (pc' := 10) (ls' := _) (st' := _) rfl ?_
  exact hw
theorem b3_71 {X : Option (List Int32)} {d : Nat} {h : zH} {A : Int32 → zH → Prop} {l1 : Int32} {l5 : Int32} {l6 : Int32} {l7 : Int32} (hw : zP X (d + 1) 3 81 [some (.ref 65), some (.int l1), some (.int l5), some (.int l6), some (.int l7), some (.int l5), none, none] [] z_S0 h (zI A)) : zP X (d + 1) 3 71 [some (.ref 65), some (.int l1), none, none, none, some (.int l5), some (.int l6), some (.int l7)] [] z_S0 h (zI A) := by
  refine zl zM3 q3_71 rfl ?_
  refine zl zM3 q3_73 (ls' := [some (.ref 65), some (.int l1), some (.int l5), none, none, some (.int l5), some (.int l6), some (.int l7)]) rfl ?_
  refine zl zM3 q3_74 rfl ?_
  refine zl zM3 q3_76 (ls' := [some (.ref 65), some (.int l1), some (.int l5), some (.int l6), none, some (.int l5), some (.int l6), some (.int l7)]) rfl ?_
  refine zl zM3 q3_77 rfl ?_
  refine zl zM3 q3_79 (ls' := [some (.ref 65), some (.int l1), some (.int l5), some (.int l6), some (.int l7), some (.int l5), some (.int l6), some (.int l7)]) rfl ?_
  refine zweak (a := [some (.ref 65), some (.int l1), some (.int l5), some (.int l6), some (.int l7), some (.int l5), none, none]) ?_ hw
  exact ⟨rfl, ⟨rfl, ⟨rfl, ⟨rfl, ⟨rfl, ⟨rfl, trivial⟩⟩⟩⟩⟩⟩
-- X0_together
theorem b4f {X : Option (List Int32)} {d : Nat} {h : zH} {A : Int32 → zH → Prop} {a2 : Int32} (hw : zP X d 4 5 [some (.ref 65), some (.ref 67), some (.int a2), some (.int 0), some (.int 0)] [] z_S0 h (zI A)) : zP X d 4 0 (z_ent [.ref 65, .ref 67, .int a2] 5) [] z_S0 h (zI A) := by
  show zP X d 4 0 [some (.ref 65), some (.ref 67), some (.int a2), none, none] [] z_S0 h (zI A)
  refine zkI zM4 q4_0 kI0 ?_
  refine zl zM4 q4_1 (ls' := [some (.ref 65), some (.ref 67), some (.int a2), some (.int 0), none]) rfl ?_
  refine zkI zM4 q4_2 kI0 ?_
  refine zl zM4 q4_3 (ls' := [some (.ref 65), some (.ref 67), some (.int a2), some (.int 0), some (.int 0)]) rfl ?_
  exact hw
theorem b4f_5 {X : Option (List Int32)} {d : Nat} {h : zH} {A : Int32 → zH → Prop} {l2 : Int32} {l3 : Int32} {l4 : Int32} (hw : ((l4 < (h 65 2) → ((((l2 >>> (l4 &&& 31)) &&& 1) = 1 → (z_ib l4 8 ∧ zP X d 4 33 [some (.ref 65), some (.ref 67), some (.int l2), none, some (.int l4)] [.int (h 67 (Int32.toNatClampNeg l4)), .int l3] z_S0 h (zI A))) ∧ (¬ ((l2 >>> (l4 &&& 31)) &&& 1) = 1 → zP X d 4 33 [some (.ref 65), some (.ref 67), some (.int l2), none, some (.int l4)] [.int 0, .int l3] z_S0 h (zI A)))) ∧ (¬ l4 < (h 65 2) → A l3 h))) : zP X d 4 5 [some (.ref 65), some (.ref 67), some (.int l2), some (.int l3), some (.int l4)] [] z_S0 h (zI A) := by
  refine zl zM4 q4_5 rfl ?_
  refine zl zM4 q4_7 rfl ?_
  refine zgI zM4 q4_8 (by decide) g0_18 s65 rfl (v := (h 65 2)) rfl ?_
  refine zb2_ge zM4 q4_11 (tgt := 41) rfl (fun hc => ?_) (fun hc => ?_)
  · have hw := hw.2 hc
    refine zl zM4 q4_41 rfl ?_
    exact zri zM4 q4_42 rfl rfl hw
  · have hw := hw.1 hc
    refine zl zM4 q4_14 rfl ?_
    refine zl zM4 q4_15 rfl ?_
    refine zl zM4 q4_16 rfl ?_
    refine zl zM4 q4_18 (pc' := 19) (st' := .int (l2 >>> (l4 &&& 31)) :: _) rfl ?_
    refine zkI zM4 q4_19 kI1 ?_
    refine zl zM4 q4_20 (pc' := 21) (st' := .int ((l2 >>> (l4 &&& 31)) &&& 1) :: _) rfl ?_
    refine zkI zM4 q4_21 kI1 ?_
    refine zb2_ne zM4 q4_22 (tgt := 32) rfl (fun hc => ?_) (fun hc => ?_)
    · have hw := hw.2 hc
      refine zkI zM4 q4_32 kI0 ?_
      refine zweak (a := [some (.ref 65), some (.ref 67), some (.int l2), none, some (.int l4)]) ?_ hw
      exact ⟨rfl, ⟨rfl, ⟨rfl, ⟨rfl, trivial⟩⟩⟩⟩
    · have hw := hw.1 hc
      refine zl zM4 q4_25 rfl ?_
      refine zl zM4 q4_26 rfl ?_
      obtain ⟨hb, hw⟩ := hw
      refine ziA zM4 q4_28 (by decide) s67 hb (v := (h 67 (Int32.toNatClampNeg l4))) rfl ?_
      refine zl zM4 q4_29 (pc' := 33) (ls' := _) (st' := _) rfl ?_
      refine zweak (a := [some (.ref 65), some (.ref 67), some (.int l2), none, some (.int l4)]) ?_ hw
      exact ⟨rfl, ⟨rfl, ⟨rfl, ⟨rfl, trivial⟩⟩⟩⟩
theorem b4f_33 {X : Option (List Int32)} {d : Nat} {h : zH} {A : Int32 → zH → Prop} {l2 : Int32} {l4 : Int32} {w0 : Int32} {w1 : Int32} (hw : zP X d 4 5 [some (.ref 65), some (.ref 67), some (.int l2), some (.int (w0 + w1)), some (.int (l4 + 1))] [] z_S0 h (zI A)) : zP X d 4 33 [some (.ref 65), some (.ref 67), some (.int l2), none, some (.int l4)] [.int w1, .int w0] z_S0 h (zI A) := by
  refine zl zM4 q4_33 (pc' := 34) (st' := .int (w0 + w1) :: _) rfl ?_
  refine zl zM4 q4_34 (ls' := [some (.ref 65), some (.ref 67), some (.int l2), some (.int (w0 + w1)), some (.int l4)]) rfl ?_
  refine zl zM4 q4_35 (ls' := [some (.ref 65), some (.ref 67), some (.int l2), some (.int (w0 + w1)), some (.int (l4 + 1))]) rfl ?_
  refine zl zM4 q4_38 (pc' := 5) (ls' := _) (st' := _) rfl ?_
  exact hw
-- X0_together
theorem b4w {X : Option (List Int32)} {d : Nat} {h : zH} {A : Int32 → zH → Prop} {a2 : Int32} (hw : zP X d 4 5 [some (.ref 65), some (.ref 66), some (.int a2), some (.int 0), some (.int 0)] [] z_S0 h (zI A)) : zP X d 4 0 (z_ent [.ref 65, .ref 66, .int a2] 5) [] z_S0 h (zI A) := by
  show zP X d 4 0 [some (.ref 65), some (.ref 66), some (.int a2), none, none] [] z_S0 h (zI A)
  refine zkI zM4 q4_0 kI0 ?_
  refine zl zM4 q4_1 (ls' := [some (.ref 65), some (.ref 66), some (.int a2), some (.int 0), none]) rfl ?_
  refine zkI zM4 q4_2 kI0 ?_
  refine zl zM4 q4_3 (ls' := [some (.ref 65), some (.ref 66), some (.int a2), some (.int 0), some (.int 0)]) rfl ?_
  exact hw
theorem b4w_5 {X : Option (List Int32)} {d : Nat} {h : zH} {A : Int32 → zH → Prop} {l2 : Int32} {l3 : Int32} {l4 : Int32} (hw : ((l4 < (h 65 2) → ((((l2 >>> (l4 &&& 31)) &&& 1) = 1 → (z_ib l4 8 ∧ zP X d 4 33 [some (.ref 65), some (.ref 66), some (.int l2), none, some (.int l4)] [.int (h 66 (Int32.toNatClampNeg l4)), .int l3] z_S0 h (zI A))) ∧ (¬ ((l2 >>> (l4 &&& 31)) &&& 1) = 1 → zP X d 4 33 [some (.ref 65), some (.ref 66), some (.int l2), none, some (.int l4)] [.int 0, .int l3] z_S0 h (zI A)))) ∧ (¬ l4 < (h 65 2) → A l3 h))) : zP X d 4 5 [some (.ref 65), some (.ref 66), some (.int l2), some (.int l3), some (.int l4)] [] z_S0 h (zI A) := by
  refine zl zM4 q4_5 rfl ?_
  refine zl zM4 q4_7 rfl ?_
  refine zgI zM4 q4_8 (by decide) g0_18 s65 rfl (v := (h 65 2)) rfl ?_
  refine zb2_ge zM4 q4_11 (tgt := 41) rfl (fun hc => ?_) (fun hc => ?_)
  · have hw := hw.2 hc
    refine zl zM4 q4_41 rfl ?_
    exact zri zM4 q4_42 rfl rfl hw
  · have hw := hw.1 hc
    refine zl zM4 q4_14 rfl ?_
    refine zl zM4 q4_15 rfl ?_
    refine zl zM4 q4_16 rfl ?_
    refine zl zM4 q4_18 (pc' := 19) (st' := .int (l2 >>> (l4 &&& 31)) :: _) rfl ?_
    refine zkI zM4 q4_19 kI1 ?_
    refine zl zM4 q4_20 (pc' := 21) (st' := .int ((l2 >>> (l4 &&& 31)) &&& 1) :: _) rfl ?_
    refine zkI zM4 q4_21 kI1 ?_
    refine zb2_ne zM4 q4_22 (tgt := 32) rfl (fun hc => ?_) (fun hc => ?_)
    · have hw := hw.2 hc
      refine zkI zM4 q4_32 kI0 ?_
      refine zweak (a := [some (.ref 65), some (.ref 66), some (.int l2), none, some (.int l4)]) ?_ hw
      exact ⟨rfl, ⟨rfl, ⟨rfl, ⟨rfl, trivial⟩⟩⟩⟩
    · have hw := hw.1 hc
      refine zl zM4 q4_25 rfl ?_
      refine zl zM4 q4_26 rfl ?_
      obtain ⟨hb, hw⟩ := hw
      refine ziA zM4 q4_28 (by decide) s66 hb (v := (h 66 (Int32.toNatClampNeg l4))) rfl ?_
      refine zl zM4 q4_29 (pc' := 33) (ls' := _) (st' := _) rfl ?_
      refine zweak (a := [some (.ref 65), some (.ref 66), some (.int l2), none, some (.int l4)]) ?_ hw
      exact ⟨rfl, ⟨rfl, ⟨rfl, ⟨rfl, trivial⟩⟩⟩⟩
theorem b4w_33 {X : Option (List Int32)} {d : Nat} {h : zH} {A : Int32 → zH → Prop} {l2 : Int32} {l4 : Int32} {w0 : Int32} {w1 : Int32} (hw : zP X d 4 5 [some (.ref 65), some (.ref 66), some (.int l2), some (.int (w0 + w1)), some (.int (l4 + 1))] [] z_S0 h (zI A)) : zP X d 4 33 [some (.ref 65), some (.ref 66), some (.int l2), none, some (.int l4)] [.int w1, .int w0] z_S0 h (zI A) := by
  refine zl zM4 q4_33 (pc' := 34) (st' := .int (w0 + w1) :: _) rfl ?_
  refine zl zM4 q4_34 (ls' := [some (.ref 65), some (.ref 66), some (.int l2), some (.int (w0 + w1)), some (.int l4)]) rfl ?_
  refine zl zM4 q4_35 (ls' := [some (.ref 65), some (.ref 66), some (.int l2), some (.int (w0 + w1)), some (.int (l4 + 1))]) rfl ?_
  refine zl zM4 q4_38 (pc' := 5) (ls' := _) (st' := _) rfl ?_
  exact hw
-- X1_put
theorem b6 {X : Option (List Int32)} {d : Nat} {h : zH} {A : Int32 → zH → Prop} {a1 : Int32} {a2 : Int32} (hw : (z_ib (h 68 4) 6 ∧ (z_ib (h 68 4) 6 ∧ A (((h 68 4) + 1) - 1) (z_up (z_up (z_up h 69 (Int32.toNatClampNeg (h 68 4)) a1) 70 (Int32.toNatClampNeg (h 68 4)) a2) 68 4 ((h 68 4) + 1))))) : zP X d 6 0 (z_ent [.ref 68, .int a1, .int a2] 3) [] z_S0 h (zI A) := by
  show zP X d 6 0 [some (.ref 68), some (.int a1), some (.int a2)] [] z_S0 h (zI A)
  refine zl zM6 q6_0 rfl ?_
  refine zgR (a := 69) zM6 q6_1 (by decide) g1_9 s68 rfl ?_
  refine zl zM6 q6_4 rfl ?_
  refine zgI zM6 q6_5 (by decide) g1_25 s68 rfl (v := (h 68 4)) rfl ?_
  refine zl zM6 q6_8 rfl ?_
  obtain ⟨hb, hw⟩ := hw
  refine ziS zM6 q6_9 (by decide) s69 hb rfl ?_
  refine zl zM6 q6_10 rfl ?_
  refine zgR (a := 70) zM6 q6_11 (by decide) g1_15 s68 rfl ?_
  refine zl zM6 q6_14 rfl ?_
  refine zgI zM6 q6_15 (by decide) g1_25 s68 rfl (v := (h 68 4)) rfl ?_
  refine zl zM6 q6_18 rfl ?_
  obtain ⟨hb, hw⟩ := hw
  refine ziS zM6 q6_19 (by decide) s70 hb rfl ?_
  refine zl zM6 q6_20 rfl ?_
  refine zl zM6 q6_21 rfl ?_
  refine zgI zM6 q6_22 (by decide) g1_25 s68 rfl (v := (h 68 4)) rfl ?_
  refine zkI zM6 q6_25 kI1 ?_
  refine zl zM6 q6_26 (pc' := 27) (st' := .int ((h 68 4) + 1) :: _) rfl ?_
  refine zpi zM6 q6_27 (by decide) g1_25 s68 rfl rfl ?_
  refine zl zM6 q6_30 rfl ?_
  refine zgI zM6 q6_31 (by decide) g1_25 s68 rfl (v := ((h 68 4) + 1)) rfl ?_
  refine zkI zM6 q6_34 kI1 ?_
  refine zl zM6 q6_35 (pc' := 36) (st' := .int (((h 68 4) + 1) - 1) :: _) rfl ?_
  exact zri zM6 q6_36 rfl rfl hw
-- X1_part
theorem b7 {X : Option (List Int32)} {d : Nat} {h : zH} {A : zH → Prop} {a1 : Int32} (hw : zP X d 222 0 (z_ent [.ref 72, .int 0] 4) [] z_S0 h (zV fun h3 => zP X (d + 1) 7 15 [some (.ref 68), none, some (.int a1), some (.int 0), some (.int 0), none] [] z_S0 h3 (zV A))) : zP X (d + 1) 7 0 (z_ent [.ref 68, .int a1] 6) [] z_S0 h (zV A) := by
  show zP X (d + 1) 7 0 [some (.ref 68), some (.int a1), none, none, none, none] [] z_S0 h (zV A)
  refine zl zM7 q7_0 rfl ?_
  refine zgR (a := 72) zM7 q7_1 (by decide) g1_22 s68 rfl ?_
  refine zkI zM7 q7_4 kI0 ?_
  refine zcS zM7 q7_5 ky1_29 kl1_29 (by decide) rfl (Nat.le_of_ble_eq_true rfl) zM222 (Nat.le_of_ble_eq_true rfl) (hw.mono (fun r0 h3 hr4 => ?_))
  obtain ⟨rfl, hw⟩ := hr4
  show zP X (d + 1) 7 8 [some (.ref 68), some (.int a1), none, none, none, none] [] z_S0 h3 (zV A)
  refine zl zM7 q7_8 rfl ?_
  refine zl zM7 q7_9 (ls' := [some (.ref 68), some (.int a1), some (.int a1), none, none, none]) rfl ?_
  refine zkI zM7 q7_10 kI0 ?_
  refine zl zM7 q7_11 (ls' := [some (.ref 68), some (.int a1), some (.int a1), some (.int 0), none, none]) rfl ?_
  refine zkI zM7 q7_12 kI0 ?_
  refine zl zM7 q7_13 (ls' := [some (.ref 68), some (.int a1), some (.int a1), some (.int 0), some (.int 0), none]) rfl ?_
  refine zweak (a := [some (.ref 68), none, some (.int a1), some (.int 0), some (.int 0), none]) ?_ hw
  exact ⟨rfl, ⟨rfl, ⟨rfl, ⟨rfl, trivial⟩⟩⟩⟩
theorem b7_15 {X : Option (List Int32)} {d : Nat} {h : zH} {A : zH → Prop} {l2 : Int32} {l3 : Int32} {l4 : Int32} (hw : ((l4 < (h 68 4) → zP X d 8 0 (z_ent [.ref 68, .int l3] 5) [] z_S0 h (zI fun v5 h6 => ((v5 = (-1) → A h6) ∧ (¬ v5 = (-1) → (z_ib v5 6 ∧ zP X d 215 0 (z_ent [.int l2, .int (h6 69 (Int32.toNatClampNeg v5))] 2) [] z_S0 h6 (zI fun v7 h8 => (z_ib v5 6 ∧ (z_ib v5 6 ∧ zP X (d + 1) 7 15 [some (.ref 68), none, some (.int (l2 - ((z_up h8 72 (Int32.toNatClampNeg v5) v7) 72 (Int32.toNatClampNeg v5)))), some (.int (l3 ||| (1 <<< (v5 &&& 31)))), some (.int (l4 + 1)), none] [] z_S0 (z_up h8 72 (Int32.toNatClampNeg v5) v7) (zV A))))))))) ∧ (¬ l4 < (h 68 4) → A h))) : zP X (d + 1) 7 15 [some (.ref 68), none, some (.int l2), some (.int l3), some (.int l4), none] [] z_S0 h (zV A) := by
  refine zl zM7 q7_15 rfl ?_
  refine zl zM7 q7_17 rfl ?_
  refine zgI zM7 q7_18 (by decide) g1_25 s68 rfl (v := (h 68 4)) rfl ?_
  refine zb2_ge zM7 q7_21 (tgt := 79) rfl (fun hc => ?_) (fun hc => ?_)
  · have hw := hw.2 hc
    exact zrv zM7 q7_79 rfl hw
  · have hw := hw.1 hc
    refine zl zM7 q7_24 rfl ?_
    refine zl zM7 q7_25 rfl ?_
    refine zcV zM7 q7_26 kl1_35 rfl rfl (Nat.le_of_ble_eq_true rfl) rfl zM8 (Nat.le_of_ble_eq_true rfl) (hw.mono (fun r0 h6 hr10 => ?_))
    obtain ⟨v5, rfl, hw⟩ := hr10
    show zP X (d + 1) 7 29 [some (.ref 68), none, some (.int l2), some (.int l3), some (.int l4), none] [.int v5] z_S0 h6 (zV A)
    refine zl zM7 q7_29 (ls' := [some (.ref 68), none, some (.int l2), some (.int l3), some (.int l4), some (.int v5)]) rfl ?_
    refine zl zM7 q7_31 rfl ?_
    refine zkI zM7 q7_33 kIm1 ?_
    refine zb2_ne zM7 q7_34 (tgt := 38) rfl (fun hc => ?_) (fun hc => ?_)
    · have hw := hw.2 hc
      refine zl zM7 q7_38 rfl ?_
      refine zkI zM7 q7_39 kI1 ?_
      refine zl zM7 q7_40 rfl ?_
      refine zl zM7 q7_42 (pc' := 43) (st' := .int (1 <<< (v5 &&& 31)) :: _) rfl ?_
      refine zl zM7 q7_43 (pc' := 44) (st' := .int (l3 ||| (1 <<< (v5 &&& 31))) :: _) rfl ?_
      refine zl zM7 q7_44 (ls' := [some (.ref 68), none, some (.int l2), some (.int (l3 ||| (1 <<< (v5 &&& 31)))), some (.int l4), some (.int v5)]) rfl ?_
      refine zl zM7 q7_45 rfl ?_
      refine zgR (a := 72) zM7 q7_46 (by decide) g1_22 s68 rfl ?_
      refine zl zM7 q7_49 rfl ?_
      refine zl zM7 q7_51 rfl ?_
      refine zl zM7 q7_52 rfl ?_
      refine zgR (a := 69) zM7 q7_53 (by decide) g1_9 s68 rfl ?_
      refine zl zM7 q7_56 rfl ?_
      obtain ⟨hb, hw⟩ := hw
      refine ziA zM7 q7_58 (by decide) s69 hb (v := (h6 69 (Int32.toNatClampNeg v5))) rfl ?_
      refine zcS zM7 q7_59 ky1_39 kl1_39 (by decide) rfl (Nat.le_of_ble_eq_true rfl) zM215 (Nat.le_of_ble_eq_true rfl) (hw.mono (fun r0 h8 hr9 => ?_))
      obtain ⟨v7, rfl, hw⟩ := hr9
      show zP X (d + 1) 7 62 [some (.ref 68), none, some (.int l2), some (.int (l3 ||| (1 <<< (v5 &&& 31)))), some (.int l4), some (.int v5)] [.int v7, .int v5, .ref 72] z_S0 h8 (zV A)
      obtain ⟨hb, hw⟩ := hw
      refine ziS zM7 q7_62 (by decide) s72 hb rfl ?_
      refine zl zM7 q7_63 rfl ?_
      refine zl zM7 q7_64 rfl ?_
      refine zgR (a := 72) zM7 q7_65 (by decide) g1_22 s68 rfl ?_
      refine zl zM7 q7_68 rfl ?_
      obtain ⟨hb, hw⟩ := hw
      refine ziA zM7 q7_70 (by decide) s72 hb (v := ((z_up h8 72 (Int32.toNatClampNeg v5) v7) 72 (Int32.toNatClampNeg v5))) rfl ?_
      refine zl zM7 q7_71 (pc' := 72) (st' := .int (l2 - ((z_up h8 72 (Int32.toNatClampNeg v5) v7) 72 (Int32.toNatClampNeg v5))) :: _) rfl ?_
      refine zl zM7 q7_72 (ls' := [some (.ref 68), none, some (.int (l2 - ((z_up h8 72 (Int32.toNatClampNeg v5) v7) 72 (Int32.toNatClampNeg v5)))), some (.int (l3 ||| (1 <<< (v5 &&& 31)))), some (.int l4), some (.int v5)]) rfl ?_
      refine zl zM7 q7_73 (ls' := [some (.ref 68), none, some (.int (l2 - ((z_up h8 72 (Int32.toNatClampNeg v5) v7) 72 (Int32.toNatClampNeg v5)))), some (.int (l3 ||| (1 <<< (v5 &&& 31)))), some (.int (l4 + 1)), some (.int v5)]) rfl ?_
      refine zl zM7 q7_76 (pc' := 15) (ls' := _) (st' := _) rfl ?_
      refine zweak (a := [some (.ref 68), none, some (.int (l2 - ((z_up h8 72 (Int32.toNatClampNeg v5) v7) 72 (Int32.toNatClampNeg v5)))), some (.int (l3 ||| (1 <<< (v5 &&& 31)))), some (.int (l4 + 1)), none]) ?_ hw
      exact ⟨rfl, ⟨rfl, ⟨rfl, ⟨rfl, trivial⟩⟩⟩⟩
    · have hw := hw.1 hc
      exact zrv zM7 q7_37 rfl hw
-- X1_dearest
theorem b8 {X : Option (List Int32)} {d : Nat} {h : zH} {A : Int32 → zH → Prop} {a1 : Int32} (hw : zP X d 8 4 [some (.ref 68), some (.int a1), some (.int (-1)), some (.int 0), none] [] z_S0 h (zI A)) : zP X d 8 0 (z_ent [.ref 68, .int a1] 5) [] z_S0 h (zI A) := by
  show zP X d 8 0 [some (.ref 68), some (.int a1), none, none, none] [] z_S0 h (zI A)
  refine zkI zM8 q8_0 kIm1 ?_
  refine zl zM8 q8_1 (ls' := [some (.ref 68), some (.int a1), some (.int (-1)), none, none]) rfl ?_
  refine zkI zM8 q8_2 kI0 ?_
  refine zl zM8 q8_3 (ls' := [some (.ref 68), some (.int a1), some (.int (-1)), some (.int 0), none]) rfl ?_
  exact hw
theorem b8_4 {X : Option (List Int32)} {d : Nat} {h : zH} {A : Int32 → zH → Prop} {l1 : Int32} {l2 : Int32} {l3 : Int32} (hw : ((l3 < (h 68 4) → (z_ib l3 6 ∧ (((h 71 (Int32.toNatClampNeg l3)) = 0 → ((((l1 >>> (l3 &&& 31)) &&& 1) = 0 → zP X d 8 34 [some (.ref 68), some (.int l1), some (.int l2), some (.int l3), none] [.int 1] z_S0 h (zI A)) ∧ (¬ ((l1 >>> (l3 &&& 31)) &&& 1) = 0 → zP X d 8 33 [some (.ref 68), some (.int l1), some (.int l2), some (.int l3), none] [] z_S0 h (zI A)))) ∧ (¬ (h 71 (Int32.toNatClampNeg l3)) = 0 → zP X d 8 33 [some (.ref 68), some (.int l1), some (.int l2), some (.int l3), none] [] z_S0 h (zI A))))) ∧ (¬ l3 < (h 68 4) → A l2 h))) : zP X d 8 4 [some (.ref 68), some (.int l1), some (.int l2), some (.int l3), none] [] z_S0 h (zI A) := by
  refine zl zM8 q8_4 rfl ?_
  refine zl zM8 q8_5 rfl ?_
  refine zgI zM8 q8_6 (by decide) g1_25 s68 rfl (v := (h 68 4)) rfl ?_
  refine zb2_ge zM8 q8_9 (tgt := 69) rfl (fun hc => ?_) (fun hc => ?_)
  · have hw := hw.2 hc
    refine zl zM8 q8_69 rfl ?_
    exact zri zM8 q8_70 rfl rfl hw
  · have hw := hw.1 hc
    refine zl zM8 q8_12 rfl ?_
    refine zgR (a := 71) zM8 q8_13 (by decide) g1_18 s68 rfl ?_
    refine zl zM8 q8_16 rfl ?_
    obtain ⟨hb, hw⟩ := hw
    refine zbA zM8 q8_17 (by decide) s71 (by decide) hb (v := (h 71 (Int32.toNatClampNeg l3))) rfl ?_
    refine zb1_ne zM8 q8_18 (tgt := 33) rfl (fun hc => ?_) (fun hc => ?_)
    · have hw := hw.2 hc
      exact hw
    · have hw := hw.1 hc
      refine zl zM8 q8_21 rfl ?_
      refine zl zM8 q8_22 rfl ?_
      refine zl zM8 q8_23 (pc' := 24) (st' := .int (l1 >>> (l3 &&& 31)) :: _) rfl ?_
      refine zkI zM8 q8_24 kI1 ?_
      refine zl zM8 q8_25 (pc' := 26) (st' := .int ((l1 >>> (l3 &&& 31)) &&& 1) :: _) rfl ?_
      refine zb1_ne zM8 q8_26 (tgt := 33) rfl (fun hc => ?_) (fun hc => ?_)
      · have hw := hw.2 hc
        exact hw
      · have hw := hw.1 hc
        refine zkI zM8 q8_29 kI1 ?_
        refine zl zM8 q8_30 (pc' := 34) (ls' := _) (st' := _) rfl ?_
        exact hw
theorem b8_33 {X : Option (List Int32)} {d : Nat} {h : zH} {A : Int32 → zH → Prop} {l1 : Int32} {l2 : Int32} {l3 : Int32} (hw : zP X d 8 34 [some (.ref 68), some (.int l1), some (.int l2), some (.int l3), none] [.int 0] z_S0 h (zI A)) : zP X d 8 33 [some (.ref 68), some (.int l1), some (.int l2), some (.int l3), none] [] z_S0 h (zI A) := by
  refine zkI zM8 q8_33 kI0 ?_
  exact hw
theorem b8_34 {X : Option (List Int32)} {d : Nat} {h : zH} {A : Int32 → zH → Prop} {l1 : Int32} {l2 : Int32} {l3 : Int32} {w0 : Int32} (hw : ((w0 = 0 → zP X d 8 63 [some (.ref 68), some (.int l1), some (.int l2), some (.int l3), none] [] z_S0 h (zI A)) ∧ (¬ w0 = 0 → ((l2 = (-1) → zP X d 8 61 [some (.ref 68), some (.int l1), none, some (.int l3), none] [] z_S0 h (zI A)) ∧ (¬ l2 = (-1) → (z_ib l3 6 ∧ (z_ib l2 6 ∧ (((h 70 (Int32.toNatClampNeg l2)) < (h 70 (Int32.toNatClampNeg l3)) → zP X d 8 61 [some (.ref 68), some (.int l1), none, some (.int l3), none] [] z_S0 h (zI A)) ∧ (¬ (h 70 (Int32.toNatClampNeg l2)) < (h 70 (Int32.toNatClampNeg l3)) → zP X d 8 63 [some (.ref 68), some (.int l1), some (.int l2), some (.int l3), none] [] z_S0 h (zI A)))))))))) : zP X d 8 34 [some (.ref 68), some (.int l1), some (.int l2), some (.int l3), none] [.int w0] z_S0 h (zI A) := by
  refine zl zM8 q8_34 (ls' := [some (.ref 68), some (.int l1), some (.int l2), some (.int l3), some (.int w0)]) rfl ?_
  refine zl zM8 q8_36 rfl ?_
  refine zb1_eq zM8 q8_38 (tgt := 63) rfl (fun hc => ?_) (fun hc => ?_)
  · have hw := hw.1 hc
    refine zweak (a := [some (.ref 68), some (.int l1), some (.int l2), some (.int l3), none]) ?_ hw
    exact ⟨rfl, ⟨rfl, ⟨rfl, ⟨rfl, trivial⟩⟩⟩⟩
  · have hw := hw.2 hc
    refine zl zM8 q8_41 rfl ?_
    refine zkI zM8 q8_42 kIm1 ?_
    refine zb2_eq zM8 q8_43 (tgt := 61) rfl (fun hc => ?_) (fun hc => ?_)
    · have hw := hw.1 hc
      refine zweak (a := [some (.ref 68), some (.int l1), none, some (.int l3), none]) ?_ hw
      exact ⟨rfl, ⟨rfl, ⟨rfl, trivial⟩⟩⟩
    · have hw := hw.2 hc
      refine zl zM8 q8_46 rfl ?_
      refine zgR (a := 70) zM8 q8_47 (by decide) g1_15 s68 rfl ?_
      refine zl zM8 q8_50 rfl ?_
      obtain ⟨hb, hw⟩ := hw
      refine ziA zM8 q8_51 (by decide) s70 hb (v := (h 70 (Int32.toNatClampNeg l3))) rfl ?_
      refine zl zM8 q8_52 rfl ?_
      refine zgR (a := 70) zM8 q8_53 (by decide) g1_15 s68 rfl ?_
      refine zl zM8 q8_56 rfl ?_
      obtain ⟨hb, hw⟩ := hw
      refine ziA zM8 q8_57 (by decide) s70 hb (v := (h 70 (Int32.toNatClampNeg l2))) rfl ?_
      refine zb2_le zM8 q8_58 (tgt := 63) rfl (fun hc => ?_) (fun hc => ?_)
      · have hw := hw.2 hc
        refine zweak (a := [some (.ref 68), some (.int l1), some (.int l2), some (.int l3), none]) ?_ hw
        exact ⟨rfl, ⟨rfl, ⟨rfl, ⟨rfl, trivial⟩⟩⟩⟩
      · have hw := hw.1 hc
        refine zweak (a := [some (.ref 68), some (.int l1), none, some (.int l3), none]) ?_ hw
        exact ⟨rfl, ⟨rfl, ⟨rfl, trivial⟩⟩⟩
theorem b8_63 {X : Option (List Int32)} {d : Nat} {h : zH} {A : Int32 → zH → Prop} {l1 : Int32} {l2 : Int32} {l3 : Int32} (hw : zP X d 8 4 [some (.ref 68), some (.int l1), some (.int l2), some (.int (l3 + 1)), none] [] z_S0 h (zI A)) : zP X d 8 63 [some (.ref 68), some (.int l1), some (.int l2), some (.int l3), none] [] z_S0 h (zI A) := by
  refine zl zM8 q8_63 (ls' := [some (.ref 68), some (.int l1), some (.int l2), some (.int (l3 + 1)), none]) rfl ?_
  refine zl zM8 q8_66 (pc' := 4) (ls' := _) (st' := _) rfl ?_
  exact hw
theorem b8_61 {X : Option (List Int32)} {d : Nat} {h : zH} {A : Int32 → zH → Prop} {l1 : Int32} {l3 : Int32} (hw : zP X d 8 63 [some (.ref 68), some (.int l1), some (.int l3), some (.int l3), none] [] z_S0 h (zI A)) : zP X d 8 61 [some (.ref 68), some (.int l1), none, some (.int l3), none] [] z_S0 h (zI A) := by
  refine zl zM8 q8_61 rfl ?_
  refine zl zM8 q8_62 (ls' := [some (.ref 68), some (.int l1), some (.int l3), some (.int l3), none]) rfl ?_
  exact hw
-- X1_allPence
theorem b9 {X : Option (List Int32)} {d : Nat} {h : zH} {A : Int64 → zH → Prop}  (hw : zP X (d + 1) 9 4 [some (.ref 68), some (.long 0), none, some (.int 0)] [] z_S0 h (zJ A)) : zP X (d + 1) 9 0 (z_ent [.ref 68] 4) [] z_S0 h (zJ A) := by
  show zP X (d + 1) 9 0 [some (.ref 68), none, none, none] [] z_S0 h (zJ A)
  refine zkL (v := 0) zM9 q9_0 rfl ?_
  refine zl zM9 q9_1 (ls' := [some (.ref 68), some (.long 0), none, none]) rfl ?_
  refine zkI zM9 q9_2 kI0 ?_
  refine zl zM9 q9_3 (ls' := [some (.ref 68), some (.long 0), none, some (.int 0)]) rfl ?_
  exact hw
theorem b9_4 {X : Option (List Int32)} {d : Nat} {h : zH} {A : Int64 → zH → Prop} {l1 : Int64} {l3 : Int32} (hw : ((l3 < (h 68 4) → (z_ib l3 6 ∧ (z_ib l3 6 ∧ zP X d 127 0 (z_ent [.int (h 72 (Int32.toNatClampNeg l3)), .int (h 70 (Int32.toNatClampNeg l3))] 2) [] z_S0 h (zI fun v1 h2 => zP X (d + 1) 9 4 [some (.ref 68), some (.long (l1 + (Int32.toInt64 v1))), none, some (.int (l3 + 1))] [] z_S0 h2 (zJ A))))) ∧ (¬ l3 < (h 68 4) → A l1 h))) : zP X (d + 1) 9 4 [some (.ref 68), some (.long l1), none, some (.int l3)] [] z_S0 h (zJ A) := by
  refine zl zM9 q9_4 rfl ?_
  refine zl zM9 q9_5 rfl ?_
  refine zgI zM9 q9_6 (by decide) g1_25 s68 rfl (v := (h 68 4)) rfl ?_
  refine zb2_ge zM9 q9_9 (tgt := 37) rfl (fun hc => ?_) (fun hc => ?_)
  · have hw := hw.2 hc
    refine zl zM9 q9_37 rfl ?_
    exact zrj zM9 q9_38 rfl hw
  · have hw := hw.1 hc
    refine zl zM9 q9_12 rfl ?_
    refine zl zM9 q9_13 rfl ?_
    refine zgR (a := 72) zM9 q9_14 (by decide) g1_22 s68 rfl ?_
    refine zl zM9 q9_17 rfl ?_
    obtain ⟨hb, hw⟩ := hw
    refine ziA zM9 q9_18 (by decide) s72 hb (v := (h 72 (Int32.toNatClampNeg l3))) rfl ?_
    refine zl zM9 q9_19 rfl ?_
    refine zgR (a := 70) zM9 q9_20 (by decide) g1_15 s68 rfl ?_
    refine zl zM9 q9_23 rfl ?_
    obtain ⟨hb, hw⟩ := hw
    refine ziA zM9 q9_24 (by decide) s70 hb (v := (h 70 (Int32.toNatClampNeg l3))) rfl ?_
    refine zcS zM9 q9_25 ky1_45 kl1_45 (by decide) rfl (Nat.le_of_ble_eq_true rfl) zM127 (Nat.le_of_ble_eq_true rfl) (hw.mono (fun r0 h2 hr3 => ?_))
    obtain ⟨v1, rfl, hw⟩ := hr3
    show zP X (d + 1) 9 28 [some (.ref 68), some (.long l1), none, some (.int l3)] [.int v1, .long l1] z_S0 h2 (zJ A)
    refine zl zM9 q9_28 (pc' := 29) (st' := .long (Int32.toInt64 v1) :: _) rfl ?_
    refine zl zM9 q9_29 (pc' := 30) (st' := .long (l1 + (Int32.toInt64 v1)) :: _) rfl ?_
    refine zl zM9 q9_30 (ls' := [some (.ref 68), some (.long (l1 + (Int32.toInt64 v1))), none, some (.int l3)]) rfl ?_
    refine zl zM9 q9_31 (ls' := [some (.ref 68), some (.long (l1 + (Int32.toInt64 v1))), none, some (.int (l3 + 1))]) rfl ?_
    refine zl zM9 q9_34 (pc' := 4) (ls' := _) (st' := _) rfl ?_
    exact hw
-- X2_has
theorem b11 {X : Option (List Int32)} {d : Nat} {h : zH} {A : Int32 → zH → Prop} {a1 : Int32} (hw : zP X d 119 0 (z_ent [.int a1, .int 0, .int ((h 1 10) - 1)] 3) [] z_S0 h (zI fun v1 h2 => ((v1 = 0 ∨ v1 = 1) ∧ A v1 h2))) : zP X (d + 1) 11 0 (z_ent [.ref 1, .int a1] 2) [] z_S0 h (zI A) := by
  show zP X (d + 1) 11 0 [some (.ref 1), some (.int a1)] [] z_S0 h (zI A)
  refine zl zM11 q11_0 rfl ?_
  refine zkI zM11 q11_1 kI0 ?_
  refine zl zM11 q11_2 rfl ?_
  refine zgI zM11 q11_3 (by decide) g2_43 s1 rfl (v := (h 1 10)) rfl ?_
  refine zkI zM11 q11_6 kI1 ?_
  refine zl zM11 q11_7 (pc' := 8) (st' := .int ((h 1 10) - 1) :: _) rfl ?_
  refine zcS zM11 q11_8 ky2_47 kl2_47 (by decide) rfl (Nat.le_of_ble_eq_true rfl) zM119 (Nat.le_of_ble_eq_true rfl) (hw.mono (fun r0 h2 hr3 => ?_))
  obtain ⟨v1, rfl, hw⟩ := hr3
  show zP X (d + 1) 11 11 [some (.ref 1), some (.int a1)] [.int v1] z_S0 h2 (zI A)
  exact zri zM11 q11_11 rfl (z_nb hw.1) hw.2
-- X2_come
theorem b12 {X : Option (List Int32)} {d : Nat} {h : zH} {A : Int32 → zH → Prop} {a1 : Int32} {a2 : Int32} {a3 : Int32} {a4 : Int32} (hw : (z_ib (h 1 10) 40 ∧ (z_ib (h 1 10) 40 ∧ (z_ib (h 1 10) 40 ∧ (z_ib (h 1 10) 40 ∧ A (h 1 10) (z_up (z_up (z_up (z_up (z_up h 2 (Int32.toNatClampNeg (h 1 10)) a1) 3 (Int32.toNatClampNeg (h 1 10)) a2) 4 (Int32.toNatClampNeg (h 1 10)) a3) 5 (Int32.toNatClampNeg (h 1 10)) a4) 1 10 ((h 1 10) + 1))))))) : zP X d 12 0 (z_ent [.ref 1, .int a1, .int a2, .int a3, .int a4] 6) [] z_S0 h (zI A) := by
  show zP X d 12 0 [some (.ref 1), some (.int a1), some (.int a2), some (.int a3), some (.int a4), none] [] z_S0 h (zI A)
  refine zl zM12 q12_0 rfl ?_
  refine zgI zM12 q12_1 (by decide) g2_43 s1 rfl (v := (h 1 10)) rfl ?_
  refine zl zM12 q12_4 (ls' := [some (.ref 1), some (.int a1), some (.int a2), some (.int a3), some (.int a4), some (.int (h 1 10))]) rfl ?_
  refine zl zM12 q12_6 rfl ?_
  refine zgR (a := 2) zM12 q12_7 (by decide) g2_9 s1 rfl ?_
  refine zl zM12 q12_10 rfl ?_
  refine zl zM12 q12_12 rfl ?_
  obtain ⟨hb, hw⟩ := hw
  refine ziS zM12 q12_13 (by decide) s2 hb rfl ?_
  refine zl zM12 q12_14 rfl ?_
  refine zgR (a := 3) zM12 q12_15 (by decide) g2_15 s1 rfl ?_
  refine zl zM12 q12_18 rfl ?_
  refine zl zM12 q12_20 rfl ?_
  obtain ⟨hb, hw⟩ := hw
  refine ziS zM12 q12_21 (by decide) s3 hb rfl ?_
  refine zl zM12 q12_22 rfl ?_
  refine zgR (a := 4) zM12 q12_23 (by decide) g2_18 s1 rfl ?_
  refine zl zM12 q12_26 rfl ?_
  refine zl zM12 q12_28 rfl ?_
  obtain ⟨hb, hw⟩ := hw
  refine ziS zM12 q12_29 (by decide) s4 hb rfl ?_
  refine zl zM12 q12_30 rfl ?_
  refine zgR (a := 5) zM12 q12_31 (by decide) g2_21 s1 rfl ?_
  refine zl zM12 q12_34 rfl ?_
  refine zl zM12 q12_36 rfl ?_
  obtain ⟨hb, hw⟩ := hw
  refine ziS zM12 q12_38 (by decide) s5 hb rfl ?_
  refine zl zM12 q12_39 rfl ?_
  refine zl zM12 q12_40 rfl ?_
  refine zgI zM12 q12_41 (by decide) g2_43 s1 rfl (v := (h 1 10)) rfl ?_
  refine zkI zM12 q12_44 kI1 ?_
  refine zl zM12 q12_45 (pc' := 46) (st' := .int ((h 1 10) + 1) :: _) rfl ?_
  refine zpi zM12 q12_46 (by decide) g2_43 s1 rfl rfl ?_
  refine zl zM12 q12_49 rfl ?_
  exact zri zM12 q12_51 rfl rfl hw
-- X2_weigh
theorem b13 {X : Option (List Int32)} {d : Nat} {h : zH} {A : zH → Prop} {a1 : Int32} {a2 : Int32} {a3 : Int32} {a4 : Int32} (hw : (z_ib a1 40 ∧ (z_ib a1 40 ∧ (z_ib a1 40 ∧ (z_ib a1 40 ∧ (z_ib a1 40 ∧ (z_ib a1 40 ∧ A (z_up (z_up (z_up (z_up (z_up h 6 (Int32.toNatClampNeg a1) a2) 7 (Int32.toNatClampNeg a1) a3) 8 (Int32.toNatClampNeg a1) a4) 9 (Int32.toNatClampNeg a1) (a2 - ((a2 * a3) / 100))) 10 (Int32.toNatClampNeg a1) ((z_up (z_up (z_up (z_up h 6 (Int32.toNatClampNeg a1) a2) 7 (Int32.toNatClampNeg a1) a3) 8 (Int32.toNatClampNeg a1) a4) 9 (Int32.toNatClampNeg a1) (a2 - ((a2 * a3) / 100))) 9 (Int32.toNatClampNeg a1)))))))))) : zP X d 13 0 (z_ent [.ref 1, .int a1, .int a2, .int a3, .int a4] 5) [] z_S0 h (zV A) := by
  show zP X d 13 0 [some (.ref 1), some (.int a1), some (.int a2), some (.int a3), some (.int a4)] [] z_S0 h (zV A)
  refine zl zM13 q13_0 rfl ?_
  refine zgR (a := 6) zM13 q13_1 (by decide) g2_24 s1 rfl ?_
  refine zl zM13 q13_4 rfl ?_
  refine zl zM13 q13_5 rfl ?_
  obtain ⟨hb, hw⟩ := hw
  refine ziS zM13 q13_6 (by decide) s6 hb rfl ?_
  refine zl zM13 q13_7 rfl ?_
  refine zgR (a := 7) zM13 q13_8 (by decide) g2_27 s1 rfl ?_
  refine zl zM13 q13_11 rfl ?_
  refine zl zM13 q13_12 rfl ?_
  obtain ⟨hb, hw⟩ := hw
  refine ziS zM13 q13_13 (by decide) s7 hb rfl ?_
  refine zl zM13 q13_14 rfl ?_
  refine zgR (a := 8) zM13 q13_15 (by decide) g2_30 s1 rfl ?_
  refine zl zM13 q13_18 rfl ?_
  refine zl zM13 q13_19 rfl ?_
  obtain ⟨hb, hw⟩ := hw
  refine ziS zM13 q13_21 (by decide) s8 hb rfl ?_
  refine zl zM13 q13_22 rfl ?_
  refine zgR (a := 9) zM13 q13_23 (by decide) g2_33 s1 rfl ?_
  refine zl zM13 q13_26 rfl ?_
  refine zl zM13 q13_27 rfl ?_
  refine zl zM13 q13_28 rfl ?_
  refine zl zM13 q13_29 rfl ?_
  refine zl zM13 q13_30 (pc' := 31) (st' := .int (a2 * a3) :: _) rfl ?_
  refine zkB zM13 q13_31 kB100 ?_
  refine zl zM13 q13_33 (pc' := 34) (st' := .int ((a2 * a3) / 100) :: _) rfl ?_
  refine zl zM13 q13_34 (pc' := 35) (st' := .int (a2 - ((a2 * a3) / 100)) :: _) rfl ?_
  obtain ⟨hb, hw⟩ := hw
  refine ziS zM13 q13_35 (by decide) s9 hb rfl ?_
  refine zl zM13 q13_36 rfl ?_
  refine zgR (a := 10) zM13 q13_37 (by decide) g2_36 s1 rfl ?_
  refine zl zM13 q13_40 rfl ?_
  refine zl zM13 q13_41 rfl ?_
  refine zgR (a := 9) zM13 q13_42 (by decide) g2_33 s1 rfl ?_
  refine zl zM13 q13_45 rfl ?_
  obtain ⟨hb, hw⟩ := hw
  refine ziA zM13 q13_46 (by decide) s9 hb (v := ((z_up (z_up (z_up (z_up h 6 (Int32.toNatClampNeg a1) a2) 7 (Int32.toNatClampNeg a1) a3) 8 (Int32.toNatClampNeg a1) a4) 9 (Int32.toNatClampNeg a1) (a2 - ((a2 * a3) / 100))) 9 (Int32.toNatClampNeg a1))) rfl ?_
  obtain ⟨hb, hw⟩ := hw
  refine ziS zM13 q13_47 (by decide) s10 hb rfl ?_
  exact zrv zM13 q13_48 rfl hw
-- X2_liesOn
theorem b14 {X : Option (List Int32)} {d : Nat} {h : zH} {A : Int32 → zH → Prop} {a1 : Int32} {a2 : Int32} (hw : (z_ib a1 40 ∧ (((h 4 (Int32.toNatClampNeg a1)) = a2 → (z_ib a1 40 ∧ (((h 11 (Int32.toNatClampNeg a1)) = 0 → A 1 h) ∧ (¬ (h 11 (Int32.toNatClampNeg a1)) = 0 → A 0 h)))) ∧ (¬ (h 4 (Int32.toNatClampNeg a1)) = a2 → A 0 h)))) : zP X d 14 0 (z_ent [.ref 1, .int a1, .int a2] 3) [] z_S0 h (zI A) := by
  show zP X d 14 0 [some (.ref 1), some (.int a1), some (.int a2)] [] z_S0 h (zI A)
  refine zl zM14 q14_0 rfl ?_
  refine zgR (a := 4) zM14 q14_1 (by decide) g2_18 s1 rfl ?_
  refine zl zM14 q14_4 rfl ?_
  obtain ⟨hb, hw⟩ := hw
  refine ziA zM14 q14_5 (by decide) s4 hb (v := (h 4 (Int32.toNatClampNeg a1))) rfl ?_
  refine zl zM14 q14_6 rfl ?_
  refine zb2_ne zM14 q14_7 (tgt := 23) rfl (fun hc => ?_) (fun hc => ?_)
  · have hw := hw.2 hc
    refine zkI zM14 q14_23 kI0 ?_
    exact zri zM14 q14_24 rfl rfl hw
  · have hw := hw.1 hc
    refine zl zM14 q14_10 rfl ?_
    refine zgR (a := 11) zM14 q14_11 (by decide) g2_39 s1 rfl ?_
    refine zl zM14 q14_14 rfl ?_
    obtain ⟨hb, hw⟩ := hw
    refine zbA zM14 q14_15 (by decide) s11 (by decide) hb (v := (h 11 (Int32.toNatClampNeg a1))) rfl ?_
    refine zb1_ne zM14 q14_16 (tgt := 23) rfl (fun hc => ?_) (fun hc => ?_)
    · have hw := hw.2 hc
      refine zkI zM14 q14_23 kI0 ?_
      exact zri zM14 q14_24 rfl rfl hw
    · have hw := hw.1 hc
      refine zkI zM14 q14_19 kI1 ?_
      refine zl zM14 q14_20 (pc' := 24) (ls' := _) (st' := _) rfl ?_
      exact zri zM14 q14_24 rfl rfl hw
-- X2_cameIn
theorem b15 {X : Option (List Int32)} {d : Nat} {h : zH} {A : Int32 → zH → Prop} {a1 : Int32} {a2 : Int32} {a3 : Int32} {a4 : Int32} (hw : (z_ib a1 40 ∧ (((h 3 (Int32.toNatClampNeg a1)) = a2 → (z_ib a1 40 ∧ zP X d 119 0 (z_ent [.int (h 5 (Int32.toNatClampNeg a1)), .int a3, .int a4] 3) [] z_S0 h (zI fun v1 h2 => ((v1 = 0 → A 0 h2) ∧ (¬ v1 = 0 → A 1 h2))))) ∧ (¬ (h 3 (Int32.toNatClampNeg a1)) = a2 → A 0 h)))) : zP X (d + 1) 15 0 (z_ent [.ref 1, .int a1, .int a2, .int a3, .int a4] 5) [] z_S0 h (zI A) := by
  show zP X (d + 1) 15 0 [some (.ref 1), some (.int a1), some (.int a2), some (.int a3), some (.int a4)] [] z_S0 h (zI A)
  refine zl zM15 q15_0 rfl ?_
  refine zgR (a := 3) zM15 q15_1 (by decide) g2_15 s1 rfl ?_
  refine zl zM15 q15_4 rfl ?_
  obtain ⟨hb, hw⟩ := hw
  refine ziA zM15 q15_5 (by decide) s3 hb (v := (h 3 (Int32.toNatClampNeg a1))) rfl ?_
  refine zl zM15 q15_6 rfl ?_
  refine zb2_ne zM15 q15_7 (tgt := 29) rfl (fun hc => ?_) (fun hc => ?_)
  · have hw := hw.2 hc
    refine zkI zM15 q15_29 kI0 ?_
    exact zri zM15 q15_30 rfl rfl hw
  · have hw := hw.1 hc
    refine zl zM15 q15_10 rfl ?_
    refine zgR (a := 5) zM15 q15_11 (by decide) g2_21 s1 rfl ?_
    refine zl zM15 q15_14 rfl ?_
    obtain ⟨hb, hw⟩ := hw
    refine ziA zM15 q15_15 (by decide) s5 hb (v := (h 5 (Int32.toNatClampNeg a1))) rfl ?_
    refine zl zM15 q15_16 rfl ?_
    refine zl zM15 q15_17 rfl ?_
    refine zcS zM15 q15_19 ky2_47 kl2_47 (by decide) rfl (Nat.le_of_ble_eq_true rfl) zM119 (Nat.le_of_ble_eq_true rfl) (hw.mono (fun r0 h2 hr3 => ?_))
    obtain ⟨v1, rfl, hw⟩ := hr3
    show zP X (d + 1) 15 22 [some (.ref 1), some (.int a1), some (.int a2), some (.int a3), some (.int a4)] [.int v1] z_S0 h2 (zI A)
    refine zb1_eq zM15 q15_22 (tgt := 29) rfl (fun hc => ?_) (fun hc => ?_)
    · have hw := hw.1 hc
      refine zkI zM15 q15_29 kI0 ?_
      exact zri zM15 q15_30 rfl rfl hw
    · have hw := hw.2 hc
      refine zkI zM15 q15_25 kI1 ?_
      refine zl zM15 q15_26 (pc' := 30) (ls' := _) (st' := _) rfl ?_
      exact zri zM15 q15_30 rfl rfl hw
-- X2_ofSort
theorem b16 {X : Option (List Int32)} {d : Nat} {h : zH} {A : Int32 → zH → Prop} {a1 : Int32} {a2 : Int32} {a3 : Int32} (hw : (z_ib a1 40 ∧ (z_ib (((h 2 (Int32.toNatClampNeg a1)) * 4) + a2) 24 ∧ A ((a3 * ((z_ro0.getD 0 (.int, [])).2.getD (Int32.toNatClampNeg (((h 2 (Int32.toNatClampNeg a1)) * 4) + a2)) 0)) / 100) h))) : zP X d 16 0 (z_ent [.ref 1, .int a1, .int a2, .int a3] 4) [] z_S0 h (zI A) := by
  show zP X d 16 0 [some (.ref 1), some (.int a1), some (.int a2), some (.int a3)] [] z_S0 h (zI A)
  refine zl zM16 q16_0 rfl ?_
  refine zgs zM16 q16_1 kg2_51 ?_
  refine zl zM16 q16_4 rfl ?_
  refine zgR (a := 2) zM16 q16_5 (by decide) g2_9 s1 rfl ?_
  refine zl zM16 q16_8 rfl ?_
  obtain ⟨hb, hw⟩ := hw
  refine ziA zM16 q16_9 (by decide) s2 hb (v := (h 2 (Int32.toNatClampNeg a1))) rfl ?_
  refine zkI zM16 q16_10 kI4 ?_
  refine zl zM16 q16_11 (pc' := 12) (st' := .int ((h 2 (Int32.toNatClampNeg a1)) * 4) :: _) rfl ?_
  refine zl zM16 q16_12 rfl ?_
  refine zl zM16 q16_13 (pc' := 14) (st' := .int (((h 2 (Int32.toNatClampNeg a1)) * 4) + a2) :: _) rfl ?_
  obtain ⟨hb, hw⟩ := hw
  refine zro (l := (z_ro0.getD 0 (.int, [])).2) zM16 q16_14 (by decide) rfl hb ?_
  refine zl zM16 q16_15 (pc' := 16) (st' := .int (a3 * ((z_ro0.getD 0 (.int, [])).2.getD (Int32.toNatClampNeg (((h 2 (Int32.toNatClampNeg a1)) * 4) + a2)) 0)) :: _) rfl ?_
  refine zkB zM16 q16_16 kB100 ?_
  refine zl zM16 q16_18 (pc' := 19) (st' := .int ((a3 * ((z_ro0.getD 0 (.int, [])).2.getD (Int32.toNatClampNeg (((h 2 (Int32.toNatClampNeg a1)) * 4) + a2)) 0)) / 100) :: _) rfl ?_
  exact zri zM16 q16_19 rfl rfl hw
-- X2_waste
theorem b17 {X : Option (List Int32)} {d : Nat} {h : zH} {A : Int32 → zH → Prop} {a1 : Int32} (hw : (z_ib a1 40 ∧ zP X (d + 1) 17 9 [some (.ref 1), some (.int a1), some (.int (h 10 (Int32.toNatClampNeg a1))), some (.int 0)] [] z_S0 h (zI A))) : zP X (d + 1) 17 0 (z_ent [.ref 1, .int a1] 4) [] z_S0 h (zI A) := by
  show zP X (d + 1) 17 0 [some (.ref 1), some (.int a1), none, none] [] z_S0 h (zI A)
  refine zl zM17 q17_0 rfl ?_
  refine zgR (a := 10) zM17 q17_1 (by decide) g2_36 s1 rfl ?_
  refine zl zM17 q17_4 rfl ?_
  obtain ⟨hb, hw⟩ := hw
  refine ziA zM17 q17_5 (by decide) s10 hb (v := (h 10 (Int32.toNatClampNeg a1))) rfl ?_
  refine zl zM17 q17_6 (ls' := [some (.ref 1), some (.int a1), some (.int (h 10 (Int32.toNatClampNeg a1))), none]) rfl ?_
  refine zkI zM17 q17_7 kI0 ?_
  refine zl zM17 q17_8 (ls' := [some (.ref 1), some (.int a1), some (.int (h 10 (Int32.toNatClampNeg a1))), some (.int 0)]) rfl ?_
  exact hw
theorem b17_9 {X : Option (List Int32)} {d : Nat} {h : zH} {A : Int32 → zH → Prop} {l1 : Int32} {l2 : Int32} {l3 : Int32} (hw : ((l3 < 4 → (z_ib l1 40 ∧ zP X d 16 0 (z_ent [.ref 1, .int l1, .int l3, .int (h 10 (Int32.toNatClampNeg l1))] 4) [] z_S0 h (zI fun v1 h2 => zP X (d + 1) 17 9 [some (.ref 1), some (.int l1), some (.int (l2 - v1)), some (.int (l3 + 1))] [] z_S0 h2 (zI A)))) ∧ (¬ l3 < 4 → A l2 h))) : zP X (d + 1) 17 9 [some (.ref 1), some (.int l1), some (.int l2), some (.int l3)] [] z_S0 h (zI A) := by
  refine zl zM17 q17_9 rfl ?_
  refine zkI zM17 q17_10 kI4 ?_
  refine zb2_ge zM17 q17_11 (tgt := 35) rfl (fun hc => ?_) (fun hc => ?_)
  · have hw := hw.2 hc
    refine zl zM17 q17_35 rfl ?_
    exact zri zM17 q17_36 rfl rfl hw
  · have hw := hw.1 hc
    refine zl zM17 q17_14 rfl ?_
    refine zl zM17 q17_15 rfl ?_
    refine zl zM17 q17_16 rfl ?_
    refine zl zM17 q17_17 rfl ?_
    refine zl zM17 q17_18 rfl ?_
    refine zgR (a := 10) zM17 q17_19 (by decide) g2_36 s1 rfl ?_
    refine zl zM17 q17_22 rfl ?_
    obtain ⟨hb, hw⟩ := hw
    refine ziA zM17 q17_23 (by decide) s10 hb (v := (h 10 (Int32.toNatClampNeg l1))) rfl ?_
    refine zcV zM17 q17_24 kl2_54 rfl rfl (Nat.le_of_ble_eq_true rfl) rfl zM16 (Nat.le_of_ble_eq_true rfl) (hw.mono (fun r0 h2 hr3 => ?_))
    obtain ⟨v1, rfl, hw⟩ := hr3
    show zP X (d + 1) 17 27 [some (.ref 1), some (.int l1), some (.int l2), some (.int l3)] [.int v1, .int l2] z_S0 h2 (zI A)
    refine zl zM17 q17_27 (pc' := 28) (st' := .int (l2 - v1) :: _) rfl ?_
    refine zl zM17 q17_28 (ls' := [some (.ref 1), some (.int l1), some (.int (l2 - v1)), some (.int l3)]) rfl ?_
    refine zl zM17 q17_29 (ls' := [some (.ref 1), some (.int l1), some (.int (l2 - v1)), some (.int (l3 + 1))]) rfl ?_
    refine zl zM17 q17_32 (pc' := 9) (ls' := _) (st' := _) rfl ?_
    exact hw
-- X2_shortBy
theorem b18 {X : Option (List Int32)} {d : Nat} {h : zH} {A : Int32 → zH → Prop} {a1 : Int32} (hw : (z_ib a1 40 ∧ (z_ib a1 40 ∧ (z_ib a1 40 ∧ (z_ib a1 40 ∧ (z_ib (h 2 (Int32.toNatClampNeg a1)) 6 ∧ (((((h 8 (Int32.toNatClampNeg a1)) * ((z_ro0.getD 1 (.int, [])).2.getD (Int32.toNatClampNeg (h 2 (Int32.toNatClampNeg a1))) 0)) / 100) < ((h 8 (Int32.toNatClampNeg a1)) - (h 6 (Int32.toNatClampNeg a1))) → A ((h 8 (Int32.toNatClampNeg a1)) - (h 6 (Int32.toNatClampNeg a1))) h) ∧ (¬ (((h 8 (Int32.toNatClampNeg a1)) * ((z_ro0.getD 1 (.int, [])).2.getD (Int32.toNatClampNeg (h 2 (Int32.toNatClampNeg a1))) 0)) / 100) < ((h 8 (Int32.toNatClampNeg a1)) - (h 6 (Int32.toNatClampNeg a1))) → A 0 h)))))))) : zP X d 18 0 (z_ent [.ref 1, .int a1] 3) [] z_S0 h (zI A) := by
  show zP X d 18 0 [some (.ref 1), some (.int a1), none] [] z_S0 h (zI A)
  refine zl zM18 q18_0 rfl ?_
  refine zgR (a := 8) zM18 q18_1 (by decide) g2_30 s1 rfl ?_
  refine zl zM18 q18_4 rfl ?_
  obtain ⟨hb, hw⟩ := hw
  refine ziA zM18 q18_5 (by decide) s8 hb (v := (h 8 (Int32.toNatClampNeg a1))) rfl ?_
  refine zl zM18 q18_6 rfl ?_
  refine zgR (a := 6) zM18 q18_7 (by decide) g2_24 s1 rfl ?_
  refine zl zM18 q18_10 rfl ?_
  obtain ⟨hb, hw⟩ := hw
  refine ziA zM18 q18_11 (by decide) s6 hb (v := (h 6 (Int32.toNatClampNeg a1))) rfl ?_
  refine zl zM18 q18_12 (pc' := 13) (st' := .int ((h 8 (Int32.toNatClampNeg a1)) - (h 6 (Int32.toNatClampNeg a1))) :: _) rfl ?_
  refine zl zM18 q18_13 (ls' := [some (.ref 1), some (.int a1), some (.int ((h 8 (Int32.toNatClampNeg a1)) - (h 6 (Int32.toNatClampNeg a1))))]) rfl ?_
  refine zl zM18 q18_14 rfl ?_
  refine zl zM18 q18_15 rfl ?_
  refine zgR (a := 8) zM18 q18_16 (by decide) g2_30 s1 rfl ?_
  refine zl zM18 q18_19 rfl ?_
  obtain ⟨hb, hw⟩ := hw
  refine ziA zM18 q18_20 (by decide) s8 hb (v := (h 8 (Int32.toNatClampNeg a1))) rfl ?_
  refine zgs zM18 q18_21 kg2_58 ?_
  refine zl zM18 q18_24 rfl ?_
  refine zgR (a := 2) zM18 q18_25 (by decide) g2_9 s1 rfl ?_
  refine zl zM18 q18_28 rfl ?_
  obtain ⟨hb, hw⟩ := hw
  refine ziA zM18 q18_29 (by decide) s2 hb (v := (h 2 (Int32.toNatClampNeg a1))) rfl ?_
  obtain ⟨hb, hw⟩ := hw
  refine zro (l := (z_ro0.getD 1 (.int, [])).2) zM18 q18_30 (by decide) rfl hb ?_
  refine zl zM18 q18_31 (pc' := 32) (st' := .int ((h 8 (Int32.toNatClampNeg a1)) * ((z_ro0.getD 1 (.int, [])).2.getD (Int32.toNatClampNeg (h 2 (Int32.toNatClampNeg a1))) 0)) :: _) rfl ?_
  refine zkB zM18 q18_32 kB100 ?_
  refine zl zM18 q18_34 (pc' := 35) (st' := .int (((h 8 (Int32.toNatClampNeg a1)) * ((z_ro0.getD 1 (.int, [])).2.getD (Int32.toNatClampNeg (h 2 (Int32.toNatClampNeg a1))) 0)) / 100) :: _) rfl ?_
  refine zb2_le zM18 q18_35 (tgt := 42) rfl (fun hc => ?_) (fun hc => ?_)
  · have hw := hw.2 hc
    refine zkI zM18 q18_42 kI0 ?_
    exact zri zM18 q18_43 rfl rfl hw
  · have hw := hw.1 hc
    refine zl zM18 q18_38 rfl ?_
    refine zl zM18 q18_39 (pc' := 43) (ls' := _) (st' := _) rfl ?_
    exact zri zM18 q18_43 rfl rfl hw
-- X2_isOfKind
theorem b19 {X : Option (List Int32)} {d : Nat} {h : zH} {A : Int32 → zH → Prop} {a1 : Int32} {a2 : Int32} (hw : (z_ib a1 40 ∧ zP X d 19 10 [none, none, some (.int a2), some (.int (h 2 (Int32.toNatClampNeg a1))), some (.int 0)] [] z_S0 h (zI A))) : zP X d 19 0 (z_ent [.ref 1, .int a1, .int a2] 5) [] z_S0 h (zI A) := by
  show zP X d 19 0 [some (.ref 1), some (.int a1), some (.int a2), none, none] [] z_S0 h (zI A)
  refine zl zM19 q19_0 rfl ?_
  refine zgR (a := 2) zM19 q19_1 (by decide) g2_9 s1 rfl ?_
  refine zl zM19 q19_4 rfl ?_
  obtain ⟨hb, hw⟩ := hw
  refine ziA zM19 q19_5 (by decide) s2 hb (v := (h 2 (Int32.toNatClampNeg a1))) rfl ?_
  refine zl zM19 q19_6 (ls' := [some (.ref 1), some (.int a1), some (.int a2), some (.int (h 2 (Int32.toNatClampNeg a1))), none]) rfl ?_
  refine zkI zM19 q19_7 kI0 ?_
  refine zl zM19 q19_8 (ls' := [some (.ref 1), some (.int a1), some (.int a2), some (.int (h 2 (Int32.toNatClampNeg a1))), some (.int 0)]) rfl ?_
  refine zweak (a := [none, none, some (.int a2), some (.int (h 2 (Int32.toNatClampNeg a1))), some (.int 0)]) ?_ hw
  exact ⟨rfl, ⟨rfl, ⟨rfl, trivial⟩⟩⟩
theorem b19_10 {X : Option (List Int32)} {d : Nat} {h : zH} {A : Int32 → zH → Prop} {l2 : Int32} {l3 : Int32} {l4 : Int32} (hw : ((l4 < 6 → ((l3 = (-1) → A 0 h) ∧ (¬ l3 = (-1) → ((l3 = l2 → A 1 h) ∧ (¬ l3 = l2 → (z_ib l3 6 ∧ zP X d 19 10 [none, none, some (.int l2), some (.int ((z_ro0.getD 2 (.int, [])).2.getD (Int32.toNatClampNeg l3) 0)), some (.int (l4 + 1))] [] z_S0 h (zI A))))))) ∧ (¬ l4 < 6 → A 0 h))) : zP X d 19 10 [none, none, some (.int l2), some (.int l3), some (.int l4)] [] z_S0 h (zI A) := by
  refine zl zM19 q19_10 rfl ?_
  refine zkB zM19 q19_12 kB6 ?_
  refine zb2_ge zM19 q19_14 (tgt := 41) rfl (fun hc => ?_) (fun hc => ?_)
  · have hw := hw.2 hc
    refine zkI zM19 q19_41 kI0 ?_
    exact zri zM19 q19_42 rfl rfl hw
  · have hw := hw.1 hc
    refine zl zM19 q19_17 rfl ?_
    refine zkI zM19 q19_18 kIm1 ?_
    refine zb2_eq zM19 q19_19 (tgt := 41) rfl (fun hc => ?_) (fun hc => ?_)
    · have hw := hw.1 hc
      refine zkI zM19 q19_41 kI0 ?_
      exact zri zM19 q19_42 rfl rfl hw
    · have hw := hw.2 hc
      refine zl zM19 q19_22 rfl ?_
      refine zl zM19 q19_23 rfl ?_
      refine zb2_ne zM19 q19_24 (tgt := 29) rfl (fun hc => ?_) (fun hc => ?_)
      · have hw := hw.2 hc
        refine zgs zM19 q19_29 kg2_61 ?_
        refine zl zM19 q19_32 rfl ?_
        obtain ⟨hb, hw⟩ := hw
        refine zro (l := (z_ro0.getD 2 (.int, [])).2) zM19 q19_33 (by decide) rfl hb ?_
        refine zl zM19 q19_34 (ls' := [none, none, some (.int l2), some (.int ((z_ro0.getD 2 (.int, [])).2.getD (Int32.toNatClampNeg l3) 0)), some (.int l4)]) rfl ?_
        refine zl zM19 q19_35 (ls' := [none, none, some (.int l2), some (.int ((z_ro0.getD 2 (.int, [])).2.getD (Int32.toNatClampNeg l3) 0)), some (.int (l4 + 1))]) rfl ?_
        refine zl zM19 q19_38 (pc' := 10) (ls' := _) (st' := _) rfl ?_
        exact hw
      · have hw := hw.1 hc
        refine zkI zM19 q19_27 kI1 ?_
        exact zri zM19 q19_28 rfl rfl hw
-- X2_burn
theorem b20 {X : Option (List Int32)} {d : Nat} {h : zH} {A : Int32 → zH → Prop} {a1 : Int32} {a2 : Int32} (hw : zP X (d + 1) 20 5 [some (.ref 1), some (.int a1), some (.int a2), some (.int 0), some (.int 0), none] [] z_S0 h (zI A)) : zP X (d + 1) 20 0 (z_ent [.ref 1, .int a1, .int a2] 6) [] z_S0 h (zI A) := by
  show zP X (d + 1) 20 0 [some (.ref 1), some (.int a1), some (.int a2), none, none, none] [] z_S0 h (zI A)
  refine zkI zM20 q20_0 kI0 ?_
  refine zl zM20 q20_1 (ls' := [some (.ref 1), some (.int a1), some (.int a2), some (.int 0), none, none]) rfl ?_
  refine zkI zM20 q20_2 kI0 ?_
  refine zl zM20 q20_3 (ls' := [some (.ref 1), some (.int a1), some (.int a2), some (.int 0), some (.int 0), none]) rfl ?_
  exact hw
theorem b20_5 {X : Option (List Int32)} {d : Nat} {h : zH} {A : Int32 → zH → Prop} {l1 : Int32} {l2 : Int32} {l3 : Int32} {l4 : Int32} (hw : ((l4 < (h 1 10) → zP X d 14 0 (z_ent [.ref 1, .int l4, .int l1] 3) [] z_S0 h (zI fun v1 h2 => ((v1 = 0 → zP X (d + 1) 20 55 [some (.ref 1), some (.int l1), some (.int l2), some (.int l3), some (.int l4), none] [] z_S0 h2 (zI A)) ∧ (¬ v1 = 0 → (z_ib l4 40 ∧ (z_ib l4 40 ∧ (z_ib l4 40 ∧ zP X (d + 1) 20 55 [some (.ref 1), some (.int l1), some (.int l2), some (.int (l3 + (((h2 10 (Int32.toNatClampNeg l4)) * l2) / 100))), some (.int l4), none] [] z_S0 (z_up h2 10 (Int32.toNatClampNeg l4) ((h2 10 (Int32.toNatClampNeg l4)) - (((h2 10 (Int32.toNatClampNeg l4)) * l2) / 100))) (zI A)))))))) ∧ (¬ l4 < (h 1 10) → A l3 h))) : zP X (d + 1) 20 5 [some (.ref 1), some (.int l1), some (.int l2), some (.int l3), some (.int l4), none] [] z_S0 h (zI A) := by
  refine zl zM20 q20_5 rfl ?_
  refine zl zM20 q20_7 rfl ?_
  refine zgI zM20 q20_8 (by decide) g2_43 s1 rfl (v := (h 1 10)) rfl ?_
  refine zb2_ge zM20 q20_11 (tgt := 61) rfl (fun hc => ?_) (fun hc => ?_)
  · have hw := hw.2 hc
    refine zl zM20 q20_61 rfl ?_
    exact zri zM20 q20_62 rfl rfl hw
  · have hw := hw.1 hc
    refine zl zM20 q20_14 rfl ?_
    refine zl zM20 q20_15 rfl ?_
    refine zl zM20 q20_17 rfl ?_
    refine zcV zM20 q20_18 kl2_64 rfl rfl (Nat.le_of_ble_eq_true rfl) rfl zM14 (Nat.le_of_ble_eq_true rfl) (hw.mono (fun r0 h2 hr3 => ?_))
    obtain ⟨v1, rfl, hw⟩ := hr3
    show zP X (d + 1) 20 21 [some (.ref 1), some (.int l1), some (.int l2), some (.int l3), some (.int l4), none] [.int v1] z_S0 h2 (zI A)
    refine zb1_eq zM20 q20_21 (tgt := 55) rfl (fun hc => ?_) (fun hc => ?_)
    · have hw := hw.1 hc
      exact hw
    · have hw := hw.2 hc
      refine zl zM20 q20_24 rfl ?_
      refine zgR (a := 10) zM20 q20_25 (by decide) g2_36 s1 rfl ?_
      refine zl zM20 q20_28 rfl ?_
      obtain ⟨hb, hw⟩ := hw
      refine ziA zM20 q20_30 (by decide) s10 hb (v := (h2 10 (Int32.toNatClampNeg l4))) rfl ?_
      refine zl zM20 q20_31 rfl ?_
      refine zl zM20 q20_32 (pc' := 33) (st' := .int ((h2 10 (Int32.toNatClampNeg l4)) * l2) :: _) rfl ?_
      refine zkB zM20 q20_33 kB100 ?_
      refine zl zM20 q20_35 (pc' := 36) (st' := .int (((h2 10 (Int32.toNatClampNeg l4)) * l2) / 100) :: _) rfl ?_
      refine zl zM20 q20_36 (ls' := [some (.ref 1), some (.int l1), some (.int l2), some (.int l3), some (.int l4), some (.int (((h2 10 (Int32.toNatClampNeg l4)) * l2) / 100))]) rfl ?_
      refine zl zM20 q20_38 rfl ?_
      refine zgR (a := 10) zM20 q20_39 (by decide) g2_36 s1 rfl ?_
      refine zl zM20 q20_42 rfl ?_
      refine zl zM20 q20_44 rfl ?_
      obtain ⟨hb, hw⟩ := hw
      refine ziA zM20 q20_45 (by decide) s10 hb (v := (h2 10 (Int32.toNatClampNeg l4))) rfl ?_
      refine zl zM20 q20_46 rfl ?_
      refine zl zM20 q20_48 (pc' := 49) (st' := .int ((h2 10 (Int32.toNatClampNeg l4)) - (((h2 10 (Int32.toNatClampNeg l4)) * l2) / 100)) :: _) rfl ?_
      obtain ⟨hb, hw⟩ := hw
      refine ziS zM20 q20_49 (by decide) s10 hb rfl ?_
      refine zl zM20 q20_50 rfl ?_
      refine zl zM20 q20_51 rfl ?_
      refine zl zM20 q20_53 (pc' := 54) (st' := .int (l3 + (((h2 10 (Int32.toNatClampNeg l4)) * l2) / 100)) :: _) rfl ?_
      refine zl zM20 q20_54 (ls' := [some (.ref 1), some (.int l1), some (.int l2), some (.int (l3 + (((h2 10 (Int32.toNatClampNeg l4)) * l2) / 100))), some (.int l4), some (.int (((h2 10 (Int32.toNatClampNeg l4)) * l2) / 100))]) rfl ?_
      refine zweak (a := [some (.ref 1), some (.int l1), some (.int l2), some (.int (l3 + (((h2 10 (Int32.toNatClampNeg l4)) * l2) / 100))), some (.int l4), none]) ?_ hw
      exact ⟨rfl, ⟨rfl, ⟨rfl, ⟨rfl, ⟨rfl, trivial⟩⟩⟩⟩⟩
theorem b20_55 {X : Option (List Int32)} {d : Nat} {h : zH} {A : Int32 → zH → Prop} {l1 : Int32} {l2 : Int32} {l3 : Int32} {l4 : Int32} (hw : zP X (d + 1) 20 5 [some (.ref 1), some (.int l1), some (.int l2), some (.int l3), some (.int (l4 + 1)), none] [] z_S0 h (zI A)) : zP X (d + 1) 20 55 [some (.ref 1), some (.int l1), some (.int l2), some (.int l3), some (.int l4), none] [] z_S0 h (zI A) := by
  refine zl zM20 q20_55 (ls' := [some (.ref 1), some (.int l1), some (.int l2), some (.int l3), some (.int (l4 + 1)), none]) rfl ?_
  refine zl zM20 q20_58 (pc' := 5) (ls' := _) (st' := _) rfl ?_
  exact hw
-- X2_dryOn
theorem b21 {X : Option (List Int32)} {d : Nat} {h : zH} {A : Int32 → zH → Prop} {a1 : Int32} (hw : zP X (d + 1) 21 4 [some (.ref 1), some (.int a1), some (.int 0), some (.int 0)] [] z_S0 h (zI A)) : zP X (d + 1) 21 0 (z_ent [.ref 1, .int a1] 4) [] z_S0 h (zI A) := by
  show zP X (d + 1) 21 0 [some (.ref 1), some (.int a1), none, none] [] z_S0 h (zI A)
  refine zkI zM21 q21_0 kI0 ?_
  refine zl zM21 q21_1 (ls' := [some (.ref 1), some (.int a1), some (.int 0), none]) rfl ?_
  refine zkI zM21 q21_2 kI0 ?_
  refine zl zM21 q21_3 (ls' := [some (.ref 1), some (.int a1), some (.int 0), some (.int 0)]) rfl ?_
  exact hw
theorem b21_4 {X : Option (List Int32)} {d : Nat} {h : zH} {A : Int32 → zH → Prop} {l1 : Int32} {l2 : Int32} {l3 : Int32} (hw : ((l3 < (h 1 10) → zP X d 14 0 (z_ent [.ref 1, .int l3, .int l1] 3) [] z_S0 h (zI fun v1 h2 => ((v1 = 0 → zP X (d + 1) 21 32 [some (.ref 1), some (.int l1), none, some (.int l3)] [.int 0, .int l2] z_S0 h2 (zI A)) ∧ (¬ v1 = 0 → (z_ib l3 40 ∧ zP X (d + 1) 21 32 [some (.ref 1), some (.int l1), none, some (.int l3)] [.int (h2 10 (Int32.toNatClampNeg l3)), .int l2] z_S0 h2 (zI A)))))) ∧ (¬ l3 < (h 1 10) → A l2 h))) : zP X (d + 1) 21 4 [some (.ref 1), some (.int l1), some (.int l2), some (.int l3)] [] z_S0 h (zI A) := by
  refine zl zM21 q21_4 rfl ?_
  refine zl zM21 q21_5 rfl ?_
  refine zgI zM21 q21_6 (by decide) g2_43 s1 rfl (v := (h 1 10)) rfl ?_
  refine zb2_ge zM21 q21_9 (tgt := 40) rfl (fun hc => ?_) (fun hc => ?_)
  · have hw := hw.2 hc
    refine zl zM21 q21_40 rfl ?_
    exact zri zM21 q21_41 rfl rfl hw
  · have hw := hw.1 hc
    refine zl zM21 q21_12 rfl ?_
    refine zl zM21 q21_13 rfl ?_
    refine zl zM21 q21_14 rfl ?_
    refine zl zM21 q21_15 rfl ?_
    refine zcV zM21 q21_16 kl2_64 rfl rfl (Nat.le_of_ble_eq_true rfl) rfl zM14 (Nat.le_of_ble_eq_true rfl) (hw.mono (fun r0 h2 hr3 => ?_))
    obtain ⟨v1, rfl, hw⟩ := hr3
    show zP X (d + 1) 21 19 [some (.ref 1), some (.int l1), some (.int l2), some (.int l3)] [.int v1, .int l2] z_S0 h2 (zI A)
    refine zb1_eq zM21 q21_19 (tgt := 31) rfl (fun hc => ?_) (fun hc => ?_)
    · have hw := hw.1 hc
      refine zkI zM21 q21_31 kI0 ?_
      refine zweak (a := [some (.ref 1), some (.int l1), none, some (.int l3)]) ?_ hw
      exact ⟨rfl, ⟨rfl, ⟨rfl, trivial⟩⟩⟩
    · have hw := hw.2 hc
      refine zl zM21 q21_22 rfl ?_
      refine zgR (a := 10) zM21 q21_23 (by decide) g2_36 s1 rfl ?_
      refine zl zM21 q21_26 rfl ?_
      obtain ⟨hb, hw⟩ := hw
      refine ziA zM21 q21_27 (by decide) s10 hb (v := (h2 10 (Int32.toNatClampNeg l3))) rfl ?_
      refine zl zM21 q21_28 (pc' := 32) (ls' := _) (st' := _) rfl ?_
      refine zweak (a := [some (.ref 1), some (.int l1), none, some (.int l3)]) ?_ hw
      exact ⟨rfl, ⟨rfl, ⟨rfl, trivial⟩⟩⟩
theorem b21_32 {X : Option (List Int32)} {d : Nat} {h : zH} {A : Int32 → zH → Prop} {l1 : Int32} {l3 : Int32} {w0 : Int32} {w1 : Int32} (hw : zP X (d + 1) 21 4 [some (.ref 1), some (.int l1), some (.int (w0 + w1)), some (.int (l3 + 1))] [] z_S0 h (zI A)) : zP X (d + 1) 21 32 [some (.ref 1), some (.int l1), none, some (.int l3)] [.int w1, .int w0] z_S0 h (zI A) := by
  refine zl zM21 q21_32 (pc' := 33) (st' := .int (w0 + w1) :: _) rfl ?_
  refine zl zM21 q21_33 (ls' := [some (.ref 1), some (.int l1), some (.int (w0 + w1)), some (.int l3)]) rfl ?_
  refine zl zM21 q21_34 (ls' := [some (.ref 1), some (.int l1), some (.int (w0 + w1)), some (.int (l3 + 1))]) rfl ?_
  refine zl zM21 q21_37 (pc' := 4) (ls' := _) (st' := _) rfl ?_
  exact hw
-- X3_agree
theorem b23 {X : Option (List Int32)} {d : Nat} {h : zH} {A : Int32 → zH → Prop} {a1 : Int32} {a2 : Int32} {a3 : Int32} (hw : (z_ib (h 20 5) 20 ∧ (z_ib (h 20 5) 20 ∧ (z_ib (h 20 5) 20 ∧ A ((h 20 5) + 1) (z_up (z_up (z_up (z_up h 22 (Int32.toNatClampNeg (h 20 5)) a1) 23 (Int32.toNatClampNeg (h 20 5)) a2) 24 (Int32.toNatClampNeg (h 20 5)) a3) 20 5 ((h 20 5) + 1)))))) : zP X d 23 0 (z_ent [.ref 20, .int a1, .int a2, .int a3] 4) [] z_S0 h (zI A) := by
  show zP X d 23 0 [some (.ref 20), some (.int a1), some (.int a2), some (.int a3)] [] z_S0 h (zI A)
  refine zl zM23 q23_0 rfl ?_
  refine zgR (a := 22) zM23 q23_1 (by decide) g3_17 s20 rfl ?_
  refine zl zM23 q23_4 rfl ?_
  refine zgI zM23 q23_5 (by decide) g3_28 s20 rfl (v := (h 20 5)) rfl ?_
  refine zl zM23 q23_8 rfl ?_
  obtain ⟨hb, hw⟩ := hw
  refine ziS zM23 q23_9 (by decide) s22 hb rfl ?_
  refine zl zM23 q23_10 rfl ?_
  refine zgR (a := 23) zM23 q23_11 (by decide) g3_21 s20 rfl ?_
  refine zl zM23 q23_14 rfl ?_
  refine zgI zM23 q23_15 (by decide) g3_28 s20 rfl (v := (h 20 5)) rfl ?_
  refine zl zM23 q23_18 rfl ?_
  obtain ⟨hb, hw⟩ := hw
  refine ziS zM23 q23_19 (by decide) s23 hb rfl ?_
  refine zl zM23 q23_20 rfl ?_
  refine zgR (a := 24) zM23 q23_21 (by decide) g3_24 s20 rfl ?_
  refine zl zM23 q23_24 rfl ?_
  refine zgI zM23 q23_25 (by decide) g3_28 s20 rfl (v := (h 20 5)) rfl ?_
  refine zl zM23 q23_28 rfl ?_
  obtain ⟨hb, hw⟩ := hw
  refine ziS zM23 q23_29 (by decide) s24 hb rfl ?_
  refine zl zM23 q23_30 rfl ?_
  refine zl zM23 q23_31 rfl ?_
  refine zgI zM23 q23_32 (by decide) g3_28 s20 rfl (v := (h 20 5)) rfl ?_
  refine zkI zM23 q23_35 kI1 ?_
  refine zl zM23 q23_36 (pc' := 37) (st' := .int ((h 20 5) + 1) :: _) rfl ?_
  refine zpi zM23 q23_37 (by decide) g3_28 s20 rfl rfl ?_
  refine zl zM23 q23_40 rfl ?_
  refine zgI zM23 q23_41 (by decide) g3_28 s20 rfl (v := ((h 20 5) + 1)) rfl ?_
  exact zri zM23 q23_44 rfl rfl hw
-- X3_inForce
theorem b24 {X : Option (List Int32)} {d : Nat} {h : zH} {A : Int32 → zH → Prop} {a1 : Int32} {a2 : Int32} (hw : zP X d 24 5 [some (.ref 20), some (.int a1), some (.int a2), some (.int (-1)), some (.int 0)] [] z_S0 h (zI A)) : zP X d 24 0 (z_ent [.ref 20, .int a1, .int a2] 5) [] z_S0 h (zI A) := by
  show zP X d 24 0 [some (.ref 20), some (.int a1), some (.int a2), none, none] [] z_S0 h (zI A)
  refine zkI zM24 q24_0 kIm1 ?_
  refine zl zM24 q24_1 (ls' := [some (.ref 20), some (.int a1), some (.int a2), some (.int (-1)), none]) rfl ?_
  refine zkI zM24 q24_2 kI0 ?_
  refine zl zM24 q24_3 (ls' := [some (.ref 20), some (.int a1), some (.int a2), some (.int (-1)), some (.int 0)]) rfl ?_
  exact hw
theorem b24_5 {X : Option (List Int32)} {d : Nat} {h : zH} {A : Int32 → zH → Prop} {l1 : Int32} {l2 : Int32} {l3 : Int32} {l4 : Int32} (hw : ((l4 < (h 20 5) → (z_ib l4 20 ∧ (((h 22 (Int32.toNatClampNeg l4)) = l1 → (z_ib l4 20 ∧ ((l2 < (h 23 (Int32.toNatClampNeg l4)) → zP X d 24 63 [some (.ref 20), some (.int l1), some (.int l2), some (.int l3), some (.int l4)] [] z_S0 h (zI A)) ∧ (¬ l2 < (h 23 (Int32.toNatClampNeg l4)) → ((l3 = (-1) → zP X d 24 60 [some (.ref 20), some (.int l1), some (.int l2), none, some (.int l4)] [] z_S0 h (zI A)) ∧ (¬ l3 = (-1) → (z_ib l4 20 ∧ (z_ib l3 20 ∧ (((h 23 (Int32.toNatClampNeg l4)) < (h 23 (Int32.toNatClampNeg l3)) → zP X d 24 63 [some (.ref 20), some (.int l1), some (.int l2), some (.int l3), some (.int l4)] [] z_S0 h (zI A)) ∧ (¬ (h 23 (Int32.toNatClampNeg l4)) < (h 23 (Int32.toNatClampNeg l3)) → zP X d 24 60 [some (.ref 20), some (.int l1), some (.int l2), none, some (.int l4)] [] z_S0 h (zI A))))))))))) ∧ (¬ (h 22 (Int32.toNatClampNeg l4)) = l1 → zP X d 24 63 [some (.ref 20), some (.int l1), some (.int l2), some (.int l3), some (.int l4)] [] z_S0 h (zI A))))) ∧ (¬ l4 < (h 20 5) → ((l3 = (-1) → A 0 h) ∧ (¬ l3 = (-1) → (z_ib l3 20 ∧ A (h 24 (Int32.toNatClampNeg l3)) h)))))) : zP X d 24 5 [some (.ref 20), some (.int l1), some (.int l2), some (.int l3), some (.int l4)] [] z_S0 h (zI A) := by
  refine zl zM24 q24_5 rfl ?_
  refine zl zM24 q24_7 rfl ?_
  refine zgI zM24 q24_8 (by decide) g3_28 s20 rfl (v := (h 20 5)) rfl ?_
  refine zb2_ge zM24 q24_11 (tgt := 69) rfl (fun hc => ?_) (fun hc => ?_)
  · have hw := hw.2 hc
    refine zl zM24 q24_69 rfl ?_
    refine zkI zM24 q24_70 kIm1 ?_
    refine zb2_ne zM24 q24_71 (tgt := 78) rfl (fun hc => ?_) (fun hc => ?_)
    · have hw := hw.2 hc
      refine zl zM24 q24_78 rfl ?_
      refine zgR (a := 24) zM24 q24_79 (by decide) g3_24 s20 rfl ?_
      refine zl zM24 q24_82 rfl ?_
      obtain ⟨hb, hw⟩ := hw
      refine ziA zM24 q24_83 (by decide) s24 hb (v := (h 24 (Int32.toNatClampNeg l3))) rfl ?_
      exact zri zM24 q24_84 rfl rfl hw
    · have hw := hw.1 hc
      refine zkI zM24 q24_74 kI0 ?_
      refine zl zM24 q24_75 (pc' := 84) (ls' := _) (st' := _) rfl ?_
      exact zri zM24 q24_84 rfl rfl hw
  · have hw := hw.1 hc
    refine zl zM24 q24_14 rfl ?_
    refine zgR (a := 22) zM24 q24_15 (by decide) g3_17 s20 rfl ?_
    refine zl zM24 q24_18 rfl ?_
    obtain ⟨hb, hw⟩ := hw
    refine ziA zM24 q24_20 (by decide) s22 hb (v := (h 22 (Int32.toNatClampNeg l4))) rfl ?_
    refine zl zM24 q24_21 rfl ?_
    refine zb2_ne zM24 q24_22 (tgt := 63) rfl (fun hc => ?_) (fun hc => ?_)
    · have hw := hw.2 hc
      exact hw
    · have hw := hw.1 hc
      refine zl zM24 q24_25 rfl ?_
      refine zgR (a := 23) zM24 q24_26 (by decide) g3_21 s20 rfl ?_
      refine zl zM24 q24_29 rfl ?_
      obtain ⟨hb, hw⟩ := hw
      refine ziA zM24 q24_31 (by decide) s23 hb (v := (h 23 (Int32.toNatClampNeg l4))) rfl ?_
      refine zl zM24 q24_32 rfl ?_
      refine zb2_le zM24 q24_33 (tgt := 39) rfl (fun hc => ?_) (fun hc => ?_)
      · have hw := hw.2 hc
        refine zl zM24 q24_39 rfl ?_
        refine zkI zM24 q24_40 kIm1 ?_
        refine zb2_eq zM24 q24_41 (tgt := 60) rfl (fun hc => ?_) (fun hc => ?_)
        · have hw := hw.1 hc
          refine zweak (a := [some (.ref 20), some (.int l1), some (.int l2), none, some (.int l4)]) ?_ hw
          exact ⟨rfl, ⟨rfl, ⟨rfl, ⟨rfl, trivial⟩⟩⟩⟩
        · have hw := hw.2 hc
          refine zl zM24 q24_44 rfl ?_
          refine zgR (a := 23) zM24 q24_45 (by decide) g3_21 s20 rfl ?_
          refine zl zM24 q24_48 rfl ?_
          obtain ⟨hb, hw⟩ := hw
          refine ziA zM24 q24_50 (by decide) s23 hb (v := (h 23 (Int32.toNatClampNeg l4))) rfl ?_
          refine zl zM24 q24_51 rfl ?_
          refine zgR (a := 23) zM24 q24_52 (by decide) g3_21 s20 rfl ?_
          refine zl zM24 q24_55 rfl ?_
          obtain ⟨hb, hw⟩ := hw
          refine ziA zM24 q24_56 (by decide) s23 hb (v := (h 23 (Int32.toNatClampNeg l3))) rfl ?_
          refine zb2_lt zM24 q24_57 (tgt := 63) rfl (fun hc => ?_) (fun hc => ?_)
          · have hw := hw.1 hc
            exact hw
          · have hw := hw.2 hc
            refine zweak (a := [some (.ref 20), some (.int l1), some (.int l2), none, some (.int l4)]) ?_ hw
            exact ⟨rfl, ⟨rfl, ⟨rfl, ⟨rfl, trivial⟩⟩⟩⟩
      · have hw := hw.1 hc
        refine zl zM24 q24_36 (pc' := 63) (ls' := _) (st' := _) rfl ?_
        exact hw
theorem b24_63 {X : Option (List Int32)} {d : Nat} {h : zH} {A : Int32 → zH → Prop} {l1 : Int32} {l2 : Int32} {l3 : Int32} {l4 : Int32} (hw : zP X d 24 5 [some (.ref 20), some (.int l1), some (.int l2), some (.int l3), some (.int (l4 + 1))] [] z_S0 h (zI A)) : zP X d 24 63 [some (.ref 20), some (.int l1), some (.int l2), some (.int l3), some (.int l4)] [] z_S0 h (zI A) := by
  refine zl zM24 q24_63 (ls' := [some (.ref 20), some (.int l1), some (.int l2), some (.int l3), some (.int (l4 + 1))]) rfl ?_
  refine zl zM24 q24_66 (pc' := 5) (ls' := _) (st' := _) rfl ?_
  exact hw
theorem b24_60 {X : Option (List Int32)} {d : Nat} {h : zH} {A : Int32 → zH → Prop} {l1 : Int32} {l2 : Int32} {l4 : Int32} (hw : zP X d 24 63 [some (.ref 20), some (.int l1), some (.int l2), some (.int l4), some (.int l4)] [] z_S0 h (zI A)) : zP X d 24 60 [some (.ref 20), some (.int l1), some (.int l2), none, some (.int l4)] [] z_S0 h (zI A) := by
  refine zl zM24 q24_60 rfl ?_
  refine zl zM24 q24_62 (ls' := [some (.ref 20), some (.int l1), some (.int l2), some (.int l4), some (.int l4)]) rfl ?_
  exact hw
-- X4_put
theorem b26 {X : Option (List Int32)} {d : Nat} {h : zH} {A : Int32 → zH → Prop} {a1 : Int32} {a2 : Int32} {a3 : Int32} {a4 : Int32} (hw : (z_ib (h 49 8) 12 ∧ (z_ib (h 49 8) 12 ∧ (z_ib (h 49 8) 12 ∧ (z_ib (h 49 8) 12 ∧ A (((h 49 8) + 1) - 1) (z_up (z_up (z_up (z_up (z_up h 50 (Int32.toNatClampNeg (h 49 8)) a1) 51 (Int32.toNatClampNeg (h 49 8)) a2) 52 (Int32.toNatClampNeg (h 49 8)) a3) 53 (Int32.toNatClampNeg (h 49 8)) a4) 49 8 ((h 49 8) + 1))))))) : zP X d 26 0 (z_ent [.ref 49, .int a1, .int a2, .int a3, .int a4] 5) [] z_S0 h (zI A) := by
  show zP X d 26 0 [some (.ref 49), some (.int a1), some (.int a2), some (.int a3), some (.int a4)] [] z_S0 h (zI A)
  refine zl zM26 q26_0 rfl ?_
  refine zgR (a := 50) zM26 q26_1 (by decide) g4_11 s49 rfl ?_
  refine zl zM26 q26_4 rfl ?_
  refine zgI zM26 q26_5 (by decide) g4_36 s49 rfl (v := (h 49 8)) rfl ?_
  refine zl zM26 q26_8 rfl ?_
  obtain ⟨hb, hw⟩ := hw
  refine ziS zM26 q26_9 (by decide) s50 hb rfl ?_
  refine zl zM26 q26_10 rfl ?_
  refine zgR (a := 51) zM26 q26_11 (by decide) g4_15 s49 rfl ?_
  refine zl zM26 q26_14 rfl ?_
  refine zgI zM26 q26_15 (by decide) g4_36 s49 rfl (v := (h 49 8)) rfl ?_
  refine zl zM26 q26_18 rfl ?_
  obtain ⟨hb, hw⟩ := hw
  refine ziS zM26 q26_19 (by decide) s51 hb rfl ?_
  refine zl zM26 q26_20 rfl ?_
  refine zgR (a := 52) zM26 q26_21 (by decide) g4_18 s49 rfl ?_
  refine zl zM26 q26_24 rfl ?_
  refine zgI zM26 q26_25 (by decide) g4_36 s49 rfl (v := (h 49 8)) rfl ?_
  refine zl zM26 q26_28 rfl ?_
  obtain ⟨hb, hw⟩ := hw
  refine ziS zM26 q26_29 (by decide) s52 hb rfl ?_
  refine zl zM26 q26_30 rfl ?_
  refine zgR (a := 53) zM26 q26_31 (by decide) g4_21 s49 rfl ?_
  refine zl zM26 q26_34 rfl ?_
  refine zgI zM26 q26_35 (by decide) g4_36 s49 rfl (v := (h 49 8)) rfl ?_
  refine zl zM26 q26_38 rfl ?_
  obtain ⟨hb, hw⟩ := hw
  refine ziS zM26 q26_40 (by decide) s53 hb rfl ?_
  refine zl zM26 q26_41 rfl ?_
  refine zl zM26 q26_42 rfl ?_
  refine zgI zM26 q26_43 (by decide) g4_36 s49 rfl (v := (h 49 8)) rfl ?_
  refine zkI zM26 q26_46 kI1 ?_
  refine zl zM26 q26_47 (pc' := 48) (st' := .int ((h 49 8) + 1) :: _) rfl ?_
  refine zpi zM26 q26_48 (by decide) g4_36 s49 rfl rfl ?_
  refine zl zM26 q26_51 rfl ?_
  refine zgI zM26 q26_52 (by decide) g4_36 s49 rfl (v := ((h 49 8) + 1)) rfl ?_
  refine zkI zM26 q26_55 kI1 ?_
  refine zl zM26 q26_56 (pc' := 57) (st' := .int (((h 49 8) + 1) - 1) :: _) rfl ?_
  exact zri zM26 q26_57 rfl rfl hw
-- X4_wasMissed
theorem b27 {X : Option (List Int32)} {d : Nat} {h : zH} {A : Int32 → zH → Prop} {a1 : Int32} {a2 : Int32} (hw : zP X d 27 2 [some (.ref 49), some (.int a1), some (.int a2), some (.int 0)] [] z_S0 h (zI A)) : zP X d 27 0 (z_ent [.ref 49, .int a1, .int a2] 4) [] z_S0 h (zI A) := by
  show zP X d 27 0 [some (.ref 49), some (.int a1), some (.int a2), none] [] z_S0 h (zI A)
  refine zkI zM27 q27_0 kI0 ?_
  refine zl zM27 q27_1 (ls' := [some (.ref 49), some (.int a1), some (.int a2), some (.int 0)]) rfl ?_
  exact hw
theorem b27_2 {X : Option (List Int32)} {d : Nat} {h : zH} {A : Int32 → zH → Prop} {l1 : Int32} {l2 : Int32} {l3 : Int32} (hw : ((l3 < (h 49 9) → (z_ib l3 60 ∧ (((h 54 (Int32.toNatClampNeg l3)) = l1 → (z_ib l3 60 ∧ (((h 55 (Int32.toNatClampNeg l3)) = l2 → A 1 h) ∧ (¬ (h 55 (Int32.toNatClampNeg l3)) = l2 → zP X d 27 32 [some (.ref 49), some (.int l1), some (.int l2), some (.int l3)] [] z_S0 h (zI A))))) ∧ (¬ (h 54 (Int32.toNatClampNeg l3)) = l1 → zP X d 27 32 [some (.ref 49), some (.int l1), some (.int l2), some (.int l3)] [] z_S0 h (zI A))))) ∧ (¬ l3 < (h 49 9) → A 0 h))) : zP X d 27 2 [some (.ref 49), some (.int l1), some (.int l2), some (.int l3)] [] z_S0 h (zI A) := by
  refine zl zM27 q27_2 rfl ?_
  refine zl zM27 q27_3 rfl ?_
  refine zgI zM27 q27_4 (by decide) g4_40 s49 rfl (v := (h 49 9)) rfl ?_
  refine zb2_ge zM27 q27_7 (tgt := 38) rfl (fun hc => ?_) (fun hc => ?_)
  · have hw := hw.2 hc
    refine zkI zM27 q27_38 kI0 ?_
    exact zri zM27 q27_39 rfl rfl hw
  · have hw := hw.1 hc
    refine zl zM27 q27_10 rfl ?_
    refine zgR (a := 54) zM27 q27_11 (by decide) g4_24 s49 rfl ?_
    refine zl zM27 q27_14 rfl ?_
    obtain ⟨hb, hw⟩ := hw
    refine ziA zM27 q27_15 (by decide) s54 hb (v := (h 54 (Int32.toNatClampNeg l3))) rfl ?_
    refine zl zM27 q27_16 rfl ?_
    refine zb2_ne zM27 q27_17 (tgt := 32) rfl (fun hc => ?_) (fun hc => ?_)
    · have hw := hw.2 hc
      exact hw
    · have hw := hw.1 hc
      refine zl zM27 q27_20 rfl ?_
      refine zgR (a := 55) zM27 q27_21 (by decide) g4_27 s49 rfl ?_
      refine zl zM27 q27_24 rfl ?_
      obtain ⟨hb, hw⟩ := hw
      refine ziA zM27 q27_25 (by decide) s55 hb (v := (h 55 (Int32.toNatClampNeg l3))) rfl ?_
      refine zl zM27 q27_26 rfl ?_
      refine zb2_ne zM27 q27_27 (tgt := 32) rfl (fun hc => ?_) (fun hc => ?_)
      · have hw := hw.2 hc
        exact hw
      · have hw := hw.1 hc
        refine zkI zM27 q27_30 kI1 ?_
        exact zri zM27 q27_31 rfl rfl hw
theorem b27_32 {X : Option (List Int32)} {d : Nat} {h : zH} {A : Int32 → zH → Prop} {l1 : Int32} {l2 : Int32} {l3 : Int32} (hw : zP X d 27 2 [some (.ref 49), some (.int l1), some (.int l2), some (.int (l3 + 1))] [] z_S0 h (zI A)) : zP X d 27 32 [some (.ref 49), some (.int l1), some (.int l2), some (.int l3)] [] z_S0 h (zI A) := by
  refine zl zM27 q27_32 (ls' := [some (.ref 49), some (.int l1), some (.int l2), some (.int (l3 + 1))]) rfl ?_
  refine zl zM27 q27_35 (pc' := 2) (ls' := _) (st' := _) rfl ?_
  exact hw
-- X4_putMissed
theorem b28 {X : Option (List Int32)} {d : Nat} {h : zH} {A : zH → Prop} {a1 : Int32} {a2 : Int32} (hw : (z_ib (h 49 9) 60 ∧ (z_ib (h 49 9) 60 ∧ A (z_up (z_up (z_up h 54 (Int32.toNatClampNeg (h 49 9)) a1) 55 (Int32.toNatClampNeg (h 49 9)) a2) 49 9 ((h 49 9) + 1))))) : zP X d 28 0 (z_ent [.ref 49, .int a1, .int a2] 3) [] z_S0 h (zV A) := by
  show zP X d 28 0 [some (.ref 49), some (.int a1), some (.int a2)] [] z_S0 h (zV A)
  refine zl zM28 q28_0 rfl ?_
  refine zgR (a := 54) zM28 q28_1 (by decide) g4_24 s49 rfl ?_
  refine zl zM28 q28_4 rfl ?_
  refine zgI zM28 q28_5 (by decide) g4_40 s49 rfl (v := (h 49 9)) rfl ?_
  refine zl zM28 q28_8 rfl ?_
  obtain ⟨hb, hw⟩ := hw
  refine ziS zM28 q28_9 (by decide) s54 hb rfl ?_
  refine zl zM28 q28_10 rfl ?_
  refine zgR (a := 55) zM28 q28_11 (by decide) g4_27 s49 rfl ?_
  refine zl zM28 q28_14 rfl ?_
  refine zgI zM28 q28_15 (by decide) g4_40 s49 rfl (v := (h 49 9)) rfl ?_
  refine zl zM28 q28_18 rfl ?_
  obtain ⟨hb, hw⟩ := hw
  refine ziS zM28 q28_19 (by decide) s55 hb rfl ?_
  refine zl zM28 q28_20 rfl ?_
  refine zl zM28 q28_21 rfl ?_
  refine zgI zM28 q28_22 (by decide) g4_40 s49 rfl (v := (h 49 9)) rfl ?_
  refine zkI zM28 q28_25 kI1 ?_
  refine zl zM28 q28_26 (pc' := 27) (st' := .int ((h 49 9) + 1) :: _) rfl ?_
  refine zpi zM28 q28_27 (by decide) g4_40 s49 rfl rfl ?_
  exact zrv zM28 q28_30 rfl hw
-- X4_missedOf
theorem b29 {X : Option (List Int32)} {d : Nat} {h : zH} {A : Int32 → zH → Prop} {a1 : Int32} {a2 : Int32} (hw : zP X d 29 5 [some (.ref 49), some (.int a1), some (.int a2), some (.int 0), some (.int 0)] [] z_S0 h (zI A)) : zP X d 29 0 (z_ent [.ref 49, .int a1, .int a2] 5) [] z_S0 h (zI A) := by
  show zP X d 29 0 [some (.ref 49), some (.int a1), some (.int a2), none, none] [] z_S0 h (zI A)
  refine zkI zM29 q29_0 kI0 ?_
  refine zl zM29 q29_1 (ls' := [some (.ref 49), some (.int a1), some (.int a2), some (.int 0), none]) rfl ?_
  refine zkI zM29 q29_2 kI0 ?_
  refine zl zM29 q29_3 (ls' := [some (.ref 49), some (.int a1), some (.int a2), some (.int 0), some (.int 0)]) rfl ?_
  exact hw
theorem b29_5 {X : Option (List Int32)} {d : Nat} {h : zH} {A : Int32 → zH → Prop} {l1 : Int32} {l2 : Int32} {l3 : Int32} {l4 : Int32} (hw : ((l4 < (h 49 9) → (z_ib l4 60 ∧ (((h 55 (Int32.toNatClampNeg l4)) = l2 → (z_ib l4 60 ∧ (z_ib (h 54 (Int32.toNatClampNeg l4)) 12 ∧ (((h 50 (Int32.toNatClampNeg (h 54 (Int32.toNatClampNeg l4)))) = l1 → zP X d 29 44 [some (.ref 49), some (.int l1), some (.int l2), some (.int (l3 + 1)), some (.int l4)] [] z_S0 h (zI A)) ∧ (¬ (h 50 (Int32.toNatClampNeg (h 54 (Int32.toNatClampNeg l4)))) = l1 → zP X d 29 44 [some (.ref 49), some (.int l1), some (.int l2), some (.int l3), some (.int l4)] [] z_S0 h (zI A)))))) ∧ (¬ (h 55 (Int32.toNatClampNeg l4)) = l2 → zP X d 29 44 [some (.ref 49), some (.int l1), some (.int l2), some (.int l3), some (.int l4)] [] z_S0 h (zI A))))) ∧ (¬ l4 < (h 49 9) → A l3 h))) : zP X d 29 5 [some (.ref 49), some (.int l1), some (.int l2), some (.int l3), some (.int l4)] [] z_S0 h (zI A) := by
  refine zl zM29 q29_5 rfl ?_
  refine zl zM29 q29_7 rfl ?_
  refine zgI zM29 q29_8 (by decide) g4_40 s49 rfl (v := (h 49 9)) rfl ?_
  refine zb2_ge zM29 q29_11 (tgt := 50) rfl (fun hc => ?_) (fun hc => ?_)
  · have hw := hw.2 hc
    refine zl zM29 q29_50 rfl ?_
    exact zri zM29 q29_51 rfl rfl hw
  · have hw := hw.1 hc
    refine zl zM29 q29_14 rfl ?_
    refine zgR (a := 55) zM29 q29_15 (by decide) g4_27 s49 rfl ?_
    refine zl zM29 q29_18 rfl ?_
    obtain ⟨hb, hw⟩ := hw
    refine ziA zM29 q29_20 (by decide) s55 hb (v := (h 55 (Int32.toNatClampNeg l4))) rfl ?_
    refine zl zM29 q29_21 rfl ?_
    refine zb2_ne zM29 q29_22 (tgt := 44) rfl (fun hc => ?_) (fun hc => ?_)
    · have hw := hw.2 hc
      exact hw
    · have hw := hw.1 hc
      refine zl zM29 q29_25 rfl ?_
      refine zgR (a := 50) zM29 q29_26 (by decide) g4_11 s49 rfl ?_
      refine zl zM29 q29_29 rfl ?_
      refine zgR (a := 54) zM29 q29_30 (by decide) g4_24 s49 rfl ?_
      refine zl zM29 q29_33 rfl ?_
      obtain ⟨hb, hw⟩ := hw
      refine ziA zM29 q29_35 (by decide) s54 hb (v := (h 54 (Int32.toNatClampNeg l4))) rfl ?_
      obtain ⟨hb, hw⟩ := hw
      refine ziA zM29 q29_36 (by decide) s50 hb (v := (h 50 (Int32.toNatClampNeg (h 54 (Int32.toNatClampNeg l4))))) rfl ?_
      refine zl zM29 q29_37 rfl ?_
      refine zb2_ne zM29 q29_38 (tgt := 44) rfl (fun hc => ?_) (fun hc => ?_)
      · have hw := hw.2 hc
        exact hw
      · have hw := hw.1 hc
        refine zl zM29 q29_41 (ls' := [some (.ref 49), some (.int l1), some (.int l2), some (.int (l3 + 1)), some (.int l4)]) rfl ?_
        exact hw
theorem b29_44 {X : Option (List Int32)} {d : Nat} {h : zH} {A : Int32 → zH → Prop} {l1 : Int32} {l2 : Int32} {l3 : Int32} {l4 : Int32} (hw : zP X d 29 5 [some (.ref 49), some (.int l1), some (.int l2), some (.int l3), some (.int (l4 + 1))] [] z_S0 h (zI A)) : zP X d 29 44 [some (.ref 49), some (.int l1), some (.int l2), some (.int l3), some (.int l4)] [] z_S0 h (zI A) := by
  refine zl zM29 q29_44 (ls' := [some (.ref 49), some (.int l1), some (.int l2), some (.int l3), some (.int (l4 + 1))]) rfl ?_
  refine zl zM29 q29_47 (pc' := 5) (ls' := _) (st' := _) rfl ?_
  exact hw
-- X4_fewestCarts
theorem b30 {X : Option (List Int32)} {d : Nat} {h : zH} {A : Int32 → zH → Prop} {a1 : Int32} {a2 : Int32} {a3 : Int32} (hw : zP X (d + 1) 30 9 [some (.ref 49), some (.int a1), some (.int a2), some (.int a3), some (.int 0), some (.int 1), some (.int 0)] [] z_S0 h (zI A)) : zP X (d + 1) 30 0 (z_ent [.ref 49, .int a1, .int a2, .int a3] 7) [] z_S0 h (zI A) := by
  show zP X (d + 1) 30 0 [some (.ref 49), some (.int a1), some (.int a2), some (.int a3), none, none, none] [] z_S0 h (zI A)
  refine zkI zM30 q30_0 kI0 ?_
  refine zl zM30 q30_1 (ls' := [some (.ref 49), some (.int a1), some (.int a2), some (.int a3), some (.int 0), none, none]) rfl ?_
  refine zkI zM30 q30_3 kI1 ?_
  refine zl zM30 q30_4 (ls' := [some (.ref 49), some (.int a1), some (.int a2), some (.int a3), some (.int 0), some (.int 1), none]) rfl ?_
  refine zkI zM30 q30_6 kI0 ?_
  refine zl zM30 q30_7 (ls' := [some (.ref 49), some (.int a1), some (.int a2), some (.int a3), some (.int 0), some (.int 1), some (.int 0)]) rfl ?_
  exact hw
theorem b30_9 {X : Option (List Int32)} {d : Nat} {h : zH} {A : Int32 → zH → Prop} {l1 : Int32} {l2 : Int32} {l3 : Int32} {l4 : Int32} {l5 : Int32} {l6 : Int32} (hw : ((l6 < (h 49 8) → (z_ib l6 12 ∧ (((h 52 (Int32.toNatClampNeg l6)) = l1 → ((l4 < 8 → (z_ib l6 12 ∧ (z_ib l4 8 ∧ ((l5 = 0 → zP X (d + 1) 30 92 [some (.ref 49), some (.int l1), some (.int l2), some (.int l3), some (.int (l4 + 1)), none, some (.int l6)] [] z_S0 (z_up h 56 (Int32.toNatClampNeg l4) (h 51 (Int32.toNatClampNeg l6))) (zI A)) ∧ (¬ l5 = 0 → (z_ib l6 12 ∧ ((l2 < (h 51 (Int32.toNatClampNeg l6)) → zP X (d + 1) 30 92 [some (.ref 49), some (.int l1), some (.int l2), some (.int l3), some (.int (l4 + 1)), none, some (.int l6)] [] z_S0 (z_up h 56 (Int32.toNatClampNeg l4) (h 51 (Int32.toNatClampNeg l6))) (zI A)) ∧ (¬ l2 < (h 51 (Int32.toNatClampNeg l6)) → (z_ib l6 12 ∧ ((l3 < (2 * (h 53 (Int32.toNatClampNeg l6))) → zP X (d + 1) 30 92 [some (.ref 49), some (.int l1), some (.int l2), some (.int l3), some (.int (l4 + 1)), none, some (.int l6)] [] z_S0 (z_up h 56 (Int32.toNatClampNeg l4) (h 51 (Int32.toNatClampNeg l6))) (zI A)) ∧ (¬ l3 < (2 * (h 53 (Int32.toNatClampNeg l6))) → zP X (d + 1) 30 93 [some (.ref 49), some (.int l1), some (.int l2), some (.int l3), some (.int (l4 + 1)), none, some (.int l6)] [.int 1] z_S0 (z_up h 56 (Int32.toNatClampNeg l4) (h 51 (Int32.toNatClampNeg l6))) (zI A)))))))))))) ∧ (¬ l4 < 8 → A (-3) h))) ∧ (¬ (h 52 (Int32.toNatClampNeg l6)) = l1 → zP X (d + 1) 30 95 [some (.ref 49), some (.int l1), some (.int l2), some (.int l3), some (.int l4), some (.int l5), some (.int l6)] [] z_S0 h (zI A))))) ∧ (¬ l6 < (h 49 8) → ((l5 = 0 → A (-1) h) ∧ (¬ l5 = 0 → ((l4 = 0 → A 0 h) ∧ (¬ l4 = 0 → zP X d 31 0 (z_ent [.ref 49, .int l4, .int l2] 7) [] z_S0 h (zI fun v1 h3 => A ((v1 / 10000) + 1) h3)))))))) : zP X (d + 1) 30 9 [some (.ref 49), some (.int l1), some (.int l2), some (.int l3), some (.int l4), some (.int l5), some (.int l6)] [] z_S0 h (zI A) := by
  refine zl zM30 q30_9 rfl ?_
  refine zl zM30 q30_11 rfl ?_
  refine zgI zM30 q30_12 (by decide) g4_36 s49 rfl (v := (h 49 8)) rfl ?_
  refine zb2_ge zM30 q30_15 (tgt := 101) rfl (fun hc => ?_) (fun hc => ?_)
  · have hw := hw.2 hc
    refine zl zM30 q30_101 rfl ?_
    refine zb1_ne zM30 q30_103 (tgt := 108) rfl (fun hc => ?_) (fun hc => ?_)
    · have hw := hw.2 hc
      refine zl zM30 q30_108 rfl ?_
      refine zb1_ne zM30 q30_110 (tgt := 117) rfl (fun hc => ?_) (fun hc => ?_)
      · have hw := hw.2 hc
        refine zl zM30 q30_117 rfl ?_
        refine zl zM30 q30_118 rfl ?_
        refine zl zM30 q30_120 rfl ?_
        refine zcV zM30 q30_121 kl4_43 rfl rfl (Nat.le_of_ble_eq_true rfl) rfl zM31 (Nat.le_of_ble_eq_true rfl) (hw.mono (fun r0 h3 hr4 => ?_))
        obtain ⟨v1, rfl, hw⟩ := hr4
        show zP X (d + 1) 30 124 [some (.ref 49), some (.int l1), some (.int l2), some (.int l3), some (.int l4), some (.int l5), some (.int l6)] [.int v1] z_S0 h3 (zI A)
        refine zkS zM30 q30_124 kS10000 ?_
        refine zl zM30 q30_127 (pc' := 128) (st' := .int (v1 / 10000) :: _) rfl ?_
        refine zkI zM30 q30_128 kI1 ?_
        refine zl zM30 q30_129 (pc' := 130) (st' := .int ((v1 / 10000) + 1) :: _) rfl ?_
        exact zri zM30 q30_130 rfl rfl hw
      · have hw := hw.1 hc
        refine zkI zM30 q30_113 kI0 ?_
        refine zl zM30 q30_114 (pc' := 130) (ls' := _) (st' := _) rfl ?_
        exact zri zM30 q30_130 rfl rfl hw
    · have hw := hw.1 hc
      refine zkI zM30 q30_106 kIm1 ?_
      exact zri zM30 q30_107 rfl rfl hw
  · have hw := hw.1 hc
    refine zl zM30 q30_18 rfl ?_
    refine zgR (a := 52) zM30 q30_19 (by decide) g4_18 s49 rfl ?_
    refine zl zM30 q30_22 rfl ?_
    obtain ⟨hb, hw⟩ := hw
    refine ziA zM30 q30_24 (by decide) s52 hb (v := (h 52 (Int32.toNatClampNeg l6))) rfl ?_
    refine zl zM30 q30_25 rfl ?_
    refine zb2_eq zM30 q30_26 (tgt := 32) rfl (fun hc => ?_) (fun hc => ?_)
    · have hw := hw.1 hc
      refine zl zM30 q30_32 rfl ?_
      refine zkB zM30 q30_34 kB8 ?_
      refine zb2_lt zM30 q30_36 (tgt := 42) rfl (fun hc => ?_) (fun hc => ?_)
      · have hw := hw.1 hc
        refine zl zM30 q30_42 rfl ?_
        refine zgR (a := 56) zM30 q30_43 (by decide) g4_30 s49 rfl ?_
        refine zl zM30 q30_46 rfl ?_
        refine zl zM30 q30_48 rfl ?_
        refine zgR (a := 51) zM30 q30_49 (by decide) g4_15 s49 rfl ?_
        refine zl zM30 q30_52 rfl ?_
        obtain ⟨hb, hw⟩ := hw
        refine ziA zM30 q30_54 (by decide) s51 hb (v := (h 51 (Int32.toNatClampNeg l6))) rfl ?_
        obtain ⟨hb, hw⟩ := hw
        refine ziS zM30 q30_55 (by decide) s56 hb rfl ?_
        refine zl zM30 q30_56 (ls' := [some (.ref 49), some (.int l1), some (.int l2), some (.int l3), some (.int (l4 + 1)), some (.int l5), some (.int l6)]) rfl ?_
        refine zl zM30 q30_59 rfl ?_
        refine zb1_eq zM30 q30_61 (tgt := 92) rfl (fun hc => ?_) (fun hc => ?_)
        · have hw := hw.1 hc
          refine zweak (a := [some (.ref 49), some (.int l1), some (.int l2), some (.int l3), some (.int (l4 + 1)), none, some (.int l6)]) ?_ hw
          exact ⟨rfl, ⟨rfl, ⟨rfl, ⟨rfl, ⟨rfl, ⟨rfl, trivial⟩⟩⟩⟩⟩⟩
        · have hw := hw.2 hc
          refine zl zM30 q30_64 rfl ?_
          refine zgR (a := 51) zM30 q30_65 (by decide) g4_15 s49 rfl ?_
          refine zl zM30 q30_68 rfl ?_
          obtain ⟨hb, hw⟩ := hw
          refine ziA zM30 q30_70 (by decide) s51 hb (v := (h 51 (Int32.toNatClampNeg l6))) rfl ?_
          refine zl zM30 q30_71 rfl ?_
          refine zb2_gt zM30 q30_72 (tgt := 92) rfl (fun hc => ?_) (fun hc => ?_)
          · have hw := hw.1 hc
            refine zweak (a := [some (.ref 49), some (.int l1), some (.int l2), some (.int l3), some (.int (l4 + 1)), none, some (.int l6)]) ?_ hw
            exact ⟨rfl, ⟨rfl, ⟨rfl, ⟨rfl, ⟨rfl, ⟨rfl, trivial⟩⟩⟩⟩⟩⟩
          · have hw := hw.2 hc
            refine zkI zM30 q30_75 kI2 ?_
            refine zl zM30 q30_76 rfl ?_
            refine zgR (a := 53) zM30 q30_77 (by decide) g4_21 s49 rfl ?_
            refine zl zM30 q30_80 rfl ?_
            obtain ⟨hb, hw⟩ := hw
            refine ziA zM30 q30_82 (by decide) s53 hb (v := (h 53 (Int32.toNatClampNeg l6))) rfl ?_
            refine zl zM30 q30_83 (pc' := 84) (st' := .int (2 * (h 53 (Int32.toNatClampNeg l6))) :: _) rfl ?_
            refine zl zM30 q30_84 rfl ?_
            refine zb2_gt zM30 q30_85 (tgt := 92) rfl (fun hc => ?_) (fun hc => ?_)
            · have hw := hw.1 hc
              refine zweak (a := [some (.ref 49), some (.int l1), some (.int l2), some (.int l3), some (.int (l4 + 1)), none, some (.int l6)]) ?_ hw
              exact ⟨rfl, ⟨rfl, ⟨rfl, ⟨rfl, ⟨rfl, ⟨rfl, trivial⟩⟩⟩⟩⟩⟩
            · have hw := hw.2 hc
              refine zkI zM30 q30_88 kI1 ?_
              refine zl zM30 q30_89 (pc' := 93) (ls' := _) (st' := _) rfl ?_
              refine zweak (a := [some (.ref 49), some (.int l1), some (.int l2), some (.int l3), some (.int (l4 + 1)), none, some (.int l6)]) ?_ hw
              exact ⟨rfl, ⟨rfl, ⟨rfl, ⟨rfl, ⟨rfl, ⟨rfl, trivial⟩⟩⟩⟩⟩⟩
      · have hw := hw.2 hc
        refine zkB zM30 q30_39 kBm3 ?_
        exact zri zM30 q30_41 rfl rfl hw
    · have hw := hw.2 hc
      refine zl zM30 q30_29 (pc' := 95) (ls' := _) (st' := _) rfl ?_
      exact hw
theorem b30_92 {X : Option (List Int32)} {d : Nat} {h : zH} {A : Int32 → zH → Prop} {l1 : Int32} {l2 : Int32} {l3 : Int32} {l4 : Int32} {l6 : Int32} (hw : zP X (d + 1) 30 93 [some (.ref 49), some (.int l1), some (.int l2), some (.int l3), some (.int l4), none, some (.int l6)] [.int 0] z_S0 h (zI A)) : zP X (d + 1) 30 92 [some (.ref 49), some (.int l1), some (.int l2), some (.int l3), some (.int l4), none, some (.int l6)] [] z_S0 h (zI A) := by
  refine zkI zM30 q30_92 kI0 ?_
  exact hw
theorem b30_93 {X : Option (List Int32)} {d : Nat} {h : zH} {A : Int32 → zH → Prop} {l1 : Int32} {l2 : Int32} {l3 : Int32} {l4 : Int32} {l6 : Int32} {w0 : Int32} (hw : zP X (d + 1) 30 95 [some (.ref 49), some (.int l1), some (.int l2), some (.int l3), some (.int l4), some (.int w0), some (.int l6)] [] z_S0 h (zI A)) : zP X (d + 1) 30 93 [some (.ref 49), some (.int l1), some (.int l2), some (.int l3), some (.int l4), none, some (.int l6)] [.int w0] z_S0 h (zI A) := by
  refine zl zM30 q30_93 (ls' := [some (.ref 49), some (.int l1), some (.int l2), some (.int l3), some (.int l4), some (.int w0), some (.int l6)]) rfl ?_
  exact hw
theorem b30_95 {X : Option (List Int32)} {d : Nat} {h : zH} {A : Int32 → zH → Prop} {l1 : Int32} {l2 : Int32} {l3 : Int32} {l4 : Int32} {l5 : Int32} {l6 : Int32} (hw : zP X (d + 1) 30 9 [some (.ref 49), some (.int l1), some (.int l2), some (.int l3), some (.int l4), some (.int l5), some (.int (l6 + 1))] [] z_S0 h (zI A)) : zP X (d + 1) 30 95 [some (.ref 49), some (.int l1), some (.int l2), some (.int l3), some (.int l4), some (.int l5), some (.int l6)] [] z_S0 h (zI A) := by
  refine zl zM30 q30_95 (ls' := [some (.ref 49), some (.int l1), some (.int l2), some (.int l3), some (.int l4), some (.int l5), some (.int (l6 + 1))]) rfl ?_
  refine zl zM30 q30_98 (pc' := 9) (ls' := _) (st' := _) rfl ?_
  exact hw
-- X4_filled
theorem b31 {X : Option (List Int32)} {d : Nat} {h : zH} {A : Int32 → zH → Prop} {a1 : Int32} {a2 : Int32} (hw : zP X (d + 1) 31 14 [some (.ref 49), some (.int a1), some (.int a2), some (.int (1 <<< (a1 &&& 31))), some (.int 1), none, none] [] z_S0 (z_up h 57 0 0) (zI A)) : zP X (d + 1) 31 0 (z_ent [.ref 49, .int a1, .int a2] 7) [] z_S0 h (zI A) := by
  show zP X (d + 1) 31 0 [some (.ref 49), some (.int a1), some (.int a2), none, none, none, none] [] z_S0 h (zI A)
  refine zkI zM31 q31_0 kI1 ?_
  refine zl zM31 q31_1 rfl ?_
  refine zl zM31 q31_2 (pc' := 3) (st' := .int (1 <<< (a1 &&& 31)) :: _) rfl ?_
  refine zl zM31 q31_3 (ls' := [some (.ref 49), some (.int a1), some (.int a2), some (.int (1 <<< (a1 &&& 31))), none, none, none]) rfl ?_
  refine zl zM31 q31_4 rfl ?_
  refine zgR (a := 57) zM31 q31_5 (by decide) g4_33 s49 rfl ?_
  refine zkI zM31 q31_8 kI0 ?_
  refine zkI zM31 q31_9 kI0 ?_
  refine ziS (j := 0) zM31 q31_10 (by decide) s57 (by decide) rfl ?_
  refine zkI zM31 q31_11 kI1 ?_
  refine zl zM31 q31_12 (ls' := [some (.ref 49), some (.int a1), some (.int a2), some (.int (1 <<< (a1 &&& 31))), some (.int 1), none, none]) rfl ?_
  exact hw
theorem b31_14 {X : Option (List Int32)} {d : Nat} {h : zH} {A : Int32 → zH → Prop} {l1 : Int32} {l2 : Int32} {l3 : Int32} {l4 : Int32} (hw : ((l4 < l3 → zP X (d + 1) 31 27 [some (.ref 49), some (.int l1), some (.int l2), some (.int l3), some (.int l4), some (.int 90000), some (.int 0)] [] z_S0 h (zI A)) ∧ (¬ l4 < l3 → (z_ib (l3 - 1) 256 ∧ A (h 57 (Int32.toNatClampNeg (l3 - 1))) h)))) : zP X (d + 1) 31 14 [some (.ref 49), some (.int l1), some (.int l2), some (.int l3), some (.int l4), none, none] [] z_S0 h (zI A) := by
  refine zl zM31 q31_14 rfl ?_
  refine zl zM31 q31_16 rfl ?_
  refine zb2_ge zM31 q31_17 (tgt := 95) rfl (fun hc => ?_) (fun hc => ?_)
  · have hw := hw.2 hc
    refine zl zM31 q31_95 rfl ?_
    refine zgR (a := 57) zM31 q31_96 (by decide) g4_33 s49 rfl ?_
    refine zl zM31 q31_99 rfl ?_
    refine zkI zM31 q31_100 kI1 ?_
    refine zl zM31 q31_101 (pc' := 102) (st' := .int (l3 - 1) :: _) rfl ?_
    obtain ⟨hb, hw⟩ := hw
    refine ziA zM31 q31_102 (by decide) s57 hb (v := (h 57 (Int32.toNatClampNeg (l3 - 1)))) rfl ?_
    exact zri zM31 q31_103 rfl rfl hw
  · have hw := hw.1 hc
    refine zkC zM31 q31_20 kc4_47 ?_
    refine zl zM31 q31_22 (ls' := [some (.ref 49), some (.int l1), some (.int l2), some (.int l3), some (.int l4), some (.int 90000), none]) rfl ?_
    refine zkI zM31 q31_24 kI0 ?_
    refine zl zM31 q31_25 (ls' := [some (.ref 49), some (.int l1), some (.int l2), some (.int l3), some (.int l4), some (.int 90000), some (.int 0)]) rfl ?_
    exact hw
theorem b31_27 {X : Option (List Int32)} {d : Nat} {h : zH} {A : Int32 → zH → Prop} {l1 : Int32} {l2 : Int32} {l3 : Int32} {l4 : Int32} {l5 : Int32} {l6 : Int32} (hw : ((l6 < l1 → ((((l4 >>> (l6 &&& 31)) &&& 1) = 1 → (z_ib (l4 ^^^ (1 <<< (l6 &&& 31))) 256 ∧ (z_ib l6 8 ∧ zP X d 32 0 (z_ent [.int (h 57 (Int32.toNatClampNeg (l4 ^^^ (1 <<< (l6 &&& 31))))), .int (h 56 (Int32.toNatClampNeg l6)), .int l2] 4) [] z_S0 h (zI fun v1 h2 => zP X d 215 0 (z_ent [.int l5, .int v1] 2) [] z_S0 h2 (zI fun v3 h4 => zP X (d + 1) 31 74 [some (.ref 49), some (.int l1), some (.int l2), some (.int l3), some (.int l4), some (.int v3), some (.int l6)] [] z_S0 h4 (zI A)))))) ∧ (¬ ((l4 >>> (l6 &&& 31)) &&& 1) = 1 → zP X (d + 1) 31 74 [some (.ref 49), some (.int l1), some (.int l2), some (.int l3), some (.int l4), some (.int l5), some (.int l6)] [] z_S0 h (zI A)))) ∧ (¬ l6 < l1 → (z_ib l4 256 ∧ zP X (d + 1) 31 14 [some (.ref 49), some (.int l1), some (.int l2), some (.int l3), some (.int (l4 + 1)), none, none] [] z_S0 (z_up h 57 (Int32.toNatClampNeg l4) l5) (zI A))))) : zP X (d + 1) 31 27 [some (.ref 49), some (.int l1), some (.int l2), some (.int l3), some (.int l4), some (.int l5), some (.int l6)] [] z_S0 h (zI A) := by
  refine zl zM31 q31_27 rfl ?_
  refine zl zM31 q31_29 rfl ?_
  refine zb2_ge zM31 q31_30 (tgt := 80) rfl (fun hc => ?_) (fun hc => ?_)
  · have hw := hw.2 hc
    refine zl zM31 q31_80 rfl ?_
    refine zgR (a := 57) zM31 q31_81 (by decide) g4_33 s49 rfl ?_
    refine zl zM31 q31_84 rfl ?_
    refine zl zM31 q31_86 rfl ?_
    obtain ⟨hb, hw⟩ := hw
    refine ziS zM31 q31_88 (by decide) s57 hb rfl ?_
    refine zl zM31 q31_89 (ls' := [some (.ref 49), some (.int l1), some (.int l2), some (.int l3), some (.int (l4 + 1)), some (.int l5), some (.int l6)]) rfl ?_
    refine zl zM31 q31_92 (pc' := 14) (ls' := _) (st' := _) rfl ?_
    refine zweak (a := [some (.ref 49), some (.int l1), some (.int l2), some (.int l3), some (.int (l4 + 1)), none, none]) ?_ hw
    exact ⟨rfl, ⟨rfl, ⟨rfl, ⟨rfl, ⟨rfl, trivial⟩⟩⟩⟩⟩
  · have hw := hw.1 hc
    refine zl zM31 q31_33 rfl ?_
    refine zl zM31 q31_35 rfl ?_
    refine zl zM31 q31_37 (pc' := 38) (st' := .int (l4 >>> (l6 &&& 31)) :: _) rfl ?_
    refine zkI zM31 q31_38 kI1 ?_
    refine zl zM31 q31_39 (pc' := 40) (st' := .int ((l4 >>> (l6 &&& 31)) &&& 1) :: _) rfl ?_
    refine zkI zM31 q31_40 kI1 ?_
    refine zb2_ne zM31 q31_41 (tgt := 74) rfl (fun hc => ?_) (fun hc => ?_)
    · have hw := hw.2 hc
      exact hw
    · have hw := hw.1 hc
      refine zl zM31 q31_44 rfl ?_
      refine zl zM31 q31_46 rfl ?_
      refine zgR (a := 57) zM31 q31_47 (by decide) g4_33 s49 rfl ?_
      refine zl zM31 q31_50 rfl ?_
      refine zkI zM31 q31_52 kI1 ?_
      refine zl zM31 q31_53 rfl ?_
      refine zl zM31 q31_55 (pc' := 56) (st' := .int (1 <<< (l6 &&& 31)) :: _) rfl ?_
      refine zl zM31 q31_56 (pc' := 57) (st' := .int (l4 ^^^ (1 <<< (l6 &&& 31))) :: _) rfl ?_
      obtain ⟨hb, hw⟩ := hw
      refine ziA zM31 q31_57 (by decide) s57 hb (v := (h 57 (Int32.toNatClampNeg (l4 ^^^ (1 <<< (l6 &&& 31)))))) rfl ?_
      refine zl zM31 q31_58 rfl ?_
      refine zgR (a := 56) zM31 q31_59 (by decide) g4_30 s49 rfl ?_
      refine zl zM31 q31_62 rfl ?_
      obtain ⟨hb, hw⟩ := hw
      refine ziA zM31 q31_64 (by decide) s56 hb (v := (h 56 (Int32.toNatClampNeg l6))) rfl ?_
      refine zl zM31 q31_65 rfl ?_
      refine zcS zM31 q31_66 ky4_48 kl4_48 (by decide) rfl (Nat.le_of_ble_eq_true rfl) zM32 (Nat.le_of_ble_eq_true rfl) (hw.mono (fun r0 h2 hr6 => ?_))
      obtain ⟨v1, rfl, hw⟩ := hr6
      show zP X (d + 1) 31 69 [some (.ref 49), some (.int l1), some (.int l2), some (.int l3), some (.int l4), some (.int l5), some (.int l6)] [.int v1, .int l5] z_S0 h2 (zI A)
      refine zcS zM31 q31_69 ky4_52 kl4_52 (by decide) rfl (Nat.le_of_ble_eq_true rfl) zM215 (Nat.le_of_ble_eq_true rfl) (hw.mono (fun r0 h4 hr5 => ?_))
      obtain ⟨v3, rfl, hw⟩ := hr5
      show zP X (d + 1) 31 72 [some (.ref 49), some (.int l1), some (.int l2), some (.int l3), some (.int l4), some (.int l5), some (.int l6)] [.int v3] z_S0 h4 (zI A)
      refine zl zM31 q31_72 (ls' := [some (.ref 49), some (.int l1), some (.int l2), some (.int l3), some (.int l4), some (.int v3), some (.int l6)]) rfl ?_
      exact hw
theorem b31_74 {X : Option (List Int32)} {d : Nat} {h : zH} {A : Int32 → zH → Prop} {l1 : Int32} {l2 : Int32} {l3 : Int32} {l4 : Int32} {l5 : Int32} {l6 : Int32} (hw : zP X (d + 1) 31 27 [some (.ref 49), some (.int l1), some (.int l2), some (.int l3), some (.int l4), some (.int l5), some (.int (l6 + 1))] [] z_S0 h (zI A)) : zP X (d + 1) 31 74 [some (.ref 49), some (.int l1), some (.int l2), some (.int l3), some (.int l4), some (.int l5), some (.int l6)] [] z_S0 h (zI A) := by
  refine zl zM31 q31_74 (ls' := [some (.ref 49), some (.int l1), some (.int l2), some (.int l3), some (.int l4), some (.int l5), some (.int (l6 + 1))]) rfl ?_
  refine zl zM31 q31_77 (pc' := 27) (ls' := _) (st' := _) rfl ?_
  exact hw
-- X4_loaded
theorem b32 {X : Option (List Int32)} {d : Nat} {h : zH} {A : Int32 → zH → Prop} {a1 : Int32} {a2 : Int32} {a3 : Int32} (hw : ((a3 < ((a1 - a1 / 10000 * 10000) + a2) → A (((a1 - (a1 - a1 / 10000 * 10000)) + 10000) + a2) h) ∧ (¬ a3 < ((a1 - a1 / 10000 * 10000) + a2) → A (a1 + a2) h))) : zP X d 32 0 (z_ent [.int a1, .int a2, .int a3] 4) [] z_S0 h (zI A) := by
  show zP X d 32 0 [some (.int a1), some (.int a2), some (.int a3), none] [] z_S0 h (zI A)
  refine zl zM32 q32_0 rfl ?_
  refine zkS zM32 q32_1 kS10000 ?_
  refine zl zM32 q32_4 (pc' := 5) (st' := .int (a1 - a1 / 10000 * 10000) :: _) rfl ?_
  refine zl zM32 q32_5 (ls' := [some (.int a1), some (.int a2), some (.int a3), some (.int (a1 - a1 / 10000 * 10000))]) rfl ?_
  refine zl zM32 q32_6 rfl ?_
  refine zl zM32 q32_7 rfl ?_
  refine zl zM32 q32_8 (pc' := 9) (st' := .int ((a1 - a1 / 10000 * 10000) + a2) :: _) rfl ?_
  refine zl zM32 q32_9 rfl ?_
  refine zb2_gt zM32 q32_10 (tgt := 19) rfl (fun hc => ?_) (fun hc => ?_)
  · have hw := hw.1 hc
    refine zl zM32 q32_19 rfl ?_
    refine zl zM32 q32_20 rfl ?_
    refine zl zM32 q32_21 (pc' := 22) (st' := .int (a1 - (a1 - a1 / 10000 * 10000)) :: _) rfl ?_
    refine zkS zM32 q32_22 kS10000 ?_
    refine zl zM32 q32_25 (pc' := 26) (st' := .int ((a1 - (a1 - a1 / 10000 * 10000)) + 10000) :: _) rfl ?_
    refine zl zM32 q32_26 rfl ?_
    refine zl zM32 q32_27 (pc' := 28) (st' := .int (((a1 - (a1 - a1 / 10000 * 10000)) + 10000) + a2) :: _) rfl ?_
    exact zri zM32 q32_28 rfl rfl hw
  · have hw := hw.2 hc
    refine zl zM32 q32_13 rfl ?_
    refine zl zM32 q32_14 rfl ?_
    refine zl zM32 q32_15 (pc' := 16) (st' := .int (a1 + a2) :: _) rfl ?_
    refine zl zM32 q32_16 (pc' := 28) (ls' := _) (st' := _) rfl ?_
    exact zri zM32 q32_28 rfl rfl hw
-- X5_put
theorem b34 {X : Option (List Int32)} {d : Nat} {h : zH} {A : Int32 → zH → Prop} {a1 : Int32} {a2 : Int32} {a3 : Int32} (hw : (z_ib (h 45 3) 20 ∧ (z_ib (h 45 3) 20 ∧ (z_ib (h 45 3) 20 ∧ A (((h 45 3) + 1) - 1) (z_up (z_up (z_up (z_up h 46 (Int32.toNatClampNeg (h 45 3)) a1) 47 (Int32.toNatClampNeg (h 45 3)) a2) 48 (Int32.toNatClampNeg (h 45 3)) a3) 45 3 ((h 45 3) + 1)))))) : zP X d 34 0 (z_ent [.ref 45, .int a1, .int a2, .int a3] 4) [] z_S0 h (zI A) := by
  show zP X d 34 0 [some (.ref 45), some (.int a1), some (.int a2), some (.int a3)] [] z_S0 h (zI A)
  refine zl zM34 q34_0 rfl ?_
  refine zgR (a := 46) zM34 q34_1 (by decide) g5_9 s45 rfl ?_
  refine zl zM34 q34_4 rfl ?_
  refine zgI zM34 q34_5 (by decide) g5_21 s45 rfl (v := (h 45 3)) rfl ?_
  refine zl zM34 q34_8 rfl ?_
  obtain ⟨hb, hw⟩ := hw
  refine ziS zM34 q34_9 (by decide) s46 hb rfl ?_
  refine zl zM34 q34_10 rfl ?_
  refine zgR (a := 47) zM34 q34_11 (by decide) g5_15 s45 rfl ?_
  refine zl zM34 q34_14 rfl ?_
  refine zgI zM34 q34_15 (by decide) g5_21 s45 rfl (v := (h 45 3)) rfl ?_
  refine zl zM34 q34_18 rfl ?_
  obtain ⟨hb, hw⟩ := hw
  refine ziS zM34 q34_19 (by decide) s47 hb rfl ?_
  refine zl zM34 q34_20 rfl ?_
  refine zgR (a := 48) zM34 q34_21 (by decide) g5_18 s45 rfl ?_
  refine zl zM34 q34_24 rfl ?_
  refine zgI zM34 q34_25 (by decide) g5_21 s45 rfl (v := (h 45 3)) rfl ?_
  refine zl zM34 q34_28 rfl ?_
  obtain ⟨hb, hw⟩ := hw
  refine ziS zM34 q34_29 (by decide) s48 hb rfl ?_
  refine zl zM34 q34_30 rfl ?_
  refine zl zM34 q34_31 rfl ?_
  refine zgI zM34 q34_32 (by decide) g5_21 s45 rfl (v := (h 45 3)) rfl ?_
  refine zkI zM34 q34_35 kI1 ?_
  refine zl zM34 q34_36 (pc' := 37) (st' := .int ((h 45 3) + 1) :: _) rfl ?_
  refine zpi zM34 q34_37 (by decide) g5_21 s45 rfl rfl ?_
  refine zl zM34 q34_40 rfl ?_
  refine zgI zM34 q34_41 (by decide) g5_21 s45 rfl (v := ((h 45 3) + 1)) rfl ?_
  refine zkI zM34 q34_44 kI1 ?_
  refine zl zM34 q34_45 (pc' := 46) (st' := .int (((h 45 3) + 1) - 1) :: _) rfl ?_
  exact zri zM34 q34_46 rfl rfl hw

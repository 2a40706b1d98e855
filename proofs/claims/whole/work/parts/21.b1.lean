-- X6_setWin
theorem b36 {X : Option (List Int32)} {d : Nat} {h : zH} {A : Int32 → zH → Prop} {a1 : Int32} {a2 : Int32} {a3 : Int32} (hw : (z_ib ((a1 * 5) + a2) 50 ∧ (z_ib ((a1 * 5) + a2) 50 ∧ A (h 61 (Int32.toNatClampNeg ((a1 * 5) + a2))) (z_up h 61 (Int32.toNatClampNeg ((a1 * 5) + a2)) a3)))) : zP X d 36 0 (z_ent [.ref 60, .int a1, .int a2, .int a3] 5) [] z_S0 h (zI A) := by
  show zP X d 36 0 [some (.ref 60), some (.int a1), some (.int a2), some (.int a3), none] [] z_S0 h (zI A)
  refine zl zM36 q36_0 rfl ?_
  refine zgR (a := 61) zM36 q36_1 (by decide) g6_9 s60 rfl ?_
  refine zl zM36 q36_4 rfl ?_
  refine zkI zM36 q36_5 kI5 ?_
  refine zl zM36 q36_6 (pc' := 7) (st' := .int (a1 * 5) :: _) rfl ?_
  refine zl zM36 q36_7 rfl ?_
  refine zl zM36 q36_8 (pc' := 9) (st' := .int ((a1 * 5) + a2) :: _) rfl ?_
  obtain ⟨hb, hw⟩ := hw
  refine ziA zM36 q36_9 (by decide) s61 hb (v := (h 61 (Int32.toNatClampNeg ((a1 * 5) + a2)))) rfl ?_
  refine zl zM36 q36_10 (ls' := [some (.ref 60), some (.int a1), some (.int a2), some (.int a3), some (.int (h 61 (Int32.toNatClampNeg ((a1 * 5) + a2))))]) rfl ?_
  refine zl zM36 q36_12 rfl ?_
  refine zgR (a := 61) zM36 q36_13 (by decide) g6_9 s60 rfl ?_
  refine zl zM36 q36_16 rfl ?_
  refine zkI zM36 q36_17 kI5 ?_
  refine zl zM36 q36_18 (pc' := 19) (st' := .int (a1 * 5) :: _) rfl ?_
  refine zl zM36 q36_19 rfl ?_
  refine zl zM36 q36_20 (pc' := 21) (st' := .int ((a1 * 5) + a2) :: _) rfl ?_
  refine zl zM36 q36_21 rfl ?_
  obtain ⟨hb, hw⟩ := hw
  refine ziS zM36 q36_22 (by decide) s61 hb rfl ?_
  refine zl zM36 q36_23 rfl ?_
  exact zri zM36 q36_25 rfl rfl hw
-- X6_layAll
theorem b37 {X : Option (List Int32)} {d : Nat} {h : zH} {A : zH → Prop} {a1 : Int32} (hw : zP X (d + 1) 37 7 [some (.ref 60), some (.int a1), some (.int 0)] [] z_S0 (z_up h 60 4 0) (zV A)) : zP X (d + 1) 37 0 (z_ent [.ref 60, .int a1] 3) [] z_S0 h (zV A) := by
  show zP X (d + 1) 37 0 [some (.ref 60), some (.int a1), none] [] z_S0 h (zV A)
  refine zl zM37 q37_0 rfl ?_
  refine zkI zM37 q37_1 kI0 ?_
  refine zpi zM37 q37_2 (by decide) g6_24 s60 rfl rfl ?_
  refine zkI zM37 q37_5 kI0 ?_
  refine zl zM37 q37_6 (ls' := [some (.ref 60), some (.int a1), some (.int 0)]) rfl ?_
  exact hw
theorem b37_7 {X : Option (List Int32)} {d : Nat} {h : zH} {A : zH → Prop} {l1 : Int32} {l2 : Int32} (hw : ((l2 < 10 → ((((l1 >>> (l2 &&& 31)) &&& 1) = 1 → (((h 60 4) < 5 → (z_ib (h 60 4) 5 ∧ zP X (d + 1) 37 50 [some (.ref 60), some (.int l1), some (.int l2)] [] z_S0 (z_up (z_up h 62 (Int32.toNatClampNeg (h 60 4)) l2) 60 4 ((h 60 4) + 1)) (zV A))) ∧ (¬ (h 60 4) < 5 → zP X (d + 1) 37 50 [some (.ref 60), some (.int l1), some (.int l2)] [] z_S0 h (zV A)))) ∧ (¬ ((l1 >>> (l2 &&& 31)) &&& 1) = 1 → zP X (d + 1) 37 50 [some (.ref 60), some (.int l1), some (.int l2)] [] z_S0 h (zV A)))) ∧ (¬ l2 < 10 → zP X d 38 0 (z_ent [.ref 60, .int 0, .int 0, .int 0] 6) [] z_S0 (z_up h 60 5 (-1)) (zV fun h3 => A h3)))) : zP X (d + 1) 37 7 [some (.ref 60), some (.int l1), some (.int l2)] [] z_S0 h (zV A) := by
  refine zl zM37 q37_7 rfl ?_
  refine zkB zM37 q37_8 kB10 ?_
  refine zb2_ge zM37 q37_10 (tgt := 56) rfl (fun hc => ?_) (fun hc => ?_)
  · have hw := hw.2 hc
    refine zl zM37 q37_56 rfl ?_
    refine zkI zM37 q37_57 kIm1 ?_
    refine zpi zM37 q37_58 (by decide) g6_28 s60 rfl rfl ?_
    refine zl zM37 q37_61 rfl ?_
    refine zkI zM37 q37_62 kI0 ?_
    refine zkI zM37 q37_63 kI0 ?_
    refine zkI zM37 q37_64 kI0 ?_
    refine zcS zM37 q37_65 ky6_31 kl6_31 (by decide) rfl (Nat.le_of_ble_eq_true rfl) zM38 (Nat.le_of_ble_eq_true rfl) (hw.mono (fun r0 h3 hr4 => ?_))
    obtain ⟨rfl, hw⟩ := hr4
    show zP X (d + 1) 37 68 [some (.ref 60), some (.int l1), some (.int l2)] [] z_S0 h3 (zV A)
    exact zrv zM37 q37_68 rfl hw
  · have hw := hw.1 hc
    refine zl zM37 q37_13 rfl ?_
    refine zl zM37 q37_14 rfl ?_
    refine zl zM37 q37_15 (pc' := 16) (st' := .int (l1 >>> (l2 &&& 31)) :: _) rfl ?_
    refine zkI zM37 q37_16 kI1 ?_
    refine zl zM37 q37_17 (pc' := 18) (st' := .int ((l1 >>> (l2 &&& 31)) &&& 1) :: _) rfl ?_
    refine zkI zM37 q37_18 kI1 ?_
    refine zb2_ne zM37 q37_19 (tgt := 50) rfl (fun hc => ?_) (fun hc => ?_)
    · have hw := hw.2 hc
      exact hw
    · have hw := hw.1 hc
      refine zl zM37 q37_22 rfl ?_
      refine zgI zM37 q37_23 (by decide) g6_24 s60 rfl (v := (h 60 4)) rfl ?_
      refine zkI zM37 q37_26 kI5 ?_
      refine zb2_ge zM37 q37_27 (tgt := 50) rfl (fun hc => ?_) (fun hc => ?_)
      · have hw := hw.2 hc
        exact hw
      · have hw := hw.1 hc
        refine zl zM37 q37_30 rfl ?_
        refine zgR (a := 62) zM37 q37_31 (by decide) g6_15 s60 rfl ?_
        refine zl zM37 q37_34 rfl ?_
        refine zgI zM37 q37_35 (by decide) g6_24 s60 rfl (v := (h 60 4)) rfl ?_
        refine zl zM37 q37_38 rfl ?_
        obtain ⟨hb, hw⟩ := hw
        refine ziS zM37 q37_39 (by decide) s62 hb rfl ?_
        refine zl zM37 q37_40 rfl ?_
        refine zl zM37 q37_41 rfl ?_
        refine zgI zM37 q37_42 (by decide) g6_24 s60 rfl (v := (h 60 4)) rfl ?_
        refine zkI zM37 q37_45 kI1 ?_
        refine zl zM37 q37_46 (pc' := 47) (st' := .int ((h 60 4) + 1) :: _) rfl ?_
        refine zpi zM37 q37_47 (by decide) g6_24 s60 rfl rfl ?_
        exact hw
theorem b37_50 {X : Option (List Int32)} {d : Nat} {h : zH} {A : zH → Prop} {l1 : Int32} {l2 : Int32} (hw : zP X (d + 1) 37 7 [some (.ref 60), some (.int l1), some (.int (l2 + 1))] [] z_S0 h (zV A)) : zP X (d + 1) 37 50 [some (.ref 60), some (.int l1), some (.int l2)] [] z_S0 h (zV A) := by
  refine zl zM37 q37_50 (ls' := [some (.ref 60), some (.int l1), some (.int (l2 + 1))]) rfl ?_
  refine zl zM37 q37_53 (pc' := 7) (ls' := _) (st' := _) rfl ?_
  exact hw
-- X6_layFrom
theorem b38 {X : Option (List Int32)} {d : Nat} {h : zH} {A : zH → Prop} {a2 : Int32} {a3 : Int32} {a4 : Int32} (hw : ((a2 < (h 60 4) → (z_ib a2 5 ∧ zP X (d + 1) 38 50 [some (.ref 60), some (.int a2), some (.int a3), some (.int a4), some (.int (h 62 (Int32.toNatClampNeg a2))), some (.int 0)] [] z_S0 h (zV A))) ∧ (¬ a2 < (h 60 4) → (((h 60 5) < a4 → ((¬ (0 : Int32) < 0 ∧ ¬ (0 : Int32) < 0 ∧ ¬ ((h 60 4) : Int32) < 0 ∧ Int32.toNatClampNeg 0 + Int32.toNatClampNeg (h 60 4) ≤ 5 ∧ Int32.toNatClampNeg 0 + Int32.toNatClampNeg (h 60 4) ≤ 5) ∧ A (z_cpy (z_up h 60 5 a4) 63 64 (Int32.toNatClampNeg 0) (Int32.toNatClampNeg 0) (Int32.toNatClampNeg (h 60 4))))) ∧ (¬ (h 60 5) < a4 → A h))))) : zP X (d + 1) 38 0 (z_ent [.ref 60, .int a2, .int a3, .int a4] 6) [] z_S0 h (zV A) := by
  show zP X (d + 1) 38 0 [some (.ref 60), some (.int a2), some (.int a3), some (.int a4), none, none] [] z_S0 h (zV A)
  refine zl zM38 q38_0 rfl ?_
  refine zl zM38 q38_1 rfl ?_
  refine zgI zM38 q38_2 (by decide) g6_24 s60 rfl (v := (h 60 4)) rfl ?_
  refine zb2_lt zM38 q38_5 (tgt := 39) rfl (fun hc => ?_) (fun hc => ?_)
  · have hw := hw.1 hc
    refine zl zM38 q38_39 rfl ?_
    refine zgR (a := 62) zM38 q38_40 (by decide) g6_15 s60 rfl ?_
    refine zl zM38 q38_43 rfl ?_
    obtain ⟨hb, hw⟩ := hw
    refine ziA zM38 q38_44 (by decide) s62 hb (v := (h 62 (Int32.toNatClampNeg a2))) rfl ?_
    refine zl zM38 q38_45 (ls' := [some (.ref 60), some (.int a2), some (.int a3), some (.int a4), some (.int (h 62 (Int32.toNatClampNeg a2))), none]) rfl ?_
    refine zkI zM38 q38_47 kI0 ?_
    refine zl zM38 q38_48 (ls' := [some (.ref 60), some (.int a2), some (.int a3), some (.int a4), some (.int (h 62 (Int32.toNatClampNeg a2))), some (.int 0)]) rfl ?_
    exact hw
  · have hw := hw.2 hc
    refine zl zM38 q38_8 rfl ?_
    refine zl zM38 q38_9 rfl ?_
    refine zgI zM38 q38_10 (by decide) g6_28 s60 rfl (v := (h 60 5)) rfl ?_
    refine zb2_le zM38 q38_13 (tgt := 38) rfl (fun hc => ?_) (fun hc => ?_)
    · have hw := hw.2 hc
      exact zrv zM38 q38_38 rfl hw
    · have hw := hw.1 hc
      refine zl zM38 q38_16 rfl ?_
      refine zl zM38 q38_17 rfl ?_
      refine zpi zM38 q38_18 (by decide) g6_28 s60 rfl rfl ?_
      refine zl zM38 q38_21 rfl ?_
      refine zgR (a := 63) zM38 q38_22 (by decide) g6_18 s60 rfl ?_
      refine zkI zM38 q38_25 kI0 ?_
      refine zl zM38 q38_26 rfl ?_
      refine zgR (a := 64) zM38 q38_27 (by decide) g6_21 s60 rfl ?_
      refine zkI zM38 q38_30 kI0 ?_
      refine zl zM38 q38_31 rfl ?_
      refine zgI zM38 q38_32 (by decide) g6_24 s60 rfl (v := (h 60 4)) rfl ?_
      obtain ⟨hb, hw⟩ := hw
      refine zcp zM38 q38_35 kz6_35 (Nat.le_of_ble_eq_true rfl) (by decide) (by decide) s63 s64 hb ?_
      exact zrv zM38 q38_38 rfl hw
theorem b38_50 {X : Option (List Int32)} {d : Nat} {h : zH} {A : zH → Prop} {l1 : Int32} {l2 : Int32} {l3 : Int32} {l4 : Int32} {l5 : Int32} (hw : ((l5 < 5 → ((((l2 >>> (l5 &&& 31)) &&& 1) = 0 → (z_ib l1 5 ∧ (z_ib ((l4 * 5) + l5) 50 ∧ zP X d 38 0 (z_ent [.ref 60, .int (l1 + 1), .int (l2 ||| (1 <<< (l5 &&& 31))), .int (l3 + (h 61 (Int32.toNatClampNeg ((l4 * 5) + l5))))] 6) [] z_S0 (z_up h 63 (Int32.toNatClampNeg l1) l5) (zV fun h4 => zP X (d + 1) 38 100 [some (.ref 60), some (.int l1), some (.int l2), some (.int l3), some (.int l4), some (.int l5)] [] z_S0 h4 (zV A))))) ∧ (¬ ((l2 >>> (l5 &&& 31)) &&& 1) = 0 → zP X (d + 1) 38 100 [some (.ref 60), some (.int l1), some (.int l2), some (.int l3), some (.int l4), some (.int l5)] [] z_S0 h (zV A)))) ∧ (¬ l5 < 5 → A h))) : zP X (d + 1) 38 50 [some (.ref 60), some (.int l1), some (.int l2), some (.int l3), some (.int l4), some (.int l5)] [] z_S0 h (zV A) := by
  refine zl zM38 q38_50 rfl ?_
  refine zkI zM38 q38_52 kI5 ?_
  refine zb2_ge zM38 q38_53 (tgt := 106) rfl (fun hc => ?_) (fun hc => ?_)
  · have hw := hw.2 hc
    exact zrv zM38 q38_106 rfl hw
  · have hw := hw.1 hc
    refine zl zM38 q38_56 rfl ?_
    refine zl zM38 q38_57 rfl ?_
    refine zl zM38 q38_59 (pc' := 60) (st' := .int (l2 >>> (l5 &&& 31)) :: _) rfl ?_
    refine zkI zM38 q38_60 kI1 ?_
    refine zl zM38 q38_61 (pc' := 62) (st' := .int ((l2 >>> (l5 &&& 31)) &&& 1) :: _) rfl ?_
    refine zb1_ne zM38 q38_62 (tgt := 100) rfl (fun hc => ?_) (fun hc => ?_)
    · have hw := hw.2 hc
      exact hw
    · have hw := hw.1 hc
      refine zl zM38 q38_65 rfl ?_
      refine zgR (a := 63) zM38 q38_66 (by decide) g6_18 s60 rfl ?_
      refine zl zM38 q38_69 rfl ?_
      refine zl zM38 q38_70 rfl ?_
      obtain ⟨hb, hw⟩ := hw
      refine ziS zM38 q38_72 (by decide) s63 hb rfl ?_
      refine zl zM38 q38_73 rfl ?_
      refine zl zM38 q38_74 rfl ?_
      refine zkI zM38 q38_75 kI1 ?_
      refine zl zM38 q38_76 (pc' := 77) (st' := .int (l1 + 1) :: _) rfl ?_
      refine zl zM38 q38_77 rfl ?_
      refine zkI zM38 q38_78 kI1 ?_
      refine zl zM38 q38_79 rfl ?_
      refine zl zM38 q38_81 (pc' := 82) (st' := .int (1 <<< (l5 &&& 31)) :: _) rfl ?_
      refine zl zM38 q38_82 (pc' := 83) (st' := .int (l2 ||| (1 <<< (l5 &&& 31))) :: _) rfl ?_
      refine zl zM38 q38_83 rfl ?_
      refine zl zM38 q38_84 rfl ?_
      refine zgR (a := 61) zM38 q38_85 (by decide) g6_9 s60 rfl ?_
      refine zl zM38 q38_88 rfl ?_
      refine zkI zM38 q38_90 kI5 ?_
      refine zl zM38 q38_91 (pc' := 92) (st' := .int (l4 * 5) :: _) rfl ?_
      refine zl zM38 q38_92 rfl ?_
      refine zl zM38 q38_94 (pc' := 95) (st' := .int ((l4 * 5) + l5) :: _) rfl ?_
      obtain ⟨hb, hw⟩ := hw
      refine ziA zM38 q38_95 (by decide) s61 hb (v := (h 61 (Int32.toNatClampNeg ((l4 * 5) + l5)))) rfl ?_
      refine zl zM38 q38_96 (pc' := 97) (st' := .int (l3 + (h 61 (Int32.toNatClampNeg ((l4 * 5) + l5)))) :: _) rfl ?_
      refine zcS zM38 q38_97 ky6_31 kl6_31 (by decide) rfl (Nat.le_of_ble_eq_true rfl) zM38 (Nat.le_of_ble_eq_true rfl) (hw.mono (fun r0 h4 hr5 => ?_))
      obtain ⟨rfl, hw⟩ := hr5
      show zP X (d + 1) 38 100 [some (.ref 60), some (.int l1), some (.int l2), some (.int l3), some (.int l4), some (.int l5)] [] z_S0 h4 (zV A)
      exact hw
theorem b38_100 {X : Option (List Int32)} {d : Nat} {h : zH} {A : zH → Prop} {l1 : Int32} {l2 : Int32} {l3 : Int32} {l4 : Int32} {l5 : Int32} (hw : zP X (d + 1) 38 50 [some (.ref 60), some (.int l1), some (.int l2), some (.int l3), some (.int l4), some (.int (l5 + 1))] [] z_S0 h (zV A)) : zP X (d + 1) 38 100 [some (.ref 60), some (.int l1), some (.int l2), some (.int l3), some (.int l4), some (.int l5)] [] z_S0 h (zV A) := by
  refine zl zM38 q38_100 (ls' := [some (.ref 60), some (.int l1), some (.int l2), some (.int l3), some (.int l4), some (.int (l5 + 1))]) rfl ?_
  refine zl zM38 q38_103 (pc' := 50) (ls' := _) (st' := _) rfl ?_
  exact hw
-- X7_tell
theorem b40 {X : Option (List Int32)} {d : Nat} {h : zH} {A : Int32 → zH → Prop} {a1 : Int32} {a2 : Int32} {a3 : Int32} {a4 : Int32} (hw : (z_ib (h 13 4) 40 ∧ (z_ib (h 13 4) 40 ∧ (z_ib (h 13 4) 40 ∧ (z_ib (h 13 4) 40 ∧ A ((h 13 4) + 1) (z_up (z_up (z_up (z_up (z_up h 14 (Int32.toNatClampNeg (h 13 4)) a1) 15 (Int32.toNatClampNeg (h 13 4)) a2) 16 (Int32.toNatClampNeg (h 13 4)) a3) 17 (Int32.toNatClampNeg (h 13 4)) a4) 13 4 ((h 13 4) + 1))))))) : zP X d 40 0 (z_ent [.ref 13, .int a1, .int a2, .int a3, .int a4] 5) [] z_S0 h (zI A) := by
  show zP X d 40 0 [some (.ref 13), some (.int a1), some (.int a2), some (.int a3), some (.int a4)] [] z_S0 h (zI A)
  refine zl zM40 q40_0 rfl ?_
  refine zgR (a := 14) zM40 q40_1 (by decide) g7_9 s13 rfl ?_
  refine zl zM40 q40_4 rfl ?_
  refine zgI zM40 q40_5 (by decide) g7_24 s13 rfl (v := (h 13 4)) rfl ?_
  refine zl zM40 q40_8 rfl ?_
  obtain ⟨hb, hw⟩ := hw
  refine ziS zM40 q40_9 (by decide) s14 hb rfl ?_
  refine zl zM40 q40_10 rfl ?_
  refine zgR (a := 15) zM40 q40_11 (by decide) g7_15 s13 rfl ?_
  refine zl zM40 q40_14 rfl ?_
  refine zgI zM40 q40_15 (by decide) g7_24 s13 rfl (v := (h 13 4)) rfl ?_
  refine zl zM40 q40_18 rfl ?_
  obtain ⟨hb, hw⟩ := hw
  refine ziS zM40 q40_19 (by decide) s15 hb rfl ?_
  refine zl zM40 q40_20 rfl ?_
  refine zgR (a := 16) zM40 q40_21 (by decide) g7_18 s13 rfl ?_
  refine zl zM40 q40_24 rfl ?_
  refine zgI zM40 q40_25 (by decide) g7_24 s13 rfl (v := (h 13 4)) rfl ?_
  refine zl zM40 q40_28 rfl ?_
  obtain ⟨hb, hw⟩ := hw
  refine ziS zM40 q40_29 (by decide) s16 hb rfl ?_
  refine zl zM40 q40_30 rfl ?_
  refine zgR (a := 17) zM40 q40_31 (by decide) g7_21 s13 rfl ?_
  refine zl zM40 q40_34 rfl ?_
  refine zgI zM40 q40_35 (by decide) g7_24 s13 rfl (v := (h 13 4)) rfl ?_
  refine zl zM40 q40_38 rfl ?_
  obtain ⟨hb, hw⟩ := hw
  refine ziS zM40 q40_40 (by decide) s17 hb rfl ?_
  refine zl zM40 q40_41 rfl ?_
  refine zl zM40 q40_42 rfl ?_
  refine zgI zM40 q40_43 (by decide) g7_24 s13 rfl (v := (h 13 4)) rfl ?_
  refine zkI zM40 q40_46 kI1 ?_
  refine zl zM40 q40_47 (pc' := 48) (st' := .int ((h 13 4) + 1) :: _) rfl ?_
  refine zpi zM40 q40_48 (by decide) g7_24 s13 rfl rfl ?_
  refine zl zM40 q40_51 rfl ?_
  refine zgI zM40 q40_52 (by decide) g7_24 s13 rfl (v := ((h 13 4) + 1)) rfl ?_
  exact zri zM40 q40_55 rfl rfl hw
-- X7_known
theorem b41 {X : Option (List Int32)} {d : Nat} {h : zH} {A : Int32 → zH → Prop} {a1 : Int32} {a2 : Int32} {a3 : Int32} (hw : zP X d 41 6 [some (.ref 13), some (.int a1), some (.int a2), some (.int a3), some (.int (-1)), some (.int 0)] [] z_S0 h (zI A)) : zP X d 41 0 (z_ent [.ref 13, .int a1, .int a2, .int a3] 6) [] z_S0 h (zI A) := by
  show zP X d 41 0 [some (.ref 13), some (.int a1), some (.int a2), some (.int a3), none, none] [] z_S0 h (zI A)
  refine zkI zM41 q41_0 kIm1 ?_
  refine zl zM41 q41_1 (ls' := [some (.ref 13), some (.int a1), some (.int a2), some (.int a3), some (.int (-1)), none]) rfl ?_
  refine zkI zM41 q41_3 kI0 ?_
  refine zl zM41 q41_4 (ls' := [some (.ref 13), some (.int a1), some (.int a2), some (.int a3), some (.int (-1)), some (.int 0)]) rfl ?_
  exact hw
theorem b41_6 {X : Option (List Int32)} {d : Nat} {h : zH} {A : Int32 → zH → Prop} {l1 : Int32} {l2 : Int32} {l3 : Int32} {l4 : Int32} {l5 : Int32} (hw : ((l5 < (h 13 4) → (z_ib l5 40 ∧ (((h 14 (Int32.toNatClampNeg l5)) = l1 → (z_ib l5 40 ∧ ((l2 < (h 15 (Int32.toNatClampNeg l5)) → zP X d 41 78 [some (.ref 13), some (.int l1), some (.int l2), some (.int l3), some (.int l4), some (.int l5)] [] z_S0 h (zI A)) ∧ (¬ l2 < (h 15 (Int32.toNatClampNeg l5)) → (z_ib l5 40 ∧ ((l3 < (h 17 (Int32.toNatClampNeg l5)) → zP X d 41 78 [some (.ref 13), some (.int l1), some (.int l2), some (.int l3), some (.int l4), some (.int l5)] [] z_S0 h (zI A)) ∧ (¬ l3 < (h 17 (Int32.toNatClampNeg l5)) → ((l4 = (-1) → zP X d 41 74 [some (.ref 13), some (.int l1), some (.int l2), some (.int l3), none, some (.int l5)] [] z_S0 h (zI A)) ∧ (¬ l4 = (-1) → (z_ib l5 40 ∧ (z_ib l4 40 ∧ (((h 15 (Int32.toNatClampNeg l5)) < (h 15 (Int32.toNatClampNeg l4)) → zP X d 41 78 [some (.ref 13), some (.int l1), some (.int l2), some (.int l3), some (.int l4), some (.int l5)] [] z_S0 h (zI A)) ∧ (¬ (h 15 (Int32.toNatClampNeg l5)) < (h 15 (Int32.toNatClampNeg l4)) → zP X d 41 74 [some (.ref 13), some (.int l1), some (.int l2), some (.int l3), none, some (.int l5)] [] z_S0 h (zI A)))))))))))))) ∧ (¬ (h 14 (Int32.toNatClampNeg l5)) = l1 → zP X d 41 78 [some (.ref 13), some (.int l1), some (.int l2), some (.int l3), some (.int l4), some (.int l5)] [] z_S0 h (zI A))))) ∧ (¬ l5 < (h 13 4) → ((l4 = (-1) → A 0 h) ∧ (¬ l4 = (-1) → (z_ib l4 40 ∧ A (h 16 (Int32.toNatClampNeg l4)) h)))))) : zP X d 41 6 [some (.ref 13), some (.int l1), some (.int l2), some (.int l3), some (.int l4), some (.int l5)] [] z_S0 h (zI A) := by
  refine zl zM41 q41_6 rfl ?_
  refine zl zM41 q41_8 rfl ?_
  refine zgI zM41 q41_9 (by decide) g7_24 s13 rfl (v := (h 13 4)) rfl ?_
  refine zb2_ge zM41 q41_12 (tgt := 84) rfl (fun hc => ?_) (fun hc => ?_)
  · have hw := hw.2 hc
    refine zl zM41 q41_84 rfl ?_
    refine zkI zM41 q41_86 kIm1 ?_
    refine zb2_ne zM41 q41_87 (tgt := 94) rfl (fun hc => ?_) (fun hc => ?_)
    · have hw := hw.2 hc
      refine zl zM41 q41_94 rfl ?_
      refine zgR (a := 16) zM41 q41_95 (by decide) g7_18 s13 rfl ?_
      refine zl zM41 q41_98 rfl ?_
      obtain ⟨hb, hw⟩ := hw
      refine ziA zM41 q41_100 (by decide) s16 hb (v := (h 16 (Int32.toNatClampNeg l4))) rfl ?_
      exact zri zM41 q41_101 rfl rfl hw
    · have hw := hw.1 hc
      refine zkI zM41 q41_90 kI0 ?_
      refine zl zM41 q41_91 (pc' := 101) (ls' := _) (st' := _) rfl ?_
      exact zri zM41 q41_101 rfl rfl hw
  · have hw := hw.1 hc
    refine zl zM41 q41_15 rfl ?_
    refine zgR (a := 14) zM41 q41_16 (by decide) g7_9 s13 rfl ?_
    refine zl zM41 q41_19 rfl ?_
    obtain ⟨hb, hw⟩ := hw
    refine ziA zM41 q41_21 (by decide) s14 hb (v := (h 14 (Int32.toNatClampNeg l5))) rfl ?_
    refine zl zM41 q41_22 rfl ?_
    refine zb2_ne zM41 q41_23 (tgt := 78) rfl (fun hc => ?_) (fun hc => ?_)
    · have hw := hw.2 hc
      exact hw
    · have hw := hw.1 hc
      refine zl zM41 q41_26 rfl ?_
      refine zgR (a := 15) zM41 q41_27 (by decide) g7_15 s13 rfl ?_
      refine zl zM41 q41_30 rfl ?_
      obtain ⟨hb, hw⟩ := hw
      refine ziA zM41 q41_32 (by decide) s15 hb (v := (h 15 (Int32.toNatClampNeg l5))) rfl ?_
      refine zl zM41 q41_33 rfl ?_
      refine zb2_gt zM41 q41_34 (tgt := 78) rfl (fun hc => ?_) (fun hc => ?_)
      · have hw := hw.1 hc
        exact hw
      · have hw := hw.2 hc
        refine zl zM41 q41_37 rfl ?_
        refine zgR (a := 17) zM41 q41_38 (by decide) g7_21 s13 rfl ?_
        refine zl zM41 q41_41 rfl ?_
        obtain ⟨hb, hw⟩ := hw
        refine ziA zM41 q41_43 (by decide) s17 hb (v := (h 17 (Int32.toNatClampNeg l5))) rfl ?_
        refine zl zM41 q41_44 rfl ?_
        refine zb2_le zM41 q41_45 (tgt := 51) rfl (fun hc => ?_) (fun hc => ?_)
        · have hw := hw.2 hc
          refine zl zM41 q41_51 rfl ?_
          refine zkI zM41 q41_53 kIm1 ?_
          refine zb2_eq zM41 q41_54 (tgt := 74) rfl (fun hc => ?_) (fun hc => ?_)
          · have hw := hw.1 hc
            refine zweak (a := [some (.ref 13), some (.int l1), some (.int l2), some (.int l3), none, some (.int l5)]) ?_ hw
            exact ⟨rfl, ⟨rfl, ⟨rfl, ⟨rfl, ⟨rfl, trivial⟩⟩⟩⟩⟩
          · have hw := hw.2 hc
            refine zl zM41 q41_57 rfl ?_
            refine zgR (a := 15) zM41 q41_58 (by decide) g7_15 s13 rfl ?_
            refine zl zM41 q41_61 rfl ?_
            obtain ⟨hb, hw⟩ := hw
            refine ziA zM41 q41_63 (by decide) s15 hb (v := (h 15 (Int32.toNatClampNeg l5))) rfl ?_
            refine zl zM41 q41_64 rfl ?_
            refine zgR (a := 15) zM41 q41_65 (by decide) g7_15 s13 rfl ?_
            refine zl zM41 q41_68 rfl ?_
            obtain ⟨hb, hw⟩ := hw
            refine ziA zM41 q41_70 (by decide) s15 hb (v := (h 15 (Int32.toNatClampNeg l4))) rfl ?_
            refine zb2_lt zM41 q41_71 (tgt := 78) rfl (fun hc => ?_) (fun hc => ?_)
            · have hw := hw.1 hc
              exact hw
            · have hw := hw.2 hc
              refine zweak (a := [some (.ref 13), some (.int l1), some (.int l2), some (.int l3), none, some (.int l5)]) ?_ hw
              exact ⟨rfl, ⟨rfl, ⟨rfl, ⟨rfl, ⟨rfl, trivial⟩⟩⟩⟩⟩
        · have hw := hw.1 hc
          refine zl zM41 q41_48 (pc' := 78) (ls' := _) (st' := _) rfl ?_
          exact hw
theorem b41_78 {X : Option (List Int32)} {d : Nat} {h : zH} {A : Int32 → zH → Prop} {l1 : Int32} {l2 : Int32} {l3 : Int32} {l4 : Int32} {l5 : Int32} (hw : zP X d 41 6 [some (.ref 13), some (.int l1), some (.int l2), some (.int l3), some (.int l4), some (.int (l5 + 1))] [] z_S0 h (zI A)) : zP X d 41 78 [some (.ref 13), some (.int l1), some (.int l2), some (.int l3), some (.int l4), some (.int l5)] [] z_S0 h (zI A) := by
  refine zl zM41 q41_78 (ls' := [some (.ref 13), some (.int l1), some (.int l2), some (.int l3), some (.int l4), some (.int (l5 + 1))]) rfl ?_
  refine zl zM41 q41_81 (pc' := 6) (ls' := _) (st' := _) rfl ?_
  exact hw
theorem b41_74 {X : Option (List Int32)} {d : Nat} {h : zH} {A : Int32 → zH → Prop} {l1 : Int32} {l2 : Int32} {l3 : Int32} {l5 : Int32} (hw : zP X d 41 78 [some (.ref 13), some (.int l1), some (.int l2), some (.int l3), some (.int l5), some (.int l5)] [] z_S0 h (zI A)) : zP X d 41 74 [some (.ref 13), some (.int l1), some (.int l2), some (.int l3), none, some (.int l5)] [] z_S0 h (zI A) := by
  refine zl zM41 q41_74 rfl ?_
  refine zl zM41 q41_76 (ls' := [some (.ref 13), some (.int l1), some (.int l2), some (.int l3), some (.int l5), some (.int l5)]) rfl ?_
  exact hw
-- X8_isMissing
theorem b43 {X : Option (List Int32)} {d : Nat} {h : zH} {A : Int32 → zH → Prop} {t : Nat} (ht0 : t ∈ ([74, 76, 78, 80] : List Nat)) (hw : (((h (t) 1) = (-1) → A 1 h) ∧ (¬ (h (t) 1) = (-1) → A 0 h))) : zP X d 43 0 (z_ent [.ref (t)] 1) [] z_S0 h (zI A) := by
  show zP X d 43 0 [some (.ref (t))] [] z_S0 h (zI A)
  refine zl zM43 q43_0 rfl ?_
  refine zgI zM43 q43_1 (sSh ht0).1 g8_15 (sSh ht0).2.2.1 rfl (v := (h (t) 1)) rfl ?_
  refine zkI zM43 q43_4 kIm1 ?_
  refine zb2_ne zM43 q43_5 (tgt := 12) rfl (fun hc => ?_) (fun hc => ?_)
  · have hw := hw.2 hc
    refine zkI zM43 q43_12 kI0 ?_
    exact zri zM43 q43_13 rfl rfl hw
  · have hw := hw.1 hc
    refine zkI zM43 q43_8 kI1 ?_
    refine zl zM43 q43_9 (pc' := 13) (ls' := _) (st' := _) rfl ?_
    exact zri zM43 q43_13 rfl rfl hw
-- X8_become
theorem b44 {X : Option (List Int32)} {d : Nat} {h : zH} {A : zH → Prop} {t : Nat} {a1 : Int32} {a2 : Int32} (ht0 : t ∈ ([74, 76, 78, 80] : List Nat)) (hw : zP X d 222 0 (z_ent [.ref (t + 1), .int 0] 4) [] z_S0 (z_up (z_up h (t) 1 a1) (t) 2 a2) (zV fun h3 => A h3)) : zP X (d + 1) 44 0 (z_ent [.ref (t), .int a1, .int a2] 3) [] z_S0 h (zV A) := by
  show zP X (d + 1) 44 0 [some (.ref (t)), some (.int a1), some (.int a2)] [] z_S0 h (zV A)
  refine zl zM44 q44_0 rfl ?_
  refine zl zM44 q44_1 rfl ?_
  refine zpi zM44 q44_2 (sSh ht0).1 g8_15 (sSh ht0).2.2.1 rfl rfl ?_
  refine zl zM44 q44_5 rfl ?_
  refine zl zM44 q44_6 rfl ?_
  refine zpi zM44 q44_7 (sSh ht0).1 g8_19 (sSh ht0).2.2.1 rfl rfl ?_
  refine zl zM44 q44_10 rfl ?_
  refine zgR (a := t + 1) zM44 q44_11 (sSh ht0).1 g8_9 (sSh ht0).2.2.1 rfl ?_
  refine zkI zM44 q44_14 kI0 ?_
  refine zcS zM44 q44_15 ky8_22 kl8_22 (by decide) rfl (Nat.le_of_ble_eq_true rfl) zM222 (Nat.le_of_ble_eq_true rfl) (hw.mono (fun r0 h3 hr4 => ?_))
  obtain ⟨rfl, hw⟩ := hr4
  show zP X (d + 1) 44 18 [some (.ref (t)), some (.int a1), some (.int a2)] [] z_S0 h3 (zV A)
  exact zrv zM44 q44_18 rfl hw
-- X8_write
theorem b45 {X : Option (List Int32)} {d : Nat} {h : zH} {A : zH → Prop} {t : Nat} {a1 : Int32} {a2 : Int32} (ht0 : t ∈ ([74, 76, 78, 80] : List Nat)) (hw : (((h (t) 1) = 0 → (z_ib a1 40 ∧ A (z_up h (t + 1) (Int32.toNatClampNeg a1) ((Int32.toInt8 a2).toInt32)))) ∧ (¬ (h (t) 1) = 0 → (((h (t) 1) = 1 → (z_ib a1 40 ∧ A (z_up h (t + 1) (Int32.toNatClampNeg a1) ((Int32.toInt16 a2).toInt32)))) ∧ (¬ (h (t) 1) = 1 → (z_ib a1 40 ∧ A (z_up h (t + 1) (Int32.toNatClampNeg a1) a2))))))) : zP X d 45 0 (z_ent [.ref (t), .int a1, .int a2] 3) [] z_S0 h (zV A) := by
  show zP X d 45 0 [some (.ref (t)), some (.int a1), some (.int a2)] [] z_S0 h (zV A)
  refine zl zM45 q45_0 rfl ?_
  refine zgR (a := t + 1) zM45 q45_1 (sSh ht0).1 g8_9 (sSh ht0).2.2.1 rfl ?_
  refine zl zM45 q45_4 rfl ?_
  refine zl zM45 q45_5 rfl ?_
  refine zgI zM45 q45_6 (sSh ht0).1 g8_15 (sSh ht0).2.2.1 rfl (v := (h (t) 1)) rfl ?_
  refine zb1_ne zM45 q45_9 (tgt := 17) rfl (fun hc => ?_) (fun hc => ?_)
  · have hw := hw.2 hc
    refine zl zM45 q45_17 rfl ?_
    refine zgI zM45 q45_18 (sSh ht0).1 g8_15 (sSh ht0).2.2.1 rfl (v := (h (t) 1)) rfl ?_
    refine zkI zM45 q45_21 kI1 ?_
    refine zb2_ne zM45 q45_22 (tgt := 30) rfl (fun hc => ?_) (fun hc => ?_)
    · have hw := hw.2 hc
      refine zl zM45 q45_30 rfl ?_
      obtain ⟨hb, hw⟩ := hw
      refine ziS zM45 q45_31 (sSh ht0).2.1 (sSh ht0).2.2.2 hb rfl ?_
      exact zrv zM45 q45_32 rfl hw
    · have hw := hw.1 hc
      refine zl zM45 q45_25 rfl ?_
      refine zl zM45 q45_26 (pc' := 27) (st' := .int ((Int32.toInt16 a2).toInt32) :: _) rfl ?_
      refine zl zM45 q45_27 (pc' := 31) (ls' := _) (st' := _) rfl ?_
      obtain ⟨hb, hw⟩ := hw
      refine ziS zM45 q45_31 (sSh ht0).2.1 (sSh ht0).2.2.2 hb rfl ?_
      exact zrv zM45 q45_32 rfl hw
  · have hw := hw.1 hc
    refine zl zM45 q45_12 rfl ?_
    refine zl zM45 q45_13 (pc' := 14) (st' := .int ((Int32.toInt8 a2).toInt32) :: _) rfl ?_
    refine zl zM45 q45_14 (pc' := 31) (ls' := _) (st' := _) rfl ?_
    obtain ⟨hb, hw⟩ := hw
    refine ziS zM45 q45_31 (sSh ht0).2.1 (sSh ht0).2.2.2 hb rfl ?_
    exact zrv zM45 q45_32 rfl hw
-- X8_holds
theorem b46 {X : Option (List Int32)} {d : Nat} {h : zH} {A : Int32 → zH → Prop} {t : Nat} {a1 : Int32} {a2 : Int32} (ht0 : t ∈ ([74, 76, 78, 80] : List Nat)) (hw : ((a1 < 0 → A 0 h) ∧ (¬ a1 < 0 → ((a2 < 0 → A 0 h) ∧ (¬ a2 < 0 → ((((h (t) 2) - a2) < a1 → A 0 h) ∧ (¬ ((h (t) 2) - a2) < a1 → A 1 h))))))) : zP X d 46 0 (z_ent [.ref (t), .int a1, .int a2] 3) [] z_S0 h (zI A) := by
  show zP X d 46 0 [some (.ref (t)), some (.int a1), some (.int a2)] [] z_S0 h (zI A)
  refine zl zM46 q46_0 rfl ?_
  refine zb1_lt zM46 q46_1 (tgt := 22) rfl (fun hc => ?_) (fun hc => ?_)
  · have hw := hw.1 hc
    refine zkI zM46 q46_22 kI0 ?_
    exact zri zM46 q46_23 rfl rfl hw
  · have hw := hw.2 hc
    refine zl zM46 q46_4 rfl ?_
    refine zb1_lt zM46 q46_5 (tgt := 22) rfl (fun hc => ?_) (fun hc => ?_)
    · have hw := hw.1 hc
      refine zkI zM46 q46_22 kI0 ?_
      exact zri zM46 q46_23 rfl rfl hw
    · have hw := hw.2 hc
      refine zl zM46 q46_8 rfl ?_
      refine zl zM46 q46_9 rfl ?_
      refine zgI zM46 q46_10 (sSh ht0).1 g8_19 (sSh ht0).2.2.1 rfl (v := (h (t) 2)) rfl ?_
      refine zl zM46 q46_13 rfl ?_
      refine zl zM46 q46_14 (pc' := 15) (st' := .int ((h (t) 2) - a2) :: _) rfl ?_
      refine zb2_gt zM46 q46_15 (tgt := 22) rfl (fun hc => ?_) (fun hc => ?_)
      · have hw := hw.1 hc
        refine zkI zM46 q46_22 kI0 ?_
        exact zri zM46 q46_23 rfl rfl hw
      · have hw := hw.2 hc
        refine zkI zM46 q46_18 kI1 ?_
        refine zl zM46 q46_19 (pc' := 23) (ls' := _) (st' := _) rfl ?_
        exact zri zM46 q46_23 rfl rfl hw
-- X9_put
theorem b48 {X : Option (List Int32)} {d : Nat} {h : zH} {A : zH → Prop} {a1 : Int32} (hw : (((h 18 1) < 160 → (z_ib (h 18 1) 160 ∧ A (z_up (z_up h 19 (Int32.toNatClampNeg (h 18 1)) a1) 18 1 ((h 18 1) + 1)))) ∧ (¬ (h 18 1) < 160 → A h))) : zP X d 48 0 (z_ent [.ref 18, .int a1] 2) [] z_S0 h (zV A) := by
  show zP X d 48 0 [some (.ref 18), some (.int a1)] [] z_S0 h (zV A)
  refine zl zM48 q48_0 rfl ?_
  refine zgI zM48 q48_1 (by decide) g9_15 s18 rfl (v := (h 18 1)) rfl ?_
  refine zkS zM48 q48_4 kS160 ?_
  refine zb2_ge zM48 q48_7 (tgt := 30) rfl (fun hc => ?_) (fun hc => ?_)
  · have hw := hw.2 hc
    exact zrv zM48 q48_30 rfl hw
  · have hw := hw.1 hc
    refine zl zM48 q48_10 rfl ?_
    refine zgR (a := 19) zM48 q48_11 (by decide) g9_9 s18 rfl ?_
    refine zl zM48 q48_14 rfl ?_
    refine zgI zM48 q48_15 (by decide) g9_15 s18 rfl (v := (h 18 1)) rfl ?_
    refine zl zM48 q48_18 rfl ?_
    obtain ⟨hb, hw⟩ := hw
    refine ziS zM48 q48_19 (by decide) s19 hb rfl ?_
    refine zl zM48 q48_20 rfl ?_
    refine zl zM48 q48_21 rfl ?_
    refine zgI zM48 q48_22 (by decide) g9_15 s18 rfl (v := (h 18 1)) rfl ?_
    refine zkI zM48 q48_25 kI1 ?_
    refine zl zM48 q48_26 (pc' := 27) (st' := .int ((h 18 1) + 1) :: _) rfl ?_
    refine zpi zM48 q48_27 (by decide) g9_15 s18 rfl rfl ?_
    exact zrv zM48 q48_30 rfl hw
-- X9_empty
theorem b49 {X : Option (List Int32)} {d : Nat} {h : zH} {A : zH → Prop}  (hw : A (z_up h 18 1 0)) : zP X d 49 0 (z_ent [.ref 18] 1) [] z_S0 h (zV A) := by
  show zP X d 49 0 [some (.ref 18)] [] z_S0 h (zV A)
  refine zl zM49 q49_0 rfl ?_
  refine zkI zM49 q49_1 kI0 ?_
  refine zpi zM49 q49_2 (by decide) g9_15 s18 rfl rfl ?_
  exact zrv zM49 q49_5 rfl hw
-- X9_rewind
theorem b50 {X : Option (List Int32)} {d : Nat} {h : zH} {A : zH → Prop}  (hw : zP X d 52 0 (z_ent [.ref 18] 1) [] z_S0 (z_up h 18 3 0) (zV fun h3 => A h3)) : zP X (d + 1) 50 0 (z_ent [.ref 18] 1) [] z_S0 h (zV A) := by
  show zP X (d + 1) 50 0 [some (.ref 18)] [] z_S0 h (zV A)
  refine zl zM50 q50_0 rfl ?_
  refine zkI zM50 q50_1 kI0 ?_
  refine zpi zM50 q50_2 (by decide) g9_19 s18 rfl rfl ?_
  refine zl zM50 q50_5 rfl ?_
  refine zcV zM50 q50_6 kl9_22 rfl rfl (Nat.le_of_ble_eq_true rfl) rfl zM52 (Nat.le_of_ble_eq_true rfl) (hw.mono (fun r0 h3 hr4 => ?_))
  obtain ⟨rfl, hw⟩ := hr4
  show zP X (d + 1) 50 9 [some (.ref 18)] [] z_S0 h3 (zV A)
  exact zrv zM50 q50_9 rfl hw
-- X9_accepts
theorem b51 {X : Option (List Int32)} {d : Nat} {h : zH} {A : Int32 → zH → Prop} {a1 : Int32} (hw : (((h 18 4) = a1 → zP X d 52 0 (z_ent [.ref 18] 1) [] z_S0 h (zV fun h3 => A 1 h3)) ∧ (¬ (h 18 4) = a1 → A 0 h))) : zP X (d + 1) 51 0 (z_ent [.ref 18, .int a1] 2) [] z_S0 h (zI A) := by
  show zP X (d + 1) 51 0 [some (.ref 18), some (.int a1)] [] z_S0 h (zI A)
  refine zl zM51 q51_0 rfl ?_
  refine zgI zM51 q51_1 (by decide) g9_25 s18 rfl (v := (h 18 4)) rfl ?_
  refine zl zM51 q51_4 rfl ?_
  refine zb2_eq zM51 q51_5 (tgt := 10) rfl (fun hc => ?_) (fun hc => ?_)
  · have hw := hw.1 hc
    refine zl zM51 q51_10 rfl ?_
    refine zcV zM51 q51_11 kl9_22 rfl rfl (Nat.le_of_ble_eq_true rfl) rfl zM52 (Nat.le_of_ble_eq_true rfl) (hw.mono (fun r0 h3 hr4 => ?_))
    obtain ⟨rfl, hw⟩ := hr4
    show zP X (d + 1) 51 14 [some (.ref 18), some (.int a1)] [] z_S0 h3 (zI A)
    refine zkI zM51 q51_14 kI1 ?_
    exact zri zM51 q51_15 rfl rfl hw
  · have hw := hw.2 hc
    refine zkI zM51 q51_8 kI0 ?_
    exact zri zM51 q51_9 rfl rfl hw
-- X9_advance
theorem b52 {X : Option (List Int32)} {d : Nat} {h : zH} {A : zH → Prop}  (hw : zP X (d + 1) 52 8 [some (.ref 18)] [] z_S0 (z_up h 18 2 (h 18 3)) (zV A)) : zP X (d + 1) 52 0 (z_ent [.ref 18] 1) [] z_S0 h (zV A) := by
  show zP X (d + 1) 52 0 [some (.ref 18)] [] z_S0 h (zV A)
  refine zl zM52 q52_0 rfl ?_
  refine zl zM52 q52_1 rfl ?_
  refine zgI zM52 q52_2 (by decide) g9_19 s18 rfl (v := (h 18 3)) rfl ?_
  refine zpi zM52 q52_5 (by decide) g9_28 s18 rfl rfl ?_
  exact hw
theorem b52_8 {X : Option (List Int32)} {d : Nat} {h : zH} {A : zH → Prop}  (hw : (((h 18 2) < (h 18 1) → (z_ib (h 18 2) 160 ∧ zP X d 56 0 (z_ent [.int (h 19 (Int32.toNatClampNeg (h 18 2)))] 1) [] z_S0 h (zI fun v1 h2 => ((v1 = 0 → zP X (d + 1) 52 47 [some (.ref 18)] [] z_S0 h2 (zV A)) ∧ (¬ v1 = 0 → zP X (d + 1) 52 8 [some (.ref 18)] [] z_S0 (z_up h2 18 2 ((h2 18 2) + 1)) (zV A)))))) ∧ (¬ (h 18 2) < (h 18 1) → zP X (d + 1) 52 47 [some (.ref 18)] [] z_S0 h (zV A)))) : zP X (d + 1) 52 8 [some (.ref 18)] [] z_S0 h (zV A) := by
  refine zl zM52 q52_8 rfl ?_
  refine zgI zM52 q52_9 (by decide) g9_28 s18 rfl (v := (h 18 2)) rfl ?_
  refine zl zM52 q52_12 rfl ?_
  refine zgI zM52 q52_13 (by decide) g9_15 s18 rfl (v := (h 18 1)) rfl ?_
  refine zb2_ge zM52 q52_16 (tgt := 47) rfl (fun hc => ?_) (fun hc => ?_)
  · have hw := hw.2 hc
    exact hw
  · have hw := hw.1 hc
    refine zl zM52 q52_19 rfl ?_
    refine zgR (a := 19) zM52 q52_20 (by decide) g9_9 s18 rfl ?_
    refine zl zM52 q52_23 rfl ?_
    refine zgI zM52 q52_24 (by decide) g9_28 s18 rfl (v := (h 18 2)) rfl ?_
    obtain ⟨hb, hw⟩ := hw
    refine ziA zM52 q52_27 (by decide) s19 hb (v := (h 19 (Int32.toNatClampNeg (h 18 2)))) rfl ?_
    refine zcS zM52 q52_28 ky9_31 kl9_31 (by decide) rfl (Nat.le_of_ble_eq_true rfl) zM56 (Nat.le_of_ble_eq_true rfl) (hw.mono (fun r0 h2 hr3 => ?_))
    obtain ⟨v1, rfl, hw⟩ := hr3
    show zP X (d + 1) 52 31 [some (.ref 18)] [.int v1] z_S0 h2 (zV A)
    refine zb1_eq zM52 q52_31 (tgt := 47) rfl (fun hc => ?_) (fun hc => ?_)
    · have hw := hw.1 hc
      exact hw
    · have hw := hw.2 hc
      refine zl zM52 q52_34 rfl ?_
      refine zl zM52 q52_35 rfl ?_
      refine zgI zM52 q52_36 (by decide) g9_28 s18 rfl (v := (h2 18 2)) rfl ?_
      refine zkI zM52 q52_39 kI1 ?_
      refine zl zM52 q52_40 (pc' := 41) (st' := .int ((h2 18 2) + 1) :: _) rfl ?_
      refine zpi zM52 q52_41 (by decide) g9_28 s18 rfl rfl ?_
      refine zl zM52 q52_44 (pc' := 8) (ls' := _) (st' := _) rfl ?_
      exact hw
theorem b52_47 {X : Option (List Int32)} {d : Nat} {h : zH} {A : zH → Prop}  (hw : (((h 18 2) < (h 18 1) → (z_ib (h 18 2) 160 ∧ zP X d 57 0 (z_ent [.int (h 19 (Int32.toNatClampNeg (h 18 2)))] 1) [] z_S0 (z_up h 18 3 (h 18 2)) (zI fun v4 h5 => ((v4 = 0 → (z_ib (h5 18 2) 160 ∧ zP X d 58 0 (z_ent [.int (h5 19 (Int32.toNatClampNeg (h5 18 2)))] 1) [] z_S0 h5 (zI fun v6 h7 => ((v6 = 0 → (z_ib (h7 18 2) 160 ∧ zP X d 59 0 (z_ent [.int (h7 19 (Int32.toNatClampNeg (h7 18 2)))] 1) [] z_S0 (z_up h7 18 3 ((h7 18 2) + 1)) (zI fun v8 h9 => ((v8 = 0 → A (z_up h9 18 4 257)) ∧ (¬ v8 = 0 → (z_ib (h9 18 2) 160 ∧ A (z_up h9 18 4 (h9 19 (Int32.toNatClampNeg (h9 18 2)))))))))) ∧ (¬ v6 = 0 → zP X d 54 0 (z_ent [.ref 18] 1) [] z_S0 h7 (zV fun h13 => A h13)))))) ∧ (¬ v4 = 0 → zP X d 53 0 (z_ent [.ref 18] 1) [] z_S0 h5 (zV fun h18 => A h18)))))) ∧ (¬ (h 18 2) < (h 18 1) → A (z_up (z_up h 18 3 (h 18 2)) 18 4 256)))) : zP X (d + 1) 52 47 [some (.ref 18)] [] z_S0 h (zV A) := by
  refine zl zM52 q52_47 rfl ?_
  refine zl zM52 q52_48 rfl ?_
  refine zgI zM52 q52_49 (by decide) g9_28 s18 rfl (v := (h 18 2)) rfl ?_
  refine zpi zM52 q52_52 (by decide) g9_19 s18 rfl rfl ?_
  refine zl zM52 q52_55 rfl ?_
  refine zgI zM52 q52_56 (by decide) g9_28 s18 rfl (v := (h 18 2)) rfl ?_
  refine zl zM52 q52_59 rfl ?_
  refine zgI zM52 q52_60 (by decide) g9_15 s18 rfl (v := (h 18 1)) rfl ?_
  refine zb2_lt zM52 q52_63 (tgt := 76) rfl (fun hc => ?_) (fun hc => ?_)
  · have hw := hw.1 hc
    refine zl zM52 q52_76 rfl ?_
    refine zgR (a := 19) zM52 q52_77 (by decide) g9_9 s18 rfl ?_
    refine zl zM52 q52_80 rfl ?_
    refine zgI zM52 q52_81 (by decide) g9_28 s18 rfl (v := (h 18 2)) rfl ?_
    obtain ⟨hb, hw⟩ := hw
    refine ziA zM52 q52_84 (by decide) s19 hb (v := (h 19 (Int32.toNatClampNeg (h 18 2)))) rfl ?_
    refine zcS zM52 q52_85 ky9_35 kl9_35 (by decide) rfl (Nat.le_of_ble_eq_true rfl) zM57 (Nat.le_of_ble_eq_true rfl) (hw.mono (fun r0 h5 hr20 => ?_))
    obtain ⟨v4, rfl, hw⟩ := hr20
    show zP X (d + 1) 52 88 [some (.ref 18)] [.int v4] z_S0 h5 (zV A)
    refine zb1_eq zM52 q52_88 (tgt := 98) rfl (fun hc => ?_) (fun hc => ?_)
    · have hw := hw.1 hc
      refine zl zM52 q52_98 rfl ?_
      refine zgR (a := 19) zM52 q52_99 (by decide) g9_9 s18 rfl ?_
      refine zl zM52 q52_102 rfl ?_
      refine zgI zM52 q52_103 (by decide) g9_28 s18 rfl (v := (h5 18 2)) rfl ?_
      obtain ⟨hb, hw⟩ := hw
      refine ziA zM52 q52_106 (by decide) s19 hb (v := (h5 19 (Int32.toNatClampNeg (h5 18 2)))) rfl ?_
      refine zcS zM52 q52_107 ky9_41 kl9_41 (by decide) rfl (Nat.le_of_ble_eq_true rfl) zM58 (Nat.le_of_ble_eq_true rfl) (hw.mono (fun r0 h7 hr15 => ?_))
      obtain ⟨v6, rfl, hw⟩ := hr15
      show zP X (d + 1) 52 110 [some (.ref 18)] [.int v6] z_S0 h7 (zV A)
      refine zb1_eq zM52 q52_110 (tgt := 120) rfl (fun hc => ?_) (fun hc => ?_)
      · have hw := hw.1 hc
        refine zl zM52 q52_120 rfl ?_
        refine zl zM52 q52_121 rfl ?_
        refine zgI zM52 q52_122 (by decide) g9_28 s18 rfl (v := (h7 18 2)) rfl ?_
        refine zkI zM52 q52_125 kI1 ?_
        refine zl zM52 q52_126 (pc' := 127) (st' := .int ((h7 18 2) + 1) :: _) rfl ?_
        refine zpi zM52 q52_127 (by decide) g9_19 s18 rfl rfl ?_
        refine zl zM52 q52_130 rfl ?_
        refine zl zM52 q52_131 rfl ?_
        refine zgR (a := 19) zM52 q52_132 (by decide) g9_9 s18 rfl ?_
        refine zl zM52 q52_135 rfl ?_
        refine zgI zM52 q52_136 (by decide) g9_28 s18 rfl (v := (h7 18 2)) rfl ?_
        obtain ⟨hb, hw⟩ := hw
        refine ziA zM52 q52_139 (by decide) s19 hb (v := (h7 19 (Int32.toNatClampNeg (h7 18 2)))) rfl ?_
        refine zcS zM52 q52_140 ky9_47 kl9_47 (by decide) rfl (Nat.le_of_ble_eq_true rfl) zM59 (Nat.le_of_ble_eq_true rfl) (hw.mono (fun r0 h9 hr10 => ?_))
        obtain ⟨v8, rfl, hw⟩ := hr10
        show zP X (d + 1) 52 143 [some (.ref 18)] [.int v8, .ref 18] z_S0 h9 (zV A)
        refine zb1_eq zM52 q52_143 (tgt := 158) rfl (fun hc => ?_) (fun hc => ?_)
        · have hw := hw.1 hc
          refine zkS zM52 q52_158 kS257 ?_
          refine zpi zM52 q52_161 (by decide) g9_25 s18 rfl rfl ?_
          exact zrv zM52 q52_164 rfl hw
        · have hw := hw.2 hc
          refine zl zM52 q52_146 rfl ?_
          refine zgR (a := 19) zM52 q52_147 (by decide) g9_9 s18 rfl ?_
          refine zl zM52 q52_150 rfl ?_
          refine zgI zM52 q52_151 (by decide) g9_28 s18 rfl (v := (h9 18 2)) rfl ?_
          obtain ⟨hb, hw⟩ := hw
          refine ziA zM52 q52_154 (by decide) s19 hb (v := (h9 19 (Int32.toNatClampNeg (h9 18 2)))) rfl ?_
          refine zl zM52 q52_155 (pc' := 161) (ls' := _) (st' := _) rfl ?_
          refine zpi zM52 q52_161 (by decide) g9_25 s18 rfl rfl ?_
          exact zrv zM52 q52_164 rfl hw
      · have hw := hw.2 hc
        refine zl zM52 q52_113 rfl ?_
        refine zcV zM52 q52_114 kl9_44 rfl rfl (Nat.le_of_ble_eq_true rfl) rfl zM54 (Nat.le_of_ble_eq_true rfl) (hw.mono (fun r0 h13 hr14 => ?_))
        obtain ⟨rfl, hw⟩ := hr14
        show zP X (d + 1) 52 117 [some (.ref 18)] [] z_S0 h13 (zV A)
        refine zl zM52 q52_117 (pc' := 164) (ls' := _) (st' := _) rfl ?_
        exact zrv zM52 q52_164 rfl hw
    · have hw := hw.2 hc
      refine zl zM52 q52_91 rfl ?_
      refine zcV zM52 q52_92 kl9_38 rfl rfl (Nat.le_of_ble_eq_true rfl) rfl zM53 (Nat.le_of_ble_eq_true rfl) (hw.mono (fun r0 h18 hr19 => ?_))
      obtain ⟨rfl, hw⟩ := hr19
      show zP X (d + 1) 52 95 [some (.ref 18)] [] z_S0 h18 (zV A)
      refine zl zM52 q52_95 (pc' := 164) (ls' := _) (st' := _) rfl ?_
      exact zrv zM52 q52_164 rfl hw
  · have hw := hw.2 hc
    refine zl zM52 q52_66 rfl ?_
    refine zkS zM52 q52_67 kS256 ?_
    refine zpi zM52 q52_70 (by decide) g9_25 s18 rfl rfl ?_
    refine zl zM52 q52_73 (pc' := 164) (ls' := _) (st' := _) rfl ?_
    exact zrv zM52 q52_164 rfl hw
-- X9_readWord
theorem b53 {X : Option (List Int32)} {d : Nat} {h : zH} {A : zH → Prop}  (hw : zP X (d + 1) 53 0 [some (.ref 18)] [] z_S0 h (zV A)) : zP X (d + 1) 53 0 (z_ent [.ref 18] 1) [] z_S0 h (zV A) := by
  show zP X (d + 1) 53 0 [some (.ref 18)] [] z_S0 h (zV A)
  exact hw
theorem b53_0 {X : Option (List Int32)} {d : Nat} {h : zH} {A : zH → Prop}  (hw : (((h 18 3) < (h 18 1) → (z_ib (h 18 3) 160 ∧ zP X d 57 0 (z_ent [.int (h 19 (Int32.toNatClampNeg (h 18 3)))] 1) [] z_S0 h (zI fun v1 h2 => ((v1 = 0 → zP X (d + 1) 53 39 [some (.ref 18)] [] z_S0 h2 (zV A)) ∧ (¬ v1 = 0 → zP X (d + 1) 53 0 [some (.ref 18)] [] z_S0 (z_up h2 18 3 ((h2 18 3) + 1)) (zV A)))))) ∧ (¬ (h 18 3) < (h 18 1) → zP X (d + 1) 53 39 [some (.ref 18)] [] z_S0 h (zV A)))) : zP X (d + 1) 53 0 [some (.ref 18)] [] z_S0 h (zV A) := by
  refine zl zM53 q53_0 rfl ?_
  refine zgI zM53 q53_1 (by decide) g9_19 s18 rfl (v := (h 18 3)) rfl ?_
  refine zl zM53 q53_4 rfl ?_
  refine zgI zM53 q53_5 (by decide) g9_15 s18 rfl (v := (h 18 1)) rfl ?_
  refine zb2_ge zM53 q53_8 (tgt := 39) rfl (fun hc => ?_) (fun hc => ?_)
  · have hw := hw.2 hc
    exact hw
  · have hw := hw.1 hc
    refine zl zM53 q53_11 rfl ?_
    refine zgR (a := 19) zM53 q53_12 (by decide) g9_9 s18 rfl ?_
    refine zl zM53 q53_15 rfl ?_
    refine zgI zM53 q53_16 (by decide) g9_19 s18 rfl (v := (h 18 3)) rfl ?_
    obtain ⟨hb, hw⟩ := hw
    refine ziA zM53 q53_19 (by decide) s19 hb (v := (h 19 (Int32.toNatClampNeg (h 18 3)))) rfl ?_
    refine zcS zM53 q53_20 ky9_35 kl9_35 (by decide) rfl (Nat.le_of_ble_eq_true rfl) zM57 (Nat.le_of_ble_eq_true rfl) (hw.mono (fun r0 h2 hr3 => ?_))
    obtain ⟨v1, rfl, hw⟩ := hr3
    show zP X (d + 1) 53 23 [some (.ref 18)] [.int v1] z_S0 h2 (zV A)
    refine zb1_eq zM53 q53_23 (tgt := 39) rfl (fun hc => ?_) (fun hc => ?_)
    · have hw := hw.1 hc
      exact hw
    · have hw := hw.2 hc
      refine zl zM53 q53_26 rfl ?_
      refine zl zM53 q53_27 rfl ?_
      refine zgI zM53 q53_28 (by decide) g9_19 s18 rfl (v := (h2 18 3)) rfl ?_
      refine zkI zM53 q53_31 kI1 ?_
      refine zl zM53 q53_32 (pc' := 33) (st' := .int ((h2 18 3) + 1) :: _) rfl ?_
      refine zpi zM53 q53_33 (by decide) g9_19 s18 rfl rfl ?_
      refine zl zM53 q53_36 (pc' := 0) (ls' := _) (st' := _) rfl ?_
      exact hw
theorem b53_39 {X : Option (List Int32)} {d : Nat} {h : zH} {A : zH → Prop}  (hw : zP X d 55 0 (z_ent [.ref 18, .ref 100101] 3) [] z_S0 h (zI fun v4 h5 => ((v4 = 0 → zP X d 55 0 (z_ent [.ref 18, .ref 100102] 3) [] z_S0 h5 (zI fun v6 h7 => ((v6 = 0 → zP X d 55 0 (z_ent [.ref 18, .ref 100103] 3) [] z_S0 h7 (zI fun v8 h9 => ((v8 = 0 → zP X d 55 0 (z_ent [.ref 18, .ref 100104] 3) [] z_S0 h9 (zI fun v10 h11 => ((v10 = 0 → zP X d 55 0 (z_ent [.ref 18, .ref 100105] 3) [] z_S0 h11 (zI fun v12 h13 => ((v12 = 0 → zP X d 55 0 (z_ent [.ref 18, .ref 100106] 3) [] z_S0 h13 (zI fun v14 h15 => ((v14 = 0 → zP X d 55 0 (z_ent [.ref 18, .ref 100107] 3) [] z_S0 h15 (zI fun v16 h17 => ((v16 = 0 → zP X d 55 0 (z_ent [.ref 18, .ref 100108] 3) [] z_S0 h17 (zI fun v18 h19 => ((v18 = 0 → zP X d 55 0 (z_ent [.ref 18, .ref 100109] 3) [] z_S0 h19 (zI fun v20 h21 => ((v20 = 0 → zP X d 55 0 (z_ent [.ref 18, .ref 100110] 3) [] z_S0 h21 (zI fun v22 h23 => ((v22 = 0 → zP X d 55 0 (z_ent [.ref 18, .ref 100111] 3) [] z_S0 h23 (zI fun v24 h25 => ((v24 = 0 → zP X d 55 0 (z_ent [.ref 18, .ref 100112] 3) [] z_S0 h25 (zI fun v26 h27 => ((v26 = 0 → A (z_up h27 18 4 257)) ∧ (¬ v26 = 0 → A (z_up h27 18 4 275))))) ∧ (¬ v24 = 0 → A (z_up h25 18 4 274))))) ∧ (¬ v22 = 0 → A (z_up h23 18 4 273))))) ∧ (¬ v20 = 0 → A (z_up h21 18 4 272))))) ∧ (¬ v18 = 0 → A (z_up h19 18 4 271))))) ∧ (¬ v16 = 0 → A (z_up h17 18 4 270))))) ∧ (¬ v14 = 0 → A (z_up h15 18 4 265))))) ∧ (¬ v12 = 0 → A (z_up h13 18 4 264))))) ∧ (¬ v10 = 0 → A (z_up h11 18 4 263))))) ∧ (¬ v8 = 0 → A (z_up h9 18 4 262))))) ∧ (¬ v6 = 0 → A (z_up h7 18 4 261))))) ∧ (¬ v4 = 0 → A (z_up h5 18 4 260))))) : zP X (d + 1) 53 39 [some (.ref 18)] [] z_S0 h (zV A) := by
  refine zl zM53 q53_39 rfl ?_
  refine zl zM53 q53_40 rfl ?_
  refine zks zM53 q53_41 ks9_50 kt9_50 ?_
  refine zcV zM53 q53_43 kl9_52 rfl rfl (Nat.le_of_ble_eq_true rfl) rfl zM55 (Nat.le_of_ble_eq_true rfl) (hw.mono (fun r0 h5 hr39 => ?_))
  obtain ⟨v4, rfl, hw⟩ := hr39
  show zP X (d + 1) 53 46 [some (.ref 18)] [.int v4, .ref 18] z_S0 h5 (zV A)
  refine zb1_eq zM53 q53_46 (tgt := 55) rfl (fun hc => ?_) (fun hc => ?_)
  · have hw := hw.1 hc
    refine zl zM53 q53_55 rfl ?_
    refine zks zM53 q53_56 ks9_56 kt9_56 ?_
    refine zcV zM53 q53_58 kl9_52 rfl rfl (Nat.le_of_ble_eq_true rfl) rfl zM55 (Nat.le_of_ble_eq_true rfl) (hw.mono (fun r0 h7 hr38 => ?_))
    obtain ⟨v6, rfl, hw⟩ := hr38
    show zP X (d + 1) 53 61 [some (.ref 18)] [.int v6, .ref 18] z_S0 h7 (zV A)
    refine zb1_eq zM53 q53_61 (tgt := 70) rfl (fun hc => ?_) (fun hc => ?_)
    · have hw := hw.1 hc
      refine zl zM53 q53_70 rfl ?_
      refine zks zM53 q53_71 ks9_58 kt9_58 ?_
      refine zcV zM53 q53_73 kl9_52 rfl rfl (Nat.le_of_ble_eq_true rfl) rfl zM55 (Nat.le_of_ble_eq_true rfl) (hw.mono (fun r0 h9 hr37 => ?_))
      obtain ⟨v8, rfl, hw⟩ := hr37
      show zP X (d + 1) 53 76 [some (.ref 18)] [.int v8, .ref 18] z_S0 h9 (zV A)
      refine zb1_eq zM53 q53_76 (tgt := 85) rfl (fun hc => ?_) (fun hc => ?_)
      · have hw := hw.1 hc
        refine zl zM53 q53_85 rfl ?_
        refine zks zM53 q53_86 ks9_60 kt9_60 ?_
        refine zcV zM53 q53_88 kl9_52 rfl rfl (Nat.le_of_ble_eq_true rfl) rfl zM55 (Nat.le_of_ble_eq_true rfl) (hw.mono (fun r0 h11 hr36 => ?_))
        obtain ⟨v10, rfl, hw⟩ := hr36
        show zP X (d + 1) 53 91 [some (.ref 18)] [.int v10, .ref 18] z_S0 h11 (zV A)
        refine zb1_eq zM53 q53_91 (tgt := 100) rfl (fun hc => ?_) (fun hc => ?_)
        · have hw := hw.1 hc
          refine zl zM53 q53_100 rfl ?_
          refine zks zM53 q53_101 ks9_62 kt9_62 ?_
          refine zcV zM53 q53_103 kl9_52 rfl rfl (Nat.le_of_ble_eq_true rfl) rfl zM55 (Nat.le_of_ble_eq_true rfl) (hw.mono (fun r0 h13 hr35 => ?_))
          obtain ⟨v12, rfl, hw⟩ := hr35
          show zP X (d + 1) 53 106 [some (.ref 18)] [.int v12, .ref 18] z_S0 h13 (zV A)
          refine zb1_eq zM53 q53_106 (tgt := 115) rfl (fun hc => ?_) (fun hc => ?_)
          · have hw := hw.1 hc
            refine zl zM53 q53_115 rfl ?_
            refine zks zM53 q53_116 ks9_64 kt9_64 ?_
            refine zcV zM53 q53_118 kl9_52 rfl rfl (Nat.le_of_ble_eq_true rfl) rfl zM55 (Nat.le_of_ble_eq_true rfl) (hw.mono (fun r0 h15 hr34 => ?_))
            obtain ⟨v14, rfl, hw⟩ := hr34
            show zP X (d + 1) 53 121 [some (.ref 18)] [.int v14, .ref 18] z_S0 h15 (zV A)
            refine zb1_eq zM53 q53_121 (tgt := 130) rfl (fun hc => ?_) (fun hc => ?_)
            · have hw := hw.1 hc
              refine zl zM53 q53_130 rfl ?_
              refine zks zM53 q53_131 ks9_66 kt9_66 ?_
              refine zcV zM53 q53_133 kl9_52 rfl rfl (Nat.le_of_ble_eq_true rfl) rfl zM55 (Nat.le_of_ble_eq_true rfl) (hw.mono (fun r0 h17 hr33 => ?_))
              obtain ⟨v16, rfl, hw⟩ := hr33
              show zP X (d + 1) 53 136 [some (.ref 18)] [.int v16, .ref 18] z_S0 h17 (zV A)
              refine zb1_eq zM53 q53_136 (tgt := 145) rfl (fun hc => ?_) (fun hc => ?_)
              · have hw := hw.1 hc
                refine zl zM53 q53_145 rfl ?_
                refine zks zM53 q53_146 ks9_68 kt9_68 ?_
                refine zcV zM53 q53_148 kl9_52 rfl rfl (Nat.le_of_ble_eq_true rfl) rfl zM55 (Nat.le_of_ble_eq_true rfl) (hw.mono (fun r0 h19 hr32 => ?_))
                obtain ⟨v18, rfl, hw⟩ := hr32
                show zP X (d + 1) 53 151 [some (.ref 18)] [.int v18, .ref 18] z_S0 h19 (zV A)
                refine zb1_eq zM53 q53_151 (tgt := 160) rfl (fun hc => ?_) (fun hc => ?_)
                · have hw := hw.1 hc
                  refine zl zM53 q53_160 rfl ?_
                  refine zks zM53 q53_161 ks9_70 kt9_70 ?_
                  refine zcV zM53 q53_163 kl9_52 rfl rfl (Nat.le_of_ble_eq_true rfl) rfl zM55 (Nat.le_of_ble_eq_true rfl) (hw.mono (fun r0 h21 hr31 => ?_))
                  obtain ⟨v20, rfl, hw⟩ := hr31
                  show zP X (d + 1) 53 166 [some (.ref 18)] [.int v20, .ref 18] z_S0 h21 (zV A)
                  refine zb1_eq zM53 q53_166 (tgt := 175) rfl (fun hc => ?_) (fun hc => ?_)
                  · have hw := hw.1 hc
                    refine zl zM53 q53_175 rfl ?_
                    refine zks zM53 q53_176 ks9_72 kt9_72 ?_
                    refine zcV zM53 q53_178 kl9_52 rfl rfl (Nat.le_of_ble_eq_true rfl) rfl zM55 (Nat.le_of_ble_eq_true rfl) (hw.mono (fun r0 h23 hr30 => ?_))
                    obtain ⟨v22, rfl, hw⟩ := hr30
                    show zP X (d + 1) 53 181 [some (.ref 18)] [.int v22, .ref 18] z_S0 h23 (zV A)
                    refine zb1_eq zM53 q53_181 (tgt := 190) rfl (fun hc => ?_) (fun hc => ?_)
                    · have hw := hw.1 hc
                      refine zl zM53 q53_190 rfl ?_
                      refine zks zM53 q53_191 ks9_74 kt9_74 ?_
                      refine zcV zM53 q53_193 kl9_52 rfl rfl (Nat.le_of_ble_eq_true rfl) rfl zM55 (Nat.le_of_ble_eq_true rfl) (hw.mono (fun r0 h25 hr29 => ?_))
                      obtain ⟨v24, rfl, hw⟩ := hr29
                      show zP X (d + 1) 53 196 [some (.ref 18)] [.int v24, .ref 18] z_S0 h25 (zV A)
                      refine zb1_eq zM53 q53_196 (tgt := 205) rfl (fun hc => ?_) (fun hc => ?_)
                      · have hw := hw.1 hc
                        refine zl zM53 q53_205 rfl ?_
                        refine zks zM53 q53_206 ks9_76 kt9_76 ?_
                        refine zcV zM53 q53_208 kl9_52 rfl rfl (Nat.le_of_ble_eq_true rfl) rfl zM55 (Nat.le_of_ble_eq_true rfl) (hw.mono (fun r0 h27 hr28 => ?_))
                        obtain ⟨v26, rfl, hw⟩ := hr28
                        show zP X (d + 1) 53 211 [some (.ref 18)] [.int v26, .ref 18] z_S0 h27 (zV A)
                        refine zb1_eq zM53 q53_211 (tgt := 220) rfl (fun hc => ?_) (fun hc => ?_)
                        · have hw := hw.1 hc
                          refine zkS zM53 q53_220 kS257 ?_
                          refine zpi zM53 q53_223 (by decide) g9_25 s18 rfl rfl ?_
                          exact zrv zM53 q53_226 rfl hw
                        · have hw := hw.2 hc
                          refine zkS zM53 q53_214 kS275 ?_
                          refine zl zM53 q53_217 (pc' := 223) (ls' := _) (st' := _) rfl ?_
                          refine zpi zM53 q53_223 (by decide) g9_25 s18 rfl rfl ?_
                          exact zrv zM53 q53_226 rfl hw
                      · have hw := hw.2 hc
                        refine zkS zM53 q53_199 kS274 ?_
                        refine zl zM53 q53_202 (pc' := 223) (ls' := _) (st' := _) rfl ?_
                        refine zpi zM53 q53_223 (by decide) g9_25 s18 rfl rfl ?_
                        exact zrv zM53 q53_226 rfl hw
                    · have hw := hw.2 hc
                      refine zkS zM53 q53_184 kS273 ?_
                      refine zl zM53 q53_187 (pc' := 223) (ls' := _) (st' := _) rfl ?_
                      refine zpi zM53 q53_223 (by decide) g9_25 s18 rfl rfl ?_
                      exact zrv zM53 q53_226 rfl hw
                  · have hw := hw.2 hc
                    refine zkS zM53 q53_169 kS272 ?_
                    refine zl zM53 q53_172 (pc' := 223) (ls' := _) (st' := _) rfl ?_
                    refine zpi zM53 q53_223 (by decide) g9_25 s18 rfl rfl ?_
                    exact zrv zM53 q53_226 rfl hw
                · have hw := hw.2 hc
                  refine zkS zM53 q53_154 kS271 ?_
                  refine zl zM53 q53_157 (pc' := 223) (ls' := _) (st' := _) rfl ?_
                  refine zpi zM53 q53_223 (by decide) g9_25 s18 rfl rfl ?_
                  exact zrv zM53 q53_226 rfl hw
              · have hw := hw.2 hc
                refine zkS zM53 q53_139 kS270 ?_
                refine zl zM53 q53_142 (pc' := 223) (ls' := _) (st' := _) rfl ?_
                refine zpi zM53 q53_223 (by decide) g9_25 s18 rfl rfl ?_
                exact zrv zM53 q53_226 rfl hw
            · have hw := hw.2 hc
              refine zkS zM53 q53_124 kS265 ?_
              refine zl zM53 q53_127 (pc' := 223) (ls' := _) (st' := _) rfl ?_
              refine zpi zM53 q53_223 (by decide) g9_25 s18 rfl rfl ?_
              exact zrv zM53 q53_226 rfl hw
          · have hw := hw.2 hc
            refine zkS zM53 q53_109 kS264 ?_
            refine zl zM53 q53_112 (pc' := 223) (ls' := _) (st' := _) rfl ?_
            refine zpi zM53 q53_223 (by decide) g9_25 s18 rfl rfl ?_
            exact zrv zM53 q53_226 rfl hw
        · have hw := hw.2 hc
          refine zkS zM53 q53_94 kS263 ?_
          refine zl zM53 q53_97 (pc' := 223) (ls' := _) (st' := _) rfl ?_
          refine zpi zM53 q53_223 (by decide) g9_25 s18 rfl rfl ?_
          exact zrv zM53 q53_226 rfl hw
      · have hw := hw.2 hc
        refine zkS zM53 q53_79 kS262 ?_
        refine zl zM53 q53_82 (pc' := 223) (ls' := _) (st' := _) rfl ?_
        refine zpi zM53 q53_223 (by decide) g9_25 s18 rfl rfl ?_
        exact zrv zM53 q53_226 rfl hw
    · have hw := hw.2 hc
      refine zkS zM53 q53_64 kS261 ?_
      refine zl zM53 q53_67 (pc' := 223) (ls' := _) (st' := _) rfl ?_
      refine zpi zM53 q53_223 (by decide) g9_25 s18 rfl rfl ?_
      exact zrv zM53 q53_226 rfl hw
  · have hw := hw.2 hc
    refine zkS zM53 q53_49 kS260 ?_
    refine zl zM53 q53_52 (pc' := 223) (ls' := _) (st' := _) rfl ?_
    refine zpi zM53 q53_223 (by decide) g9_25 s18 rfl rfl ?_
    exact zrv zM53 q53_226 rfl hw
-- X9_readNumber
theorem b54 {X : Option (List Int32)} {d : Nat} {h : zH} {A : zH → Prop}  (hw : zP X (d + 1) 54 5 [some (.ref 18)] [] z_S0 (z_up h 18 5 0) (zV A)) : zP X (d + 1) 54 0 (z_ent [.ref 18] 1) [] z_S0 h (zV A) := by
  show zP X (d + 1) 54 0 [some (.ref 18)] [] z_S0 h (zV A)
  refine zl zM54 q54_0 rfl ?_
  refine zkI zM54 q54_1 kI0 ?_
  refine zpi zM54 q54_2 (by decide) g9_78 s18 rfl rfl ?_
  exact hw
theorem b54_5 {X : Option (List Int32)} {d : Nat} {h : zH} {A : zH → Prop}  (hw : (((h 18 3) < (h 18 1) → (z_ib (h 18 3) 160 ∧ zP X d 58 0 (z_ent [.int (h 19 (Int32.toNatClampNeg (h 18 3)))] 1) [] z_S0 h (zI fun v1 h2 => ((v1 = 0 → zP X (d + 1) 54 68 [some (.ref 18)] [] z_S0 h2 (zV A)) ∧ (¬ v1 = 0 → (z_ib (h2 18 3) 160 ∧ zP X (d + 1) 54 5 [some (.ref 18)] [] z_S0 (z_up (z_up h2 18 5 ((((h2 18 5) * 10) + (h2 19 (Int32.toNatClampNeg (h2 18 3)))) - 48)) 18 3 ((h2 18 3) + 1)) (zV A))))))) ∧ (¬ (h 18 3) < (h 18 1) → zP X (d + 1) 54 68 [some (.ref 18)] [] z_S0 h (zV A)))) : zP X (d + 1) 54 5 [some (.ref 18)] [] z_S0 h (zV A) := by
  refine zl zM54 q54_5 rfl ?_
  refine zgI zM54 q54_6 (by decide) g9_19 s18 rfl (v := (h 18 3)) rfl ?_
  refine zl zM54 q54_9 rfl ?_
  refine zgI zM54 q54_10 (by decide) g9_15 s18 rfl (v := (h 18 1)) rfl ?_
  refine zb2_ge zM54 q54_13 (tgt := 68) rfl (fun hc => ?_) (fun hc => ?_)
  · have hw := hw.2 hc
    exact hw
  · have hw := hw.1 hc
    refine zl zM54 q54_16 rfl ?_
    refine zgR (a := 19) zM54 q54_17 (by decide) g9_9 s18 rfl ?_
    refine zl zM54 q54_20 rfl ?_
    refine zgI zM54 q54_21 (by decide) g9_19 s18 rfl (v := (h 18 3)) rfl ?_
    obtain ⟨hb, hw⟩ := hw
    refine ziA zM54 q54_24 (by decide) s19 hb (v := (h 19 (Int32.toNatClampNeg (h 18 3)))) rfl ?_
    refine zcS zM54 q54_25 ky9_41 kl9_41 (by decide) rfl (Nat.le_of_ble_eq_true rfl) zM58 (Nat.le_of_ble_eq_true rfl) (hw.mono (fun r0 h2 hr3 => ?_))
    obtain ⟨v1, rfl, hw⟩ := hr3
    show zP X (d + 1) 54 28 [some (.ref 18)] [.int v1] z_S0 h2 (zV A)
    refine zb1_eq zM54 q54_28 (tgt := 68) rfl (fun hc => ?_) (fun hc => ?_)
    · have hw := hw.1 hc
      exact hw
    · have hw := hw.2 hc
      refine zl zM54 q54_31 rfl ?_
      refine zl zM54 q54_32 rfl ?_
      refine zgI zM54 q54_33 (by decide) g9_78 s18 rfl (v := (h2 18 5)) rfl ?_
      refine zkB zM54 q54_36 kB10 ?_
      refine zl zM54 q54_38 (pc' := 39) (st' := .int ((h2 18 5) * 10) :: _) rfl ?_
      refine zl zM54 q54_39 rfl ?_
      refine zgR (a := 19) zM54 q54_40 (by decide) g9_9 s18 rfl ?_
      refine zl zM54 q54_43 rfl ?_
      refine zgI zM54 q54_44 (by decide) g9_19 s18 rfl (v := (h2 18 3)) rfl ?_
      obtain ⟨hb, hw⟩ := hw
      refine ziA zM54 q54_47 (by decide) s19 hb (v := (h2 19 (Int32.toNatClampNeg (h2 18 3)))) rfl ?_
      refine zl zM54 q54_48 (pc' := 49) (st' := .int (((h2 18 5) * 10) + (h2 19 (Int32.toNatClampNeg (h2 18 3)))) :: _) rfl ?_
      refine zkB zM54 q54_49 kB48 ?_
      refine zl zM54 q54_51 (pc' := 52) (st' := .int ((((h2 18 5) * 10) + (h2 19 (Int32.toNatClampNeg (h2 18 3)))) - 48) :: _) rfl ?_
      refine zpi zM54 q54_52 (by decide) g9_78 s18 rfl rfl ?_
      refine zl zM54 q54_55 rfl ?_
      refine zl zM54 q54_56 rfl ?_
      refine zgI zM54 q54_57 (by decide) g9_19 s18 rfl (v := (h2 18 3)) rfl ?_
      refine zkI zM54 q54_60 kI1 ?_
      refine zl zM54 q54_61 (pc' := 62) (st' := .int ((h2 18 3) + 1) :: _) rfl ?_
      refine zpi zM54 q54_62 (by decide) g9_19 s18 rfl rfl ?_
      refine zl zM54 q54_65 (pc' := 5) (ls' := _) (st' := _) rfl ?_
      exact hw
theorem b54_68 {X : Option (List Int32)} {d : Nat} {h : zH} {A : zH → Prop}  (hw : (((4 : Int32) < ((h 18 3) - (h 18 2)) → A (z_up h 18 4 257)) ∧ (¬ (4 : Int32) < ((h 18 3) - (h 18 2)) → A (z_up h 18 4 258)))) : zP X (d + 1) 54 68 [some (.ref 18)] [] z_S0 h (zV A) := by
  refine zl zM54 q54_68 rfl ?_
  refine zl zM54 q54_69 rfl ?_
  refine zgI zM54 q54_70 (by decide) g9_19 s18 rfl (v := (h 18 3)) rfl ?_
  refine zl zM54 q54_73 rfl ?_
  refine zgI zM54 q54_74 (by decide) g9_28 s18 rfl (v := (h 18 2)) rfl ?_
  refine zl zM54 q54_77 (pc' := 78) (st' := .int ((h 18 3) - (h 18 2)) :: _) rfl ?_
  refine zkI zM54 q54_78 kI4 ?_
  refine zb2_le zM54 q54_79 (tgt := 88) rfl (fun hc => ?_) (fun hc => ?_)
  · have hw := hw.2 hc
    refine zkS zM54 q54_88 kS258 ?_
    refine zpi zM54 q54_91 (by decide) g9_25 s18 rfl rfl ?_
    exact zrv zM54 q54_94 rfl hw
  · have hw := hw.1 hc
    refine zkS zM54 q54_82 kS257 ?_
    refine zl zM54 q54_85 (pc' := 91) (ls' := _) (st' := _) rfl ?_
    refine zpi zM54 q54_91 (by decide) g9_25 s18 rfl rfl ?_
    exact zrv zM54 q54_94 rfl hw
-- X9_isWord
theorem b55 {X : Option (List Int32)} {d : Nat} {h : zH} {A : Int32 → zH → Prop} {i : Nat} (hi0 : i < 13) (hw : zP X d 216 0 (z_ent [.ref (100100 + i)] 1) [] z_S0 h (zI fun v1 h2 => ((v1 = ((h2 18 3) - (h2 18 2)) → zP X (d + 1) 55 20 [some (.ref 18), some (.ref (100100 + i)), some (.int 0)] [] z_S0 h2 (zI A)) ∧ (¬ v1 = ((h2 18 3) - (h2 18 2)) → A 0 h2)))) : zP X (d + 1) 55 0 (z_ent [.ref 18, .ref (100100 + i)] 3) [] z_S0 h (zI A) := by
  show zP X (d + 1) 55 0 [some (.ref 18), some (.ref (100100 + i)), none] [] z_S0 h (zI A)
  refine zl zM55 q55_0 rfl ?_
  refine zcV zM55 q55_1 kl9_81 rfl rfl (Nat.le_of_ble_eq_true rfl) (z_rcvStr hi0) zM216 (Nat.le_of_ble_eq_true rfl) (hw.mono (fun r0 h2 hr3 => ?_))
  obtain ⟨v1, rfl, hw⟩ := hr3
  show zP X (d + 1) 55 4 [some (.ref 18), some (.ref (100100 + i)), none] [.int v1] z_S0 h2 (zI A)
  refine zl zM55 q55_4 rfl ?_
  refine zgI zM55 q55_5 (by decide) g9_19 s18 rfl (v := (h2 18 3)) rfl ?_
  refine zl zM55 q55_8 rfl ?_
  refine zgI zM55 q55_9 (by decide) g9_28 s18 rfl (v := (h2 18 2)) rfl ?_
  refine zl zM55 q55_12 (pc' := 13) (st' := .int ((h2 18 3) - (h2 18 2)) :: _) rfl ?_
  refine zb2_eq zM55 q55_13 (tgt := 18) rfl (fun hc => ?_) (fun hc => ?_)
  · have hw := hw.1 hc
    refine zkI zM55 q55_18 kI0 ?_
    refine zl zM55 q55_19 (ls' := [some (.ref 18), some (.ref (100100 + i)), some (.int 0)]) rfl ?_
    exact hw
  · have hw := hw.2 hc
    refine zkI zM55 q55_16 kI0 ?_
    exact zri zM55 q55_17 rfl rfl hw
theorem b55_20 {X : Option (List Int32)} {d : Nat} {h : zH} {A : Int32 → zH → Prop} {i : Nat} {l2 : Int32} (hi0 : i < 13) (hw : zP X d 216 0 (z_ent [.ref (100100 + i)] 1) [] z_S0 h (zI fun v4 h5 => ((l2 < v4 → (z_ib ((h5 18 2) + l2) 160 ∧ zP X d 217 0 (z_ent [.ref (100100 + i), .int l2] 2) [] z_S0 h5 (zI fun v6 h7 => (((h5 19 (Int32.toNatClampNeg ((h5 18 2) + l2))) = v6 → zP X (d + 1) 55 20 [some (.ref 18), some (.ref (100100 + i)), some (.int (l2 + 1))] [] z_S0 h7 (zI A)) ∧ (¬ (h5 19 (Int32.toNatClampNeg ((h5 18 2) + l2))) = v6 → A 0 h7))))) ∧ (¬ l2 < v4 → A 1 h5)))) : zP X (d + 1) 55 20 [some (.ref 18), some (.ref (100100 + i)), some (.int l2)] [] z_S0 h (zI A) := by
  refine zl zM55 q55_20 rfl ?_
  refine zl zM55 q55_21 rfl ?_
  refine zcV zM55 q55_22 kl9_81 rfl rfl (Nat.le_of_ble_eq_true rfl) (z_rcvStr hi0) zM216 (Nat.le_of_ble_eq_true rfl) (hw.mono (fun r0 h5 hr9 => ?_))
  obtain ⟨v4, rfl, hw⟩ := hr9
  show zP X (d + 1) 55 25 [some (.ref 18), some (.ref (100100 + i)), some (.int l2)] [.int v4, .int l2] z_S0 h5 (zI A)
  refine zb2_ge zM55 q55_25 (tgt := 55) rfl (fun hc => ?_) (fun hc => ?_)
  · have hw := hw.2 hc
    refine zkI zM55 q55_55 kI1 ?_
    exact zri zM55 q55_56 rfl rfl hw
  · have hw := hw.1 hc
    refine zl zM55 q55_28 rfl ?_
    refine zgR (a := 19) zM55 q55_29 (by decide) g9_9 s18 rfl ?_
    refine zl zM55 q55_32 rfl ?_
    refine zgI zM55 q55_33 (by decide) g9_28 s18 rfl (v := (h5 18 2)) rfl ?_
    refine zl zM55 q55_36 rfl ?_
    refine zl zM55 q55_37 (pc' := 38) (st' := .int ((h5 18 2) + l2) :: _) rfl ?_
    obtain ⟨hb, hw⟩ := hw
    refine ziA zM55 q55_38 (by decide) s19 hb (v := (h5 19 (Int32.toNatClampNeg ((h5 18 2) + l2)))) rfl ?_
    refine zl zM55 q55_39 rfl ?_
    refine zl zM55 q55_40 rfl ?_
    refine zcV zM55 q55_41 kl9_87 rfl rfl (Nat.le_of_ble_eq_true rfl) (z_rcvStr hi0) zM217 (Nat.le_of_ble_eq_true rfl) (hw.mono (fun r0 h7 hr8 => ?_))
    obtain ⟨v6, rfl, hw⟩ := hr8
    show zP X (d + 1) 55 44 [some (.ref 18), some (.ref (100100 + i)), some (.int l2)] [.int v6, .int (h5 19 (Int32.toNatClampNeg ((h5 18 2) + l2)))] z_S0 h7 (zI A)
    refine zb2_eq zM55 q55_44 (tgt := 49) rfl (fun hc => ?_) (fun hc => ?_)
    · have hw := hw.1 hc
      refine zl zM55 q55_49 (ls' := [some (.ref 18), some (.ref (100100 + i)), some (.int (l2 + 1))]) rfl ?_
      refine zl zM55 q55_52 (pc' := 20) (ls' := _) (st' := _) rfl ?_
      exact hw
    · have hw := hw.2 hc
      refine zkI zM55 q55_47 kI0 ?_
      exact zri zM55 q55_48 rfl rfl hw
-- X9_isBlank
theorem b56 {X : Option (List Int32)} {d : Nat} {h : zH} {A : Int32 → zH → Prop} {a1 : Int32} (hw : ((a1 = 32 → A 1 h) ∧ (¬ a1 = 32 → ((a1 = 10 → A 1 h) ∧ (¬ a1 = 10 → A 0 h))))) : zP X d 56 0 (z_ent [.int a1] 1) [] z_S0 h (zI A) := by
  show zP X d 56 0 [some (.int a1)] [] z_S0 h (zI A)
  refine zl zM56 q56_0 rfl ?_
  refine zkB zM56 q56_1 kB32 ?_
  refine zb2_eq zM56 q56_3 (tgt := 12) rfl (fun hc => ?_) (fun hc => ?_)
  · have hw := hw.1 hc
    refine zkI zM56 q56_12 kI1 ?_
    refine zl zM56 q56_13 (pc' := 17) (ls' := _) (st' := _) rfl ?_
    exact zri zM56 q56_17 rfl rfl hw
  · have hw := hw.2 hc
    refine zl zM56 q56_6 rfl ?_
    refine zkB zM56 q56_7 kB10 ?_
    refine zb2_ne zM56 q56_9 (tgt := 16) rfl (fun hc => ?_) (fun hc => ?_)
    · have hw := hw.2 hc
      refine zkI zM56 q56_16 kI0 ?_
      exact zri zM56 q56_17 rfl rfl hw
    · have hw := hw.1 hc
      refine zkI zM56 q56_12 kI1 ?_
      refine zl zM56 q56_13 (pc' := 17) (ls' := _) (st' := _) rfl ?_
      exact zri zM56 q56_17 rfl rfl hw
-- X9_isLetter
theorem b57 {X : Option (List Int32)} {d : Nat} {h : zH} {A : Int32 → zH → Prop} {a1 : Int32} (hw : ((a1 < 97 → A 0 h) ∧ (¬ a1 < 97 → (((122 : Int32) < a1 → A 0 h) ∧ (¬ (122 : Int32) < a1 → A 1 h))))) : zP X d 57 0 (z_ent [.int a1] 1) [] z_S0 h (zI A) := by
  show zP X d 57 0 [some (.int a1)] [] z_S0 h (zI A)
  refine zl zM57 q57_0 rfl ?_
  refine zkB zM57 q57_1 kB97 ?_
  refine zb2_lt zM57 q57_3 (tgt := 16) rfl (fun hc => ?_) (fun hc => ?_)
  · have hw := hw.1 hc
    refine zkI zM57 q57_16 kI0 ?_
    exact zri zM57 q57_17 rfl rfl hw
  · have hw := hw.2 hc
    refine zl zM57 q57_6 rfl ?_
    refine zkB zM57 q57_7 kB122 ?_
    refine zb2_gt zM57 q57_9 (tgt := 16) rfl (fun hc => ?_) (fun hc => ?_)
    · have hw := hw.1 hc
      refine zkI zM57 q57_16 kI0 ?_
      exact zri zM57 q57_17 rfl rfl hw
    · have hw := hw.2 hc
      refine zkI zM57 q57_12 kI1 ?_
      refine zl zM57 q57_13 (pc' := 17) (ls' := _) (st' := _) rfl ?_
      exact zri zM57 q57_17 rfl rfl hw
-- X9_isDigit
theorem b58 {X : Option (List Int32)} {d : Nat} {h : zH} {A : Int32 → zH → Prop} {a1 : Int32} (hw : ((a1 < 48 → A 0 h) ∧ (¬ a1 < 48 → (((57 : Int32) < a1 → A 0 h) ∧ (¬ (57 : Int32) < a1 → A 1 h))))) : zP X d 58 0 (z_ent [.int a1] 1) [] z_S0 h (zI A) := by
  show zP X d 58 0 [some (.int a1)] [] z_S0 h (zI A)
  refine zl zM58 q58_0 rfl ?_
  refine zkB zM58 q58_1 kB48 ?_
  refine zb2_lt zM58 q58_3 (tgt := 16) rfl (fun hc => ?_) (fun hc => ?_)
  · have hw := hw.1 hc
    refine zkI zM58 q58_16 kI0 ?_
    exact zri zM58 q58_17 rfl rfl hw
  · have hw := hw.2 hc
    refine zl zM58 q58_6 rfl ?_
    refine zkB zM58 q58_7 kB57 ?_
    refine zb2_gt zM58 q58_9 (tgt := 16) rfl (fun hc => ?_) (fun hc => ?_)
    · have hw := hw.1 hc
      refine zkI zM58 q58_16 kI0 ?_
      exact zri zM58 q58_17 rfl rfl hw
    · have hw := hw.2 hc
      refine zkI zM58 q58_12 kI1 ?_
      refine zl zM58 q58_13 (pc' := 17) (ls' := _) (st' := _) rfl ?_
      exact zri zM58 q58_17 rfl rfl hw
-- X9_isSign
theorem b59 {X : Option (List Int32)} {d : Nat} {h : zH} {A : Int32 → zH → Prop} {a1 : Int32} (hw : ((a1 = 40 → A 1 h) ∧ (a1 = 41 → A 1 h) ∧ (a1 = 42 → A 1 h) ∧ (a1 = 43 → A 1 h) ∧ (a1 = 44 → A 0 h) ∧ (a1 = 45 → A 1 h) ∧ (a1 = 46 → A 0 h) ∧ (a1 = 47 → A 0 h) ∧ (a1 = 48 → A 0 h) ∧ (a1 = 49 → A 0 h) ∧ (a1 = 50 → A 0 h) ∧ (a1 = 51 → A 0 h) ∧ (a1 = 52 → A 0 h) ∧ (a1 = 53 → A 0 h) ∧ (a1 = 54 → A 0 h) ∧ (a1 = 55 → A 0 h) ∧ (a1 = 56 → A 0 h) ∧ (a1 = 57 → A 0 h) ∧ (a1 = 58 → A 0 h) ∧ (a1 = 59 → A 1 h) ∧ (a1 = 60 → A 1 h) ∧ (a1 = 61 → A 1 h) ∧ ((¬ a1 = 40 ∧ ¬ a1 = 41 ∧ ¬ a1 = 42 ∧ ¬ a1 = 43 ∧ ¬ a1 = 44 ∧ ¬ a1 = 45 ∧ ¬ a1 = 46 ∧ ¬ a1 = 47 ∧ ¬ a1 = 48 ∧ ¬ a1 = 49 ∧ ¬ a1 = 50 ∧ ¬ a1 = 51 ∧ ¬ a1 = 52 ∧ ¬ a1 = 53 ∧ ¬ a1 = 54 ∧ ¬ a1 = 55 ∧ ¬ a1 = 56 ∧ ¬ a1 = 57 ∧ ¬ a1 = 58 ∧ ¬ a1 = 59 ∧ ¬ a1 = 60 ∧ ¬ a1 = 61) → A 0 h))) : zP X d 59 0 (z_ent [.int a1] 1) [] z_S0 h (zI A) := by
  show zP X d 59 0 [some (.int a1)] [] z_S0 h (zI A)
  refine zl zM59 q59_0 rfl ?_
  by_cases hs1 : a1 = 40
  · have hw := hw.1 hs1
    refine zts 40 hs1 zM59 q59_1 (tgt := 104) (by decide) rfl rfl ?_
    refine zkI zM59 q59_104 kI1 ?_
    exact zri zM59 q59_105 rfl rfl hw
  by_cases hs2 : a1 = 41
  · have hw := hw.2.1 hs2
    refine zts 41 hs2 zM59 q59_1 (tgt := 104) (by decide) rfl rfl ?_
    refine zkI zM59 q59_104 kI1 ?_
    exact zri zM59 q59_105 rfl rfl hw
  by_cases hs3 : a1 = 42
  · have hw := hw.2.2.1 hs3
    refine zts 42 hs3 zM59 q59_1 (tgt := 104) (by decide) rfl rfl ?_
    refine zkI zM59 q59_104 kI1 ?_
    exact zri zM59 q59_105 rfl rfl hw
  by_cases hs4 : a1 = 43
  · have hw := hw.2.2.2.1 hs4
    refine zts 43 hs4 zM59 q59_1 (tgt := 104) (by decide) rfl rfl ?_
    refine zkI zM59 q59_104 kI1 ?_
    exact zri zM59 q59_105 rfl rfl hw
  by_cases hs5 : a1 = 44
  · have hw := hw.2.2.2.2.1 hs5
    refine zts 44 hs5 zM59 q59_1 (tgt := 106) (by decide) rfl rfl ?_
    refine zkI zM59 q59_106 kI0 ?_
    exact zri zM59 q59_107 rfl rfl hw
  by_cases hs6 : a1 = 45
  · have hw := hw.2.2.2.2.2.1 hs6
    refine zts 45 hs6 zM59 q59_1 (tgt := 104) (by decide) rfl rfl ?_
    refine zkI zM59 q59_104 kI1 ?_
    exact zri zM59 q59_105 rfl rfl hw
  by_cases hs7 : a1 = 46
  · have hw := hw.2.2.2.2.2.2.1 hs7
    refine zts 46 hs7 zM59 q59_1 (tgt := 106) (by decide) rfl rfl ?_
    refine zkI zM59 q59_106 kI0 ?_
    exact zri zM59 q59_107 rfl rfl hw
  by_cases hs8 : a1 = 47
  · have hw := hw.2.2.2.2.2.2.2.1 hs8
    refine zts 47 hs8 zM59 q59_1 (tgt := 106) (by decide) rfl rfl ?_
    refine zkI zM59 q59_106 kI0 ?_
    exact zri zM59 q59_107 rfl rfl hw
  by_cases hs9 : a1 = 48
  · have hw := hw.2.2.2.2.2.2.2.2.1 hs9
    refine zts 48 hs9 zM59 q59_1 (tgt := 106) (by decide) rfl rfl ?_
    refine zkI zM59 q59_106 kI0 ?_
    exact zri zM59 q59_107 rfl rfl hw
  by_cases hs10 : a1 = 49
  · have hw := hw.2.2.2.2.2.2.2.2.2.1 hs10
    refine zts 49 hs10 zM59 q59_1 (tgt := 106) (by decide) rfl rfl ?_
    refine zkI zM59 q59_106 kI0 ?_
    exact zri zM59 q59_107 rfl rfl hw
  by_cases hs11 : a1 = 50
  · have hw := hw.2.2.2.2.2.2.2.2.2.2.1 hs11
    refine zts 50 hs11 zM59 q59_1 (tgt := 106) (by decide) rfl rfl ?_
    refine zkI zM59 q59_106 kI0 ?_
    exact zri zM59 q59_107 rfl rfl hw
  by_cases hs12 : a1 = 51
  · have hw := hw.2.2.2.2.2.2.2.2.2.2.2.1 hs12
    refine zts 51 hs12 zM59 q59_1 (tgt := 106) (by decide) rfl rfl ?_
    refine zkI zM59 q59_106 kI0 ?_
    exact zri zM59 q59_107 rfl rfl hw
  by_cases hs13 : a1 = 52
  · have hw := hw.2.2.2.2.2.2.2.2.2.2.2.2.1 hs13
    refine zts 52 hs13 zM59 q59_1 (tgt := 106) (by decide) rfl rfl ?_
    refine zkI zM59 q59_106 kI0 ?_
    exact zri zM59 q59_107 rfl rfl hw
  by_cases hs14 : a1 = 53
  · have hw := hw.2.2.2.2.2.2.2.2.2.2.2.2.2.1 hs14
    refine zts 53 hs14 zM59 q59_1 (tgt := 106) (by decide) rfl rfl ?_
    refine zkI zM59 q59_106 kI0 ?_
    exact zri zM59 q59_107 rfl rfl hw
  by_cases hs15 : a1 = 54
  · have hw := hw.2.2.2.2.2.2.2.2.2.2.2.2.2.2.1 hs15
    refine zts 54 hs15 zM59 q59_1 (tgt := 106) (by decide) rfl rfl ?_
    refine zkI zM59 q59_106 kI0 ?_
    exact zri zM59 q59_107 rfl rfl hw
  by_cases hs16 : a1 = 55
  · have hw := hw.2.2.2.2.2.2.2.2.2.2.2.2.2.2.2.1 hs16
    refine zts 55 hs16 zM59 q59_1 (tgt := 106) (by decide) rfl rfl ?_
    refine zkI zM59 q59_106 kI0 ?_
    exact zri zM59 q59_107 rfl rfl hw
  by_cases hs17 : a1 = 56
  · have hw := hw.2.2.2.2.2.2.2.2.2.2.2.2.2.2.2.2.1 hs17
    refine zts 56 hs17 zM59 q59_1 (tgt := 106) (by decide) rfl rfl ?_
    refine zkI zM59 q59_106 kI0 ?_
    exact zri zM59 q59_107 rfl rfl hw
  by_cases hs18 : a1 = 57
  · have hw := hw.2.2.2.2.2.2.2.2.2.2.2.2.2.2.2.2.2.1 hs18
    refine zts 57 hs18 zM59 q59_1 (tgt := 106) (by decide) rfl rfl ?_
    refine zkI zM59 q59_106 kI0 ?_
    exact zri zM59 q59_107 rfl rfl hw
  by_cases hs19 : a1 = 58
  · have hw := hw.2.2.2.2.2.2.2.2.2.2.2.2.2.2.2.2.2.2.1 hs19
    refine zts 58 hs19 zM59 q59_1 (tgt := 106) (by decide) rfl rfl ?_
    refine zkI zM59 q59_106 kI0 ?_
    exact zri zM59 q59_107 rfl rfl hw
  by_cases hs20 : a1 = 59
  · have hw := hw.2.2.2.2.2.2.2.2.2.2.2.2.2.2.2.2.2.2.2.1 hs20
    refine zts 59 hs20 zM59 q59_1 (tgt := 104) (by decide) rfl rfl ?_
    refine zkI zM59 q59_104 kI1 ?_
    exact zri zM59 q59_105 rfl rfl hw
  by_cases hs21 : a1 = 60
  · have hw := hw.2.2.2.2.2.2.2.2.2.2.2.2.2.2.2.2.2.2.2.2.1 hs21
    refine zts 60 hs21 zM59 q59_1 (tgt := 104) (by decide) rfl rfl ?_
    refine zkI zM59 q59_104 kI1 ?_
    exact zri zM59 q59_105 rfl rfl hw
  by_cases hs22 : a1 = 61
  · have hw := hw.2.2.2.2.2.2.2.2.2.2.2.2.2.2.2.2.2.2.2.2.2.1 hs22
    refine zts 61 hs22 zM59 q59_1 (tgt := 104) (by decide) rfl rfl ?_
    refine zkI zM59 q59_104 kI1 ?_
    exact zri zM59 q59_105 rfl rfl hw
  have hw := hw.2.2.2.2.2.2.2.2.2.2.2.2.2.2.2.2.2.2.2.2.2.2 ⟨hs1, hs2, hs3, hs4, hs5, hs6, hs7, hs8, hs9, hs10, hs11, hs12, hs13, hs14, hs15, hs16, hs17, hs18, hs19, hs20, hs21, hs22⟩
  have hs1 := z_neI hs1
  have hs2 := z_neI hs2
  have hs3 := z_neI hs3
  have hs4 := z_neI hs4
  have hs5 := z_neI hs5
  have hs6 := z_neI hs6
  have hs7 := z_neI hs7
  have hs8 := z_neI hs8
  have hs9 := z_neI hs9
  have hs10 := z_neI hs10
  have hs11 := z_neI hs11
  have hs12 := z_neI hs12
  have hs13 := z_neI hs13
  have hs14 := z_neI hs14
  have hs15 := z_neI hs15
  have hs16 := z_neI hs16
  have hs17 := z_neI hs17
  have hs18 := z_neI hs18
  have hs19 := z_neI hs19
  have hs20 := z_neI hs20
  have hs21 := z_neI hs21
  have hs22 := z_neI hs22
  refine ztd (tgt := 106) ?_ zM59 q59_1 rfl ?_
  · simp only [show (40 : Int32).toInt = 40 from rfl, show (41 : Int32).toInt = 41 from rfl, show (42 : Int32).toInt = 42 from rfl, show (43 : Int32).toInt = 43 from rfl, show (44 : Int32).toInt = 44 from rfl, show (45 : Int32).toInt = 45 from rfl, show (46 : Int32).toInt = 46 from rfl, show (47 : Int32).toInt = 47 from rfl, show (48 : Int32).toInt = 48 from rfl, show (49 : Int32).toInt = 49 from rfl, show (50 : Int32).toInt = 50 from rfl, show (51 : Int32).toInt = 51 from rfl, show (52 : Int32).toInt = 52 from rfl, show (53 : Int32).toInt = 53 from rfl, show (54 : Int32).toInt = 54 from rfl, show (55 : Int32).toInt = 55 from rfl, show (56 : Int32).toInt = 56 from rfl, show (57 : Int32).toInt = 57 from rfl, show (58 : Int32).toInt = 58 from rfl, show (59 : Int32).toInt = 59 from rfl, show (60 : Int32).toInt = 60 from rfl, show (61 : Int32).toInt = 61 from rfl] at hs1 hs2 hs3 hs4 hs5 hs6 hs7 hs8 hs9 hs10 hs11 hs12 hs13 hs14 hs15 hs16 hs17 hs18 hs19 hs20 hs21 hs22; omega
  refine zkI zM59 q59_106 kI0 ?_
  exact zri zM59 q59_107 rfl rfl hw
-- X10_readFrom
theorem b61 {X : Option (List Int32)} {d : Nat} {h : zH} {A : Int32 → zH → Prop} {t : Nat} (ht0 : t ∈ ([25, 28, 31, 34, 37, 40] : List Nat)) (hw : zP X d 50 0 (z_ent [.ref 18] 1) [] z_S0 (z_up h (t) 2 0) (zV fun h3 => zP X (d + 1) 61 11 [some (.ref (t)), some (.ref 18), some (.int 0)] [] z_S0 h3 (zI A))) : zP X (d + 1) 61 0 (z_ent [.ref (t), .ref 18] 3) [] z_S0 h (zI A) := by
  show zP X (d + 1) 61 0 [some (.ref (t)), some (.ref 18), none] [] z_S0 h (zI A)
  refine zl zM61 q61_0 rfl ?_
  refine zkI zM61 q61_1 kI0 ?_
  refine zpi zM61 q61_2 (sTx ht0).1 g10_18 (sTx ht0).2.2.2.1 rfl rfl ?_
  refine zl zM61 q61_5 rfl ?_
  refine zcV zM61 q61_6 kl10_22 rfl rfl (Nat.le_of_ble_eq_true rfl) rfl zM50 (Nat.le_of_ble_eq_true rfl) (hw.mono (fun r0 h3 hr4 => ?_))
  obtain ⟨rfl, hw⟩ := hr4
  show zP X (d + 1) 61 9 [some (.ref (t)), some (.ref 18), none] [] z_S0 h3 (zI A)
  refine zkI zM61 q61_9 kI0 ?_
  refine zl zM61 q61_10 (ls' := [some (.ref (t)), some (.ref 18), some (.int 0)]) rfl ?_
  exact hw
theorem b61_11 {X : Option (List Int32)} {d : Nat} {h : zH} {A : Int32 → zH → Prop} {l0 : Nat} {l2 : Int32} (hl0 : l0 ∈ ([25, 28, 31, 34, 37, 40] : List Nat)) (hw : ((l2 < 3 → zP X d 51 0 (z_ent [.ref 18, .int (260 + l2)] 2) [] z_S0 h (zI fun v5 h7 => ((v5 = 0 → A 0 h7) ∧ (¬ v5 = 0 → zP X d 63 0 (z_ent [.ref (l0), .ref 18, .int 0] 4) [] z_S0 h7 (zI fun v8 h10 => ((v8 = 0 → A 0 h10) ∧ (¬ v8 = 0 → (z_ib l2 3 ∧ zP X d 51 0 (z_ent [.ref 18, .int 59] 2) [] z_S0 (z_up h10 (l0 + 2) (Int32.toNatClampNeg l2) (h10 (l0) 2)) (zI fun v11 h13 => ((v11 = 0 → A 0 h13) ∧ (¬ v11 = 0 → zP X (d + 1) 61 11 [some (.ref (l0)), some (.ref 18), some (.int (l2 + 1))] [] z_S0 h13 (zI A)))))))))))) ∧ (¬ l2 < 3 → (((h 18 4) = 256 → A 1 h) ∧ (¬ (h 18 4) = 256 → A 0 h))))) : zP X (d + 1) 61 11 [some (.ref (l0)), some (.ref 18), some (.int l2)] [] z_S0 h (zI A) := by
  refine zl zM61 q61_11 rfl ?_
  refine zkI zM61 q61_12 kI3 ?_
  refine zb2_ge zM61 q61_13 (tgt := 66) rfl (fun hc => ?_) (fun hc => ?_)
  · have hw := hw.2 hc
    refine zl zM61 q61_66 rfl ?_
    refine zgI zM61 q61_67 (by decide) g10_35 s18 rfl (v := (h 18 4)) rfl ?_
    refine zkS zM61 q61_70 kS256 ?_
    refine zb2_ne zM61 q61_73 (tgt := 80) rfl (fun hc => ?_) (fun hc => ?_)
    · have hw := hw.2 hc
      refine zkI zM61 q61_80 kI0 ?_
      exact zri zM61 q61_81 rfl rfl hw
    · have hw := hw.1 hc
      refine zkI zM61 q61_76 kI1 ?_
      refine zl zM61 q61_77 (pc' := 81) (ls' := _) (st' := _) rfl ?_
      exact zri zM61 q61_81 rfl rfl hw
  · have hw := hw.1 hc
    refine zl zM61 q61_16 rfl ?_
    refine zkS zM61 q61_17 kS260 ?_
    refine zl zM61 q61_20 rfl ?_
    refine zl zM61 q61_21 (pc' := 22) (st' := .int (260 + l2) :: _) rfl ?_
    refine zcV zM61 q61_22 kl10_27 rfl rfl (Nat.le_of_ble_eq_true rfl) rfl zM51 (Nat.le_of_ble_eq_true rfl) (hw.mono (fun r0 h7 hr16 => ?_))
    obtain ⟨v5, rfl, hw⟩ := hr16
    show zP X (d + 1) 61 25 [some (.ref (l0)), some (.ref 18), some (.int l2)] [.int v5] z_S0 h7 (zI A)
    refine zb1_eq zM61 q61_25 (tgt := 37) rfl (fun hc => ?_) (fun hc => ?_)
    · have hw := hw.1 hc
      refine zkI zM61 q61_37 kI0 ?_
      exact zri zM61 q61_38 rfl rfl hw
    · have hw := hw.2 hc
      refine zl zM61 q61_28 rfl ?_
      refine zl zM61 q61_29 rfl ?_
      refine zkI zM61 q61_30 kI0 ?_
      refine zcV zM61 q61_31 kl10_31 rfl rfl (Nat.le_of_ble_eq_true rfl) (z_rcvT hl0) zM63 (Nat.le_of_ble_eq_true rfl) (hw.mono (fun r0 h10 hr15 => ?_))
      obtain ⟨v8, rfl, hw⟩ := hr15
      show zP X (d + 1) 61 34 [some (.ref (l0)), some (.ref 18), some (.int l2)] [.int v8] z_S0 h10 (zI A)
      refine zb1_ne zM61 q61_34 (tgt := 39) rfl (fun hc => ?_) (fun hc => ?_)
      · have hw := hw.2 hc
        refine zl zM61 q61_39 rfl ?_
        refine zgR (a := l0 + 2) zM61 q61_40 (sTx hl0).1 g10_15 (sTx hl0).2.2.2.1 rfl ?_
        refine zl zM61 q61_43 rfl ?_
        refine zl zM61 q61_44 rfl ?_
        refine zgI zM61 q61_45 (sTx hl0).1 g10_18 (sTx hl0).2.2.2.1 rfl (v := (h10 (l0) 2)) rfl ?_
        obtain ⟨hb, hw⟩ := hw
        refine ziS zM61 q61_48 (sTx hl0).2.2.1 (sTx hl0).2.2.2.2.2 hb rfl ?_
        refine zl zM61 q61_49 rfl ?_
        refine zkB zM61 q61_50 kB59 ?_
        refine zcV zM61 q61_52 kl10_27 rfl rfl (Nat.le_of_ble_eq_true rfl) rfl zM51 (Nat.le_of_ble_eq_true rfl) (hw.mono (fun r0 h13 hr14 => ?_))
        obtain ⟨v11, rfl, hw⟩ := hr14
        show zP X (d + 1) 61 55 [some (.ref (l0)), some (.ref 18), some (.int l2)] [.int v11] z_S0 h13 (zI A)
        refine zb1_ne zM61 q61_55 (tgt := 60) rfl (fun hc => ?_) (fun hc => ?_)
        · have hw := hw.2 hc
          refine zl zM61 q61_60 (ls' := [some (.ref (l0)), some (.ref 18), some (.int (l2 + 1))]) rfl ?_
          refine zl zM61 q61_63 (pc' := 11) (ls' := _) (st' := _) rfl ?_
          exact hw
        · have hw := hw.1 hc
          refine zkI zM61 q61_58 kI0 ?_
          exact zri zM61 q61_59 rfl rfl hw
      · have hw := hw.1 hc
        refine zkI zM61 q61_37 kI0 ?_
        exact zri zM61 q61_38 rfl rfl hw
-- X10_add
theorem b62 {X : Option (List Int32)} {d : Nat} {h : zH} {A : zH → Prop} {t : Nat} {a1 : Int32} (ht0 : t ∈ ([25, 28, 31, 34, 37, 40] : List Nat)) (hw : (((h (t) 2) < 160 → (z_ib (h (t) 2) 160 ∧ A (z_up (z_up h (t + 1) (Int32.toNatClampNeg (h (t) 2)) a1) (t) 2 (((z_up h (t + 1) (Int32.toNatClampNeg (h (t) 2)) a1) (t) 2) + 1)))) ∧ (¬ (h (t) 2) < 160 → A h))) : zP X d 62 0 (z_ent [.ref (t), .int a1] 2) [] z_S0 h (zV A) := by
  show zP X d 62 0 [some (.ref (t)), some (.int a1)] [] z_S0 h (zV A)
  refine zl zM62 q62_0 rfl ?_
  refine zgI zM62 q62_1 (sTx ht0).1 g10_18 (sTx ht0).2.2.2.1 rfl (v := (h (t) 2)) rfl ?_
  refine zkS zM62 q62_4 kS160 ?_
  refine zb2_ge zM62 q62_7 (tgt := 30) rfl (fun hc => ?_) (fun hc => ?_)
  · have hw := hw.2 hc
    exact zrv zM62 q62_30 rfl hw
  · have hw := hw.1 hc
    refine zl zM62 q62_10 rfl ?_
    refine zgR (a := t + 1) zM62 q62_11 (sTx ht0).1 g10_9 (sTx ht0).2.2.2.1 rfl ?_
    refine zl zM62 q62_14 rfl ?_
    refine zgI zM62 q62_15 (sTx ht0).1 g10_18 (sTx ht0).2.2.2.1 rfl (v := (h (t) 2)) rfl ?_
    refine zl zM62 q62_18 rfl ?_
    obtain ⟨hb, hw⟩ := hw
    refine ziS zM62 q62_19 (sTx ht0).2.1 (sTx ht0).2.2.2.2.1 hb rfl ?_
    refine zl zM62 q62_20 rfl ?_
    refine zl zM62 q62_21 rfl ?_
    refine zgI zM62 q62_22 (sTx ht0).1 g10_18 (sTx ht0).2.2.2.1 rfl (v := ((z_up h (t + 1) (Int32.toNatClampNeg (h (t) 2)) a1) (t) 2)) rfl ?_
    refine zkI zM62 q62_25 kI1 ?_
    refine zl zM62 q62_26 (pc' := 27) (st' := .int (((z_up h (t + 1) (Int32.toNatClampNeg (h (t) 2)) a1) (t) 2) + 1) :: _) rfl ?_
    refine zpi zM62 q62_27 (sTx ht0).1 g10_18 (sTx ht0).2.2.2.1 rfl rfl ?_
    exact zrv zM62 q62_30 rfl hw
-- X10_readEither
theorem b63 {X : Option (List Int32)} {d : Nat} {h : zH} {A : Int32 → zH → Prop} {t : Nat} {a2 : Int32} (ht0 : t ∈ ([25, 28, 31, 34, 37, 40] : List Nat)) (hw : zP X d 64 0 (z_ent [.ref (t), .ref 18, .int a2] 4) [] z_S0 h (zI fun v1 h3 => ((v1 = 0 → A 0 h3) ∧ (¬ v1 = 0 → zP X (d + 1) 63 13 [some (.ref (t)), some (.ref 18), some (.int a2), some (.int 0)] [] z_S0 h3 (zI A))))) : zP X (d + 1) 63 0 (z_ent [.ref (t), .ref 18, .int a2] 4) [] z_S0 h (zI A) := by
  show zP X (d + 1) 63 0 [some (.ref (t)), some (.ref 18), some (.int a2), none] [] z_S0 h (zI A)
  refine zl zM63 q63_0 rfl ?_
  refine zl zM63 q63_1 rfl ?_
  refine zl zM63 q63_2 rfl ?_
  refine zcV zM63 q63_3 kl10_38 rfl rfl (Nat.le_of_ble_eq_true rfl) (z_rcvT ht0) zM64 (Nat.le_of_ble_eq_true rfl) (hw.mono (fun r0 h3 hr4 => ?_))
  obtain ⟨v1, rfl, hw⟩ := hr4
  show zP X (d + 1) 63 6 [some (.ref (t)), some (.ref 18), some (.int a2), none] [.int v1] z_S0 h3 (zI A)
  refine zb1_ne zM63 q63_6 (tgt := 11) rfl (fun hc => ?_) (fun hc => ?_)
  · have hw := hw.2 hc
    refine zkI zM63 q63_11 kI0 ?_
    refine zl zM63 q63_12 (ls' := [some (.ref (t)), some (.ref 18), some (.int a2), some (.int 0)]) rfl ?_
    exact hw
  · have hw := hw.1 hc
    refine zkI zM63 q63_9 kI0 ?_
    exact zri zM63 q63_10 rfl rfl hw
theorem b63_13 {X : Option (List Int32)} {d : Nat} {h : zH} {A : Int32 → zH → Prop} {l0 : Nat} {l2 : Int32} {l3 : Int32} (hl0 : l0 ∈ ([25, 28, 31, 34, 37, 40] : List Nat)) (hw : ((l3 < 160 → (((h 18 4) = 263 → zP X d 52 0 (z_ent [.ref 18] 1) [] z_S0 h (zV fun h7 => zP X d 64 0 (z_ent [.ref (l0), .ref 18, .int l2] 4) [] z_S0 h7 (zI fun v8 h10 => ((v8 = 0 → A 0 h10) ∧ (¬ v8 = 0 → zP X d 62 0 (z_ent [.ref (l0), .int (-9)] 2) [] z_S0 h10 (zV fun h13 => zP X (d + 1) 63 13 [some (.ref (l0)), some (.ref 18), some (.int l2), some (.int (l3 + 1))] [] z_S0 h13 (zI A))))))) ∧ (¬ (h 18 4) = 263 → A 1 h))) ∧ (¬ l3 < 160 → A 1 h))) : zP X (d + 1) 63 13 [some (.ref (l0)), some (.ref 18), some (.int l2), some (.int l3)] [] z_S0 h (zI A) := by
  refine zl zM63 q63_13 rfl ?_
  refine zkS zM63 q63_14 kS160 ?_
  refine zb2_ge zM63 q63_17 (tgt := 57) rfl (fun hc => ?_) (fun hc => ?_)
  · have hw := hw.2 hc
    refine zkI zM63 q63_57 kI1 ?_
    exact zri zM63 q63_58 rfl rfl hw
  · have hw := hw.1 hc
    refine zl zM63 q63_20 rfl ?_
    refine zgI zM63 q63_21 (by decide) g10_35 s18 rfl (v := (h 18 4)) rfl ?_
    refine zkS zM63 q63_24 kS263 ?_
    refine zb2_ne zM63 q63_27 (tgt := 57) rfl (fun hc => ?_) (fun hc => ?_)
    · have hw := hw.2 hc
      refine zkI zM63 q63_57 kI1 ?_
      exact zri zM63 q63_58 rfl rfl hw
    · have hw := hw.1 hc
      refine zl zM63 q63_30 rfl ?_
      refine zcV zM63 q63_31 kl10_41 rfl rfl (Nat.le_of_ble_eq_true rfl) rfl zM52 (Nat.le_of_ble_eq_true rfl) (hw.mono (fun r0 h7 hr16 => ?_))
      obtain ⟨rfl, hw⟩ := hr16
      show zP X (d + 1) 63 34 [some (.ref (l0)), some (.ref 18), some (.int l2), some (.int l3)] [] z_S0 h7 (zI A)
      refine zl zM63 q63_34 rfl ?_
      refine zl zM63 q63_35 rfl ?_
      refine zl zM63 q63_36 rfl ?_
      refine zcV zM63 q63_37 kl10_38 rfl rfl (Nat.le_of_ble_eq_true rfl) (z_rcvT hl0) zM64 (Nat.le_of_ble_eq_true rfl) (hw.mono (fun r0 h10 hr15 => ?_))
      obtain ⟨v8, rfl, hw⟩ := hr15
      show zP X (d + 1) 63 40 [some (.ref (l0)), some (.ref 18), some (.int l2), some (.int l3)] [.int v8] z_S0 h10 (zI A)
      refine zb1_ne zM63 q63_40 (tgt := 45) rfl (fun hc => ?_) (fun hc => ?_)
      · have hw := hw.2 hc
        refine zl zM63 q63_45 rfl ?_
        refine zkB zM63 q63_46 kBm9 ?_
        refine zcV zM63 q63_48 kl10_44 rfl rfl (Nat.le_of_ble_eq_true rfl) (z_rcvT hl0) zM62 (Nat.le_of_ble_eq_true rfl) (hw.mono (fun r0 h13 hr14 => ?_))
        obtain ⟨rfl, hw⟩ := hr14
        show zP X (d + 1) 63 51 [some (.ref (l0)), some (.ref 18), some (.int l2), some (.int l3)] [] z_S0 h13 (zI A)
        refine zl zM63 q63_51 (ls' := [some (.ref (l0)), some (.ref 18), some (.int l2), some (.int (l3 + 1))]) rfl ?_
        refine zl zM63 q63_54 (pc' := 13) (ls' := _) (st' := _) rfl ?_
        exact hw
      · have hw := hw.1 hc
        refine zkI zM63 q63_43 kI0 ?_
        exact zri zM63 q63_44 rfl rfl hw
-- X10_readBoth
theorem b64 {X : Option (List Int32)} {d : Nat} {h : zH} {A : Int32 → zH → Prop} {t : Nat} {a2 : Int32} (ht0 : t ∈ ([25, 28, 31, 34, 37, 40] : List Nat)) (hw : zP X d 65 0 (z_ent [.ref (t), .ref 18, .int a2] 3) [] z_S0 h (zI fun v1 h3 => ((v1 = 0 → A 0 h3) ∧ (¬ v1 = 0 → zP X (d + 1) 64 13 [some (.ref (t)), some (.ref 18), some (.int a2), some (.int 0)] [] z_S0 h3 (zI A))))) : zP X (d + 1) 64 0 (z_ent [.ref (t), .ref 18, .int a2] 4) [] z_S0 h (zI A) := by
  show zP X (d + 1) 64 0 [some (.ref (t)), some (.ref 18), some (.int a2), none] [] z_S0 h (zI A)
  refine zl zM64 q64_0 rfl ?_
  refine zl zM64 q64_1 rfl ?_
  refine zl zM64 q64_2 rfl ?_
  refine zcV zM64 q64_3 kl10_48 rfl rfl (Nat.le_of_ble_eq_true rfl) (z_rcvT ht0) zM65 (Nat.le_of_ble_eq_true rfl) (hw.mono (fun r0 h3 hr4 => ?_))
  obtain ⟨v1, rfl, hw⟩ := hr4
  show zP X (d + 1) 64 6 [some (.ref (t)), some (.ref 18), some (.int a2), none] [.int v1] z_S0 h3 (zI A)
  refine zb1_ne zM64 q64_6 (tgt := 11) rfl (fun hc => ?_) (fun hc => ?_)
  · have hw := hw.2 hc
    refine zkI zM64 q64_11 kI0 ?_
    refine zl zM64 q64_12 (ls' := [some (.ref (t)), some (.ref 18), some (.int a2), some (.int 0)]) rfl ?_
    exact hw
  · have hw := hw.1 hc
    refine zkI zM64 q64_9 kI0 ?_
    exact zri zM64 q64_10 rfl rfl hw
theorem b64_13 {X : Option (List Int32)} {d : Nat} {h : zH} {A : Int32 → zH → Prop} {l0 : Nat} {l2 : Int32} {l3 : Int32} (hl0 : l0 ∈ ([25, 28, 31, 34, 37, 40] : List Nat)) (hw : ((l3 < 160 → (((h 18 4) = 264 → zP X d 52 0 (z_ent [.ref 18] 1) [] z_S0 h (zV fun h7 => zP X d 65 0 (z_ent [.ref (l0), .ref 18, .int l2] 3) [] z_S0 h7 (zI fun v8 h10 => ((v8 = 0 → A 0 h10) ∧ (¬ v8 = 0 → zP X d 62 0 (z_ent [.ref (l0), .int (-8)] 2) [] z_S0 h10 (zV fun h13 => zP X (d + 1) 64 13 [some (.ref (l0)), some (.ref 18), some (.int l2), some (.int (l3 + 1))] [] z_S0 h13 (zI A))))))) ∧ (¬ (h 18 4) = 264 → A 1 h))) ∧ (¬ l3 < 160 → A 1 h))) : zP X (d + 1) 64 13 [some (.ref (l0)), some (.ref 18), some (.int l2), some (.int l3)] [] z_S0 h (zI A) := by
  refine zl zM64 q64_13 rfl ?_
  refine zkS zM64 q64_14 kS160 ?_
  refine zb2_ge zM64 q64_17 (tgt := 57) rfl (fun hc => ?_) (fun hc => ?_)
  · have hw := hw.2 hc
    refine zkI zM64 q64_57 kI1 ?_
    exact zri zM64 q64_58 rfl rfl hw
  · have hw := hw.1 hc
    refine zl zM64 q64_20 rfl ?_
    refine zgI zM64 q64_21 (by decide) g10_35 s18 rfl (v := (h 18 4)) rfl ?_
    refine zkS zM64 q64_24 kS264 ?_
    refine zb2_ne zM64 q64_27 (tgt := 57) rfl (fun hc => ?_) (fun hc => ?_)
    · have hw := hw.2 hc
      refine zkI zM64 q64_57 kI1 ?_
      exact zri zM64 q64_58 rfl rfl hw
    · have hw := hw.1 hc
      refine zl zM64 q64_30 rfl ?_
      refine zcV zM64 q64_31 kl10_41 rfl rfl (Nat.le_of_ble_eq_true rfl) rfl zM52 (Nat.le_of_ble_eq_true rfl) (hw.mono (fun r0 h7 hr16 => ?_))
      obtain ⟨rfl, hw⟩ := hr16
      show zP X (d + 1) 64 34 [some (.ref (l0)), some (.ref 18), some (.int l2), some (.int l3)] [] z_S0 h7 (zI A)
      refine zl zM64 q64_34 rfl ?_
      refine zl zM64 q64_35 rfl ?_
      refine zl zM64 q64_36 rfl ?_
      refine zcV zM64 q64_37 kl10_48 rfl rfl (Nat.le_of_ble_eq_true rfl) (z_rcvT hl0) zM65 (Nat.le_of_ble_eq_true rfl) (hw.mono (fun r0 h10 hr15 => ?_))
      obtain ⟨v8, rfl, hw⟩ := hr15
      show zP X (d + 1) 64 40 [some (.ref (l0)), some (.ref 18), some (.int l2), some (.int l3)] [.int v8] z_S0 h10 (zI A)
      refine zb1_ne zM64 q64_40 (tgt := 45) rfl (fun hc => ?_) (fun hc => ?_)
      · have hw := hw.2 hc
        refine zl zM64 q64_45 rfl ?_
        refine zkB zM64 q64_46 kBm8 ?_
        refine zcV zM64 q64_48 kl10_44 rfl rfl (Nat.le_of_ble_eq_true rfl) (z_rcvT hl0) zM62 (Nat.le_of_ble_eq_true rfl) (hw.mono (fun r0 h13 hr14 => ?_))
        obtain ⟨rfl, hw⟩ := hr14
        show zP X (d + 1) 64 51 [some (.ref (l0)), some (.ref 18), some (.int l2), some (.int l3)] [] z_S0 h13 (zI A)
        refine zl zM64 q64_51 (ls' := [some (.ref (l0)), some (.ref 18), some (.int l2), some (.int (l3 + 1))]) rfl ?_
        refine zl zM64 q64_54 (pc' := 13) (ls' := _) (st' := _) rfl ?_
        exact hw
      · have hw := hw.1 hc
        refine zkI zM64 q64_43 kI0 ?_
        exact zri zM64 q64_44 rfl rfl hw
-- X10_readNot
theorem b65 {X : Option (List Int32)} {d : Nat} {h : zH} {A : Int32 → zH → Prop} {t : Nat} {a2 : Int32} (ht0 : t ∈ ([25, 28, 31, 34, 37, 40] : List Nat)) (hw : (((h 18 4) = 265 → ((a2 < 5 → zP X d 52 0 (z_ent [.ref 18] 1) [] z_S0 h (zV fun h3 => zP X d 65 0 (z_ent [.ref (t), .ref 18, .int (a2 + 1)] 3) [] z_S0 h3 (zI fun v4 h6 => ((v4 = 0 → A 0 h6) ∧ (¬ v4 = 0 → zP X d 62 0 (z_ent [.ref (t), .int (-2)] 2) [] z_S0 h6 (zV fun h9 => A 1 h9)))))) ∧ (¬ a2 < 5 → A 0 h))) ∧ (¬ (h 18 4) = 265 → zP X d 66 0 (z_ent [.ref (t), .ref 18, .int a2] 4) [] z_S0 h (zI fun v13 h15 => ((v13 = 0 ∨ v13 = 1) ∧ A v13 h15))))) : zP X (d + 1) 65 0 (z_ent [.ref (t), .ref 18, .int a2] 3) [] z_S0 h (zI A) := by
  show zP X (d + 1) 65 0 [some (.ref (t)), some (.ref 18), some (.int a2)] [] z_S0 h (zI A)
  refine zl zM65 q65_0 rfl ?_
  refine zgI zM65 q65_1 (by decide) g10_35 s18 rfl (v := (h 18 4)) rfl ?_
  refine zkS zM65 q65_4 kS265 ?_
  refine zb2_eq zM65 q65_7 (tgt := 17) rfl (fun hc => ?_) (fun hc => ?_)
  · have hw := hw.1 hc
    refine zl zM65 q65_17 rfl ?_
    refine zkI zM65 q65_18 kI5 ?_
    refine zb2_lt zM65 q65_19 (tgt := 24) rfl (fun hc => ?_) (fun hc => ?_)
    · have hw := hw.1 hc
      refine zl zM65 q65_24 rfl ?_
      refine zcV zM65 q65_25 kl10_41 rfl rfl (Nat.le_of_ble_eq_true rfl) rfl zM52 (Nat.le_of_ble_eq_true rfl) (hw.mono (fun r0 h3 hr12 => ?_))
      obtain ⟨rfl, hw⟩ := hr12
      show zP X (d + 1) 65 28 [some (.ref (t)), some (.ref 18), some (.int a2)] [] z_S0 h3 (zI A)
      refine zl zM65 q65_28 rfl ?_
      refine zl zM65 q65_29 rfl ?_
      refine zl zM65 q65_30 rfl ?_
      refine zkI zM65 q65_31 kI1 ?_
      refine zl zM65 q65_32 (pc' := 33) (st' := .int (a2 + 1) :: _) rfl ?_
      refine zcV zM65 q65_33 kl10_48 rfl rfl (Nat.le_of_ble_eq_true rfl) (z_rcvT ht0) zM65 (Nat.le_of_ble_eq_true rfl) (hw.mono (fun r0 h6 hr11 => ?_))
      obtain ⟨v4, rfl, hw⟩ := hr11
      show zP X (d + 1) 65 36 [some (.ref (t)), some (.ref 18), some (.int a2)] [.int v4] z_S0 h6 (zI A)
      refine zb1_ne zM65 q65_36 (tgt := 41) rfl (fun hc => ?_) (fun hc => ?_)
      · have hw := hw.2 hc
        refine zl zM65 q65_41 rfl ?_
        refine zkB zM65 q65_42 kBm2 ?_
        refine zcV zM65 q65_44 kl10_44 rfl rfl (Nat.le_of_ble_eq_true rfl) (z_rcvT ht0) zM62 (Nat.le_of_ble_eq_true rfl) (hw.mono (fun r0 h9 hr10 => ?_))
        obtain ⟨rfl, hw⟩ := hr10
        show zP X (d + 1) 65 47 [some (.ref (t)), some (.ref 18), some (.int a2)] [] z_S0 h9 (zI A)
        refine zkI zM65 q65_47 kI1 ?_
        exact zri zM65 q65_48 rfl rfl hw
      · have hw := hw.1 hc
        refine zkI zM65 q65_39 kI0 ?_
        exact zri zM65 q65_40 rfl rfl hw
    · have hw := hw.2 hc
      refine zkI zM65 q65_22 kI0 ?_
      exact zri zM65 q65_23 rfl rfl hw
  · have hw := hw.2 hc
    refine zl zM65 q65_10 rfl ?_
    refine zl zM65 q65_11 rfl ?_
    refine zl zM65 q65_12 rfl ?_
    refine zcV zM65 q65_13 kl10_51 rfl rfl (Nat.le_of_ble_eq_true rfl) (z_rcvT ht0) zM66 (Nat.le_of_ble_eq_true rfl) (hw.mono (fun r0 h15 hr16 => ?_))
    obtain ⟨v13, rfl, hw⟩ := hr16
    show zP X (d + 1) 65 16 [some (.ref (t)), some (.ref 18), some (.int a2)] [.int v13] z_S0 h15 (zI A)
    exact zri zM65 q65_16 rfl (z_nb hw.1) hw.2

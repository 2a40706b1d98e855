-- X12_barge
theorem b195 {X : Option (List Int32)} {d : Nat} {h : zH} {A : Int32 → zH → Prop} {a1 : Int32} {a2 : Int32} (hw : zP X d 128 0 (z_ent [.long (Int32.toInt64 a1), .long 1, .long 9999] 6) [] z_S0 h (zI fun v1 h2 => ((v1 = 0 → A (-2) h2) ∧ (¬ v1 = 0 → zP X d 128 0 (z_ent [.long (Int32.toInt64 a2), .long 0, .long 9999] 6) [] z_S0 h2 (zI fun v3 h4 => ((v3 = 0 → A (-2) h4) ∧ (¬ v3 = 0 → (((h4 82 67) = 8 → A (-4) h4) ∧ (¬ (h4 82 67) = 8 → (z_ib (h4 82 67) 8 ∧ (z_ib (h4 82 67) 8 ∧ A (((h4 82 67) + 1) - 1) (z_up (z_up (z_up h4 129 (Int32.toNatClampNeg (h4 82 67)) a1) 130 (Int32.toNatClampNeg (h4 82 67)) a2) 82 67 ((h4 82 67) + 1))))))))))))) : zP X (d + 1) 195 0 (z_ent [.ref 82, .int a1, .int a2] 3) [] z_S0 h (zI A) := by
  show zP X (d + 1) 195 0 [some (.ref 82), some (.int a1), some (.int a2)] [] z_S0 h (zI A)
  refine zl zM195 q195_0 rfl ?_
  refine zl zM195 q195_1 (pc' := 2) (st' := .long (Int32.toInt64 a1) :: _) rfl ?_
  refine zkL (v := 1) zM195 q195_2 rfl ?_
  refine zkJ zM195 q195_3 kc12_31 ?_
  refine zcS zM195 q195_6 ky12_3 kl12_3 (by decide) rfl (Nat.le_of_ble_eq_true rfl) zM128 (Nat.le_of_ble_eq_true rfl) (hw.mono (fun r0 h2 hr6 => ?_))
  obtain ⟨v1, rfl, hw⟩ := hr6
  show zP X (d + 1) 195 9 [some (.ref 82), some (.int a1), some (.int a2)] [.int v1] z_S0 h2 (zI A)
  refine zb1_eq zM195 q195_9 (tgt := 24) rfl (fun hc => ?_) (fun hc => ?_)
  · have hw := hw.1 hc
    refine zkB zM195 q195_24 kBm2 ?_
    exact zri zM195 q195_26 rfl rfl hw
  · have hw := hw.2 hc
    refine zl zM195 q195_12 rfl ?_
    refine zl zM195 q195_13 (pc' := 14) (st' := .long (Int32.toInt64 a2) :: _) rfl ?_
    refine zkL (v := 0) zM195 q195_14 rfl ?_
    refine zkJ zM195 q195_15 kc12_31 ?_
    refine zcS zM195 q195_18 ky12_3 kl12_3 (by decide) rfl (Nat.le_of_ble_eq_true rfl) zM128 (Nat.le_of_ble_eq_true rfl) (hw.mono (fun r0 h4 hr5 => ?_))
    obtain ⟨v3, rfl, hw⟩ := hr5
    show zP X (d + 1) 195 21 [some (.ref 82), some (.int a1), some (.int a2)] [.int v3] z_S0 h4 (zI A)
    refine zb1_ne zM195 q195_21 (tgt := 27) rfl (fun hc => ?_) (fun hc => ?_)
    · have hw := hw.2 hc
      refine zl zM195 q195_27 rfl ?_
      refine zgI zM195 q195_28 (by decide) g12_425 s82 rfl (v := (h4 82 67)) rfl ?_
      refine zkB zM195 q195_31 kB8 ?_
      refine zb2_ne zM195 q195_33 (tgt := 39) rfl (fun hc => ?_) (fun hc => ?_)
      · have hw := hw.2 hc
        refine zl zM195 q195_39 rfl ?_
        refine zgR (a := 129) zM195 q195_40 (by decide) g12_319 s82 rfl ?_
        refine zl zM195 q195_43 rfl ?_
        refine zgI zM195 q195_44 (by decide) g12_425 s82 rfl (v := (h4 82 67)) rfl ?_
        refine zl zM195 q195_47 rfl ?_
        obtain ⟨hb, hw⟩ := hw
        refine ziS zM195 q195_48 (by decide) s129 hb rfl ?_
        refine zl zM195 q195_49 rfl ?_
        refine zgR (a := 130) zM195 q195_50 (by decide) g12_322 s82 rfl ?_
        refine zl zM195 q195_53 rfl ?_
        refine zgI zM195 q195_54 (by decide) g12_425 s82 rfl (v := (h4 82 67)) rfl ?_
        refine zl zM195 q195_57 rfl ?_
        obtain ⟨hb, hw⟩ := hw
        refine ziS zM195 q195_58 (by decide) s130 hb rfl ?_
        refine zl zM195 q195_59 rfl ?_
        refine zl zM195 q195_60 rfl ?_
        refine zgI zM195 q195_61 (by decide) g12_425 s82 rfl (v := (h4 82 67)) rfl ?_
        refine zkI zM195 q195_64 kI1 ?_
        refine zl zM195 q195_65 (pc' := 66) (st' := .int ((h4 82 67) + 1) :: _) rfl ?_
        refine zpi zM195 q195_66 (by decide) g12_425 s82 rfl rfl ?_
        refine zl zM195 q195_69 rfl ?_
        refine zgI zM195 q195_70 (by decide) g12_425 s82 rfl (v := ((h4 82 67) + 1)) rfl ?_
        refine zkI zM195 q195_73 kI1 ?_
        refine zl zM195 q195_74 (pc' := 75) (st' := .int (((h4 82 67) + 1) - 1) :: _) rfl ?_
        exact zri zM195 q195_75 rfl rfl hw
      · have hw := hw.1 hc
        refine zkB zM195 q195_36 kBm4 ?_
        exact zri zM195 q195_38 rfl rfl hw
    · have hw := hw.1 hc
      refine zkB zM195 q195_24 kBm2 ?_
      exact zri zM195 q195_26 rfl rfl hw
-- X12_sumOf
theorem b196 {X : Option (List Int32)} {d : Nat} {h : zH} {A : Int32 → zH → Prop} {a2 : Int32} (hw : zP X d 196 5 [some (.ref 82), some (.ref 130), some (.int a2), some (.int 0), some (.int 0)] [] z_S0 h (zI A)) : zP X d 196 0 (z_ent [.ref 82, .ref 130, .int a2] 5) [] z_S0 h (zI A) := by
  show zP X d 196 0 [some (.ref 82), some (.ref 130), some (.int a2), none, none] [] z_S0 h (zI A)
  refine zkI zM196 q196_0 kI0 ?_
  refine zl zM196 q196_1 (ls' := [some (.ref 82), some (.ref 130), some (.int a2), some (.int 0), none]) rfl ?_
  refine zkI zM196 q196_2 kI0 ?_
  refine zl zM196 q196_3 (ls' := [some (.ref 82), some (.ref 130), some (.int a2), some (.int 0), some (.int 0)]) rfl ?_
  exact hw
theorem b196_5 {X : Option (List Int32)} {d : Nat} {h : zH} {A : Int32 → zH → Prop} {l2 : Int32} {l3 : Int32} {l4 : Int32} (hw : ((l4 < (h 82 67) → ((((l2 >>> (l4 &&& 31)) &&& 1) = 1 → (z_ib l4 8 ∧ zP X d 196 33 [some (.ref 82), some (.ref 130), some (.int l2), none, some (.int l4)] [.int (h 130 (Int32.toNatClampNeg l4)), .int l3] z_S0 h (zI A))) ∧ (¬ ((l2 >>> (l4 &&& 31)) &&& 1) = 1 → zP X d 196 33 [some (.ref 82), some (.ref 130), some (.int l2), none, some (.int l4)] [.int 0, .int l3] z_S0 h (zI A)))) ∧ (¬ l4 < (h 82 67) → A l3 h))) : zP X d 196 5 [some (.ref 82), some (.ref 130), some (.int l2), some (.int l3), some (.int l4)] [] z_S0 h (zI A) := by
  refine zl zM196 q196_5 rfl ?_
  refine zl zM196 q196_7 rfl ?_
  refine zgI zM196 q196_8 (by decide) g12_425 s82 rfl (v := (h 82 67)) rfl ?_
  refine zb2_ge zM196 q196_11 (tgt := 41) rfl (fun hc => ?_) (fun hc => ?_)
  · have hw := hw.2 hc
    refine zl zM196 q196_41 rfl ?_
    exact zri zM196 q196_42 rfl rfl hw
  · have hw := hw.1 hc
    refine zl zM196 q196_14 rfl ?_
    refine zl zM196 q196_15 rfl ?_
    refine zl zM196 q196_16 rfl ?_
    refine zl zM196 q196_18 (pc' := 19) (st' := .int (l2 >>> (l4 &&& 31)) :: _) rfl ?_
    refine zkI zM196 q196_19 kI1 ?_
    refine zl zM196 q196_20 (pc' := 21) (st' := .int ((l2 >>> (l4 &&& 31)) &&& 1) :: _) rfl ?_
    refine zkI zM196 q196_21 kI1 ?_
    refine zb2_ne zM196 q196_22 (tgt := 32) rfl (fun hc => ?_) (fun hc => ?_)
    · have hw := hw.2 hc
      refine zkI zM196 q196_32 kI0 ?_
      refine zweak (a := [some (.ref 82), some (.ref 130), some (.int l2), none, some (.int l4)]) ?_ hw
      exact ⟨rfl, ⟨rfl, ⟨rfl, ⟨rfl, trivial⟩⟩⟩⟩
    · have hw := hw.1 hc
      refine zl zM196 q196_25 rfl ?_
      refine zl zM196 q196_26 rfl ?_
      obtain ⟨hb, hw⟩ := hw
      refine ziA zM196 q196_28 (by decide) s130 hb (v := (h 130 (Int32.toNatClampNeg l4))) rfl ?_
      refine zl zM196 q196_29 (pc' := 33) (ls' := _) (st' := _) rfl ?_
      refine zweak (a := [some (.ref 82), some (.ref 130), some (.int l2), none, some (.int l4)]) ?_ hw
      exact ⟨rfl, ⟨rfl, ⟨rfl, ⟨rfl, trivial⟩⟩⟩⟩
theorem b196_33 {X : Option (List Int32)} {d : Nat} {h : zH} {A : Int32 → zH → Prop} {l2 : Int32} {l4 : Int32} {w0 : Int32} {w1 : Int32} (hw : zP X d 196 5 [some (.ref 82), some (.ref 130), some (.int l2), some (.int (w0 + w1)), some (.int (l4 + 1))] [] z_S0 h (zI A)) : zP X d 196 33 [some (.ref 82), some (.ref 130), some (.int l2), none, some (.int l4)] [.int w1, .int w0] z_S0 h (zI A) := by
  refine zl zM196 q196_33 (pc' := 34) (st' := .int (w0 + w1) :: _) rfl ?_
  refine zl zM196 q196_34 (ls' := [some (.ref 82), some (.ref 130), some (.int l2), some (.int (w0 + w1)), some (.int l4)]) rfl ?_
  refine zl zM196 q196_35 (ls' := [some (.ref 82), some (.ref 130), some (.int l2), some (.int (w0 + w1)), some (.int (l4 + 1))]) rfl ?_
  refine zl zM196 q196_38 (pc' := 5) (ls' := _) (st' := _) rfl ?_
  exact hw
-- X12_bestTide
theorem b197 {X : Option (List Int32)} {d : Nat} {h : zH} {A : Int32 → zH → Prop} {a1 : Int32} (hw : zP X d 197 4 [some (.ref 82), some (.int a1), some (.int 0), some (.int 0), none] [] z_S0 h (zI A)) : zP X d 197 0 (z_ent [.ref 82, .int a1] 5) [] z_S0 h (zI A) := by
  show zP X d 197 0 [some (.ref 82), some (.int a1), none, none, none] [] z_S0 h (zI A)
  refine zkI zM197 q197_0 kI0 ?_
  refine zl zM197 q197_1 (ls' := [some (.ref 82), some (.int a1), some (.int 0), none, none]) rfl ?_
  refine zkI zM197 q197_2 kI0 ?_
  refine zl zM197 q197_3 (ls' := [some (.ref 82), some (.int a1), some (.int 0), some (.int 0), none]) rfl ?_
  exact hw
theorem b197_4 {X : Option (List Int32)} {d : Nat} {h : zH} {A : Int32 → zH → Prop} {l1 : Int32} {l2 : Int32} {l3 : Int32} (hw : ((l3 < (h 82 67) → zP X d 197 17 [some (.ref 82), some (.int l1), some (.int l2), some (.int l3), some (.int (1 <<< (l3 &&& 31)))] [] z_S0 h (zI A)) ∧ (¬ l3 < (h 82 67) → zP X d 197 89 [some (.ref 82), some (.int l1), some (.int l2), some (.int 1), none] [] z_S0 h (zI A)))) : zP X d 197 4 [some (.ref 82), some (.int l1), some (.int l2), some (.int l3), none] [] z_S0 h (zI A) := by
  refine zl zM197 q197_4 rfl ?_
  refine zl zM197 q197_5 rfl ?_
  refine zgI zM197 q197_6 (by decide) g12_425 s82 rfl (v := (h 82 67)) rfl ?_
  refine zb2_ge zM197 q197_9 (tgt := 87) rfl (fun hc => ?_) (fun hc => ?_)
  · have hw := hw.2 hc
    refine zkI zM197 q197_87 kI1 ?_
    refine zl zM197 q197_88 (ls' := [some (.ref 82), some (.int l1), some (.int l2), some (.int 1), none]) rfl ?_
    exact hw
  · have hw := hw.1 hc
    refine zkI zM197 q197_12 kI1 ?_
    refine zl zM197 q197_13 rfl ?_
    refine zl zM197 q197_14 (pc' := 15) (st' := .int (1 <<< (l3 &&& 31)) :: _) rfl ?_
    refine zl zM197 q197_15 (ls' := [some (.ref 82), some (.int l1), some (.int l2), some (.int l3), some (.int (1 <<< (l3 &&& 31)))]) rfl ?_
    exact hw
theorem b197_89 {X : Option (List Int32)} {d : Nat} {h : zH} {A : Int32 → zH → Prop} {l1 : Int32} {l2 : Int32} {l3 : Int32} (hw : ((l3 < (1 <<< ((h 82 67) &&& 31)) → (z_ib l3 256 ∧ (z_ib l2 256 ∧ (((h 132 (Int32.toNatClampNeg l2)) < (h 132 (Int32.toNatClampNeg l3)) → zP X d 197 144 [some (.ref 82), some (.int l1), some (.int l2), some (.int l3), none] [] z_S0 h (zI A)) ∧ (¬ (h 132 (Int32.toNatClampNeg l2)) < (h 132 (Int32.toNatClampNeg l3)) → (z_ib l3 256 ∧ (z_ib l2 256 ∧ (((h 132 (Int32.toNatClampNeg l3)) = (h 132 (Int32.toNatClampNeg l2)) → (z_ib l3 256 ∧ (z_ib l2 256 ∧ (((h 131 (Int32.toNatClampNeg l3)) < (h 131 (Int32.toNatClampNeg l2)) → zP X d 197 144 [some (.ref 82), some (.int l1), some (.int l2), some (.int l3), none] [] z_S0 h (zI A)) ∧ (¬ (h 131 (Int32.toNatClampNeg l3)) < (h 131 (Int32.toNatClampNeg l2)) → zP X d 197 148 [some (.ref 82), some (.int l1), some (.int l2), some (.int l3), none] [] z_S0 h (zI A)))))) ∧ (¬ (h 132 (Int32.toNatClampNeg l3)) = (h 132 (Int32.toNatClampNeg l2)) → zP X d 197 148 [some (.ref 82), some (.int l1), some (.int l2), some (.int l3), none] [] z_S0 h (zI A)))))))))) ∧ (¬ l3 < (1 <<< ((h 82 67) &&& 31)) → A l2 h))) : zP X d 197 89 [some (.ref 82), some (.int l1), some (.int l2), some (.int l3), none] [] z_S0 h (zI A) := by
  refine zl zM197 q197_89 rfl ?_
  refine zkI zM197 q197_90 kI1 ?_
  refine zl zM197 q197_91 rfl ?_
  refine zgI zM197 q197_92 (by decide) g12_425 s82 rfl (v := (h 82 67)) rfl ?_
  refine zl zM197 q197_95 (pc' := 96) (st' := .int (1 <<< ((h 82 67) &&& 31)) :: _) rfl ?_
  refine zb2_ge zM197 q197_96 (tgt := 178) rfl (fun hc => ?_) (fun hc => ?_)
  · have hw := hw.2 hc
    refine zl zM197 q197_178 rfl ?_
    exact zri zM197 q197_179 rfl rfl hw
  · have hw := hw.1 hc
    refine zl zM197 q197_99 rfl ?_
    refine zgR (a := 132) zM197 q197_100 (by decide) g12_328 s82 rfl ?_
    refine zl zM197 q197_103 rfl ?_
    obtain ⟨hb, hw⟩ := hw
    refine ziA zM197 q197_104 (by decide) s132 hb (v := (h 132 (Int32.toNatClampNeg l3))) rfl ?_
    refine zl zM197 q197_105 rfl ?_
    refine zgR (a := 132) zM197 q197_106 (by decide) g12_328 s82 rfl ?_
    refine zl zM197 q197_109 rfl ?_
    obtain ⟨hb, hw⟩ := hw
    refine ziA zM197 q197_110 (by decide) s132 hb (v := (h 132 (Int32.toNatClampNeg l2))) rfl ?_
    refine zb2_gt zM197 q197_111 (tgt := 144) rfl (fun hc => ?_) (fun hc => ?_)
    · have hw := hw.1 hc
      exact hw
    · have hw := hw.2 hc
      refine zl zM197 q197_114 rfl ?_
      refine zgR (a := 132) zM197 q197_115 (by decide) g12_328 s82 rfl ?_
      refine zl zM197 q197_118 rfl ?_
      obtain ⟨hb, hw⟩ := hw
      refine ziA zM197 q197_119 (by decide) s132 hb (v := (h 132 (Int32.toNatClampNeg l3))) rfl ?_
      refine zl zM197 q197_120 rfl ?_
      refine zgR (a := 132) zM197 q197_121 (by decide) g12_328 s82 rfl ?_
      refine zl zM197 q197_124 rfl ?_
      obtain ⟨hb, hw⟩ := hw
      refine ziA zM197 q197_125 (by decide) s132 hb (v := (h 132 (Int32.toNatClampNeg l2))) rfl ?_
      refine zb2_ne zM197 q197_126 (tgt := 148) rfl (fun hc => ?_) (fun hc => ?_)
      · have hw := hw.2 hc
        exact hw
      · have hw := hw.1 hc
        refine zl zM197 q197_129 rfl ?_
        refine zgR (a := 131) zM197 q197_130 (by decide) g12_325 s82 rfl ?_
        refine zl zM197 q197_133 rfl ?_
        obtain ⟨hb, hw⟩ := hw
        refine ziA zM197 q197_134 (by decide) s131 hb (v := (h 131 (Int32.toNatClampNeg l3))) rfl ?_
        refine zl zM197 q197_135 rfl ?_
        refine zgR (a := 131) zM197 q197_136 (by decide) g12_325 s82 rfl ?_
        refine zl zM197 q197_139 rfl ?_
        obtain ⟨hb, hw⟩ := hw
        refine ziA zM197 q197_140 (by decide) s131 hb (v := (h 131 (Int32.toNatClampNeg l2))) rfl ?_
        refine zb2_ge zM197 q197_141 (tgt := 148) rfl (fun hc => ?_) (fun hc => ?_)
        · have hw := hw.2 hc
          exact hw
        · have hw := hw.1 hc
          exact hw
theorem b197_17 {X : Option (List Int32)} {d : Nat} {h : zH} {A : Int32 → zH → Prop} {l1 : Int32} {l2 : Int32} {l3 : Int32} {l4 : Int32} (hw : ((l4 < (2 <<< (l3 &&& 31)) → (z_ib (l4 - (1 <<< (l3 &&& 31))) 256 ∧ (z_ib l3 8 ∧ (z_ib l4 256 ∧ (z_ib (l4 - (1 <<< (l3 &&& 31))) 256 ∧ (z_ib l3 8 ∧ (z_ib l4 256 ∧ zP X d 197 17 [some (.ref 82), some (.int l1), some (.int l2), some (.int l3), some (.int (l4 + 1))] [] z_S0 (z_up (z_up h 131 (Int32.toNatClampNeg l4) ((h 131 (Int32.toNatClampNeg (l4 - (1 <<< (l3 &&& 31))))) + (h 129 (Int32.toNatClampNeg l3)))) 132 (Int32.toNatClampNeg l4) ((h 132 (Int32.toNatClampNeg (l4 - (1 <<< (l3 &&& 31))))) + (h 130 (Int32.toNatClampNeg l3)))) (zI A)))))))) ∧ (¬ l4 < (2 <<< (l3 &&& 31)) → zP X d 197 4 [some (.ref 82), some (.int l1), some (.int l2), some (.int (l3 + 1)), none] [] z_S0 h (zI A)))) : zP X d 197 17 [some (.ref 82), some (.int l1), some (.int l2), some (.int l3), some (.int l4)] [] z_S0 h (zI A) := by
  refine zl zM197 q197_17 rfl ?_
  refine zkI zM197 q197_19 kI2 ?_
  refine zl zM197 q197_20 rfl ?_
  refine zl zM197 q197_21 (pc' := 22) (st' := .int (2 <<< (l3 &&& 31)) :: _) rfl ?_
  refine zb2_ge zM197 q197_22 (tgt := 81) rfl (fun hc => ?_) (fun hc => ?_)
  · have hw := hw.2 hc
    refine zl zM197 q197_81 (ls' := [some (.ref 82), some (.int l1), some (.int l2), some (.int (l3 + 1)), some (.int l4)]) rfl ?_
    refine zl zM197 q197_84 (pc' := 4) (ls' := _) (st' := _) rfl ?_
    refine zweak (a := [some (.ref 82), some (.int l1), some (.int l2), some (.int (l3 + 1)), none]) ?_ hw
    exact ⟨rfl, ⟨rfl, ⟨rfl, ⟨rfl, trivial⟩⟩⟩⟩
  · have hw := hw.1 hc
    refine zl zM197 q197_25 rfl ?_
    refine zgR (a := 131) zM197 q197_26 (by decide) g12_325 s82 rfl ?_
    refine zl zM197 q197_29 rfl ?_
    refine zl zM197 q197_31 rfl ?_
    refine zgR (a := 131) zM197 q197_32 (by decide) g12_325 s82 rfl ?_
    refine zl zM197 q197_35 rfl ?_
    refine zkI zM197 q197_37 kI1 ?_
    refine zl zM197 q197_38 rfl ?_
    refine zl zM197 q197_39 (pc' := 40) (st' := .int (1 <<< (l3 &&& 31)) :: _) rfl ?_
    refine zl zM197 q197_40 (pc' := 41) (st' := .int (l4 - (1 <<< (l3 &&& 31))) :: _) rfl ?_
    obtain ⟨hb, hw⟩ := hw
    refine ziA zM197 q197_41 (by decide) s131 hb (v := (h 131 (Int32.toNatClampNeg (l4 - (1 <<< (l3 &&& 31)))))) rfl ?_
    refine zl zM197 q197_42 rfl ?_
    refine zgR (a := 129) zM197 q197_43 (by decide) g12_319 s82 rfl ?_
    refine zl zM197 q197_46 rfl ?_
    obtain ⟨hb, hw⟩ := hw
    refine ziA zM197 q197_47 (by decide) s129 hb (v := (h 129 (Int32.toNatClampNeg l3))) rfl ?_
    refine zl zM197 q197_48 (pc' := 49) (st' := .int ((h 131 (Int32.toNatClampNeg (l4 - (1 <<< (l3 &&& 31))))) + (h 129 (Int32.toNatClampNeg l3))) :: _) rfl ?_
    obtain ⟨hb, hw⟩ := hw
    refine ziS zM197 q197_49 (by decide) s131 hb rfl ?_
    refine zl zM197 q197_50 rfl ?_
    refine zgR (a := 132) zM197 q197_51 (by decide) g12_328 s82 rfl ?_
    refine zl zM197 q197_54 rfl ?_
    refine zl zM197 q197_56 rfl ?_
    refine zgR (a := 132) zM197 q197_57 (by decide) g12_328 s82 rfl ?_
    refine zl zM197 q197_60 rfl ?_
    refine zkI zM197 q197_62 kI1 ?_
    refine zl zM197 q197_63 rfl ?_
    refine zl zM197 q197_64 (pc' := 65) (st' := .int (1 <<< (l3 &&& 31)) :: _) rfl ?_
    refine zl zM197 q197_65 (pc' := 66) (st' := .int (l4 - (1 <<< (l3 &&& 31))) :: _) rfl ?_
    obtain ⟨hb, hw⟩ := hw
    refine ziA zM197 q197_66 (by decide) s132 hb (v := (h 132 (Int32.toNatClampNeg (l4 - (1 <<< (l3 &&& 31)))))) rfl ?_
    refine zl zM197 q197_67 rfl ?_
    refine zgR (a := 130) zM197 q197_68 (by decide) g12_322 s82 rfl ?_
    refine zl zM197 q197_71 rfl ?_
    obtain ⟨hb, hw⟩ := hw
    refine ziA zM197 q197_72 (by decide) s130 hb (v := (h 130 (Int32.toNatClampNeg l3))) rfl ?_
    refine zl zM197 q197_73 (pc' := 74) (st' := .int ((h 132 (Int32.toNatClampNeg (l4 - (1 <<< (l3 &&& 31))))) + (h 130 (Int32.toNatClampNeg l3))) :: _) rfl ?_
    obtain ⟨hb, hw⟩ := hw
    refine ziS zM197 q197_74 (by decide) s132 hb rfl ?_
    refine zl zM197 q197_75 (ls' := [some (.ref 82), some (.int l1), some (.int l2), some (.int l3), some (.int (l4 + 1))]) rfl ?_
    refine zl zM197 q197_78 (pc' := 17) (ls' := _) (st' := _) rfl ?_
    exact hw
theorem b197_144 {X : Option (List Int32)} {d : Nat} {h : zH} {A : Int32 → zH → Prop} {l1 : Int32} {l2 : Int32} {l3 : Int32} (hw : zP X d 197 149 [some (.ref 82), some (.int l1), some (.int l2), some (.int l3), none] [.int 1] z_S0 h (zI A)) : zP X d 197 144 [some (.ref 82), some (.int l1), some (.int l2), some (.int l3), none] [] z_S0 h (zI A) := by
  refine zkI zM197 q197_144 kI1 ?_
  refine zl zM197 q197_145 (pc' := 149) (ls' := _) (st' := _) rfl ?_
  exact hw
theorem b197_148 {X : Option (List Int32)} {d : Nat} {h : zH} {A : Int32 → zH → Prop} {l1 : Int32} {l2 : Int32} {l3 : Int32} (hw : zP X d 197 149 [some (.ref 82), some (.int l1), some (.int l2), some (.int l3), none] [.int 0] z_S0 h (zI A)) : zP X d 197 148 [some (.ref 82), some (.int l1), some (.int l2), some (.int l3), none] [] z_S0 h (zI A) := by
  refine zkI zM197 q197_148 kI0 ?_
  exact hw
theorem b197_149 {X : Option (List Int32)} {d : Nat} {h : zH} {A : Int32 → zH → Prop} {l1 : Int32} {l2 : Int32} {l3 : Int32} {w0 : Int32} (hw : (z_ib l3 256 ∧ ((l1 < (h 131 (Int32.toNatClampNeg l3)) → zP X d 197 170 [some (.ref 82), some (.int l1), some (.int l2), some (.int l3), none] [] z_S0 h (zI A)) ∧ (¬ l1 < (h 131 (Int32.toNatClampNeg l3)) → ((w0 = 0 → zP X d 197 170 [some (.ref 82), some (.int l1), some (.int l2), some (.int l3), none] [] z_S0 h (zI A)) ∧ (¬ w0 = 0 → zP X d 197 171 [some (.ref 82), some (.int l1), none, some (.int l3), none] [.int l3] z_S0 h (zI A))))))) : zP X d 197 149 [some (.ref 82), some (.int l1), some (.int l2), some (.int l3), none] [.int w0] z_S0 h (zI A) := by
  refine zl zM197 q197_149 (ls' := [some (.ref 82), some (.int l1), some (.int l2), some (.int l3), some (.int w0)]) rfl ?_
  refine zl zM197 q197_151 rfl ?_
  refine zgR (a := 131) zM197 q197_152 (by decide) g12_325 s82 rfl ?_
  refine zl zM197 q197_155 rfl ?_
  obtain ⟨hb, hw⟩ := hw
  refine ziA zM197 q197_156 (by decide) s131 hb (v := (h 131 (Int32.toNatClampNeg l3))) rfl ?_
  refine zl zM197 q197_157 rfl ?_
  refine zb2_gt zM197 q197_158 (tgt := 170) rfl (fun hc => ?_) (fun hc => ?_)
  · have hw := hw.1 hc
    refine zweak (a := [some (.ref 82), some (.int l1), some (.int l2), some (.int l3), none]) ?_ hw
    exact ⟨rfl, ⟨rfl, ⟨rfl, ⟨rfl, trivial⟩⟩⟩⟩
  · have hw := hw.2 hc
    refine zl zM197 q197_161 rfl ?_
    refine zb1_eq zM197 q197_163 (tgt := 170) rfl (fun hc => ?_) (fun hc => ?_)
    · have hw := hw.1 hc
      refine zweak (a := [some (.ref 82), some (.int l1), some (.int l2), some (.int l3), none]) ?_ hw
      exact ⟨rfl, ⟨rfl, ⟨rfl, ⟨rfl, trivial⟩⟩⟩⟩
    · have hw := hw.2 hc
      refine zl zM197 q197_166 rfl ?_
      refine zl zM197 q197_167 (pc' := 171) (ls' := _) (st' := _) rfl ?_
      refine zweak (a := [some (.ref 82), some (.int l1), none, some (.int l3), none]) ?_ hw
      exact ⟨rfl, ⟨rfl, ⟨rfl, trivial⟩⟩⟩
theorem b197_170 {X : Option (List Int32)} {d : Nat} {h : zH} {A : Int32 → zH → Prop} {l1 : Int32} {l2 : Int32} {l3 : Int32} (hw : zP X d 197 171 [some (.ref 82), some (.int l1), none, some (.int l3), none] [.int l2] z_S0 h (zI A)) : zP X d 197 170 [some (.ref 82), some (.int l1), some (.int l2), some (.int l3), none] [] z_S0 h (zI A) := by
  refine zl zM197 q197_170 rfl ?_
  refine zweak (a := [some (.ref 82), some (.int l1), none, some (.int l3), none]) ?_ hw
  exact ⟨rfl, ⟨rfl, ⟨rfl, trivial⟩⟩⟩
theorem b197_171 {X : Option (List Int32)} {d : Nat} {h : zH} {A : Int32 → zH → Prop} {l1 : Int32} {l3 : Int32} {w0 : Int32} (hw : zP X d 197 89 [some (.ref 82), some (.int l1), some (.int w0), some (.int (l3 + 1)), none] [] z_S0 h (zI A)) : zP X d 197 171 [some (.ref 82), some (.int l1), none, some (.int l3), none] [.int w0] z_S0 h (zI A) := by
  refine zl zM197 q197_171 (ls' := [some (.ref 82), some (.int l1), some (.int w0), some (.int l3), none]) rfl ?_
  refine zl zM197 q197_172 (ls' := [some (.ref 82), some (.int l1), some (.int w0), some (.int (l3 + 1)), none]) rfl ?_
  refine zl zM197 q197_175 (pc' := 89) (ls' := _) (st' := _) rfl ?_
  exact hw
-- X12_tide
theorem b198 {X : Option (List Int32)} {d : Nat} {h : zH} {A : Int32 → zH → Prop} {a1 : Int32} {a2 : Int32} (hw : zP X d 128 0 (z_ent [.long (Int32.toInt64 a1), .long 0, .long 99999] 6) [] z_S0 h (zI fun v1 h2 => ((v1 = 0 → A (-2) h2) ∧ (¬ v1 = 0 → zP X d 128 0 (z_ent [.long (Int32.toInt64 a2), .long 0, .long 1] 6) [] z_S0 h2 (zI fun v3 h4 => ((v3 = 0 → A (-2) h4) ∧ (¬ v3 = 0 → zP X d 197 0 (z_ent [.ref 82, .int a1] 5) [] z_S0 h4 (zI fun v5 h7 => ((a2 = 0 → A v5 h7) ∧ (¬ a2 = 0 → zP X d 196 0 (z_ent [.ref 82, .ref 130, .int v5] 5) [] z_S0 h7 (zI fun v8 h9 => A v8 h9))))))))))) : zP X (d + 1) 198 0 (z_ent [.ref 82, .int a1, .int a2] 4) [] z_S0 h (zI A) := by
  show zP X (d + 1) 198 0 [some (.ref 82), some (.int a1), some (.int a2), none] [] z_S0 h (zI A)
  refine zl zM198 q198_0 rfl ?_
  refine zl zM198 q198_1 (pc' := 2) (st' := .long (Int32.toInt64 a1) :: _) rfl ?_
  refine zkL (v := 0) zM198 q198_2 rfl ?_
  refine zkJ zM198 q198_3 kc12_89 ?_
  refine zcS zM198 q198_6 ky12_3 kl12_3 (by decide) rfl (Nat.le_of_ble_eq_true rfl) zM128 (Nat.le_of_ble_eq_true rfl) (hw.mono (fun r0 h2 hr13 => ?_))
  obtain ⟨v1, rfl, hw⟩ := hr13
  show zP X (d + 1) 198 9 [some (.ref 82), some (.int a1), some (.int a2), none] [.int v1] z_S0 h2 (zI A)
  refine zb1_eq zM198 q198_9 (tgt := 22) rfl (fun hc => ?_) (fun hc => ?_)
  · have hw := hw.1 hc
    refine zkB zM198 q198_22 kBm2 ?_
    exact zri zM198 q198_24 rfl rfl hw
  · have hw := hw.2 hc
    refine zl zM198 q198_12 rfl ?_
    refine zl zM198 q198_13 (pc' := 14) (st' := .long (Int32.toInt64 a2) :: _) rfl ?_
    refine zkL (v := 0) zM198 q198_14 rfl ?_
    refine zkL (v := 1) zM198 q198_15 rfl ?_
    refine zcS zM198 q198_16 ky12_3 kl12_3 (by decide) rfl (Nat.le_of_ble_eq_true rfl) zM128 (Nat.le_of_ble_eq_true rfl) (hw.mono (fun r0 h4 hr12 => ?_))
    obtain ⟨v3, rfl, hw⟩ := hr12
    show zP X (d + 1) 198 19 [some (.ref 82), some (.int a1), some (.int a2), none] [.int v3] z_S0 h4 (zI A)
    refine zb1_ne zM198 q198_19 (tgt := 25) rfl (fun hc => ?_) (fun hc => ?_)
    · have hw := hw.2 hc
      refine zl zM198 q198_25 rfl ?_
      refine zl zM198 q198_26 rfl ?_
      refine zcV zM198 q198_27 kl12_428 rfl rfl (Nat.le_of_ble_eq_true rfl) rfl zM197 (Nat.le_of_ble_eq_true rfl) (hw.mono (fun r0 h7 hr11 => ?_))
      obtain ⟨v5, rfl, hw⟩ := hr11
      show zP X (d + 1) 198 30 [some (.ref 82), some (.int a1), some (.int a2), none] [.int v5] z_S0 h7 (zI A)
      refine zl zM198 q198_30 (ls' := [some (.ref 82), some (.int a1), some (.int a2), some (.int v5)]) rfl ?_
      refine zl zM198 q198_31 rfl ?_
      refine zb1_ne zM198 q198_32 (tgt := 39) rfl (fun hc => ?_) (fun hc => ?_)
      · have hw := hw.2 hc
        refine zl zM198 q198_39 rfl ?_
        refine zl zM198 q198_40 rfl ?_
        refine zgR (a := 130) zM198 q198_41 (by decide) g12_322 s82 rfl ?_
        refine zl zM198 q198_44 rfl ?_
        refine zcV zM198 q198_45 kl12_431 rfl rfl (Nat.le_of_ble_eq_true rfl) rfl zM196 (Nat.le_of_ble_eq_true rfl) (hw.mono (fun r0 h9 hr10 => ?_))
        obtain ⟨v8, rfl, hw⟩ := hr10
        show zP X (d + 1) 198 48 [some (.ref 82), some (.int a1), some (.int a2), some (.int v5)] [.int v8] z_S0 h9 (zI A)
        exact zri zM198 q198_48 rfl rfl hw
      · have hw := hw.1 hc
        refine zl zM198 q198_35 rfl ?_
        refine zl zM198 q198_36 (pc' := 48) (ls' := _) (st' := _) rfl ?_
        exact zri zM198 q198_48 rfl rfl hw
    · have hw := hw.1 hc
      refine zkB zM198 q198_22 kBm2 ?_
      exact zri zM198 q198_24 rfl rfl hw
-- X12_buyer
theorem b199 {X : Option (List Int32)} {d : Nat} {h : zH} {A : Int32 → zH → Prop} {a1 : Int32} {a2 : Int32} (hw : zP X d 128 0 (z_ent [.long (Int32.toInt64 a1), .long 0, .long 9999] 6) [] z_S0 h (zI fun v1 h2 => ((v1 = 0 → A (-2) h2) ∧ (¬ v1 = 0 → zP X d 128 0 (z_ent [.long (Int32.toInt64 a2), .long 0, .long 999] 6) [] z_S0 h2 (zI fun v3 h4 => ((v3 = 0 → A (-2) h4) ∧ (¬ v3 = 0 → (((h4 82 72) = 6 → A (-4) h4) ∧ (¬ (h4 82 72) = 6 → (z_ib (h4 82 72) 6 ∧ (z_ib (h4 82 72) 6 ∧ A (((h4 82 72) + 1) - 1) (z_up (z_up (z_up h4 133 (Int32.toNatClampNeg (h4 82 72)) a1) 134 (Int32.toNatClampNeg (h4 82 72)) a2) 82 72 ((h4 82 72) + 1))))))))))))) : zP X (d + 1) 199 0 (z_ent [.ref 82, .int a1, .int a2] 3) [] z_S0 h (zI A) := by
  show zP X (d + 1) 199 0 [some (.ref 82), some (.int a1), some (.int a2)] [] z_S0 h (zI A)
  refine zl zM199 q199_0 rfl ?_
  refine zl zM199 q199_1 (pc' := 2) (st' := .long (Int32.toInt64 a1) :: _) rfl ?_
  refine zkL (v := 0) zM199 q199_2 rfl ?_
  refine zkJ zM199 q199_3 kc12_31 ?_
  refine zcS zM199 q199_6 ky12_3 kl12_3 (by decide) rfl (Nat.le_of_ble_eq_true rfl) zM128 (Nat.le_of_ble_eq_true rfl) (hw.mono (fun r0 h2 hr6 => ?_))
  obtain ⟨v1, rfl, hw⟩ := hr6
  show zP X (d + 1) 199 9 [some (.ref 82), some (.int a1), some (.int a2)] [.int v1] z_S0 h2 (zI A)
  refine zb1_eq zM199 q199_9 (tgt := 24) rfl (fun hc => ?_) (fun hc => ?_)
  · have hw := hw.1 hc
    refine zkB zM199 q199_24 kBm2 ?_
    exact zri zM199 q199_26 rfl rfl hw
  · have hw := hw.2 hc
    refine zl zM199 q199_12 rfl ?_
    refine zl zM199 q199_13 (pc' := 14) (st' := .long (Int32.toInt64 a2) :: _) rfl ?_
    refine zkL (v := 0) zM199 q199_14 rfl ?_
    refine zkJ zM199 q199_15 kc12_108 ?_
    refine zcS zM199 q199_18 ky12_3 kl12_3 (by decide) rfl (Nat.le_of_ble_eq_true rfl) zM128 (Nat.le_of_ble_eq_true rfl) (hw.mono (fun r0 h4 hr5 => ?_))
    obtain ⟨v3, rfl, hw⟩ := hr5
    show zP X (d + 1) 199 21 [some (.ref 82), some (.int a1), some (.int a2)] [.int v3] z_S0 h4 (zI A)
    refine zb1_ne zM199 q199_21 (tgt := 27) rfl (fun hc => ?_) (fun hc => ?_)
    · have hw := hw.2 hc
      refine zl zM199 q199_27 rfl ?_
      refine zgI zM199 q199_28 (by decide) g12_435 s82 rfl (v := (h4 82 72)) rfl ?_
      refine zkB zM199 q199_31 kB6 ?_
      refine zb2_ne zM199 q199_33 (tgt := 39) rfl (fun hc => ?_) (fun hc => ?_)
      · have hw := hw.2 hc
        refine zl zM199 q199_39 rfl ?_
        refine zgR (a := 133) zM199 q199_40 (by decide) g12_331 s82 rfl ?_
        refine zl zM199 q199_43 rfl ?_
        refine zgI zM199 q199_44 (by decide) g12_435 s82 rfl (v := (h4 82 72)) rfl ?_
        refine zl zM199 q199_47 rfl ?_
        obtain ⟨hb, hw⟩ := hw
        refine ziS zM199 q199_48 (by decide) s133 hb rfl ?_
        refine zl zM199 q199_49 rfl ?_
        refine zgR (a := 134) zM199 q199_50 (by decide) g12_334 s82 rfl ?_
        refine zl zM199 q199_53 rfl ?_
        refine zgI zM199 q199_54 (by decide) g12_435 s82 rfl (v := (h4 82 72)) rfl ?_
        refine zl zM199 q199_57 rfl ?_
        obtain ⟨hb, hw⟩ := hw
        refine ziS zM199 q199_58 (by decide) s134 hb rfl ?_
        refine zl zM199 q199_59 rfl ?_
        refine zl zM199 q199_60 rfl ?_
        refine zgI zM199 q199_61 (by decide) g12_435 s82 rfl (v := (h4 82 72)) rfl ?_
        refine zkI zM199 q199_64 kI1 ?_
        refine zl zM199 q199_65 (pc' := 66) (st' := .int ((h4 82 72) + 1) :: _) rfl ?_
        refine zpi zM199 q199_66 (by decide) g12_435 s82 rfl rfl ?_
        refine zl zM199 q199_69 rfl ?_
        refine zgI zM199 q199_70 (by decide) g12_435 s82 rfl (v := ((h4 82 72) + 1)) rfl ?_
        refine zkI zM199 q199_73 kI1 ?_
        refine zl zM199 q199_74 (pc' := 75) (st' := .int (((h4 82 72) + 1) - 1) :: _) rfl ?_
        exact zri zM199 q199_75 rfl rfl hw
      · have hw := hw.1 hc
        refine zkB zM199 q199_36 kBm4 ?_
        exact zri zM199 q199_38 rfl rfl hw
    · have hw := hw.1 hc
      refine zkB zM199 q199_24 kBm2 ?_
      exact zri zM199 q199_26 rfl rfl hw
-- X12_stop
theorem b200 {X : Option (List Int32)} {d : Nat} {h : zH} {A : Int32 → zH → Prop} {a1 : Int32} {a2 : Int32} (hw : ((a1 < 0 → A (-2) h) ∧ (¬ a1 < 0 → ((a1 < (h 82 72) → zP X d 128 0 (z_ent [.long (Int32.toInt64 a2), .long 0, .long 1] 6) [] z_S0 h (zI fun v1 h2 => ((v1 = 0 → A (-2) h2) ∧ (¬ v1 = 0 → (z_ib a1 6 ∧ (z_ib a1 6 ∧ A (h2 135 (Int32.toNatClampNeg a1)) (z_up h2 135 (Int32.toNatClampNeg a1) a2))))))) ∧ (¬ a1 < (h 82 72) → A (-2) h))))) : zP X (d + 1) 200 0 (z_ent [.ref 82, .int a1, .int a2] 4) [] z_S0 h (zI A) := by
  show zP X (d + 1) 200 0 [some (.ref 82), some (.int a1), some (.int a2), none] [] z_S0 h (zI A)
  refine zl zM200 q200_0 rfl ?_
  refine zb1_lt zM200 q200_1 (tgt := 22) rfl (fun hc => ?_) (fun hc => ?_)
  · have hw := hw.1 hc
    refine zkB zM200 q200_22 kBm2 ?_
    exact zri zM200 q200_24 rfl rfl hw
  · have hw := hw.2 hc
    refine zl zM200 q200_4 rfl ?_
    refine zl zM200 q200_5 rfl ?_
    refine zgI zM200 q200_6 (by decide) g12_435 s82 rfl (v := (h 82 72)) rfl ?_
    refine zb2_ge zM200 q200_9 (tgt := 22) rfl (fun hc => ?_) (fun hc => ?_)
    · have hw := hw.2 hc
      refine zkB zM200 q200_22 kBm2 ?_
      exact zri zM200 q200_24 rfl rfl hw
    · have hw := hw.1 hc
      refine zl zM200 q200_12 rfl ?_
      refine zl zM200 q200_13 (pc' := 14) (st' := .long (Int32.toInt64 a2) :: _) rfl ?_
      refine zkL (v := 0) zM200 q200_14 rfl ?_
      refine zkL (v := 1) zM200 q200_15 rfl ?_
      refine zcS zM200 q200_16 ky12_3 kl12_3 (by decide) rfl (Nat.le_of_ble_eq_true rfl) zM128 (Nat.le_of_ble_eq_true rfl) (hw.mono (fun r0 h2 hr3 => ?_))
      obtain ⟨v1, rfl, hw⟩ := hr3
      show zP X (d + 1) 200 19 [some (.ref 82), some (.int a1), some (.int a2), none] [.int v1] z_S0 h2 (zI A)
      refine zb1_ne zM200 q200_19 (tgt := 25) rfl (fun hc => ?_) (fun hc => ?_)
      · have hw := hw.2 hc
        refine zl zM200 q200_25 rfl ?_
        refine zgR (a := 135) zM200 q200_26 (by decide) g12_337 s82 rfl ?_
        refine zl zM200 q200_29 rfl ?_
        obtain ⟨hb, hw⟩ := hw
        refine ziA zM200 q200_30 (by decide) s135 hb (v := (h2 135 (Int32.toNatClampNeg a1))) rfl ?_
        refine zl zM200 q200_31 (ls' := [some (.ref 82), some (.int a1), some (.int a2), some (.int (h2 135 (Int32.toNatClampNeg a1)))]) rfl ?_
        refine zl zM200 q200_32 rfl ?_
        refine zgR (a := 135) zM200 q200_33 (by decide) g12_337 s82 rfl ?_
        refine zl zM200 q200_36 rfl ?_
        refine zl zM200 q200_37 rfl ?_
        obtain ⟨hb, hw⟩ := hw
        refine ziS zM200 q200_38 (by decide) s135 hb rfl ?_
        refine zl zM200 q200_39 rfl ?_
        exact zri zM200 q200_40 rfl rfl hw
      · have hw := hw.1 hc
        refine zkB zM200 q200_22 kBm2 ?_
        exact zri zM200 q200_24 rfl rfl hw
-- X12_nextBuyer
theorem b201 {X : Option (List Int32)} {d : Nat} {h : zH} {A : Int32 → zH → Prop}  (hw : zP X d 201 4 [some (.ref 82), some (.int (-1)), some (.int 0)] [] z_S0 h (zI A)) : zP X d 201 0 (z_ent [.ref 82] 3) [] z_S0 h (zI A) := by
  show zP X d 201 0 [some (.ref 82), none, none] [] z_S0 h (zI A)
  refine zkI zM201 q201_0 kIm1 ?_
  refine zl zM201 q201_1 (ls' := [some (.ref 82), some (.int (-1)), none]) rfl ?_
  refine zkI zM201 q201_2 kI0 ?_
  refine zl zM201 q201_3 (ls' := [some (.ref 82), some (.int (-1)), some (.int 0)]) rfl ?_
  exact hw
theorem b201_4 {X : Option (List Int32)} {d : Nat} {h : zH} {A : Int32 → zH → Prop} {l1 : Int32} {l2 : Int32} (hw : ((l2 < (h 82 72) → (z_ib l2 6 ∧ (((h 135 (Int32.toNatClampNeg l2)) = 0 → (z_ib l2 6 ∧ (((h 136 (Int32.toNatClampNeg l2)) = (-1) → ((l1 = (-1) → zP X d 201 51 [some (.ref 82), none, some (.int l2)] [] z_S0 h (zI A)) ∧ (¬ l1 = (-1) → (z_ib l2 6 ∧ (z_ib l1 6 ∧ (((h 134 (Int32.toNatClampNeg l1)) < (h 134 (Int32.toNatClampNeg l2)) → zP X d 201 51 [some (.ref 82), none, some (.int l2)] [] z_S0 h (zI A)) ∧ (¬ (h 134 (Int32.toNatClampNeg l1)) < (h 134 (Int32.toNatClampNeg l2)) → zP X d 201 55 [some (.ref 82), some (.int l1), some (.int l2)] [] z_S0 h (zI A)))))))) ∧ (¬ (h 136 (Int32.toNatClampNeg l2)) = (-1) → zP X d 201 55 [some (.ref 82), some (.int l1), some (.int l2)] [] z_S0 h (zI A))))) ∧ (¬ (h 135 (Int32.toNatClampNeg l2)) = 0 → zP X d 201 55 [some (.ref 82), some (.int l1), some (.int l2)] [] z_S0 h (zI A))))) ∧ (¬ l2 < (h 82 72) → A l1 h))) : zP X d 201 4 [some (.ref 82), some (.int l1), some (.int l2)] [] z_S0 h (zI A) := by
  refine zl zM201 q201_4 rfl ?_
  refine zl zM201 q201_5 rfl ?_
  refine zgI zM201 q201_6 (by decide) g12_435 s82 rfl (v := (h 82 72)) rfl ?_
  refine zb2_ge zM201 q201_9 (tgt := 63) rfl (fun hc => ?_) (fun hc => ?_)
  · have hw := hw.2 hc
    refine zl zM201 q201_63 rfl ?_
    exact zri zM201 q201_64 rfl rfl hw
  · have hw := hw.1 hc
    refine zl zM201 q201_12 rfl ?_
    refine zgR (a := 135) zM201 q201_13 (by decide) g12_337 s82 rfl ?_
    refine zl zM201 q201_16 rfl ?_
    obtain ⟨hb, hw⟩ := hw
    refine ziA zM201 q201_17 (by decide) s135 hb (v := (h 135 (Int32.toNatClampNeg l2))) rfl ?_
    refine zb1_ne zM201 q201_18 (tgt := 55) rfl (fun hc => ?_) (fun hc => ?_)
    · have hw := hw.2 hc
      exact hw
    · have hw := hw.1 hc
      refine zl zM201 q201_21 rfl ?_
      refine zgR (a := 136) zM201 q201_22 (by decide) g12_340 s82 rfl ?_
      refine zl zM201 q201_25 rfl ?_
      obtain ⟨hb, hw⟩ := hw
      refine ziA zM201 q201_26 (by decide) s136 hb (v := (h 136 (Int32.toNatClampNeg l2))) rfl ?_
      refine zkI zM201 q201_27 kIm1 ?_
      refine zb2_ne zM201 q201_28 (tgt := 55) rfl (fun hc => ?_) (fun hc => ?_)
      · have hw := hw.2 hc
        exact hw
      · have hw := hw.1 hc
        refine zl zM201 q201_31 rfl ?_
        refine zkI zM201 q201_32 kIm1 ?_
        refine zb2_eq zM201 q201_33 (tgt := 51) rfl (fun hc => ?_) (fun hc => ?_)
        · have hw := hw.1 hc
          refine zweak (a := [some (.ref 82), none, some (.int l2)]) ?_ hw
          exact ⟨rfl, ⟨rfl, trivial⟩⟩
        · have hw := hw.2 hc
          refine zl zM201 q201_36 rfl ?_
          refine zgR (a := 134) zM201 q201_37 (by decide) g12_334 s82 rfl ?_
          refine zl zM201 q201_40 rfl ?_
          obtain ⟨hb, hw⟩ := hw
          refine ziA zM201 q201_41 (by decide) s134 hb (v := (h 134 (Int32.toNatClampNeg l2))) rfl ?_
          refine zl zM201 q201_42 rfl ?_
          refine zgR (a := 134) zM201 q201_43 (by decide) g12_334 s82 rfl ?_
          refine zl zM201 q201_46 rfl ?_
          obtain ⟨hb, hw⟩ := hw
          refine ziA zM201 q201_47 (by decide) s134 hb (v := (h 134 (Int32.toNatClampNeg l1))) rfl ?_
          refine zb2_le zM201 q201_48 (tgt := 55) rfl (fun hc => ?_) (fun hc => ?_)
          · have hw := hw.2 hc
            exact hw
          · have hw := hw.1 hc
            refine zweak (a := [some (.ref 82), none, some (.int l2)]) ?_ hw
            exact ⟨rfl, ⟨rfl, trivial⟩⟩
theorem b201_55 {X : Option (List Int32)} {d : Nat} {h : zH} {A : Int32 → zH → Prop} {l1 : Int32} {l2 : Int32} (hw : zP X d 201 56 [some (.ref 82), none, some (.int l2)] [.int l1] z_S0 h (zI A)) : zP X d 201 55 [some (.ref 82), some (.int l1), some (.int l2)] [] z_S0 h (zI A) := by
  refine zl zM201 q201_55 rfl ?_
  refine zweak (a := [some (.ref 82), none, some (.int l2)]) ?_ hw
  exact ⟨rfl, ⟨rfl, trivial⟩⟩
theorem b201_51 {X : Option (List Int32)} {d : Nat} {h : zH} {A : Int32 → zH → Prop} {l2 : Int32} (hw : zP X d 201 56 [some (.ref 82), none, some (.int l2)] [.int l2] z_S0 h (zI A)) : zP X d 201 51 [some (.ref 82), none, some (.int l2)] [] z_S0 h (zI A) := by
  refine zl zM201 q201_51 rfl ?_
  refine zl zM201 q201_52 (pc' := 56) (ls' := _) (st' := _) rfl ?_
  exact hw
theorem b201_56 {X : Option (List Int32)} {d : Nat} {h : zH} {A : Int32 → zH → Prop} {l2 : Int32} {w0 : Int32} (hw : zP X d 201 4 [some (.ref 82), some (.int w0), some (.int (l2 + 1))] [] z_S0 h (zI A)) : zP X d 201 56 [some (.ref 82), none, some (.int l2)] [.int w0] z_S0 h (zI A) := by
  refine zl zM201 q201_56 (ls' := [some (.ref 82), some (.int w0), some (.int l2)]) rfl ?_
  refine zl zM201 q201_57 (ls' := [some (.ref 82), some (.int w0), some (.int (l2 + 1))]) rfl ?_
  refine zl zM201 q201_60 (pc' := 4) (ls' := _) (st' := _) rfl ?_
  exact hw
-- X12_part
theorem b202 {X : Option (List Int32)} {d : Nat} {h : zH} {A : zH → Prop}  (hw : zP X (d + 1) 202 2 [some (.ref 82), some (.int 0), none] [] z_S0 h (zV A)) : zP X (d + 1) 202 0 (z_ent [.ref 82] 3) [] z_S0 h (zV A) := by
  show zP X (d + 1) 202 0 [some (.ref 82), none, none] [] z_S0 h (zV A)
  refine zkI zM202 q202_0 kI0 ?_
  refine zl zM202 q202_1 (ls' := [some (.ref 82), some (.int 0), none]) rfl ?_
  exact hw
theorem b202_2 {X : Option (List Int32)} {d : Nat} {h : zH} {A : zH → Prop} {l1 : Int32} (hw : ((l1 < (h 82 72) → (z_ib l1 6 ∧ zP X (d + 1) 202 2 [some (.ref 82), some (.int (l1 + 1)), none] [] z_S0 (z_up h 136 (Int32.toNatClampNeg l1) (-1)) (zV A))) ∧ (¬ l1 < (h 82 72) → zP X d 201 0 (z_ent [.ref 82] 3) [] z_S0 h (zI fun v1 h2 => zP X (d + 1) 202 35 [some (.ref 82), some (.int (h 95 0)), some (.int v1)] [] z_S0 h2 (zV A))))) : zP X (d + 1) 202 2 [some (.ref 82), some (.int l1), none] [] z_S0 h (zV A) := by
  refine zl zM202 q202_2 rfl ?_
  refine zl zM202 q202_3 rfl ?_
  refine zgI zM202 q202_4 (by decide) g12_435 s82 rfl (v := (h 82 72)) rfl ?_
  refine zb2_ge zM202 q202_7 (tgt := 23) rfl (fun hc => ?_) (fun hc => ?_)
  · have hw := hw.2 hc
    refine zl zM202 q202_23 rfl ?_
    refine zgR (a := 95) zM202 q202_24 (by decide) g12_91 s82 rfl ?_
    refine zkI zM202 q202_27 kI0 ?_
    refine ziA zM202 q202_28 (by decide) s95 (by decide) (v := (h 95 0)) rfl ?_
    refine zl zM202 q202_29 (ls' := [some (.ref 82), some (.int (h 95 0)), none]) rfl ?_
    refine zl zM202 q202_30 rfl ?_
    refine zcV zM202 q202_31 kl12_438 rfl rfl (Nat.le_of_ble_eq_true rfl) rfl zM201 (Nat.le_of_ble_eq_true rfl) (hw.mono (fun r0 h2 hr3 => ?_))
    obtain ⟨v1, rfl, hw⟩ := hr3
    show zP X (d + 1) 202 34 [some (.ref 82), some (.int (h 95 0)), none] [.int v1] z_S0 h2 (zV A)
    refine zl zM202 q202_34 (ls' := [some (.ref 82), some (.int (h 95 0)), some (.int v1)]) rfl ?_
    exact hw
  · have hw := hw.1 hc
    refine zl zM202 q202_10 rfl ?_
    refine zgR (a := 136) zM202 q202_11 (by decide) g12_340 s82 rfl ?_
    refine zl zM202 q202_14 rfl ?_
    refine zkI zM202 q202_15 kIm1 ?_
    obtain ⟨hb, hw⟩ := hw
    refine ziS zM202 q202_16 (by decide) s136 hb rfl ?_
    refine zl zM202 q202_17 (ls' := [some (.ref 82), some (.int (l1 + 1)), none]) rfl ?_
    refine zl zM202 q202_20 (pc' := 2) (ls' := _) (st' := _) rfl ?_
    exact hw
theorem b202_35 {X : Option (List Int32)} {d : Nat} {h : zH} {A : zH → Prop} {l1 : Int32} {l2 : Int32} (hw : ((l2 = (-1) → A h) ∧ (¬ l2 = (-1) → (z_ib l2 6 ∧ zP X d 215 0 (z_ent [.int l1, .int (h 133 (Int32.toNatClampNeg l2))] 2) [] z_S0 h (zI fun v4 h5 => (z_ib l2 6 ∧ (z_ib l2 6 ∧ zP X d 201 0 (z_ent [.ref 82] 3) [] z_S0 (z_up h5 136 (Int32.toNatClampNeg l2) v4) (zI fun v6 h7 => zP X (d + 1) 202 35 [some (.ref 82), some (.int (l1 - ((z_up h5 136 (Int32.toNatClampNeg l2) v4) 136 (Int32.toNatClampNeg l2)))), some (.int v6)] [] z_S0 h7 (zV A))))))))) : zP X (d + 1) 202 35 [some (.ref 82), some (.int l1), some (.int l2)] [] z_S0 h (zV A) := by
  refine zl zM202 q202_35 rfl ?_
  refine zkI zM202 q202_36 kIm1 ?_
  refine zb2_eq zM202 q202_37 (tgt := 73) rfl (fun hc => ?_) (fun hc => ?_)
  · have hw := hw.1 hc
    exact zrv zM202 q202_73 rfl hw
  · have hw := hw.2 hc
    refine zl zM202 q202_40 rfl ?_
    refine zgR (a := 136) zM202 q202_41 (by decide) g12_340 s82 rfl ?_
    refine zl zM202 q202_44 rfl ?_
    refine zl zM202 q202_45 rfl ?_
    refine zl zM202 q202_46 rfl ?_
    refine zgR (a := 133) zM202 q202_47 (by decide) g12_331 s82 rfl ?_
    refine zl zM202 q202_50 rfl ?_
    obtain ⟨hb, hw⟩ := hw
    refine ziA zM202 q202_51 (by decide) s133 hb (v := (h 133 (Int32.toNatClampNeg l2))) rfl ?_
    refine zcS zM202 q202_52 ky12_442 kl12_442 (by decide) rfl (Nat.le_of_ble_eq_true rfl) zM215 (Nat.le_of_ble_eq_true rfl) (hw.mono (fun r0 h5 hr9 => ?_))
    obtain ⟨v4, rfl, hw⟩ := hr9
    show zP X (d + 1) 202 55 [some (.ref 82), some (.int l1), some (.int l2)] [.int v4, .int l2, .ref 136] z_S0 h5 (zV A)
    obtain ⟨hb, hw⟩ := hw
    refine ziS zM202 q202_55 (by decide) s136 hb rfl ?_
    refine zl zM202 q202_56 rfl ?_
    refine zl zM202 q202_57 rfl ?_
    refine zgR (a := 136) zM202 q202_58 (by decide) g12_340 s82 rfl ?_
    refine zl zM202 q202_61 rfl ?_
    obtain ⟨hb, hw⟩ := hw
    refine ziA zM202 q202_62 (by decide) s136 hb (v := ((z_up h5 136 (Int32.toNatClampNeg l2) v4) 136 (Int32.toNatClampNeg l2))) rfl ?_
    refine zl zM202 q202_63 (pc' := 64) (st' := .int (l1 - ((z_up h5 136 (Int32.toNatClampNeg l2) v4) 136 (Int32.toNatClampNeg l2))) :: _) rfl ?_
    refine zl zM202 q202_64 (ls' := [some (.ref 82), some (.int (l1 - ((z_up h5 136 (Int32.toNatClampNeg l2) v4) 136 (Int32.toNatClampNeg l2)))), some (.int l2)]) rfl ?_
    refine zl zM202 q202_65 rfl ?_
    refine zcV zM202 q202_66 kl12_438 rfl rfl (Nat.le_of_ble_eq_true rfl) rfl zM201 (Nat.le_of_ble_eq_true rfl) (hw.mono (fun r0 h7 hr8 => ?_))
    obtain ⟨v6, rfl, hw⟩ := hr8
    show zP X (d + 1) 202 69 [some (.ref 82), some (.int (l1 - ((z_up h5 136 (Int32.toNatClampNeg l2) v4) 136 (Int32.toNatClampNeg l2)))), some (.int l2)] [.int v6] z_S0 h7 (zV A)
    refine zl zM202 q202_69 (ls' := [some (.ref 82), some (.int (l1 - ((z_up h5 136 (Int32.toNatClampNeg l2) v4) 136 (Int32.toNatClampNeg l2)))), some (.int v6)]) rfl ?_
    refine zl zM202 q202_70 (pc' := 35) (ls' := _) (st' := _) rfl ?_
    exact hw
-- X12_parted
theorem b203 {X : Option (List Int32)} {d : Nat} {h : zH} {A : Int64 → zH → Prop} {a1 : Int32} (hw : ((a1 < (-1) → A (-4611686018427387904) h) ∧ (¬ a1 < (-1) → ((a1 < (h 82 72) → zP X d 202 0 (z_ent [.ref 82] 3) [] z_S0 h (zV fun h3 => ((a1 < 0 → zP X (d + 1) 203 42 [some (.ref 82), none, some (.long 0), none, some (.int 0)] [] z_S0 h3 (zJ A)) ∧ (¬ a1 < 0 → (z_ib a1 6 ∧ zP X d 214 0 (z_ent [.int 0, .int (h3 136 (Int32.toNatClampNeg a1))] 2) [] z_S0 h3 (zI fun v4 h5 => A (Int32.toInt64 v4) h5)))))) ∧ (¬ a1 < (h 82 72) → A (-4611686018427387904) h))))) : zP X (d + 1) 203 0 (z_ent [.ref 82, .int a1] 5) [] z_S0 h (zJ A) := by
  show zP X (d + 1) 203 0 [some (.ref 82), some (.int a1), none, none, none] [] z_S0 h (zJ A)
  refine zl zM203 q203_0 rfl ?_
  refine zkI zM203 q203_1 kIm1 ?_
  refine zb2_lt zM203 q203_2 (tgt := 13) rfl (fun hc => ?_) (fun hc => ?_)
  · have hw := hw.1 hc
    refine zkJ zM203 q203_13 kc12_363 ?_
    exact zrj zM203 q203_16 rfl hw
  · have hw := hw.2 hc
    refine zl zM203 q203_5 rfl ?_
    refine zl zM203 q203_6 rfl ?_
    refine zgI zM203 q203_7 (by decide) g12_435 s82 rfl (v := (h 82 72)) rfl ?_
    refine zb2_lt zM203 q203_10 (tgt := 17) rfl (fun hc => ?_) (fun hc => ?_)
    · have hw := hw.1 hc
      refine zl zM203 q203_17 rfl ?_
      refine zcV zM203 q203_18 kl12_445 rfl rfl (Nat.le_of_ble_eq_true rfl) rfl zM202 (Nat.le_of_ble_eq_true rfl) (hw.mono (fun r0 h3 hr7 => ?_))
      obtain ⟨rfl, hw⟩ := hr7
      show zP X (d + 1) 203 21 [some (.ref 82), some (.int a1), none, none, none] [] z_S0 h3 (zJ A)
      refine zl zM203 q203_21 rfl ?_
      refine zb1_lt zM203 q203_22 (tgt := 37) rfl (fun hc => ?_) (fun hc => ?_)
      · have hw := hw.1 hc
        refine zkL (v := 0) zM203 q203_37 rfl ?_
        refine zl zM203 q203_38 (ls' := [some (.ref 82), some (.int a1), some (.long 0), none, none]) rfl ?_
        refine zkI zM203 q203_39 kI0 ?_
        refine zl zM203 q203_40 (ls' := [some (.ref 82), some (.int a1), some (.long 0), none, some (.int 0)]) rfl ?_
        refine zweak (a := [some (.ref 82), none, some (.long 0), none, some (.int 0)]) ?_ hw
        exact ⟨rfl, ⟨rfl, ⟨rfl, trivial⟩⟩⟩
      · have hw := hw.2 hc
        refine zkI zM203 q203_25 kI0 ?_
        refine zl zM203 q203_26 rfl ?_
        refine zgR (a := 136) zM203 q203_27 (by decide) g12_340 s82 rfl ?_
        refine zl zM203 q203_30 rfl ?_
        obtain ⟨hb, hw⟩ := hw
        refine ziA zM203 q203_31 (by decide) s136 hb (v := (h3 136 (Int32.toNatClampNeg a1))) rfl ?_
        refine zcS zM203 q203_32 ky12_373 kl12_373 (by decide) rfl (Nat.le_of_ble_eq_true rfl) zM214 (Nat.le_of_ble_eq_true rfl) (hw.mono (fun r0 h5 hr6 => ?_))
        obtain ⟨v4, rfl, hw⟩ := hr6
        show zP X (d + 1) 203 35 [some (.ref 82), some (.int a1), none, none, none] [.int v4] z_S0 h5 (zJ A)
        refine zl zM203 q203_35 (pc' := 36) (st' := .long (Int32.toInt64 v4) :: _) rfl ?_
        exact zrj zM203 q203_36 rfl hw
    · have hw := hw.2 hc
      refine zkJ zM203 q203_13 kc12_363 ?_
      exact zrj zM203 q203_16 rfl hw
theorem b203_42 {X : Option (List Int32)} {d : Nat} {h : zH} {A : Int64 → zH → Prop} {l2 : Int64} {l4 : Int32} (hw : ((l4 < (h 82 72) → (z_ib l4 6 ∧ zP X d 214 0 (z_ent [.int 0, .int (h 136 (Int32.toNatClampNeg l4))] 2) [] z_S0 h (zI fun v8 h9 => (z_ib l4 6 ∧ zP X (d + 1) 203 42 [some (.ref 82), none, some (.long (l2 + (Int32.toInt64 ((v8 * (h9 134 (Int32.toNatClampNeg l4))) / 100)))), none, some (.int (l4 + 1))] [] z_S0 h9 (zJ A))))) ∧ (¬ l4 < (h 82 72) → A l2 h))) : zP X (d + 1) 203 42 [some (.ref 82), none, some (.long l2), none, some (.int l4)] [] z_S0 h (zJ A) := by
  refine zl zM203 q203_42 rfl ?_
  refine zl zM203 q203_44 rfl ?_
  refine zgI zM203 q203_45 (by decide) g12_435 s82 rfl (v := (h 82 72)) rfl ?_
  refine zb2_ge zM203 q203_48 (tgt := 83) rfl (fun hc => ?_) (fun hc => ?_)
  · have hw := hw.2 hc
    refine zl zM203 q203_83 rfl ?_
    exact zrj zM203 q203_84 rfl hw
  · have hw := hw.1 hc
    refine zl zM203 q203_51 rfl ?_
    refine zkI zM203 q203_52 kI0 ?_
    refine zl zM203 q203_53 rfl ?_
    refine zgR (a := 136) zM203 q203_54 (by decide) g12_340 s82 rfl ?_
    refine zl zM203 q203_57 rfl ?_
    obtain ⟨hb, hw⟩ := hw
    refine ziA zM203 q203_59 (by decide) s136 hb (v := (h 136 (Int32.toNatClampNeg l4))) rfl ?_
    refine zcS zM203 q203_60 ky12_373 kl12_373 (by decide) rfl (Nat.le_of_ble_eq_true rfl) zM214 (Nat.le_of_ble_eq_true rfl) (hw.mono (fun r0 h9 hr10 => ?_))
    obtain ⟨v8, rfl, hw⟩ := hr10
    show zP X (d + 1) 203 63 [some (.ref 82), none, some (.long l2), none, some (.int l4)] [.int v8, .long l2] z_S0 h9 (zJ A)
    refine zl zM203 q203_63 rfl ?_
    refine zgR (a := 134) zM203 q203_64 (by decide) g12_334 s82 rfl ?_
    refine zl zM203 q203_67 rfl ?_
    obtain ⟨hb, hw⟩ := hw
    refine ziA zM203 q203_69 (by decide) s134 hb (v := (h9 134 (Int32.toNatClampNeg l4))) rfl ?_
    refine zl zM203 q203_70 (pc' := 71) (st' := .int (v8 * (h9 134 (Int32.toNatClampNeg l4))) :: _) rfl ?_
    refine zkB zM203 q203_71 kB100 ?_
    refine zl zM203 q203_73 (pc' := 74) (st' := .int ((v8 * (h9 134 (Int32.toNatClampNeg l4))) / 100) :: _) rfl ?_
    refine zl zM203 q203_74 (pc' := 75) (st' := .long (Int32.toInt64 ((v8 * (h9 134 (Int32.toNatClampNeg l4))) / 100)) :: _) rfl ?_
    refine zl zM203 q203_75 (pc' := 76) (st' := .long (l2 + (Int32.toInt64 ((v8 * (h9 134 (Int32.toNatClampNeg l4))) / 100))) :: _) rfl ?_
    refine zl zM203 q203_76 (ls' := [some (.ref 82), none, some (.long (l2 + (Int32.toInt64 ((v8 * (h9 134 (Int32.toNatClampNeg l4))) / 100)))), none, some (.int l4)]) rfl ?_
    refine zl zM203 q203_77 (ls' := [some (.ref 82), none, some (.long (l2 + (Int32.toInt64 ((v8 * (h9 134 (Int32.toNatClampNeg l4))) / 100)))), none, some (.int (l4 + 1))]) rfl ?_
    refine zl zM203 q203_80 (pc' := 42) (ls' := _) (st' := _) rfl ?_
    exact hw
-- X12_count
theorem b204 {X : Option (List Int32)} {d : Nat} {h : zH} {A : Int32 → zH → Prop} {a1 : Int32} (hw : ((a1 = 0 → A (h 82 0) h) ∧ (a1 = 1 → A (h 82 3) h) ∧ (a1 = 2 → A (h 82 16) h) ∧ (a1 = 3 → A (h 82 23) h) ∧ (a1 = 4 → A (h 82 22) h) ∧ (a1 = 5 → A (h 82 40) h) ∧ (a1 = 6 → A (h 82 44) h) ∧ (a1 = 7 → A (h 82 48) h) ∧ (a1 = 8 → A (h 82 53) h) ∧ (a1 = 9 → A (h 82 59) h) ∧ (a1 = 10 → A (h 82 67) h) ∧ (a1 = 11 → A (h 82 72) h) ∧ (a1 = 12 → A (h 82 15) h) ∧ ((¬ a1 = 0 ∧ ¬ a1 = 1 ∧ ¬ a1 = 2 ∧ ¬ a1 = 3 ∧ ¬ a1 = 4 ∧ ¬ a1 = 5 ∧ ¬ a1 = 6 ∧ ¬ a1 = 7 ∧ ¬ a1 = 8 ∧ ¬ a1 = 9 ∧ ¬ a1 = 10 ∧ ¬ a1 = 11 ∧ ¬ a1 = 12) → A (-2) h))) : zP X d 204 0 (z_ent [.ref 82, .int a1] 2) [] z_S0 h (zI A) := by
  show zP X d 204 0 [some (.ref 82), some (.int a1)] [] z_S0 h (zI A)
  refine zl zM204 q204_0 rfl ?_
  by_cases hs1 : a1 = 0
  · have hw := hw.1 hs1
    refine zts 0 hs1 zM204 q204_1 (tgt := 68) (by decide) rfl rfl ?_
    refine zl zM204 q204_68 rfl ?_
    refine zgI zM204 q204_69 (by decide) g12_9 s82 rfl (v := (h 82 0)) rfl ?_
    exact zri zM204 q204_72 rfl rfl hw
  by_cases hs2 : a1 = 1
  · have hw := hw.2.1 hs2
    refine zts 1 hs2 zM204 q204_1 (tgt := 73) (by decide) rfl rfl ?_
    refine zl zM204 q204_73 rfl ?_
    refine zgI zM204 q204_74 (by decide) g12_21 s82 rfl (v := (h 82 3)) rfl ?_
    exact zri zM204 q204_77 rfl rfl hw
  by_cases hs3 : a1 = 2
  · have hw := hw.2.2.1 hs3
    refine zts 2 hs3 zM204 q204_1 (tgt := 78) (by decide) rfl rfl ?_
    refine zl zM204 q204_78 rfl ?_
    refine zgI zM204 q204_79 (by decide) g12_110 s82 rfl (v := (h 82 16)) rfl ?_
    exact zri zM204 q204_82 rfl rfl hw
  by_cases hs4 : a1 = 3
  · have hw := hw.2.2.2.1 hs4
    refine zts 3 hs4 zM204 q204_1 (tgt := 83) (by decide) rfl rfl ?_
    refine zl zM204 q204_83 rfl ?_
    refine zgI zM204 q204_84 (by decide) g12_229 s82 rfl (v := (h 82 23)) rfl ?_
    exact zri zM204 q204_87 rfl rfl hw
  by_cases hs5 : a1 = 4
  · have hw := hw.2.2.2.2.1 hs5
    refine zts 4 hs5 zM204 q204_1 (tgt := 88) (by decide) rfl rfl ?_
    refine zl zM204 q204_88 rfl ?_
    refine zgI zM204 q204_89 (by decide) g12_127 s82 rfl (v := (h 82 22)) rfl ?_
    exact zri zM204 q204_92 rfl rfl hw
  by_cases hs6 : a1 = 5
  · have hw := hw.2.2.2.2.2.1 hs6
    refine zts 5 hs6 zM204 q204_1 (tgt := 93) (by decide) rfl rfl ?_
    refine zl zM204 q204_93 rfl ?_
    refine zgI zM204 q204_94 (by decide) g12_355 s82 rfl (v := (h 82 40)) rfl ?_
    exact zri zM204 q204_97 rfl rfl hw
  by_cases hs7 : a1 = 6
  · have hw := hw.2.2.2.2.2.2.1 hs7
    refine zts 6 hs7 zM204 q204_1 (tgt := 98) (by decide) rfl rfl ?_
    refine zl zM204 q204_98 rfl ?_
    refine zgI zM204 q204_99 (by decide) g12_380 s82 rfl (v := (h 82 44)) rfl ?_
    exact zri zM204 q204_102 rfl rfl hw
  by_cases hs8 : a1 = 7
  · have hw := hw.2.2.2.2.2.2.2.1 hs8
    refine zts 7 hs8 zM204 q204_1 (tgt := 103) (by decide) rfl rfl ?_
    refine zl zM204 q204_103 rfl ?_
    refine zgI zM204 q204_104 (by decide) g12_391 s82 rfl (v := (h 82 48)) rfl ?_
    exact zri zM204 q204_107 rfl rfl hw
  by_cases hs9 : a1 = 8
  · have hw := hw.2.2.2.2.2.2.2.2.1 hs9
    refine zts 8 hs9 zM204 q204_1 (tgt := 108) (by decide) rfl rfl ?_
    refine zl zM204 q204_108 rfl ?_
    refine zgI zM204 q204_109 (by decide) g12_394 s82 rfl (v := (h 82 53)) rfl ?_
    exact zri zM204 q204_112 rfl rfl hw
  by_cases hs10 : a1 = 9
  · have hw := hw.2.2.2.2.2.2.2.2.2.1 hs10
    refine zts 9 hs10 zM204 q204_1 (tgt := 113) (by decide) rfl rfl ?_
    refine zl zM204 q204_113 rfl ?_
    refine zgI zM204 q204_114 (by decide) g12_406 s82 rfl (v := (h 82 59)) rfl ?_
    exact zri zM204 q204_117 rfl rfl hw
  by_cases hs11 : a1 = 10
  · have hw := hw.2.2.2.2.2.2.2.2.2.2.1 hs11
    refine zts 10 hs11 zM204 q204_1 (tgt := 118) (by decide) rfl rfl ?_
    refine zl zM204 q204_118 rfl ?_
    refine zgI zM204 q204_119 (by decide) g12_425 s82 rfl (v := (h 82 67)) rfl ?_
    exact zri zM204 q204_122 rfl rfl hw
  by_cases hs12 : a1 = 11
  · have hw := hw.2.2.2.2.2.2.2.2.2.2.2.1 hs12
    refine zts 11 hs12 zM204 q204_1 (tgt := 123) (by decide) rfl rfl ?_
    refine zl zM204 q204_123 rfl ?_
    refine zgI zM204 q204_124 (by decide) g12_435 s82 rfl (v := (h 82 72)) rfl ?_
    exact zri zM204 q204_127 rfl rfl hw
  by_cases hs13 : a1 = 12
  · have hw := hw.2.2.2.2.2.2.2.2.2.2.2.2.1 hs13
    refine zts 12 hs13 zM204 q204_1 (tgt := 128) (by decide) rfl rfl ?_
    refine zl zM204 q204_128 rfl ?_
    refine zgI zM204 q204_129 (by decide) g12_102 s82 rfl (v := (h 82 15)) rfl ?_
    exact zri zM204 q204_132 rfl rfl hw
  have hw := hw.2.2.2.2.2.2.2.2.2.2.2.2.2 ⟨hs1, hs2, hs3, hs4, hs5, hs6, hs7, hs8, hs9, hs10, hs11, hs12, hs13⟩
  have hs1 := z_neI hs1
  have hs2 := z_neI hs2
  have hs3 := z_neI hs3
  have hs4 := z_neI hs4
  have hs5 := z_neI hs5
  have hs6 := z_neI hs6
  have hs7 := z_neI hs7
  have hs8 := z_neI hs8
  have hs9 := z_neI hs9
  have hs10 := z_neI hs10
  have hs11 := z_neI hs11
  have hs12 := z_neI hs12
  have hs13 := z_neI hs13
  refine ztd (tgt := 133) ?_ zM204 q204_1 rfl ?_
  · simp only [show (0 : Int32).toInt = 0 from rfl, show (1 : Int32).toInt = 1 from rfl, show (2 : Int32).toInt = 2 from rfl, show (3 : Int32).toInt = 3 from rfl, show (4 : Int32).toInt = 4 from rfl, show (5 : Int32).toInt = 5 from rfl, show (6 : Int32).toInt = 6 from rfl, show (7 : Int32).toInt = 7 from rfl, show (8 : Int32).toInt = 8 from rfl, show (9 : Int32).toInt = 9 from rfl, show (10 : Int32).toInt = 10 from rfl, show (11 : Int32).toInt = 11 from rfl, show (12 : Int32).toInt = 12 from rfl] at hs1 hs2 hs3 hs4 hs5 hs6 hs7 hs8 hs9 hs10 hs11 hs12 hs13; omega
  refine zkB zM204 q204_133 kBm2 ?_
  exact zri zM204 q204_135 rfl rfl hw
-- X12_isSheet
theorem b205 {X : Option (List Int32)} {d : Nat} {h : zH} {A : Int32 → zH → Prop} {a1 : Int32} (hw : zP X d 128 0 (z_ent [.long (Int32.toInt64 a1), .long 0, .long 3] 6) [] z_S0 h (zI fun v1 h2 => ((v1 = 0 ∨ v1 = 1) ∧ A v1 h2))) : zP X (d + 1) 205 0 (z_ent [.int a1] 1) [] z_S0 h (zI A) := by
  show zP X (d + 1) 205 0 [some (.int a1)] [] z_S0 h (zI A)
  refine zl zM205 q205_0 rfl ?_
  refine zl zM205 q205_1 (pc' := 2) (st' := .long (Int32.toInt64 a1) :: _) rfl ?_
  refine zkL (v := 0) zM205 q205_2 rfl ?_
  refine zkJ zM205 q205_3 kc12_19 ?_
  refine zcS zM205 q205_6 ky12_3 kl12_3 (by decide) rfl (Nat.le_of_ble_eq_true rfl) zM128 (Nat.le_of_ble_eq_true rfl) (hw.mono (fun r0 h2 hr3 => ?_))
  obtain ⟨v1, rfl, hw⟩ := hr3
  show zP X (d + 1) 205 9 [some (.int a1)] [.int v1] z_S0 h2 (zI A)
  exact zri zM205 q205_9 rfl (z_nb hw.1) hw.2
-- X12_sheet
theorem b206 {X : Option (List Int32)} {d : Nat} {h : zH} {A : Int32 → zH → Prop} {a1 : Int32} {a2 : Int32} {a3 : Int32} (hw : zP X d 205 0 (z_ent [.int a1] 1) [] z_S0 h (zI fun v1 h2 => ((v1 = 0 → A (-2) h2) ∧ (¬ v1 = 0 → zP X d 128 0 (z_ent [.long (Int32.toInt64 a2), .long (-1), .long 2] 6) [] z_S0 h2 (zI fun v3 h4 => ((v3 = 0 → A (-2) h4) ∧ (¬ v3 = 0 → ((a2 < 0 → zP X (d + 1) 206 34 [some (.ref 82), some (.int a1), some (.int a2), some (.int a3), none] [] z_S0 h4 (zI A)) ∧ (¬ a2 < 0 → (((40 : Int32) < a3 → A (-2) h4) ∧ (¬ (40 : Int32) < a3 → zP X (d + 1) 206 34 [some (.ref 82), some (.int a1), some (.int a2), some (.int a3), none] [] z_S0 h4 (zI A)))))))))))) : zP X (d + 1) 206 0 (z_ent [.ref 82, .int a1, .int a2, .int a3] 5) [] z_S0 h (zI A) := by
  show zP X (d + 1) 206 0 [some (.ref 82), some (.int a1), some (.int a2), some (.int a3), none] [] z_S0 h (zI A)
  refine zl zM206 q206_0 rfl ?_
  refine zcS zM206 q206_1 ky12_448 kl12_448 (by decide) rfl (Nat.le_of_ble_eq_true rfl) zM205 (Nat.le_of_ble_eq_true rfl) (hw.mono (fun r0 h2 hr6 => ?_))
  obtain ⟨v1, rfl, hw⟩ := hr6
  show zP X (d + 1) 206 4 [some (.ref 82), some (.int a1), some (.int a2), some (.int a3), none] [.int v1] z_S0 h2 (zI A)
  refine zb1_eq zM206 q206_4 (tgt := 31) rfl (fun hc => ?_) (fun hc => ?_)
  · have hw := hw.1 hc
    refine zkB zM206 q206_31 kBm2 ?_
    exact zri zM206 q206_33 rfl rfl hw
  · have hw := hw.2 hc
    refine zl zM206 q206_7 rfl ?_
    refine zl zM206 q206_8 (pc' := 9) (st' := .long (Int32.toInt64 a2) :: _) rfl ?_
    refine zkJ zM206 q206_9 kc12_451 ?_
    refine zkJ zM206 q206_12 kc12_358 ?_
    refine zcS zM206 q206_15 ky12_3 kl12_3 (by decide) rfl (Nat.le_of_ble_eq_true rfl) zM128 (Nat.le_of_ble_eq_true rfl) (hw.mono (fun r0 h4 hr5 => ?_))
    obtain ⟨v3, rfl, hw⟩ := hr5
    show zP X (d + 1) 206 18 [some (.ref 82), some (.int a1), some (.int a2), some (.int a3), none] [.int v3] z_S0 h4 (zI A)
    refine zb1_eq zM206 q206_18 (tgt := 31) rfl (fun hc => ?_) (fun hc => ?_)
    · have hw := hw.1 hc
      refine zkB zM206 q206_31 kBm2 ?_
      exact zri zM206 q206_33 rfl rfl hw
    · have hw := hw.2 hc
      refine zl zM206 q206_21 rfl ?_
      refine zb1_lt zM206 q206_22 (tgt := 34) rfl (fun hc => ?_) (fun hc => ?_)
      · have hw := hw.1 hc
        exact hw
      · have hw := hw.2 hc
        refine zl zM206 q206_25 rfl ?_
        refine zkB zM206 q206_26 kB40 ?_
        refine zb2_le zM206 q206_28 (tgt := 34) rfl (fun hc => ?_) (fun hc => ?_)
        · have hw := hw.2 hc
          exact hw
        · have hw := hw.1 hc
          refine zkB zM206 q206_31 kBm2 ?_
          exact zri zM206 q206_33 rfl rfl hw
theorem b206_34 {X : Option (List Int32)} {d : Nat} {h : zH} {A : Int32 → zH → Prop} {l1 : Int32} {l2 : Int32} {l3 : Int32} (hw : ((l2 < 0 → zP X (d + 1) 206 45 [some (.ref 82), some (.int l1), some (.int l2), some (.int l3), none] [] z_S0 h (zI A)) ∧ (¬ l2 < 0 → ((l3 < 0 → A (-14) h) ∧ (¬ l3 < 0 → zP X (d + 1) 206 45 [some (.ref 82), some (.int l1), some (.int l2), some (.int l3), none] [] z_S0 h (zI A)))))) : zP X (d + 1) 206 34 [some (.ref 82), some (.int l1), some (.int l2), some (.int l3), none] [] z_S0 h (zI A) := by
  refine zl zM206 q206_34 rfl ?_
  refine zb1_lt zM206 q206_35 (tgt := 45) rfl (fun hc => ?_) (fun hc => ?_)
  · have hw := hw.1 hc
    exact hw
  · have hw := hw.2 hc
    refine zl zM206 q206_38 rfl ?_
    refine zb1_ge zM206 q206_39 (tgt := 45) rfl (fun hc => ?_) (fun hc => ?_)
    · have hw := hw.2 hc
      exact hw
    · have hw := hw.1 hc
      refine zkB zM206 q206_42 kBm14 ?_
      exact zri zM206 q206_44 rfl rfl hw
theorem b206_45 {X : Option (List Int32)} {d : Nat} {h : zH} {A : Int32 → zH → Prop} {l1 : Int32} {l2 : Int32} {l3 : Int32} (hw : (z_ib l1 4 ∧ ((l2 < 0 → zP X (d + 1) 206 66 [some (.ref 82), some (.int l1), none, none, none] [.int 0, .int l1, .ref 138] z_S0 (z_up h 137 (Int32.toNatClampNeg l1) l2) (zI A)) ∧ (¬ l2 < 0 → zP X (d + 1) 206 66 [some (.ref 82), some (.int l1), none, none, none] [.int l3, .int l1, .ref 138] z_S0 (z_up h 137 (Int32.toNatClampNeg l1) l2) (zI A))))) : zP X (d + 1) 206 45 [some (.ref 82), some (.int l1), some (.int l2), some (.int l3), none] [] z_S0 h (zI A) := by
  refine zl zM206 q206_45 rfl ?_
  refine zgR (a := 137) zM206 q206_46 (by decide) g12_343 s82 rfl ?_
  refine zl zM206 q206_49 rfl ?_
  refine zl zM206 q206_50 rfl ?_
  obtain ⟨hb, hw⟩ := hw
  refine ziS zM206 q206_51 (by decide) s137 hb rfl ?_
  refine zl zM206 q206_52 rfl ?_
  refine zgR (a := 138) zM206 q206_53 (by decide) g12_346 s82 rfl ?_
  refine zl zM206 q206_56 rfl ?_
  refine zl zM206 q206_57 rfl ?_
  refine zb1_ge zM206 q206_58 (tgt := 65) rfl (fun hc => ?_) (fun hc => ?_)
  · have hw := hw.2 hc
    refine zl zM206 q206_65 rfl ?_
    refine zweak (a := [some (.ref 82), some (.int l1), none, none, none]) ?_ hw
    exact ⟨rfl, ⟨rfl, trivial⟩⟩
  · have hw := hw.1 hc
    refine zkI zM206 q206_61 kI0 ?_
    refine zl zM206 q206_62 (pc' := 66) (ls' := _) (st' := _) rfl ?_
    refine zweak (a := [some (.ref 82), some (.int l1), none, none, none]) ?_ hw
    exact ⟨rfl, ⟨rfl, trivial⟩⟩
theorem b206_66 {X : Option (List Int32)} {d : Nat} {h : zH} {A : Int32 → zH → Prop} {l1 : Int32} {w1 : Int32} {w2 : Int32} (hw : (z_ib w1 4 ∧ zP X (d + 1) 206 70 [some (.ref 82), some (.int l1), none, none, some (.int 0)] [] z_S0 (z_up h 138 (Int32.toNatClampNeg w1) w2) (zI A))) : zP X (d + 1) 206 66 [some (.ref 82), some (.int l1), none, none, none] [.int w2, .int w1, .ref 138] z_S0 h (zI A) := by
  obtain ⟨hb, hw⟩ := hw
  refine ziS zM206 q206_66 (by decide) s138 hb rfl ?_
  refine zkI zM206 q206_67 kI0 ?_
  refine zl zM206 q206_68 (ls' := [some (.ref 82), some (.int l1), none, none, some (.int 0)]) rfl ?_
  exact hw
theorem b206_70 {X : Option (List Int32)} {d : Nat} {h : zH} {A : Int32 → zH → Prop} {l1 : Int32} {l4 : Int32} (hw : ((l4 < 40 → (z_ib ((40 * l1) + l4) 160 ∧ zP X (d + 1) 206 70 [some (.ref 82), some (.int l1), none, none, some (.int (l4 + 1))] [] z_S0 (z_up h 139 (Int32.toNatClampNeg ((40 * l1) + l4)) 0) (zI A))) ∧ (¬ l4 < 40 → A 1 h))) : zP X (d + 1) 206 70 [some (.ref 82), some (.int l1), none, none, some (.int l4)] [] z_S0 h (zI A) := by
  refine zl zM206 q206_70 rfl ?_
  refine zkB zM206 q206_72 kB40 ?_
  refine zb2_ge zM206 q206_74 (tgt := 96) rfl (fun hc => ?_) (fun hc => ?_)
  · have hw := hw.2 hc
    refine zkI zM206 q206_96 kI1 ?_
    exact zri zM206 q206_97 rfl rfl hw
  · have hw := hw.1 hc
    refine zl zM206 q206_77 rfl ?_
    refine zgR (a := 139) zM206 q206_78 (by decide) g12_349 s82 rfl ?_
    refine zkB zM206 q206_81 kB40 ?_
    refine zl zM206 q206_83 rfl ?_
    refine zl zM206 q206_84 (pc' := 85) (st' := .int (40 * l1) :: _) rfl ?_
    refine zl zM206 q206_85 rfl ?_
    refine zl zM206 q206_87 (pc' := 88) (st' := .int ((40 * l1) + l4) :: _) rfl ?_
    refine zkI zM206 q206_88 kI0 ?_
    obtain ⟨hb, hw⟩ := hw
    refine ziS zM206 q206_89 (by decide) s139 hb rfl ?_
    refine zl zM206 q206_90 (ls' := [some (.ref 82), some (.int l1), none, none, some (.int (l4 + 1))]) rfl ?_
    refine zl zM206 q206_93 (pc' := 70) (ls' := _) (st' := _) rfl ?_
    exact hw
-- X12_cutTo
theorem b207 {X : Option (List Int32)} {d : Nat} {h : zH} {A : Int32 → zH → Prop} {a1 : Int32} {a2 : Int32} (hw : ((a1 = 0 → A ((Int32.toInt8 a2).toInt32) h) ∧ (¬ a1 = 0 → ((a1 = 1 → A ((Int32.toInt16 a2).toInt32) h) ∧ (¬ a1 = 1 → A a2 h))))) : zP X d 207 0 (z_ent [.int a1, .int a2] 2) [] z_S0 h (zI A) := by
  show zP X d 207 0 [some (.int a1), some (.int a2)] [] z_S0 h (zI A)
  refine zl zM207 q207_0 rfl ?_
  refine zb1_ne zM207 q207_1 (tgt := 9) rfl (fun hc => ?_) (fun hc => ?_)
  · have hw := hw.2 hc
    refine zl zM207 q207_9 rfl ?_
    refine zkI zM207 q207_10 kI1 ?_
    refine zb2_ne zM207 q207_11 (tgt := 19) rfl (fun hc => ?_) (fun hc => ?_)
    · have hw := hw.2 hc
      refine zl zM207 q207_19 rfl ?_
      exact zri zM207 q207_20 rfl rfl hw
    · have hw := hw.1 hc
      refine zl zM207 q207_14 rfl ?_
      refine zl zM207 q207_15 (pc' := 16) (st' := .int ((Int32.toInt16 a2).toInt32) :: _) rfl ?_
      refine zl zM207 q207_16 (pc' := 20) (ls' := _) (st' := _) rfl ?_
      exact zri zM207 q207_20 rfl rfl hw
  · have hw := hw.1 hc
    refine zl zM207 q207_4 rfl ?_
    refine zl zM207 q207_5 (pc' := 6) (st' := .int ((Int32.toInt8 a2).toInt32) :: _) rfl ?_
    refine zl zM207 q207_6 (pc' := 20) (ls' := _) (st' := _) rfl ?_
    exact zri zM207 q207_20 rfl rfl hw
-- X12_cell
theorem b208 {X : Option (List Int32)} {d : Nat} {h : zH} {A : Int32 → zH → Prop} {a1 : Int32} {a2 : Int32} {a3 : Int32} (hw : zP X d 205 0 (z_ent [.int a1] 1) [] z_S0 h (zI fun v1 h2 => ((v1 = 0 → A (-2) h2) ∧ (¬ v1 = 0 → (z_ib a1 4 ∧ (((h2 137 (Int32.toNatClampNeg a1)) < 0 → A (-11) h2) ∧ (¬ (h2 137 (Int32.toNatClampNeg a1)) < 0 → (z_ib a1 4 ∧ zP X d 128 0 (z_ent [.long (Int32.toInt64 a2), .long 0, .long (Int32.toInt64 ((h2 138 (Int32.toNatClampNeg a1)) - 1))] 6) [] z_S0 h2 (zI fun v3 h4 => ((v3 = 0 → A (-12) h4) ∧ (¬ v3 = 0 → (z_ib a1 4 ∧ zP X d 207 0 (z_ent [.int (h4 137 (Int32.toNatClampNeg a1)), .int a3] 2) [] z_S0 h4 (zI fun v5 h6 => (z_ib ((40 * a1) + a2) 160 ∧ A 1 (z_up h6 139 (Int32.toNatClampNeg ((40 * a1) + a2)) v5))))))))))))))) : zP X (d + 1) 208 0 (z_ent [.ref 82, .int a1, .int a2, .int a3] 4) [] z_S0 h (zI A) := by
  show zP X (d + 1) 208 0 [some (.ref 82), some (.int a1), some (.int a2), some (.int a3)] [] z_S0 h (zI A)
  refine zl zM208 q208_0 rfl ?_
  refine zcS zM208 q208_1 ky12_448 kl12_448 (by decide) rfl (Nat.le_of_ble_eq_true rfl) zM205 (Nat.le_of_ble_eq_true rfl) (hw.mono (fun r0 h2 hr9 => ?_))
  obtain ⟨v1, rfl, hw⟩ := hr9
  show zP X (d + 1) 208 4 [some (.ref 82), some (.int a1), some (.int a2), some (.int a3)] [.int v1] z_S0 h2 (zI A)
  refine zb1_ne zM208 q208_4 (tgt := 10) rfl (fun hc => ?_) (fun hc => ?_)
  · have hw := hw.2 hc
    refine zl zM208 q208_10 rfl ?_
    refine zgR (a := 137) zM208 q208_11 (by decide) g12_343 s82 rfl ?_
    refine zl zM208 q208_14 rfl ?_
    obtain ⟨hb, hw⟩ := hw
    refine ziA zM208 q208_15 (by decide) s137 hb (v := (h2 137 (Int32.toNatClampNeg a1))) rfl ?_
    refine zb1_ge zM208 q208_16 (tgt := 22) rfl (fun hc => ?_) (fun hc => ?_)
    · have hw := hw.2 hc
      refine zl zM208 q208_22 rfl ?_
      refine zl zM208 q208_23 (pc' := 24) (st' := .long (Int32.toInt64 a2) :: _) rfl ?_
      refine zkL (v := 0) zM208 q208_24 rfl ?_
      refine zl zM208 q208_25 rfl ?_
      refine zgR (a := 138) zM208 q208_26 (by decide) g12_346 s82 rfl ?_
      refine zl zM208 q208_29 rfl ?_
      obtain ⟨hb, hw⟩ := hw
      refine ziA zM208 q208_30 (by decide) s138 hb (v := (h2 138 (Int32.toNatClampNeg a1))) rfl ?_
      refine zkI zM208 q208_31 kI1 ?_
      refine zl zM208 q208_32 (pc' := 33) (st' := .int ((h2 138 (Int32.toNatClampNeg a1)) - 1) :: _) rfl ?_
      refine zl zM208 q208_33 (pc' := 34) (st' := .long (Int32.toInt64 ((h2 138 (Int32.toNatClampNeg a1)) - 1)) :: _) rfl ?_
      refine zcS zM208 q208_34 ky12_3 kl12_3 (by decide) rfl (Nat.le_of_ble_eq_true rfl) zM128 (Nat.le_of_ble_eq_true rfl) (hw.mono (fun r0 h4 hr8 => ?_))
      obtain ⟨v3, rfl, hw⟩ := hr8
      show zP X (d + 1) 208 37 [some (.ref 82), some (.int a1), some (.int a2), some (.int a3)] [.int v3] z_S0 h4 (zI A)
      refine zb1_ne zM208 q208_37 (tgt := 43) rfl (fun hc => ?_) (fun hc => ?_)
      · have hw := hw.2 hc
        refine zl zM208 q208_43 rfl ?_
        refine zgR (a := 139) zM208 q208_44 (by decide) g12_349 s82 rfl ?_
        refine zkB zM208 q208_47 kB40 ?_
        refine zl zM208 q208_49 rfl ?_
        refine zl zM208 q208_50 (pc' := 51) (st' := .int (40 * a1) :: _) rfl ?_
        refine zl zM208 q208_51 rfl ?_
        refine zl zM208 q208_52 (pc' := 53) (st' := .int ((40 * a1) + a2) :: _) rfl ?_
        refine zl zM208 q208_53 rfl ?_
        refine zgR (a := 137) zM208 q208_54 (by decide) g12_343 s82 rfl ?_
        refine zl zM208 q208_57 rfl ?_
        obtain ⟨hb, hw⟩ := hw
        refine ziA zM208 q208_58 (by decide) s137 hb (v := (h4 137 (Int32.toNatClampNeg a1))) rfl ?_
        refine zl zM208 q208_59 rfl ?_
        refine zcS zM208 q208_60 ky12_453 kl12_453 (by decide) rfl (Nat.le_of_ble_eq_true rfl) zM207 (Nat.le_of_ble_eq_true rfl) (hw.mono (fun r0 h6 hr7 => ?_))
        obtain ⟨v5, rfl, hw⟩ := hr7
        show zP X (d + 1) 208 63 [some (.ref 82), some (.int a1), some (.int a2), some (.int a3)] [.int v5, .int ((40 * a1) + a2), .ref 139] z_S0 h6 (zI A)
        obtain ⟨hb, hw⟩ := hw
        refine ziS zM208 q208_63 (by decide) s139 hb rfl ?_
        refine zkI zM208 q208_64 kI1 ?_
        exact zri zM208 q208_65 rfl rfl hw
      · have hw := hw.1 hc
        refine zkB zM208 q208_40 kBm12 ?_
        exact zri zM208 q208_42 rfl rfl hw
    · have hw := hw.1 hc
      refine zkB zM208 q208_19 kBm11 ?_
      exact zri zM208 q208_21 rfl rfl hw
  · have hw := hw.1 hc
    refine zkB zM208 q208_7 kBm2 ?_
    exact zri zM208 q208_9 rfl rfl hw
-- X12_copy
theorem b209 {X : Option (List Int32)} {d : Nat} {h : zH} {A : Int32 → zH → Prop} {a1 : Int32} {a2 : Int32} {a3 : Int32} {a4 : Int32} {a5 : Int32} (hw : zP X d 205 0 (z_ent [.int a1] 1) [] z_S0 h (zI fun v1 h2 => ((v1 = 0 → A (-2) h2) ∧ (¬ v1 = 0 → zP X d 205 0 (z_ent [.int a3] 1) [] z_S0 h2 (zI fun v3 h4 => ((v3 = 0 → A (-2) h4) ∧ (¬ v3 = 0 → (z_ib a1 4 ∧ (((h4 137 (Int32.toNatClampNeg a1)) < 0 → A (-11) h4) ∧ (¬ (h4 137 (Int32.toNatClampNeg a1)) < 0 → (z_ib a3 4 ∧ (((h4 137 (Int32.toNatClampNeg a3)) < 0 → A (-11) h4) ∧ (¬ (h4 137 (Int32.toNatClampNeg a3)) < 0 → (z_ib a1 4 ∧ (z_ib a3 4 ∧ (((h4 137 (Int32.toNatClampNeg a1)) = (h4 137 (Int32.toNatClampNeg a3)) → ((a5 < 0 → A (-12) h4) ∧ (¬ a5 < 0 → ((a2 < 0 → A (-12) h4) ∧ (¬ a2 < 0 → ((a4 < 0 → A (-12) h4) ∧ (¬ a4 < 0 → (z_ib a1 4 ∧ ((((h4 138 (Int32.toNatClampNeg a1)) - a2) < a5 → A (-12) h4) ∧ (¬ ((h4 138 (Int32.toNatClampNeg a1)) - a2) < a5 → (z_ib a3 4 ∧ ((((h4 138 (Int32.toNatClampNeg a3)) - a4) < a5 → A (-12) h4) ∧ (¬ ((h4 138 (Int32.toNatClampNeg a3)) - a4) < a5 → zP X (d + 1) 209 103 [some (.ref 82), some (.int a1), some (.int a2), some (.int a3), some (.int a4), some (.int a5), some (.int 0)] [] z_S0 h4 (zI A)))))))))))))) ∧ (¬ (h4 137 (Int32.toNatClampNeg a1)) = (h4 137 (Int32.toNatClampNeg a3)) → A (-13) h4))))))))))))))))) : zP X (d + 1) 209 0 (z_ent [.ref 82, .int a1, .int a2, .int a3, .int a4, .int a5] 7) [] z_S0 h (zI A) := by
  show zP X (d + 1) 209 0 [some (.ref 82), some (.int a1), some (.int a2), some (.int a3), some (.int a4), some (.int a5), none] [] z_S0 h (zI A)
  refine zl zM209 q209_0 rfl ?_
  refine zcS zM209 q209_1 ky12_448 kl12_448 (by decide) rfl (Nat.le_of_ble_eq_true rfl) zM205 (Nat.le_of_ble_eq_true rfl) (hw.mono (fun r0 h2 hr6 => ?_))
  obtain ⟨v1, rfl, hw⟩ := hr6
  show zP X (d + 1) 209 4 [some (.ref 82), some (.int a1), some (.int a2), some (.int a3), some (.int a4), some (.int a5), none] [.int v1] z_S0 h2 (zI A)
  refine zb1_eq zM209 q209_4 (tgt := 14) rfl (fun hc => ?_) (fun hc => ?_)
  · have hw := hw.1 hc
    refine zkB zM209 q209_14 kBm2 ?_
    exact zri zM209 q209_16 rfl rfl hw
  · have hw := hw.2 hc
    refine zl zM209 q209_7 rfl ?_
    refine zcS zM209 q209_8 ky12_448 kl12_448 (by decide) rfl (Nat.le_of_ble_eq_true rfl) zM205 (Nat.le_of_ble_eq_true rfl) (hw.mono (fun r0 h4 hr5 => ?_))
    obtain ⟨v3, rfl, hw⟩ := hr5
    show zP X (d + 1) 209 11 [some (.ref 82), some (.int a1), some (.int a2), some (.int a3), some (.int a4), some (.int a5), none] [.int v3] z_S0 h4 (zI A)
    refine zb1_ne zM209 q209_11 (tgt := 17) rfl (fun hc => ?_) (fun hc => ?_)
    · have hw := hw.2 hc
      refine zl zM209 q209_17 rfl ?_
      refine zgR (a := 137) zM209 q209_18 (by decide) g12_343 s82 rfl ?_
      refine zl zM209 q209_21 rfl ?_
      obtain ⟨hb, hw⟩ := hw
      refine ziA zM209 q209_22 (by decide) s137 hb (v := (h4 137 (Int32.toNatClampNeg a1))) rfl ?_
      refine zb1_lt zM209 q209_23 (tgt := 35) rfl (fun hc => ?_) (fun hc => ?_)
      · have hw := hw.1 hc
        refine zkB zM209 q209_35 kBm11 ?_
        exact zri zM209 q209_37 rfl rfl hw
      · have hw := hw.2 hc
        refine zl zM209 q209_26 rfl ?_
        refine zgR (a := 137) zM209 q209_27 (by decide) g12_343 s82 rfl ?_
        refine zl zM209 q209_30 rfl ?_
        obtain ⟨hb, hw⟩ := hw
        refine ziA zM209 q209_31 (by decide) s137 hb (v := (h4 137 (Int32.toNatClampNeg a3))) rfl ?_
        refine zb1_ge zM209 q209_32 (tgt := 38) rfl (fun hc => ?_) (fun hc => ?_)
        · have hw := hw.2 hc
          refine zl zM209 q209_38 rfl ?_
          refine zgR (a := 137) zM209 q209_39 (by decide) g12_343 s82 rfl ?_
          refine zl zM209 q209_42 rfl ?_
          obtain ⟨hb, hw⟩ := hw
          refine ziA zM209 q209_43 (by decide) s137 hb (v := (h4 137 (Int32.toNatClampNeg a1))) rfl ?_
          refine zl zM209 q209_44 rfl ?_
          refine zgR (a := 137) zM209 q209_45 (by decide) g12_343 s82 rfl ?_
          refine zl zM209 q209_48 rfl ?_
          obtain ⟨hb, hw⟩ := hw
          refine ziA zM209 q209_49 (by decide) s137 hb (v := (h4 137 (Int32.toNatClampNeg a3))) rfl ?_
          refine zb2_eq zM209 q209_50 (tgt := 56) rfl (fun hc => ?_) (fun hc => ?_)
          · have hw := hw.1 hc
            refine zl zM209 q209_56 rfl ?_
            refine zb1_lt zM209 q209_58 (tgt := 97) rfl (fun hc => ?_) (fun hc => ?_)
            · have hw := hw.1 hc
              refine zkB zM209 q209_97 kBm12 ?_
              exact zri zM209 q209_99 rfl rfl hw
            · have hw := hw.2 hc
              refine zl zM209 q209_61 rfl ?_
              refine zb1_lt zM209 q209_62 (tgt := 97) rfl (fun hc => ?_) (fun hc => ?_)
              · have hw := hw.1 hc
                refine zkB zM209 q209_97 kBm12 ?_
                exact zri zM209 q209_99 rfl rfl hw
              · have hw := hw.2 hc
                refine zl zM209 q209_65 rfl ?_
                refine zb1_lt zM209 q209_67 (tgt := 97) rfl (fun hc => ?_) (fun hc => ?_)
                · have hw := hw.1 hc
                  refine zkB zM209 q209_97 kBm12 ?_
                  exact zri zM209 q209_99 rfl rfl hw
                · have hw := hw.2 hc
                  refine zl zM209 q209_70 rfl ?_
                  refine zl zM209 q209_72 rfl ?_
                  refine zgR (a := 138) zM209 q209_73 (by decide) g12_346 s82 rfl ?_
                  refine zl zM209 q209_76 rfl ?_
                  obtain ⟨hb, hw⟩ := hw
                  refine ziA zM209 q209_77 (by decide) s138 hb (v := (h4 138 (Int32.toNatClampNeg a1))) rfl ?_
                  refine zl zM209 q209_78 rfl ?_
                  refine zl zM209 q209_79 (pc' := 80) (st' := .int ((h4 138 (Int32.toNatClampNeg a1)) - a2) :: _) rfl ?_
                  refine zb2_gt zM209 q209_80 (tgt := 97) rfl (fun hc => ?_) (fun hc => ?_)
                  · have hw := hw.1 hc
                    refine zkB zM209 q209_97 kBm12 ?_
                    exact zri zM209 q209_99 rfl rfl hw
                  · have hw := hw.2 hc
                    refine zl zM209 q209_83 rfl ?_
                    refine zl zM209 q209_85 rfl ?_
                    refine zgR (a := 138) zM209 q209_86 (by decide) g12_346 s82 rfl ?_
                    refine zl zM209 q209_89 rfl ?_
                    obtain ⟨hb, hw⟩ := hw
                    refine ziA zM209 q209_90 (by decide) s138 hb (v := (h4 138 (Int32.toNatClampNeg a3))) rfl ?_
                    refine zl zM209 q209_91 rfl ?_
                    refine zl zM209 q209_93 (pc' := 94) (st' := .int ((h4 138 (Int32.toNatClampNeg a3)) - a4) :: _) rfl ?_
                    refine zb2_le zM209 q209_94 (tgt := 100) rfl (fun hc => ?_) (fun hc => ?_)
                    · have hw := hw.2 hc
                      refine zkI zM209 q209_100 kI0 ?_
                      refine zl zM209 q209_101 (ls' := [some (.ref 82), some (.int a1), some (.int a2), some (.int a3), some (.int a4), some (.int a5), some (.int 0)]) rfl ?_
                      exact hw
                    · have hw := hw.1 hc
                      refine zkB zM209 q209_97 kBm12 ?_
                      exact zri zM209 q209_99 rfl rfl hw
          · have hw := hw.2 hc
            refine zkB zM209 q209_53 kBm13 ?_
            exact zri zM209 q209_55 rfl rfl hw
        · have hw := hw.1 hc
          refine zkB zM209 q209_35 kBm11 ?_
          exact zri zM209 q209_37 rfl rfl hw
    · have hw := hw.1 hc
      refine zkB zM209 q209_14 kBm2 ?_
      exact zri zM209 q209_16 rfl rfl hw
theorem b209_103 {X : Option (List Int32)} {d : Nat} {h : zH} {A : Int32 → zH → Prop} {l1 : Int32} {l2 : Int32} {l3 : Int32} {l4 : Int32} {l5 : Int32} {l6 : Int32} (hw : ((l6 < l5 → (z_ib (((40 * l1) + l2) + l6) 160 ∧ (z_ib l6 40 ∧ zP X (d + 1) 209 103 [some (.ref 82), some (.int l1), some (.int l2), some (.int l3), some (.int l4), some (.int l5), some (.int (l6 + 1))] [] z_S0 (z_up h 140 (Int32.toNatClampNeg l6) (h 139 (Int32.toNatClampNeg (((40 * l1) + l2) + l6)))) (zI A)))) ∧ (¬ l6 < l5 → zP X (d + 1) 209 140 [some (.ref 82), none, none, some (.int l3), some (.int l4), some (.int l5), some (.int 0)] [] z_S0 h (zI A)))) : zP X (d + 1) 209 103 [some (.ref 82), some (.int l1), some (.int l2), some (.int l3), some (.int l4), some (.int l5), some (.int l6)] [] z_S0 h (zI A) := by
  refine zl zM209 q209_103 rfl ?_
  refine zl zM209 q209_105 rfl ?_
  refine zb2_ge zM209 q209_107 (tgt := 137) rfl (fun hc => ?_) (fun hc => ?_)
  · have hw := hw.2 hc
    refine zkI zM209 q209_137 kI0 ?_
    refine zl zM209 q209_138 (ls' := [some (.ref 82), some (.int l1), some (.int l2), some (.int l3), some (.int l4), some (.int l5), some (.int 0)]) rfl ?_
    refine zweak (a := [some (.ref 82), none, none, some (.int l3), some (.int l4), some (.int l5), some (.int 0)]) ?_ hw
    exact ⟨rfl, ⟨rfl, ⟨rfl, ⟨rfl, ⟨rfl, trivial⟩⟩⟩⟩⟩
  · have hw := hw.1 hc
    refine zl zM209 q209_110 rfl ?_
    refine zgR (a := 140) zM209 q209_111 (by decide) g12_352 s82 rfl ?_
    refine zl zM209 q209_114 rfl ?_
    refine zl zM209 q209_116 rfl ?_
    refine zgR (a := 139) zM209 q209_117 (by decide) g12_349 s82 rfl ?_
    refine zkB zM209 q209_120 kB40 ?_
    refine zl zM209 q209_122 rfl ?_
    refine zl zM209 q209_123 (pc' := 124) (st' := .int (40 * l1) :: _) rfl ?_
    refine zl zM209 q209_124 rfl ?_
    refine zl zM209 q209_125 (pc' := 126) (st' := .int ((40 * l1) + l2) :: _) rfl ?_
    refine zl zM209 q209_126 rfl ?_
    refine zl zM209 q209_128 (pc' := 129) (st' := .int (((40 * l1) + l2) + l6) :: _) rfl ?_
    obtain ⟨hb, hw⟩ := hw
    refine ziA zM209 q209_129 (by decide) s139 hb (v := (h 139 (Int32.toNatClampNeg (((40 * l1) + l2) + l6)))) rfl ?_
    obtain ⟨hb, hw⟩ := hw
    refine ziS zM209 q209_130 (by decide) s140 hb rfl ?_
    refine zl zM209 q209_131 (ls' := [some (.ref 82), some (.int l1), some (.int l2), some (.int l3), some (.int l4), some (.int l5), some (.int (l6 + 1))]) rfl ?_
    refine zl zM209 q209_134 (pc' := 103) (ls' := _) (st' := _) rfl ?_
    exact hw
theorem b209_140 {X : Option (List Int32)} {d : Nat} {h : zH} {A : Int32 → zH → Prop} {l3 : Int32} {l4 : Int32} {l5 : Int32} {l6 : Int32} (hw : ((l6 < l5 → (z_ib l6 40 ∧ (z_ib (((40 * l3) + l4) + l6) 160 ∧ zP X (d + 1) 209 140 [some (.ref 82), none, none, some (.int l3), some (.int l4), some (.int l5), some (.int (l6 + 1))] [] z_S0 (z_up h 139 (Int32.toNatClampNeg (((40 * l3) + l4) + l6)) (h 140 (Int32.toNatClampNeg l6))) (zI A)))) ∧ (¬ l6 < l5 → A l5 h))) : zP X (d + 1) 209 140 [some (.ref 82), none, none, some (.int l3), some (.int l4), some (.int l5), some (.int l6)] [] z_S0 h (zI A) := by
  refine zl zM209 q209_140 rfl ?_
  refine zl zM209 q209_142 rfl ?_
  refine zb2_ge zM209 q209_144 (tgt := 175) rfl (fun hc => ?_) (fun hc => ?_)
  · have hw := hw.2 hc
    refine zl zM209 q209_175 rfl ?_
    exact zri zM209 q209_177 rfl rfl hw
  · have hw := hw.1 hc
    refine zl zM209 q209_147 rfl ?_
    refine zgR (a := 139) zM209 q209_148 (by decide) g12_349 s82 rfl ?_
    refine zkB zM209 q209_151 kB40 ?_
    refine zl zM209 q209_153 rfl ?_
    refine zl zM209 q209_154 (pc' := 155) (st' := .int (40 * l3) :: _) rfl ?_
    refine zl zM209 q209_155 rfl ?_
    refine zl zM209 q209_157 (pc' := 158) (st' := .int ((40 * l3) + l4) :: _) rfl ?_
    refine zl zM209 q209_158 rfl ?_
    refine zl zM209 q209_160 (pc' := 161) (st' := .int (((40 * l3) + l4) + l6) :: _) rfl ?_
    refine zl zM209 q209_161 rfl ?_
    refine zgR (a := 140) zM209 q209_162 (by decide) g12_352 s82 rfl ?_
    refine zl zM209 q209_165 rfl ?_
    obtain ⟨hb, hw⟩ := hw
    refine ziA zM209 q209_167 (by decide) s140 hb (v := (h 140 (Int32.toNatClampNeg l6))) rfl ?_
    obtain ⟨hb, hw⟩ := hw
    refine ziS zM209 q209_168 (by decide) s139 hb rfl ?_
    refine zl zM209 q209_169 (ls' := [some (.ref 82), none, none, some (.int l3), some (.int l4), some (.int l5), some (.int (l6 + 1))]) rfl ?_
    refine zl zM209 q209_172 (pc' := 140) (ls' := _) (st' := _) rfl ?_
    exact hw
-- X12_prices
theorem b210 {X : Option (List Int32)} {d : Nat} {h : zH} {A : Int32 → zH → Prop} {a1 : Int32} {a2 : Int32} {a3 : Int32} {a4 : Int32} {a5 : Int32} {a6 : Int32} (hw : zP X d 133 0 (z_ent [.int a1] 1) [] z_S0 h (zI fun v1 h2 => ((v1 = 0 → A (-2) h2) ∧ (¬ v1 = 0 → zP X d 130 0 (z_ent [.int a2] 1) [] z_S0 h2 (zI fun v3 h4 => ((v3 = 0 → A (-2) h4) ∧ (¬ v3 = 0 → zP X d 205 0 (z_ent [.int a3] 1) [] z_S0 h4 (zI fun v5 h6 => ((v5 = 0 → A (-2) h6) ∧ (¬ v5 = 0 → zP X d 128 0 (z_ent [.long (Int32.toInt64 a4), .long 0, .long 2] 6) [] z_S0 h6 (zI fun v7 h8 => ((v7 = 0 → A (-2) h8) ∧ (¬ v7 = 0 → zP X d 128 0 (z_ent [.long (Int32.toInt64 a6), .long 0, .long 40] 6) [] z_S0 h8 (zI fun v9 h10 => ((v9 = 0 → A (-2) h10) ∧ (¬ v9 = 0 → (z_ib a3 4 ∧ (((h10 137 (Int32.toNatClampNeg a3)) < 0 → zP X (d + 1) 210 73 [some (.ref 82), some (.int a1), some (.int a2), some (.int a3), none, some (.int a5), some (.int a6), none, none, none, none] [] z_S0 h10 (zI A)) ∧ (¬ (h10 137 (Int32.toNatClampNeg a3)) < 0 → (z_ib a3 4 ∧ (((h10 137 (Int32.toNatClampNeg a3)) = a4 → zP X (d + 1) 210 73 [some (.ref 82), some (.int a1), some (.int a2), some (.int a3), none, some (.int a5), some (.int a6), none, none, none, none] [] z_S0 h10 (zI A)) ∧ (¬ (h10 137 (Int32.toNatClampNeg a3)) = a4 → A (-13) h10)))))))))))))))))))))) : zP X (d + 1) 210 0 (z_ent [.ref 82, .int a1, .int a2, .int a3, .int a4, .int a5, .int a6] 11) [] z_S0 h (zI A) := by
  show zP X (d + 1) 210 0 [some (.ref 82), some (.int a1), some (.int a2), some (.int a3), some (.int a4), some (.int a5), some (.int a6), none, none, none, none] [] z_S0 h (zI A)
  refine zl zM210 q210_0 rfl ?_
  refine zcS zM210 q210_1 ky12_96 kl12_96 (by decide) rfl (Nat.le_of_ble_eq_true rfl) zM133 (Nat.le_of_ble_eq_true rfl) (hw.mono (fun r0 h2 hr15 => ?_))
  obtain ⟨v1, rfl, hw⟩ := hr15
  show zP X (d + 1) 210 4 [some (.ref 82), some (.int a1), some (.int a2), some (.int a3), some (.int a4), some (.int a5), some (.int a6), none, none, none, none] [.int v1] z_S0 h2 (zI A)
  refine zb1_eq zM210 q210_4 (tgt := 47) rfl (fun hc => ?_) (fun hc => ?_)
  · have hw := hw.1 hc
    refine zkB zM210 q210_47 kBm2 ?_
    exact zri zM210 q210_49 rfl rfl hw
  · have hw := hw.2 hc
    refine zl zM210 q210_7 rfl ?_
    refine zcS zM210 q210_8 ky12_105 kl12_105 (by decide) rfl (Nat.le_of_ble_eq_true rfl) zM130 (Nat.le_of_ble_eq_true rfl) (hw.mono (fun r0 h4 hr14 => ?_))
    obtain ⟨v3, rfl, hw⟩ := hr14
    show zP X (d + 1) 210 11 [some (.ref 82), some (.int a1), some (.int a2), some (.int a3), some (.int a4), some (.int a5), some (.int a6), none, none, none, none] [.int v3] z_S0 h4 (zI A)
    refine zb1_eq zM210 q210_11 (tgt := 47) rfl (fun hc => ?_) (fun hc => ?_)
    · have hw := hw.1 hc
      refine zkB zM210 q210_47 kBm2 ?_
      exact zri zM210 q210_49 rfl rfl hw
    · have hw := hw.2 hc
      refine zl zM210 q210_14 rfl ?_
      refine zcS zM210 q210_15 ky12_448 kl12_448 (by decide) rfl (Nat.le_of_ble_eq_true rfl) zM205 (Nat.le_of_ble_eq_true rfl) (hw.mono (fun r0 h6 hr13 => ?_))
      obtain ⟨v5, rfl, hw⟩ := hr13
      show zP X (d + 1) 210 18 [some (.ref 82), some (.int a1), some (.int a2), some (.int a3), some (.int a4), some (.int a5), some (.int a6), none, none, none, none] [.int v5] z_S0 h6 (zI A)
      refine zb1_eq zM210 q210_18 (tgt := 47) rfl (fun hc => ?_) (fun hc => ?_)
      · have hw := hw.1 hc
        refine zkB zM210 q210_47 kBm2 ?_
        exact zri zM210 q210_49 rfl rfl hw
      · have hw := hw.2 hc
        refine zl zM210 q210_21 rfl ?_
        refine zl zM210 q210_23 (pc' := 24) (st' := .long (Int32.toInt64 a4) :: _) rfl ?_
        refine zkL (v := 0) zM210 q210_24 rfl ?_
        refine zkJ zM210 q210_25 kc12_358 ?_
        refine zcS zM210 q210_28 ky12_3 kl12_3 (by decide) rfl (Nat.le_of_ble_eq_true rfl) zM128 (Nat.le_of_ble_eq_true rfl) (hw.mono (fun r0 h8 hr12 => ?_))
        obtain ⟨v7, rfl, hw⟩ := hr12
        show zP X (d + 1) 210 31 [some (.ref 82), some (.int a1), some (.int a2), some (.int a3), some (.int a4), some (.int a5), some (.int a6), none, none, none, none] [.int v7] z_S0 h8 (zI A)
        refine zb1_eq zM210 q210_31 (tgt := 47) rfl (fun hc => ?_) (fun hc => ?_)
        · have hw := hw.1 hc
          refine zkB zM210 q210_47 kBm2 ?_
          exact zri zM210 q210_49 rfl rfl hw
        · have hw := hw.2 hc
          refine zl zM210 q210_34 rfl ?_
          refine zl zM210 q210_36 (pc' := 37) (st' := .long (Int32.toInt64 a6) :: _) rfl ?_
          refine zkL (v := 0) zM210 q210_37 rfl ?_
          refine zkJ zM210 q210_38 kc12_456 ?_
          refine zcS zM210 q210_41 ky12_3 kl12_3 (by decide) rfl (Nat.le_of_ble_eq_true rfl) zM128 (Nat.le_of_ble_eq_true rfl) (hw.mono (fun r0 h10 hr11 => ?_))
          obtain ⟨v9, rfl, hw⟩ := hr11
          show zP X (d + 1) 210 44 [some (.ref 82), some (.int a1), some (.int a2), some (.int a3), some (.int a4), some (.int a5), some (.int a6), none, none, none, none] [.int v9] z_S0 h10 (zI A)
          refine zb1_ne zM210 q210_44 (tgt := 50) rfl (fun hc => ?_) (fun hc => ?_)
          · have hw := hw.2 hc
            refine zl zM210 q210_50 rfl ?_
            refine zgR (a := 137) zM210 q210_51 (by decide) g12_343 s82 rfl ?_
            refine zl zM210 q210_54 rfl ?_
            obtain ⟨hb, hw⟩ := hw
            refine ziA zM210 q210_55 (by decide) s137 hb (v := (h10 137 (Int32.toNatClampNeg a3))) rfl ?_
            refine zb1_lt zM210 q210_56 (tgt := 73) rfl (fun hc => ?_) (fun hc => ?_)
            · have hw := hw.1 hc
              refine zweak (a := [some (.ref 82), some (.int a1), some (.int a2), some (.int a3), none, some (.int a5), some (.int a6), none, none, none, none]) ?_ hw
              exact ⟨rfl, ⟨rfl, ⟨rfl, ⟨rfl, ⟨rfl, ⟨rfl, trivial⟩⟩⟩⟩⟩⟩
            · have hw := hw.2 hc
              refine zl zM210 q210_59 rfl ?_
              refine zgR (a := 137) zM210 q210_60 (by decide) g12_343 s82 rfl ?_
              refine zl zM210 q210_63 rfl ?_
              obtain ⟨hb, hw⟩ := hw
              refine ziA zM210 q210_64 (by decide) s137 hb (v := (h10 137 (Int32.toNatClampNeg a3))) rfl ?_
              refine zl zM210 q210_65 rfl ?_
              refine zb2_eq zM210 q210_67 (tgt := 73) rfl (fun hc => ?_) (fun hc => ?_)
              · have hw := hw.1 hc
                refine zweak (a := [some (.ref 82), some (.int a1), some (.int a2), some (.int a3), none, some (.int a5), some (.int a6), none, none, none, none]) ?_ hw
                exact ⟨rfl, ⟨rfl, ⟨rfl, ⟨rfl, ⟨rfl, ⟨rfl, trivial⟩⟩⟩⟩⟩⟩
              · have hw := hw.2 hc
                refine zkB zM210 q210_70 kBm13 ?_
                exact zri zM210 q210_72 rfl rfl hw
          · have hw := hw.1 hc
            refine zkB zM210 q210_47 kBm2 ?_
            exact zri zM210 q210_49 rfl rfl hw
theorem b210_73 {X : Option (List Int32)} {d : Nat} {h : zH} {A : Int32 → zH → Prop} {l1 : Int32} {l2 : Int32} {l3 : Int32} {l5 : Int32} {l6 : Int32} (hw : (z_ib l3 4 ∧ (((h 137 (Int32.toNatClampNeg l3)) < 0 → A (-11) h) ∧ (¬ (h 137 (Int32.toNatClampNeg l3)) < 0 → zP X (d + 1) 210 91 [some (.ref 82), some (.int l1), some (.int l2), some (.int l3), none, some (.int l5), some (.int l6), some (.int 0), some (.int 0), none, none] [] z_S0 h (zI A))))) : zP X (d + 1) 210 73 [some (.ref 82), some (.int l1), some (.int l2), some (.int l3), none, some (.int l5), some (.int l6), none, none, none, none] [] z_S0 h (zI A) := by
  refine zl zM210 q210_73 rfl ?_
  refine zgR (a := 137) zM210 q210_74 (by decide) g12_343 s82 rfl ?_
  refine zl zM210 q210_77 rfl ?_
  obtain ⟨hb, hw⟩ := hw
  refine ziA zM210 q210_78 (by decide) s137 hb (v := (h 137 (Int32.toNatClampNeg l3))) rfl ?_
  refine zb1_ge zM210 q210_79 (tgt := 85) rfl (fun hc => ?_) (fun hc => ?_)
  · have hw := hw.2 hc
    refine zkI zM210 q210_85 kI0 ?_
    refine zl zM210 q210_86 (ls' := [some (.ref 82), some (.int l1), some (.int l2), some (.int l3), none, some (.int l5), some (.int l6), some (.int 0), none, none, none]) rfl ?_
    refine zkI zM210 q210_88 kI0 ?_
    refine zl zM210 q210_89 (ls' := [some (.ref 82), some (.int l1), some (.int l2), some (.int l3), none, some (.int l5), some (.int l6), some (.int 0), some (.int 0), none, none]) rfl ?_
    exact hw
  · have hw := hw.1 hc
    refine zkB zM210 q210_82 kBm11 ?_
    exact zri zM210 q210_84 rfl rfl hw
theorem b210_91 {X : Option (List Int32)} {d : Nat} {h : zH} {A : Int32 → zH → Prop} {l1 : Int32} {l2 : Int32} {l3 : Int32} {l5 : Int32} {l6 : Int32} {l7 : Int32} {l8 : Int32} (hw : ((l8 < l6 → (((lg_cmp ((Int32.toInt64 l5) + (Int32.toInt64 l8)) 0) < 0 → A (-12) h) ∧ (¬ (lg_cmp ((Int32.toInt64 l5) + (Int32.toInt64 l8)) 0) < 0 → (z_ib l3 4 ∧ (((lg_cmp ((Int32.toInt64 l5) + (Int32.toInt64 l8)) (Int32.toInt64 (h 138 (Int32.toNatClampNeg l3)))) < 0 → (z_ib ((40 * l3) + (Int64.toInt32 ((Int32.toInt64 l5) + (Int32.toInt64 l8)))) 160 ∧ zP X d 145 0 (z_ent [.ref 82, .int l1, .int (l2 + l8), .int (h 139 (Int32.toNatClampNeg ((40 * l3) + (Int64.toInt32 ((Int32.toInt64 l5) + (Int32.toInt64 l8))))))] 4) [] z_S0 h (zI fun v16 h18 => ((v16 < 0 → zP X (d + 1) 210 162 [some (.ref 82), some (.int l1), some (.int l2), some (.int l3), none, some (.int l5), some (.int l6), none, some (.int l8), none, none] [.int 0, .int l7] z_S0 h18 (zI A)) ∧ (¬ v16 < 0 → zP X (d + 1) 210 162 [some (.ref 82), some (.int l1), some (.int l2), some (.int l3), none, some (.int l5), some (.int l6), none, some (.int l8), none, none] [.int 1, .int l7] z_S0 h18 (zI A)))))) ∧ (¬ (lg_cmp ((Int32.toInt64 l5) + (Int32.toInt64 l8)) (Int32.toInt64 (h 138 (Int32.toNatClampNeg l3)))) < 0 → A (-12) h)))))) ∧ (¬ l8 < l6 → A l7 h))) : zP X (d + 1) 210 91 [some (.ref 82), some (.int l1), some (.int l2), some (.int l3), none, some (.int l5), some (.int l6), some (.int l7), some (.int l8), none, none] [] z_S0 h (zI A) := by
  refine zl zM210 q210_91 rfl ?_
  refine zl zM210 q210_93 rfl ?_
  refine zb2_ge zM210 q210_95 (tgt := 171) rfl (fun hc => ?_) (fun hc => ?_)
  · have hw := hw.2 hc
    refine zl zM210 q210_171 rfl ?_
    exact zri zM210 q210_173 rfl rfl hw
  · have hw := hw.1 hc
    refine zl zM210 q210_98 rfl ?_
    refine zl zM210 q210_100 (pc' := 101) (st' := .long (Int32.toInt64 l5) :: _) rfl ?_
    refine zl zM210 q210_101 rfl ?_
    refine zl zM210 q210_103 (pc' := 104) (st' := .long (Int32.toInt64 l8) :: _) rfl ?_
    refine zl zM210 q210_104 (pc' := 105) (st' := .long ((Int32.toInt64 l5) + (Int32.toInt64 l8)) :: _) rfl ?_
    refine zl zM210 q210_105 (ls' := [some (.ref 82), some (.int l1), some (.int l2), some (.int l3), none, some (.int l5), some (.int l6), some (.int l7), some (.int l8), some (.long ((Int32.toInt64 l5) + (Int32.toInt64 l8))), none]) rfl ?_
    refine zl zM210 q210_107 rfl ?_
    refine zkL (v := 0) zM210 q210_109 rfl ?_
    refine zl zM210 q210_110 (pc' := 111) (st' := .int (lg_cmp ((Int32.toInt64 l5) + (Int32.toInt64 l8)) 0) :: _) rfl ?_
    refine zb1_lt zM210 q210_111 (tgt := 127) rfl (fun hc => ?_) (fun hc => ?_)
    · have hw := hw.1 hc
      refine zkB zM210 q210_127 kBm12 ?_
      exact zri zM210 q210_129 rfl rfl hw
    · have hw := hw.2 hc
      refine zl zM210 q210_114 rfl ?_
      refine zl zM210 q210_116 rfl ?_
      refine zgR (a := 138) zM210 q210_117 (by decide) g12_346 s82 rfl ?_
      refine zl zM210 q210_120 rfl ?_
      obtain ⟨hb, hw⟩ := hw
      refine ziA zM210 q210_121 (by decide) s138 hb (v := (h 138 (Int32.toNatClampNeg l3))) rfl ?_
      refine zl zM210 q210_122 (pc' := 123) (st' := .long (Int32.toInt64 (h 138 (Int32.toNatClampNeg l3))) :: _) rfl ?_
      refine zl zM210 q210_123 (pc' := 124) (st' := .int (lg_cmp ((Int32.toInt64 l5) + (Int32.toInt64 l8)) (Int32.toInt64 (h 138 (Int32.toNatClampNeg l3)))) :: _) rfl ?_
      refine zb1_lt zM210 q210_124 (tgt := 130) rfl (fun hc => ?_) (fun hc => ?_)
      · have hw := hw.1 hc
        refine zl zM210 q210_130 rfl ?_
        refine zl zM210 q210_132 rfl ?_
        refine zl zM210 q210_133 rfl ?_
        refine zl zM210 q210_134 rfl ?_
        refine zl zM210 q210_135 rfl ?_
        refine zl zM210 q210_137 (pc' := 138) (st' := .int (l2 + l8) :: _) rfl ?_
        refine zl zM210 q210_138 rfl ?_
        refine zgR (a := 139) zM210 q210_139 (by decide) g12_349 s82 rfl ?_
        refine zkB zM210 q210_142 kB40 ?_
        refine zl zM210 q210_144 rfl ?_
        refine zl zM210 q210_145 (pc' := 146) (st' := .int (40 * l3) :: _) rfl ?_
        refine zl zM210 q210_146 rfl ?_
        refine zl zM210 q210_148 (pc' := 149) (st' := .int (Int64.toInt32 ((Int32.toInt64 l5) + (Int32.toInt64 l8))) :: _) rfl ?_
        refine zl zM210 q210_149 (pc' := 150) (st' := .int ((40 * l3) + (Int64.toInt32 ((Int32.toInt64 l5) + (Int32.toInt64 l8)))) :: _) rfl ?_
        obtain ⟨hb, hw⟩ := hw
        refine ziA zM210 q210_150 (by decide) s139 hb (v := (h 139 (Int32.toNatClampNeg ((40 * l3) + (Int64.toInt32 ((Int32.toInt64 l5) + (Int32.toInt64 l8))))))) rfl ?_
        refine zcV zM210 q210_151 kl12_458 rfl rfl (Nat.le_of_ble_eq_true rfl) rfl zM145 (Nat.le_of_ble_eq_true rfl) (hw.mono (fun r0 h18 hr19 => ?_))
        obtain ⟨v16, rfl, hw⟩ := hr19
        show zP X (d + 1) 210 154 [some (.ref 82), some (.int l1), some (.int l2), some (.int l3), none, some (.int l5), some (.int l6), some (.int l7), some (.int l8), some (.long ((Int32.toInt64 l5) + (Int32.toInt64 l8))), none] [.int v16, .int l7] z_S0 h18 (zI A)
        refine zb1_lt zM210 q210_154 (tgt := 161) rfl (fun hc => ?_) (fun hc => ?_)
        · have hw := hw.1 hc
          refine zkI zM210 q210_161 kI0 ?_
          refine zweak (a := [some (.ref 82), some (.int l1), some (.int l2), some (.int l3), none, some (.int l5), some (.int l6), none, some (.int l8), none, none]) ?_ hw
          exact ⟨rfl, ⟨rfl, ⟨rfl, ⟨rfl, ⟨rfl, ⟨rfl, ⟨rfl, trivial⟩⟩⟩⟩⟩⟩⟩
        · have hw := hw.2 hc
          refine zkI zM210 q210_157 kI1 ?_
          refine zl zM210 q210_158 (pc' := 162) (ls' := _) (st' := _) rfl ?_
          refine zweak (a := [some (.ref 82), some (.int l1), some (.int l2), some (.int l3), none, some (.int l5), some (.int l6), none, some (.int l8), none, none]) ?_ hw
          exact ⟨rfl, ⟨rfl, ⟨rfl, ⟨rfl, ⟨rfl, ⟨rfl, ⟨rfl, trivial⟩⟩⟩⟩⟩⟩⟩
      · have hw := hw.2 hc
        refine zkB zM210 q210_127 kBm12 ?_
        exact zri zM210 q210_129 rfl rfl hw
theorem b210_162 {X : Option (List Int32)} {d : Nat} {h : zH} {A : Int32 → zH → Prop} {l1 : Int32} {l2 : Int32} {l3 : Int32} {l5 : Int32} {l6 : Int32} {l8 : Int32} {w0 : Int32} {w1 : Int32} (hw : zP X (d + 1) 210 91 [some (.ref 82), some (.int l1), some (.int l2), some (.int l3), none, some (.int l5), some (.int l6), some (.int (w0 + w1)), some (.int (l8 + 1)), none, none] [] z_S0 h (zI A)) : zP X (d + 1) 210 162 [some (.ref 82), some (.int l1), some (.int l2), some (.int l3), none, some (.int l5), some (.int l6), none, some (.int l8), none, none] [.int w1, .int w0] z_S0 h (zI A) := by
  refine zl zM210 q210_162 (pc' := 163) (st' := .int (w0 + w1) :: _) rfl ?_
  refine zl zM210 q210_163 (ls' := [some (.ref 82), some (.int l1), some (.int l2), some (.int l3), none, some (.int l5), some (.int l6), some (.int (w0 + w1)), some (.int l8), none, none]) rfl ?_
  refine zl zM210 q210_165 (ls' := [some (.ref 82), some (.int l1), some (.int l2), some (.int l3), none, some (.int l5), some (.int l6), some (.int (w0 + w1)), some (.int (l8 + 1)), none, none]) rfl ?_
  refine zl zM210 q210_168 (pc' := 91) (ls' := _) (st' := _) rfl ?_
  exact hw
-- X12_taken
theorem b211 {X : Option (List Int32)} {d : Nat} {h : zH} {A : Int32 → zH → Prop} {a1 : Int32} {a2 : Int32} (hw : zP X d 128 0 (z_ent [.long (Int32.toInt64 a2), .long 0, .long 5] 6) [] z_S0 h (zI fun v1 h2 => ((v1 = 0 → A (-2) h2) ∧ (¬ v1 = 0 → zP X d 134 0 (z_ent [.ref 82, .int a1] 2) [] z_S0 h2 (zI fun v3 h4 => ((v3 = 0 → A (-11) h4) ∧ (¬ v3 = 0 → (z_ib a1 40 ∧ ((a2 = 0 → zP X (d + 1) 211 67 [some (.ref 82), some (.int a1), none, none, none] [] z_S0 h4 (zI A)) ∧ (¬ a2 = 0 → (((h4 85 (Int32.toNatClampNeg a1)) = a2 → zP X (d + 1) 211 67 [some (.ref 82), some (.int a1), none, none, none] [] z_S0 h4 (zI A)) ∧ (¬ (h4 85 (Int32.toNatClampNeg a1)) = a2 → ((a2 = 1 → (((h4 85 (Int32.toNatClampNeg a1)) = 3 → zP X (d + 1) 211 67 [some (.ref 82), some (.int a1), none, none, none] [] z_S0 h4 (zI A)) ∧ (¬ (h4 85 (Int32.toNatClampNeg a1)) = 3 → (((h4 85 (Int32.toNatClampNeg a1)) = 5 → zP X (d + 1) 211 67 [some (.ref 82), some (.int a1), none, none, none] [] z_S0 h4 (zI A)) ∧ (¬ (h4 85 (Int32.toNatClampNeg a1)) = 5 → zP X (d + 1) 211 57 [some (.ref 82), some (.int a1), some (.int a2), some (.int (h4 85 (Int32.toNatClampNeg a1))), none] [] z_S0 h4 (zI A)))))) ∧ (¬ a2 = 1 → zP X (d + 1) 211 57 [some (.ref 82), some (.int a1), some (.int a2), some (.int (h4 85 (Int32.toNatClampNeg a1))), none] [] z_S0 h4 (zI A))))))))))))))) : zP X (d + 1) 211 0 (z_ent [.ref 82, .int a1, .int a2] 5) [] z_S0 h (zI A) := by
  show zP X (d + 1) 211 0 [some (.ref 82), some (.int a1), some (.int a2), none, none] [] z_S0 h (zI A)
  refine zl zM211 q211_0 rfl ?_
  refine zl zM211 q211_1 (pc' := 2) (st' := .long (Int32.toInt64 a2) :: _) rfl ?_
  refine zkL (v := 0) zM211 q211_2 rfl ?_
  refine zkJ zM211 q211_3 kc12_15 ?_
  refine zcS zM211 q211_6 ky12_3 kl12_3 (by decide) rfl (Nat.le_of_ble_eq_true rfl) zM128 (Nat.le_of_ble_eq_true rfl) (hw.mono (fun r0 h2 hr6 => ?_))
  obtain ⟨v1, rfl, hw⟩ := hr6
  show zP X (d + 1) 211 9 [some (.ref 82), some (.int a1), some (.int a2), none, none] [.int v1] z_S0 h2 (zI A)
  refine zb1_ne zM211 q211_9 (tgt := 15) rfl (fun hc => ?_) (fun hc => ?_)
  · have hw := hw.2 hc
    refine zl zM211 q211_15 rfl ?_
    refine zl zM211 q211_16 rfl ?_
    refine zcV zM211 q211_17 kl12_73 rfl rfl (Nat.le_of_ble_eq_true rfl) rfl zM134 (Nat.le_of_ble_eq_true rfl) (hw.mono (fun r0 h4 hr5 => ?_))
    obtain ⟨v3, rfl, hw⟩ := hr5
    show zP X (d + 1) 211 20 [some (.ref 82), some (.int a1), some (.int a2), none, none] [.int v3] z_S0 h4 (zI A)
    refine zb1_ne zM211 q211_20 (tgt := 26) rfl (fun hc => ?_) (fun hc => ?_)
    · have hw := hw.2 hc
      refine zl zM211 q211_26 rfl ?_
      refine zgR (a := 85) zM211 q211_27 (by decide) g12_35 s82 rfl ?_
      refine zl zM211 q211_30 rfl ?_
      obtain ⟨hb, hw⟩ := hw
      refine ziA zM211 q211_31 (by decide) s85 hb (v := (h4 85 (Int32.toNatClampNeg a1))) rfl ?_
      refine zl zM211 q211_32 (ls' := [some (.ref 82), some (.int a1), some (.int a2), some (.int (h4 85 (Int32.toNatClampNeg a1))), none]) rfl ?_
      refine zl zM211 q211_33 rfl ?_
      refine zb1_eq zM211 q211_34 (tgt := 67) rfl (fun hc => ?_) (fun hc => ?_)
      · have hw := hw.1 hc
        refine zweak (a := [some (.ref 82), some (.int a1), none, none, none]) ?_ hw
        exact ⟨rfl, ⟨rfl, trivial⟩⟩
      · have hw := hw.2 hc
        refine zl zM211 q211_37 rfl ?_
        refine zl zM211 q211_38 rfl ?_
        refine zb2_eq zM211 q211_39 (tgt := 67) rfl (fun hc => ?_) (fun hc => ?_)
        · have hw := hw.1 hc
          refine zweak (a := [some (.ref 82), some (.int a1), none, none, none]) ?_ hw
          exact ⟨rfl, ⟨rfl, trivial⟩⟩
        · have hw := hw.2 hc
          refine zl zM211 q211_42 rfl ?_
          refine zkI zM211 q211_43 kI1 ?_
          refine zb2_ne zM211 q211_44 (tgt := 57) rfl (fun hc => ?_) (fun hc => ?_)
          · have hw := hw.2 hc
            exact hw
          · have hw := hw.1 hc
            refine zl zM211 q211_47 rfl ?_
            refine zkI zM211 q211_48 kI3 ?_
            refine zb2_eq zM211 q211_49 (tgt := 67) rfl (fun hc => ?_) (fun hc => ?_)
            · have hw := hw.1 hc
              refine zweak (a := [some (.ref 82), some (.int a1), none, none, none]) ?_ hw
              exact ⟨rfl, ⟨rfl, trivial⟩⟩
            · have hw := hw.2 hc
              refine zl zM211 q211_52 rfl ?_
              refine zkI zM211 q211_53 kI5 ?_
              refine zb2_eq zM211 q211_54 (tgt := 67) rfl (fun hc => ?_) (fun hc => ?_)
              · have hw := hw.1 hc
                refine zweak (a := [some (.ref 82), some (.int a1), none, none, none]) ?_ hw
                exact ⟨rfl, ⟨rfl, trivial⟩⟩
              · have hw := hw.2 hc
                exact hw
    · have hw := hw.1 hc
      refine zkB zM211 q211_23 kBm11 ?_
      exact zri zM211 q211_25 rfl rfl hw
  · have hw := hw.1 hc
    refine zkB zM211 q211_12 kBm2 ?_
    exact zri zM211 q211_14 rfl rfl hw
theorem b211_67 {X : Option (List Int32)} {d : Nat} {h : zH} {A : Int32 → zH → Prop} {l1 : Int32} (hw : zP X (d + 1) 211 72 [some (.ref 82), some (.int l1), none, none, none] [.int 1] z_S0 h (zI A)) : zP X (d + 1) 211 67 [some (.ref 82), some (.int l1), none, none, none] [] z_S0 h (zI A) := by
  refine zkI zM211 q211_67 kI1 ?_
  refine zl zM211 q211_68 (pc' := 72) (ls' := _) (st' := _) rfl ?_
  exact hw
theorem b211_57 {X : Option (List Int32)} {d : Nat} {h : zH} {A : Int32 → zH → Prop} {l1 : Int32} {l2 : Int32} {l3 : Int32} (hw : ((l2 = 2 → ((l3 = 4 → zP X (d + 1) 211 67 [some (.ref 82), some (.int l1), none, none, none] [] z_S0 h (zI A)) ∧ (¬ l3 = 4 → zP X (d + 1) 211 71 [some (.ref 82), some (.int l1), none, none, none] [] z_S0 h (zI A)))) ∧ (¬ l2 = 2 → zP X (d + 1) 211 71 [some (.ref 82), some (.int l1), none, none, none] [] z_S0 h (zI A)))) : zP X (d + 1) 211 57 [some (.ref 82), some (.int l1), some (.int l2), some (.int l3), none] [] z_S0 h (zI A) := by
  refine zl zM211 q211_57 rfl ?_
  refine zkI zM211 q211_58 kI2 ?_
  refine zb2_ne zM211 q211_59 (tgt := 71) rfl (fun hc => ?_) (fun hc => ?_)
  · have hw := hw.2 hc
    refine zweak (a := [some (.ref 82), some (.int l1), none, none, none]) ?_ hw
    exact ⟨rfl, ⟨rfl, trivial⟩⟩
  · have hw := hw.1 hc
    refine zl zM211 q211_62 rfl ?_
    refine zkI zM211 q211_63 kI4 ?_
    refine zb2_ne zM211 q211_64 (tgt := 71) rfl (fun hc => ?_) (fun hc => ?_)
    · have hw := hw.2 hc
      refine zweak (a := [some (.ref 82), some (.int l1), none, none, none]) ?_ hw
      exact ⟨rfl, ⟨rfl, trivial⟩⟩
    · have hw := hw.1 hc
      refine zweak (a := [some (.ref 82), some (.int l1), none, none, none]) ?_ hw
      exact ⟨rfl, ⟨rfl, trivial⟩⟩
theorem b211_72 {X : Option (List Int32)} {d : Nat} {h : zH} {A : Int32 → zH → Prop} {l1 : Int32} {w0 : Int32} (hw : ((w0 = 0 → A (-13) h) ∧ (¬ w0 = 0 → (z_ib l1 40 ∧ A (h 88 (Int32.toNatClampNeg l1)) h)))) : zP X (d + 1) 211 72 [some (.ref 82), some (.int l1), none, none, none] [.int w0] z_S0 h (zI A) := by
  refine zl zM211 q211_72 (ls' := [some (.ref 82), some (.int l1), none, none, some (.int w0)]) rfl ?_
  refine zl zM211 q211_74 rfl ?_
  refine zb1_eq zM211 q211_76 (tgt := 88) rfl (fun hc => ?_) (fun hc => ?_)
  · have hw := hw.1 hc
    refine zkB zM211 q211_88 kBm13 ?_
    exact zri zM211 q211_90 rfl rfl hw
  · have hw := hw.2 hc
    refine zl zM211 q211_79 rfl ?_
    refine zgR (a := 88) zM211 q211_80 (by decide) g12_45 s82 rfl ?_
    refine zl zM211 q211_83 rfl ?_
    obtain ⟨hb, hw⟩ := hw
    refine ziA zM211 q211_84 (by decide) s88 hb (v := (h 88 (Int32.toNatClampNeg l1))) rfl ?_
    refine zl zM211 q211_85 (pc' := 90) (ls' := _) (st' := _) rfl ?_
    exact zri zM211 q211_90 rfl rfl hw
theorem b211_71 {X : Option (List Int32)} {d : Nat} {h : zH} {A : Int32 → zH → Prop} {l1 : Int32} (hw : zP X (d + 1) 211 72 [some (.ref 82), some (.int l1), none, none, none] [.int 0] z_S0 h (zI A)) : zP X (d + 1) 211 71 [some (.ref 82), some (.int l1), none, none, none] [] z_S0 h (zI A) := by
  refine zkI zM211 q211_71 kI0 ?_
  exact hw

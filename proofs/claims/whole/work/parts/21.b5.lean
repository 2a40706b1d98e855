-- X12_sift
theorem b140 {X : Option (List Int32)} {d : Nat} {h : zH} {A : Int32 → zH → Prop} {a1 : Int32} {a2 : Int32} (hw : zP X d 132 0 (z_ent [.int a1] 1) [] z_S0 h (zI fun v1 h2 => ((v1 = 0 → A (-2) h2) ∧ (¬ v1 = 0 → zP X d 128 0 (z_ent [.long (Int32.toInt64 a2), .long 0, .long 99999] 6) [] z_S0 h2 (zI fun v3 h4 => ((v3 = 0 → A (-2) h4) ∧ (¬ v3 = 0 → zP X (d + 1) 140 30 [some (.ref 82), some (.int a1), none, some (.int a2), some (.int 0), some (.int 0), none] [] z_S0 h4 (zI A)))))))) : zP X (d + 1) 140 0 (z_ent [.ref 82, .int a1, .int a2] 7) [] z_S0 h (zI A) := by
  show zP X (d + 1) 140 0 [some (.ref 82), some (.int a1), some (.int a2), none, none, none, none] [] z_S0 h (zI A)
  refine zl zM140 q140_0 rfl ?_
  refine zcS zM140 q140_1 ky12_28 kl12_28 (by decide) rfl (Nat.le_of_ble_eq_true rfl) zM132 (Nat.le_of_ble_eq_true rfl) (hw.mono (fun r0 h2 hr6 => ?_))
  obtain ⟨v1, rfl, hw⟩ := hr6
  show zP X (d + 1) 140 4 [some (.ref 82), some (.int a1), some (.int a2), none, none, none, none] [.int v1] z_S0 h2 (zI A)
  refine zb1_eq zM140 q140_4 (tgt := 19) rfl (fun hc => ?_) (fun hc => ?_)
  · have hw := hw.1 hc
    refine zkB zM140 q140_19 kBm2 ?_
    exact zri zM140 q140_21 rfl rfl hw
  · have hw := hw.2 hc
    refine zl zM140 q140_7 rfl ?_
    refine zl zM140 q140_8 (pc' := 9) (st' := .long (Int32.toInt64 a2) :: _) rfl ?_
    refine zkL (v := 0) zM140 q140_9 rfl ?_
    refine zkJ zM140 q140_10 kc12_89 ?_
    refine zcS zM140 q140_13 ky12_3 kl12_3 (by decide) rfl (Nat.le_of_ble_eq_true rfl) zM128 (Nat.le_of_ble_eq_true rfl) (hw.mono (fun r0 h4 hr5 => ?_))
    obtain ⟨v3, rfl, hw⟩ := hr5
    show zP X (d + 1) 140 16 [some (.ref 82), some (.int a1), some (.int a2), none, none, none, none] [.int v3] z_S0 h4 (zI A)
    refine zb1_ne zM140 q140_16 (tgt := 22) rfl (fun hc => ?_) (fun hc => ?_)
    · have hw := hw.2 hc
      refine zl zM140 q140_22 rfl ?_
      refine zl zM140 q140_23 (ls' := [some (.ref 82), some (.int a1), some (.int a2), some (.int a2), none, none, none]) rfl ?_
      refine zkI zM140 q140_24 kI0 ?_
      refine zl zM140 q140_25 (ls' := [some (.ref 82), some (.int a1), some (.int a2), some (.int a2), some (.int 0), none, none]) rfl ?_
      refine zkI zM140 q140_27 kI0 ?_
      refine zl zM140 q140_28 (ls' := [some (.ref 82), some (.int a1), some (.int a2), some (.int a2), some (.int 0), some (.int 0), none]) rfl ?_
      refine zweak (a := [some (.ref 82), some (.int a1), none, some (.int a2), some (.int 0), some (.int 0), none]) ?_ hw
      exact ⟨rfl, ⟨rfl, ⟨rfl, ⟨rfl, ⟨rfl, trivial⟩⟩⟩⟩⟩
    · have hw := hw.1 hc
      refine zkB zM140 q140_19 kBm2 ?_
      exact zri zM140 q140_21 rfl rfl hw
theorem b140_30 {X : Option (List Int32)} {d : Nat} {h : zH} {A : Int32 → zH → Prop} {l1 : Int32} {l3 : Int32} {l4 : Int32} {l5 : Int32} (hw : ((l5 < (h 82 3) → (z_ib l5 40 ∧ (((h 87 (Int32.toNatClampNeg l5)) = l1 → (z_ib l5 40 ∧ (((h 94 (Int32.toNatClampNeg l5)) = 0 → (z_ib l5 40 ∧ ((l3 < (h 92 (Int32.toNatClampNeg l5)) → A l4 h) ∧ (¬ l3 < (h 92 (Int32.toNatClampNeg l5)) → (z_ib l5 40 ∧ (z_ib l5 40 ∧ zP X (d + 1) 140 98 [some (.ref 82), some (.int l1), none, some (.int (l3 - (h 92 (Int32.toNatClampNeg l5)))), some (.int l4), some (.int l5), some (.int 0)] [] z_S0 (z_up h 94 (Int32.toNatClampNeg l5) 1) (zI A))))))) ∧ (¬ (h 94 (Int32.toNatClampNeg l5)) = 0 → zP X (d + 1) 140 153 [some (.ref 82), some (.int l1), none, some (.int l3), some (.int l4), some (.int l5), none] [] z_S0 h (zI A))))) ∧ (¬ (h 87 (Int32.toNatClampNeg l5)) = l1 → zP X (d + 1) 140 153 [some (.ref 82), some (.int l1), none, some (.int l3), some (.int l4), some (.int l5), none] [] z_S0 h (zI A))))) ∧ (¬ l5 < (h 82 3) → A l4 h))) : zP X (d + 1) 140 30 [some (.ref 82), some (.int l1), none, some (.int l3), some (.int l4), some (.int l5), none] [] z_S0 h (zI A) := by
  refine zl zM140 q140_30 rfl ?_
  refine zl zM140 q140_32 rfl ?_
  refine zgI zM140 q140_33 (by decide) g12_21 s82 rfl (v := (h 82 3)) rfl ?_
  refine zb2_ge zM140 q140_36 (tgt := 159) rfl (fun hc => ?_) (fun hc => ?_)
  · have hw := hw.2 hc
    refine zl zM140 q140_159 rfl ?_
    exact zri zM140 q140_161 rfl rfl hw
  · have hw := hw.1 hc
    refine zl zM140 q140_39 rfl ?_
    refine zgR (a := 87) zM140 q140_40 (by decide) g12_42 s82 rfl ?_
    refine zl zM140 q140_43 rfl ?_
    obtain ⟨hb, hw⟩ := hw
    refine ziA zM140 q140_45 (by decide) s87 hb (v := (h 87 (Int32.toNatClampNeg l5))) rfl ?_
    refine zl zM140 q140_46 rfl ?_
    refine zb2_ne zM140 q140_47 (tgt := 153) rfl (fun hc => ?_) (fun hc => ?_)
    · have hw := hw.2 hc
      exact hw
    · have hw := hw.1 hc
      refine zl zM140 q140_50 rfl ?_
      refine zgR (a := 94) zM140 q140_51 (by decide) g12_85 s82 rfl ?_
      refine zl zM140 q140_54 rfl ?_
      obtain ⟨hb, hw⟩ := hw
      refine zbA zM140 q140_56 (by decide) s94 (by decide) hb (v := (h 94 (Int32.toNatClampNeg l5))) rfl ?_
      refine zb1_eq zM140 q140_57 (tgt := 63) rfl (fun hc => ?_) (fun hc => ?_)
      · have hw := hw.1 hc
        refine zl zM140 q140_63 rfl ?_
        refine zgR (a := 92) zM140 q140_64 (by decide) g12_57 s82 rfl ?_
        refine zl zM140 q140_67 rfl ?_
        obtain ⟨hb, hw⟩ := hw
        refine ziA zM140 q140_69 (by decide) s92 hb (v := (h 92 (Int32.toNatClampNeg l5))) rfl ?_
        refine zl zM140 q140_70 rfl ?_
        refine zb2_le zM140 q140_71 (tgt := 77) rfl (fun hc => ?_) (fun hc => ?_)
        · have hw := hw.2 hc
          refine zl zM140 q140_77 rfl ?_
          refine zl zM140 q140_78 rfl ?_
          refine zgR (a := 92) zM140 q140_79 (by decide) g12_57 s82 rfl ?_
          refine zl zM140 q140_82 rfl ?_
          obtain ⟨hb, hw⟩ := hw
          refine ziA zM140 q140_84 (by decide) s92 hb (v := (h 92 (Int32.toNatClampNeg l5))) rfl ?_
          refine zl zM140 q140_85 (pc' := 86) (st' := .int (l3 - (h 92 (Int32.toNatClampNeg l5))) :: _) rfl ?_
          refine zl zM140 q140_86 (ls' := [some (.ref 82), some (.int l1), none, some (.int (l3 - (h 92 (Int32.toNatClampNeg l5)))), some (.int l4), some (.int l5), none]) rfl ?_
          refine zl zM140 q140_87 rfl ?_
          refine zgR (a := 94) zM140 q140_88 (by decide) g12_85 s82 rfl ?_
          refine zl zM140 q140_91 rfl ?_
          refine zkI zM140 q140_93 kI1 ?_
          obtain ⟨hb, hw⟩ := hw
          refine zbS zM140 q140_94 (by decide) s94 (by decide) hb rfl (w := 1) rfl ?_
          refine zkI zM140 q140_95 kI0 ?_
          refine zl zM140 q140_96 (ls' := [some (.ref 82), some (.int l1), none, some (.int (l3 - (h 92 (Int32.toNatClampNeg l5)))), some (.int l4), some (.int l5), some (.int 0)]) rfl ?_
          exact hw
        · have hw := hw.1 hc
          refine zl zM140 q140_74 rfl ?_
          exact zri zM140 q140_76 rfl rfl hw
      · have hw := hw.2 hc
        refine zl zM140 q140_60 (pc' := 153) (ls' := _) (st' := _) rfl ?_
        exact hw
theorem b140_153 {X : Option (List Int32)} {d : Nat} {h : zH} {A : Int32 → zH → Prop} {l1 : Int32} {l3 : Int32} {l4 : Int32} {l5 : Int32} (hw : zP X (d + 1) 140 30 [some (.ref 82), some (.int l1), none, some (.int l3), some (.int l4), some (.int (l5 + 1)), none] [] z_S0 h (zI A)) : zP X (d + 1) 140 153 [some (.ref 82), some (.int l1), none, some (.int l3), some (.int l4), some (.int l5), none] [] z_S0 h (zI A) := by
  refine zl zM140 q140_153 (ls' := [some (.ref 82), some (.int l1), none, some (.int l3), some (.int l4), some (.int (l5 + 1)), none]) rfl ?_
  refine zl zM140 q140_156 (pc' := 30) (ls' := _) (st' := _) rfl ?_
  exact hw
theorem b140_98 {X : Option (List Int32)} {d : Nat} {h : zH} {A : Int32 → zH → Prop} {l1 : Int32} {l3 : Int32} {l4 : Int32} {l5 : Int32} {l6 : Int32} (hw : ((l6 < 4 → (z_ib l6 6 ∧ (z_ib l5 40 ∧ zP X d 136 0 (z_ent [.ref 82, .int l5, .int l6, .int (h 92 (Int32.toNatClampNeg l5))] 4) [] z_S0 h (zI fun v10 h11 => (z_ib l6 6 ∧ zP X (d + 1) 140 98 [some (.ref 82), some (.int l1), none, some (.int l3), some (.int l4), some (.int l5), some (.int (l6 + 1))] [] z_S0 (z_up h11 95 (Int32.toNatClampNeg l6) ((h 95 (Int32.toNatClampNeg l6)) + v10)) (zI A)))))) ∧ (¬ l6 < 4 → zP X d 137 0 (z_ent [.ref 82, .int l5] 4) [] z_S0 h (zI fun v7 h8 => zP X (d + 1) 140 153 [some (.ref 82), some (.int l1), none, some (.int l3), some (.int (l4 + 1)), some (.int l5), none] [] z_S0 (z_up h8 95 4 ((h 95 4) + v7)) (zI A))))) : zP X (d + 1) 140 98 [some (.ref 82), some (.int l1), none, some (.int l3), some (.int l4), some (.int l5), some (.int l6)] [] z_S0 h (zI A) := by
  refine zl zM140 q140_98 rfl ?_
  refine zkI zM140 q140_100 kI4 ?_
  refine zb2_ge zM140 q140_101 (tgt := 135) rfl (fun hc => ?_) (fun hc => ?_)
  · have hw := hw.2 hc
    refine zl zM140 q140_135 rfl ?_
    refine zgR (a := 95) zM140 q140_136 (by decide) g12_91 s82 rfl ?_
    refine zkI zM140 q140_139 kI4 ?_
    refine zl zM140 q140_140 rfl ?_
    refine ziA zM140 q140_141 (by decide) s95 (by decide) (v := (h 95 4)) rfl ?_
    refine zl zM140 q140_142 rfl ?_
    refine zl zM140 q140_143 rfl ?_
    refine zcV zM140 q140_145 kl12_78 rfl rfl (Nat.le_of_ble_eq_true rfl) rfl zM137 (Nat.le_of_ble_eq_true rfl) (hw.mono (fun r0 h8 hr9 => ?_))
    obtain ⟨v7, rfl, hw⟩ := hr9
    show zP X (d + 1) 140 148 [some (.ref 82), some (.int l1), none, some (.int l3), some (.int l4), some (.int l5), some (.int l6)] [.int v7, .int (h 95 4), .int 4, .ref 95] z_S0 h8 (zI A)
    refine zl zM140 q140_148 (pc' := 149) (st' := .int ((h 95 4) + v7) :: _) rfl ?_
    refine ziS (j := 4) zM140 q140_149 (by decide) s95 (by decide) rfl ?_
    refine zl zM140 q140_150 (ls' := [some (.ref 82), some (.int l1), none, some (.int l3), some (.int (l4 + 1)), some (.int l5), some (.int l6)]) rfl ?_
    refine zweak (a := [some (.ref 82), some (.int l1), none, some (.int l3), some (.int (l4 + 1)), some (.int l5), none]) ?_ hw
    exact ⟨rfl, ⟨rfl, ⟨rfl, ⟨rfl, ⟨rfl, trivial⟩⟩⟩⟩⟩
  · have hw := hw.1 hc
    refine zl zM140 q140_104 rfl ?_
    refine zgR (a := 95) zM140 q140_105 (by decide) g12_91 s82 rfl ?_
    refine zl zM140 q140_108 rfl ?_
    refine zl zM140 q140_110 rfl ?_
    obtain ⟨hb, hw⟩ := hw
    refine ziA zM140 q140_111 (by decide) s95 hb (v := (h 95 (Int32.toNatClampNeg l6))) rfl ?_
    refine zl zM140 q140_112 rfl ?_
    refine zl zM140 q140_113 rfl ?_
    refine zl zM140 q140_115 rfl ?_
    refine zl zM140 q140_117 rfl ?_
    refine zgR (a := 92) zM140 q140_118 (by decide) g12_57 s82 rfl ?_
    refine zl zM140 q140_121 rfl ?_
    obtain ⟨hb, hw⟩ := hw
    refine ziA zM140 q140_123 (by decide) s92 hb (v := (h 92 (Int32.toNatClampNeg l5))) rfl ?_
    refine zcV zM140 q140_124 kl12_66 rfl rfl (Nat.le_of_ble_eq_true rfl) rfl zM136 (Nat.le_of_ble_eq_true rfl) (hw.mono (fun r0 h11 hr12 => ?_))
    obtain ⟨v10, rfl, hw⟩ := hr12
    show zP X (d + 1) 140 127 [some (.ref 82), some (.int l1), none, some (.int l3), some (.int l4), some (.int l5), some (.int l6)] [.int v10, .int (h 95 (Int32.toNatClampNeg l6)), .int l6, .ref 95] z_S0 h11 (zI A)
    refine zl zM140 q140_127 (pc' := 128) (st' := .int ((h 95 (Int32.toNatClampNeg l6)) + v10) :: _) rfl ?_
    obtain ⟨hb, hw⟩ := hw
    refine ziS zM140 q140_128 (by decide) s95 hb rfl ?_
    refine zl zM140 q140_129 (ls' := [some (.ref 82), some (.int l1), none, some (.int l3), some (.int l4), some (.int l5), some (.int (l6 + 1))]) rfl ?_
    refine zl zM140 q140_132 (pc' := 98) (ls' := _) (st' := _) rfl ?_
    exact hw
-- X12_fire
theorem b141 {X : Option (List Int32)} {d : Nat} {h : zH} {A : Int32 → zH → Prop} {a1 : Int32} {a2 : Int32} (hw : zP X d 132 0 (z_ent [.int a1] 1) [] z_S0 h (zI fun v1 h2 => ((v1 = 0 → A (-2) h2) ∧ (¬ v1 = 0 → zP X d 128 0 (z_ent [.long (Int32.toInt64 a2), .long 0, .long 100] 6) [] z_S0 h2 (zI fun v3 h4 => ((v3 = 0 → A (-2) h4) ∧ (¬ v3 = 0 → zP X (d + 1) 141 27 [some (.ref 82), some (.int a1), some (.int a2), some (.int 0), some (.int 0), none] [] z_S0 h4 (zI A)))))))) : zP X (d + 1) 141 0 (z_ent [.ref 82, .int a1, .int a2] 6) [] z_S0 h (zI A) := by
  show zP X (d + 1) 141 0 [some (.ref 82), some (.int a1), some (.int a2), none, none, none] [] z_S0 h (zI A)
  refine zl zM141 q141_0 rfl ?_
  refine zcS zM141 q141_1 ky12_28 kl12_28 (by decide) rfl (Nat.le_of_ble_eq_true rfl) zM132 (Nat.le_of_ble_eq_true rfl) (hw.mono (fun r0 h2 hr6 => ?_))
  obtain ⟨v1, rfl, hw⟩ := hr6
  show zP X (d + 1) 141 4 [some (.ref 82), some (.int a1), some (.int a2), none, none, none] [.int v1] z_S0 h2 (zI A)
  refine zb1_eq zM141 q141_4 (tgt := 19) rfl (fun hc => ?_) (fun hc => ?_)
  · have hw := hw.1 hc
    refine zkB zM141 q141_19 kBm2 ?_
    exact zri zM141 q141_21 rfl rfl hw
  · have hw := hw.2 hc
    refine zl zM141 q141_7 rfl ?_
    refine zl zM141 q141_8 (pc' := 9) (st' := .long (Int32.toInt64 a2) :: _) rfl ?_
    refine zkL (v := 0) zM141 q141_9 rfl ?_
    refine zkJ zM141 q141_10 kc12_94 ?_
    refine zcS zM141 q141_13 ky12_3 kl12_3 (by decide) rfl (Nat.le_of_ble_eq_true rfl) zM128 (Nat.le_of_ble_eq_true rfl) (hw.mono (fun r0 h4 hr5 => ?_))
    obtain ⟨v3, rfl, hw⟩ := hr5
    show zP X (d + 1) 141 16 [some (.ref 82), some (.int a1), some (.int a2), none, none, none] [.int v3] z_S0 h4 (zI A)
    refine zb1_ne zM141 q141_16 (tgt := 22) rfl (fun hc => ?_) (fun hc => ?_)
    · have hw := hw.2 hc
      refine zkI zM141 q141_22 kI0 ?_
      refine zl zM141 q141_23 (ls' := [some (.ref 82), some (.int a1), some (.int a2), some (.int 0), none, none]) rfl ?_
      refine zkI zM141 q141_24 kI0 ?_
      refine zl zM141 q141_25 (ls' := [some (.ref 82), some (.int a1), some (.int a2), some (.int 0), some (.int 0), none]) rfl ?_
      exact hw
    · have hw := hw.1 hc
      refine zkB zM141 q141_19 kBm2 ?_
      exact zri zM141 q141_21 rfl rfl hw
theorem b141_27 {X : Option (List Int32)} {d : Nat} {h : zH} {A : Int32 → zH → Prop} {l1 : Int32} {l2 : Int32} {l3 : Int32} {l4 : Int32} (hw : ((l4 < (h 82 3) → (z_ib l4 40 ∧ (((h 87 (Int32.toNatClampNeg l4)) = l1 → (z_ib l4 40 ∧ (((h 94 (Int32.toNatClampNeg l4)) = 0 → (z_ib l4 40 ∧ (z_ib l4 40 ∧ (z_ib l4 40 ∧ zP X (d + 1) 141 88 [some (.ref 82), some (.int l1), some (.int l2), some (.int (l3 + (((h 92 (Int32.toNatClampNeg l4)) * l2) / 100))), some (.int l4), none] [] z_S0 (z_up h 92 (Int32.toNatClampNeg l4) ((h 92 (Int32.toNatClampNeg l4)) - (((h 92 (Int32.toNatClampNeg l4)) * l2) / 100))) (zI A))))) ∧ (¬ (h 94 (Int32.toNatClampNeg l4)) = 0 → zP X (d + 1) 141 88 [some (.ref 82), some (.int l1), some (.int l2), some (.int l3), some (.int l4), none] [] z_S0 h (zI A))))) ∧ (¬ (h 87 (Int32.toNatClampNeg l4)) = l1 → zP X (d + 1) 141 88 [some (.ref 82), some (.int l1), some (.int l2), some (.int l3), some (.int l4), none] [] z_S0 h (zI A))))) ∧ (¬ l4 < (h 82 3) → A l3 (z_up h 95 5 ((h 95 5) + l3))))) : zP X (d + 1) 141 27 [some (.ref 82), some (.int l1), some (.int l2), some (.int l3), some (.int l4), none] [] z_S0 h (zI A) := by
  refine zl zM141 q141_27 rfl ?_
  refine zl zM141 q141_29 rfl ?_
  refine zgI zM141 q141_30 (by decide) g12_21 s82 rfl (v := (h 82 3)) rfl ?_
  refine zb2_ge zM141 q141_33 (tgt := 94) rfl (fun hc => ?_) (fun hc => ?_)
  · have hw := hw.2 hc
    refine zl zM141 q141_94 rfl ?_
    refine zgR (a := 95) zM141 q141_95 (by decide) g12_91 s82 rfl ?_
    refine zkI zM141 q141_98 kI5 ?_
    refine zl zM141 q141_99 rfl ?_
    refine ziA zM141 q141_100 (by decide) s95 (by decide) (v := (h 95 5)) rfl ?_
    refine zl zM141 q141_101 rfl ?_
    refine zl zM141 q141_102 (pc' := 103) (st' := .int ((h 95 5) + l3) :: _) rfl ?_
    refine ziS (j := 5) zM141 q141_103 (by decide) s95 (by decide) rfl ?_
    refine zl zM141 q141_104 rfl ?_
    exact zri zM141 q141_105 rfl rfl hw
  · have hw := hw.1 hc
    refine zl zM141 q141_36 rfl ?_
    refine zgR (a := 87) zM141 q141_37 (by decide) g12_42 s82 rfl ?_
    refine zl zM141 q141_40 rfl ?_
    obtain ⟨hb, hw⟩ := hw
    refine ziA zM141 q141_42 (by decide) s87 hb (v := (h 87 (Int32.toNatClampNeg l4))) rfl ?_
    refine zl zM141 q141_43 rfl ?_
    refine zb2_ne zM141 q141_44 (tgt := 88) rfl (fun hc => ?_) (fun hc => ?_)
    · have hw := hw.2 hc
      exact hw
    · have hw := hw.1 hc
      refine zl zM141 q141_47 rfl ?_
      refine zgR (a := 94) zM141 q141_48 (by decide) g12_85 s82 rfl ?_
      refine zl zM141 q141_51 rfl ?_
      obtain ⟨hb, hw⟩ := hw
      refine zbA zM141 q141_53 (by decide) s94 (by decide) hb (v := (h 94 (Int32.toNatClampNeg l4))) rfl ?_
      refine zb1_ne zM141 q141_54 (tgt := 88) rfl (fun hc => ?_) (fun hc => ?_)
      · have hw := hw.2 hc
        exact hw
      · have hw := hw.1 hc
        refine zl zM141 q141_57 rfl ?_
        refine zgR (a := 92) zM141 q141_58 (by decide) g12_57 s82 rfl ?_
        refine zl zM141 q141_61 rfl ?_
        obtain ⟨hb, hw⟩ := hw
        refine ziA zM141 q141_63 (by decide) s92 hb (v := (h 92 (Int32.toNatClampNeg l4))) rfl ?_
        refine zl zM141 q141_64 rfl ?_
        refine zl zM141 q141_65 (pc' := 66) (st' := .int ((h 92 (Int32.toNatClampNeg l4)) * l2) :: _) rfl ?_
        refine zkB zM141 q141_66 kB100 ?_
        refine zl zM141 q141_68 (pc' := 69) (st' := .int (((h 92 (Int32.toNatClampNeg l4)) * l2) / 100) :: _) rfl ?_
        refine zl zM141 q141_69 (ls' := [some (.ref 82), some (.int l1), some (.int l2), some (.int l3), some (.int l4), some (.int (((h 92 (Int32.toNatClampNeg l4)) * l2) / 100))]) rfl ?_
        refine zl zM141 q141_71 rfl ?_
        refine zgR (a := 92) zM141 q141_72 (by decide) g12_57 s82 rfl ?_
        refine zl zM141 q141_75 rfl ?_
        refine zl zM141 q141_77 rfl ?_
        obtain ⟨hb, hw⟩ := hw
        refine ziA zM141 q141_78 (by decide) s92 hb (v := (h 92 (Int32.toNatClampNeg l4))) rfl ?_
        refine zl zM141 q141_79 rfl ?_
        refine zl zM141 q141_81 (pc' := 82) (st' := .int ((h 92 (Int32.toNatClampNeg l4)) - (((h 92 (Int32.toNatClampNeg l4)) * l2) / 100)) :: _) rfl ?_
        obtain ⟨hb, hw⟩ := hw
        refine ziS zM141 q141_82 (by decide) s92 hb rfl ?_
        refine zl zM141 q141_83 rfl ?_
        refine zl zM141 q141_84 rfl ?_
        refine zl zM141 q141_86 (pc' := 87) (st' := .int (l3 + (((h 92 (Int32.toNatClampNeg l4)) * l2) / 100)) :: _) rfl ?_
        refine zl zM141 q141_87 (ls' := [some (.ref 82), some (.int l1), some (.int l2), some (.int (l3 + (((h 92 (Int32.toNatClampNeg l4)) * l2) / 100))), some (.int l4), some (.int (((h 92 (Int32.toNatClampNeg l4)) * l2) / 100))]) rfl ?_
        refine zweak (a := [some (.ref 82), some (.int l1), some (.int l2), some (.int (l3 + (((h 92 (Int32.toNatClampNeg l4)) * l2) / 100))), some (.int l4), none]) ?_ hw
        exact ⟨rfl, ⟨rfl, ⟨rfl, ⟨rfl, ⟨rfl, trivial⟩⟩⟩⟩⟩
theorem b141_88 {X : Option (List Int32)} {d : Nat} {h : zH} {A : Int32 → zH → Prop} {l1 : Int32} {l2 : Int32} {l3 : Int32} {l4 : Int32} (hw : zP X (d + 1) 141 27 [some (.ref 82), some (.int l1), some (.int l2), some (.int l3), some (.int (l4 + 1)), none] [] z_S0 h (zI A)) : zP X (d + 1) 141 88 [some (.ref 82), some (.int l1), some (.int l2), some (.int l3), some (.int l4), none] [] z_S0 h (zI A) := by
  refine zl zM141 q141_88 (ls' := [some (.ref 82), some (.int l1), some (.int l2), some (.int l3), some (.int (l4 + 1)), none]) rfl ?_
  refine zl zM141 q141_91 (pc' := 27) (ls' := _) (st' := _) rfl ?_
  exact hw
-- X12_lies
theorem b142 {X : Option (List Int32)} {d : Nat} {h : zH} {A : Int32 → zH → Prop} {a1 : Int32} (hw : zP X d 132 0 (z_ent [.int a1] 1) [] z_S0 h (zI fun v1 h2 => ((v1 = 0 → A (-2) h2) ∧ (¬ v1 = 0 → zP X (d + 1) 142 14 [some (.ref 82), some (.int a1), some (.int 0), some (.int 0)] [] z_S0 h2 (zI A))))) : zP X (d + 1) 142 0 (z_ent [.ref 82, .int a1] 4) [] z_S0 h (zI A) := by
  show zP X (d + 1) 142 0 [some (.ref 82), some (.int a1), none, none] [] z_S0 h (zI A)
  refine zl zM142 q142_0 rfl ?_
  refine zcS zM142 q142_1 ky12_28 kl12_28 (by decide) rfl (Nat.le_of_ble_eq_true rfl) zM132 (Nat.le_of_ble_eq_true rfl) (hw.mono (fun r0 h2 hr3 => ?_))
  obtain ⟨v1, rfl, hw⟩ := hr3
  show zP X (d + 1) 142 4 [some (.ref 82), some (.int a1), none, none] [.int v1] z_S0 h2 (zI A)
  refine zb1_ne zM142 q142_4 (tgt := 10) rfl (fun hc => ?_) (fun hc => ?_)
  · have hw := hw.2 hc
    refine zkI zM142 q142_10 kI0 ?_
    refine zl zM142 q142_11 (ls' := [some (.ref 82), some (.int a1), some (.int 0), none]) rfl ?_
    refine zkI zM142 q142_12 kI0 ?_
    refine zl zM142 q142_13 (ls' := [some (.ref 82), some (.int a1), some (.int 0), some (.int 0)]) rfl ?_
    exact hw
  · have hw := hw.1 hc
    refine zkB zM142 q142_7 kBm2 ?_
    exact zri zM142 q142_9 rfl rfl hw
theorem b142_14 {X : Option (List Int32)} {d : Nat} {h : zH} {A : Int32 → zH → Prop} {l1 : Int32} {l2 : Int32} {l3 : Int32} (hw : ((l3 < (h 82 3) → (z_ib l3 40 ∧ (((h 87 (Int32.toNatClampNeg l3)) = l1 → (z_ib l3 40 ∧ (((h 94 (Int32.toNatClampNeg l3)) = 0 → (z_ib l3 40 ∧ zP X (d + 1) 142 52 [some (.ref 82), some (.int l1), none, some (.int l3)] [.int (h 92 (Int32.toNatClampNeg l3)), .int l2] z_S0 h (zI A))) ∧ (¬ (h 94 (Int32.toNatClampNeg l3)) = 0 → zP X (d + 1) 142 51 [some (.ref 82), some (.int l1), none, some (.int l3)] [.int l2] z_S0 h (zI A))))) ∧ (¬ (h 87 (Int32.toNatClampNeg l3)) = l1 → zP X (d + 1) 142 51 [some (.ref 82), some (.int l1), none, some (.int l3)] [.int l2] z_S0 h (zI A))))) ∧ (¬ l3 < (h 82 3) → A l2 h))) : zP X (d + 1) 142 14 [some (.ref 82), some (.int l1), some (.int l2), some (.int l3)] [] z_S0 h (zI A) := by
  refine zl zM142 q142_14 rfl ?_
  refine zl zM142 q142_15 rfl ?_
  refine zgI zM142 q142_16 (by decide) g12_21 s82 rfl (v := (h 82 3)) rfl ?_
  refine zb2_ge zM142 q142_19 (tgt := 60) rfl (fun hc => ?_) (fun hc => ?_)
  · have hw := hw.2 hc
    refine zl zM142 q142_60 rfl ?_
    exact zri zM142 q142_61 rfl rfl hw
  · have hw := hw.1 hc
    refine zl zM142 q142_22 rfl ?_
    refine zl zM142 q142_23 rfl ?_
    refine zgR (a := 87) zM142 q142_24 (by decide) g12_42 s82 rfl ?_
    refine zl zM142 q142_27 rfl ?_
    obtain ⟨hb, hw⟩ := hw
    refine ziA zM142 q142_28 (by decide) s87 hb (v := (h 87 (Int32.toNatClampNeg l3))) rfl ?_
    refine zl zM142 q142_29 rfl ?_
    refine zb2_ne zM142 q142_30 (tgt := 51) rfl (fun hc => ?_) (fun hc => ?_)
    · have hw := hw.2 hc
      refine zweak (a := [some (.ref 82), some (.int l1), none, some (.int l3)]) ?_ hw
      exact ⟨rfl, ⟨rfl, ⟨rfl, trivial⟩⟩⟩
    · have hw := hw.1 hc
      refine zl zM142 q142_33 rfl ?_
      refine zgR (a := 94) zM142 q142_34 (by decide) g12_85 s82 rfl ?_
      refine zl zM142 q142_37 rfl ?_
      obtain ⟨hb, hw⟩ := hw
      refine zbA zM142 q142_38 (by decide) s94 (by decide) hb (v := (h 94 (Int32.toNatClampNeg l3))) rfl ?_
      refine zb1_ne zM142 q142_39 (tgt := 51) rfl (fun hc => ?_) (fun hc => ?_)
      · have hw := hw.2 hc
        refine zweak (a := [some (.ref 82), some (.int l1), none, some (.int l3)]) ?_ hw
        exact ⟨rfl, ⟨rfl, ⟨rfl, trivial⟩⟩⟩
      · have hw := hw.1 hc
        refine zl zM142 q142_42 rfl ?_
        refine zgR (a := 92) zM142 q142_43 (by decide) g12_57 s82 rfl ?_
        refine zl zM142 q142_46 rfl ?_
        obtain ⟨hb, hw⟩ := hw
        refine ziA zM142 q142_47 (by decide) s92 hb (v := (h 92 (Int32.toNatClampNeg l3))) rfl ?_
        refine zl zM142 q142_48 (pc' := 52) (ls' := _) (st' := _) rfl ?_
        refine zweak (a := [some (.ref 82), some (.int l1), none, some (.int l3)]) ?_ hw
        exact ⟨rfl, ⟨rfl, ⟨rfl, trivial⟩⟩⟩
theorem b142_51 {X : Option (List Int32)} {d : Nat} {h : zH} {A : Int32 → zH → Prop} {l1 : Int32} {l3 : Int32} {w0 : Int32} (hw : zP X (d + 1) 142 52 [some (.ref 82), some (.int l1), none, some (.int l3)] [.int 0, .int w0] z_S0 h (zI A)) : zP X (d + 1) 142 51 [some (.ref 82), some (.int l1), none, some (.int l3)] [.int w0] z_S0 h (zI A) := by
  refine zkI zM142 q142_51 kI0 ?_
  exact hw
theorem b142_52 {X : Option (List Int32)} {d : Nat} {h : zH} {A : Int32 → zH → Prop} {l1 : Int32} {l3 : Int32} {w0 : Int32} {w1 : Int32} (hw : zP X (d + 1) 142 14 [some (.ref 82), some (.int l1), some (.int (w0 + w1)), some (.int (l3 + 1))] [] z_S0 h (zI A)) : zP X (d + 1) 142 52 [some (.ref 82), some (.int l1), none, some (.int l3)] [.int w1, .int w0] z_S0 h (zI A) := by
  refine zl zM142 q142_52 (pc' := 53) (st' := .int (w0 + w1) :: _) rfl ?_
  refine zl zM142 q142_53 (ls' := [some (.ref 82), some (.int l1), some (.int (w0 + w1)), some (.int l3)]) rfl ?_
  refine zl zM142 q142_54 (ls' := [some (.ref 82), some (.int l1), some (.int (w0 + w1)), some (.int (l3 + 1))]) rfl ?_
  refine zl zM142 q142_57 (pc' := 14) (ls' := _) (st' := _) rfl ?_
  exact hw
-- X12_stock
theorem b143 {X : Option (List Int32)} {d : Nat} {h : zH} {A : Int32 → zH → Prop} {a1 : Int32} (hw : zP X d 128 0 (z_ent [.long (Int32.toInt64 a1), .long 0, .long 5] 6) [] z_S0 h (zI fun v1 h2 => ((v1 = 0 → A (-2) h2) ∧ (¬ v1 = 0 → (z_ib a1 6 ∧ A (h2 95 (Int32.toNatClampNeg a1)) h2))))) : zP X (d + 1) 143 0 (z_ent [.ref 82, .int a1] 2) [] z_S0 h (zI A) := by
  show zP X (d + 1) 143 0 [some (.ref 82), some (.int a1)] [] z_S0 h (zI A)
  refine zl zM143 q143_0 rfl ?_
  refine zl zM143 q143_1 (pc' := 2) (st' := .long (Int32.toInt64 a1) :: _) rfl ?_
  refine zkL (v := 0) zM143 q143_2 rfl ?_
  refine zkJ zM143 q143_3 kc12_15 ?_
  refine zcS zM143 q143_6 ky12_3 kl12_3 (by decide) rfl (Nat.le_of_ble_eq_true rfl) zM128 (Nat.le_of_ble_eq_true rfl) (hw.mono (fun r0 h2 hr3 => ?_))
  obtain ⟨v1, rfl, hw⟩ := hr3
  show zP X (d + 1) 143 9 [some (.ref 82), some (.int a1)] [.int v1] z_S0 h2 (zI A)
  refine zb1_eq zM143 q143_9 (tgt := 21) rfl (fun hc => ?_) (fun hc => ?_)
  · have hw := hw.1 hc
    refine zkB zM143 q143_21 kBm2 ?_
    exact zri zM143 q143_23 rfl rfl hw
  · have hw := hw.2 hc
    refine zl zM143 q143_12 rfl ?_
    refine zgR (a := 95) zM143 q143_13 (by decide) g12_91 s82 rfl ?_
    refine zl zM143 q143_16 rfl ?_
    obtain ⟨hb, hw⟩ := hw
    refine ziA zM143 q143_17 (by decide) s95 hb (v := (h2 95 (Int32.toNatClampNeg a1))) rfl ?_
    refine zl zM143 q143_18 (pc' := 23) (ls' := _) (st' := _) rfl ?_
    exact zri zM143 q143_23 rfl rfl hw
-- X12_sell
theorem b144 {X : Option (List Int32)} {d : Nat} {h : zH} {A : Int32 → zH → Prop} {a1 : Int32} {a2 : Int32} (hw : zP X d 133 0 (z_ent [.int a1] 1) [] z_S0 h (zI fun v1 h2 => ((v1 = 0 → A (-2) h2) ∧ (¬ v1 = 0 → zP X d 128 0 (z_ent [.long (Int32.toInt64 a2), .long 1, .long 99999] 6) [] z_S0 h2 (zI fun v3 h4 => ((v3 = 0 → A (-2) h4) ∧ (¬ v3 = 0 → (z_ib a1 6 ∧ (((h4 95 (Int32.toNatClampNeg a1)) < a2 → A (-3) h4) ∧ (¬ (h4 95 (Int32.toNatClampNeg a1)) < a2 → zP X d 146 0 (z_ent [.ref 82, .int a1, .int (h4 82 0), .int (h4 82 0)] 8) [] z_S0 h4 (zI fun v5 h6 => (z_ib a1 6 ∧ (z_ib a1 6 ∧ A ((a2 * v5) / 100) (z_up (z_up h6 95 (Int32.toNatClampNeg a1) ((h6 95 (Int32.toNatClampNeg a1)) - a2)) 82 15 ((h6 82 15) + ((a2 * v5) / 100)))))))))))))))) : zP X (d + 1) 144 0 (z_ent [.ref 82, .int a1, .int a2] 4) [] z_S0 h (zI A) := by
  show zP X (d + 1) 144 0 [some (.ref 82), some (.int a1), some (.int a2), none] [] z_S0 h (zI A)
  refine zl zM144 q144_0 rfl ?_
  refine zcS zM144 q144_1 ky12_96 kl12_96 (by decide) rfl (Nat.le_of_ble_eq_true rfl) zM133 (Nat.le_of_ble_eq_true rfl) (hw.mono (fun r0 h2 hr9 => ?_))
  obtain ⟨v1, rfl, hw⟩ := hr9
  show zP X (d + 1) 144 4 [some (.ref 82), some (.int a1), some (.int a2), none] [.int v1] z_S0 h2 (zI A)
  refine zb1_eq zM144 q144_4 (tgt := 19) rfl (fun hc => ?_) (fun hc => ?_)
  · have hw := hw.1 hc
    refine zkB zM144 q144_19 kBm2 ?_
    exact zri zM144 q144_21 rfl rfl hw
  · have hw := hw.2 hc
    refine zl zM144 q144_7 rfl ?_
    refine zl zM144 q144_8 (pc' := 9) (st' := .long (Int32.toInt64 a2) :: _) rfl ?_
    refine zkL (v := 1) zM144 q144_9 rfl ?_
    refine zkJ zM144 q144_10 kc12_89 ?_
    refine zcS zM144 q144_13 ky12_3 kl12_3 (by decide) rfl (Nat.le_of_ble_eq_true rfl) zM128 (Nat.le_of_ble_eq_true rfl) (hw.mono (fun r0 h4 hr8 => ?_))
    obtain ⟨v3, rfl, hw⟩ := hr8
    show zP X (d + 1) 144 16 [some (.ref 82), some (.int a1), some (.int a2), none] [.int v3] z_S0 h4 (zI A)
    refine zb1_ne zM144 q144_16 (tgt := 22) rfl (fun hc => ?_) (fun hc => ?_)
    · have hw := hw.2 hc
      refine zl zM144 q144_22 rfl ?_
      refine zl zM144 q144_23 rfl ?_
      refine zgR (a := 95) zM144 q144_24 (by decide) g12_91 s82 rfl ?_
      refine zl zM144 q144_27 rfl ?_
      obtain ⟨hb, hw⟩ := hw
      refine ziA zM144 q144_28 (by decide) s95 hb (v := (h4 95 (Int32.toNatClampNeg a1))) rfl ?_
      refine zb2_le zM144 q144_29 (tgt := 35) rfl (fun hc => ?_) (fun hc => ?_)
      · have hw := hw.2 hc
        refine zl zM144 q144_35 rfl ?_
        refine zl zM144 q144_36 rfl ?_
        refine zl zM144 q144_37 rfl ?_
        refine zl zM144 q144_38 rfl ?_
        refine zgI zM144 q144_39 (by decide) g12_9 s82 rfl (v := (h4 82 0)) rfl ?_
        refine zl zM144 q144_42 rfl ?_
        refine zgI zM144 q144_43 (by decide) g12_9 s82 rfl (v := (h4 82 0)) rfl ?_
        refine zcV zM144 q144_46 kl12_99 rfl rfl (Nat.le_of_ble_eq_true rfl) rfl zM146 (Nat.le_of_ble_eq_true rfl) (hw.mono (fun r0 h6 hr7 => ?_))
        obtain ⟨v5, rfl, hw⟩ := hr7
        show zP X (d + 1) 144 49 [some (.ref 82), some (.int a1), some (.int a2), none] [.int v5, .int a2] z_S0 h6 (zI A)
        refine zl zM144 q144_49 (pc' := 50) (st' := .int (a2 * v5) :: _) rfl ?_
        refine zkB zM144 q144_50 kB100 ?_
        refine zl zM144 q144_52 (pc' := 53) (st' := .int ((a2 * v5) / 100) :: _) rfl ?_
        refine zl zM144 q144_53 (ls' := [some (.ref 82), some (.int a1), some (.int a2), some (.int ((a2 * v5) / 100))]) rfl ?_
        refine zl zM144 q144_54 rfl ?_
        refine zgR (a := 95) zM144 q144_55 (by decide) g12_91 s82 rfl ?_
        refine zl zM144 q144_58 rfl ?_
        refine zl zM144 q144_59 rfl ?_
        obtain ⟨hb, hw⟩ := hw
        refine ziA zM144 q144_60 (by decide) s95 hb (v := (h6 95 (Int32.toNatClampNeg a1))) rfl ?_
        refine zl zM144 q144_61 rfl ?_
        refine zl zM144 q144_62 (pc' := 63) (st' := .int ((h6 95 (Int32.toNatClampNeg a1)) - a2) :: _) rfl ?_
        obtain ⟨hb, hw⟩ := hw
        refine ziS zM144 q144_63 (by decide) s95 hb rfl ?_
        refine zl zM144 q144_64 rfl ?_
        refine zl zM144 q144_65 rfl ?_
        refine zgI zM144 q144_66 (by decide) g12_102 s82 rfl (v := (h6 82 15)) rfl ?_
        refine zl zM144 q144_69 rfl ?_
        refine zl zM144 q144_70 (pc' := 71) (st' := .int ((h6 82 15) + ((a2 * v5) / 100)) :: _) rfl ?_
        refine zpi zM144 q144_71 (by decide) g12_102 s82 rfl rfl ?_
        refine zl zM144 q144_74 rfl ?_
        exact zri zM144 q144_75 rfl rfl hw
      · have hw := hw.1 hc
        refine zkB zM144 q144_32 kBm3 ?_
        exact zri zM144 q144_34 rfl rfl hw
    · have hw := hw.1 hc
      refine zkB zM144 q144_19 kBm2 ?_
      exact zri zM144 q144_21 rfl rfl hw
-- X12_price
theorem b145 {X : Option (List Int32)} {d : Nat} {h : zH} {A : Int32 → zH → Prop} {a1 : Int32} {a2 : Int32} {a3 : Int32} (hw : zP X d 133 0 (z_ent [.int a1] 1) [] z_S0 h (zI fun v1 h2 => ((v1 = 0 → A (-2) h2) ∧ (¬ v1 = 0 → zP X d 130 0 (z_ent [.int a2] 1) [] z_S0 h2 (zI fun v3 h4 => ((v3 = 0 → A (-2) h4) ∧ (¬ v3 = 0 → zP X d 128 0 (z_ent [.long (Int32.toInt64 a3), .long 0, .long 999] 6) [] z_S0 h4 (zI fun v5 h6 => ((v5 = 0 → A (-2) h6) ∧ (¬ v5 = 0 → (((h6 82 16) = 40 → A (-4) h6) ∧ (¬ (h6 82 16) = 40 → (z_ib (h6 82 16) 40 ∧ (z_ib (h6 82 16) 40 ∧ (z_ib (h6 82 16) 40 ∧ (z_ib (h6 82 16) 40 ∧ A ((h6 82 16) + 1) (z_up (z_up (z_up (z_up (z_up h6 96 (Int32.toNatClampNeg (h6 82 16)) a1) 97 (Int32.toNatClampNeg (h6 82 16)) a2) 98 (Int32.toNatClampNeg (h6 82 16)) a3) 99 (Int32.toNatClampNeg (h6 82 16)) (h6 82 0)) 82 16 ((h6 82 16) + 1)))))))))))))))))) : zP X (d + 1) 145 0 (z_ent [.ref 82, .int a1, .int a2, .int a3] 4) [] z_S0 h (zI A) := by
  show zP X (d + 1) 145 0 [some (.ref 82), some (.int a1), some (.int a2), some (.int a3)] [] z_S0 h (zI A)
  refine zl zM145 q145_0 rfl ?_
  refine zcS zM145 q145_1 ky12_96 kl12_96 (by decide) rfl (Nat.le_of_ble_eq_true rfl) zM133 (Nat.le_of_ble_eq_true rfl) (hw.mono (fun r0 h2 hr9 => ?_))
  obtain ⟨v1, rfl, hw⟩ := hr9
  show zP X (d + 1) 145 4 [some (.ref 82), some (.int a1), some (.int a2), some (.int a3)] [.int v1] z_S0 h2 (zI A)
  refine zb1_eq zM145 q145_4 (tgt := 26) rfl (fun hc => ?_) (fun hc => ?_)
  · have hw := hw.1 hc
    refine zkB zM145 q145_26 kBm2 ?_
    exact zri zM145 q145_28 rfl rfl hw
  · have hw := hw.2 hc
    refine zl zM145 q145_7 rfl ?_
    refine zcS zM145 q145_8 ky12_105 kl12_105 (by decide) rfl (Nat.le_of_ble_eq_true rfl) zM130 (Nat.le_of_ble_eq_true rfl) (hw.mono (fun r0 h4 hr8 => ?_))
    obtain ⟨v3, rfl, hw⟩ := hr8
    show zP X (d + 1) 145 11 [some (.ref 82), some (.int a1), some (.int a2), some (.int a3)] [.int v3] z_S0 h4 (zI A)
    refine zb1_eq zM145 q145_11 (tgt := 26) rfl (fun hc => ?_) (fun hc => ?_)
    · have hw := hw.1 hc
      refine zkB zM145 q145_26 kBm2 ?_
      exact zri zM145 q145_28 rfl rfl hw
    · have hw := hw.2 hc
      refine zl zM145 q145_14 rfl ?_
      refine zl zM145 q145_15 (pc' := 16) (st' := .long (Int32.toInt64 a3) :: _) rfl ?_
      refine zkL (v := 0) zM145 q145_16 rfl ?_
      refine zkJ zM145 q145_17 kc12_108 ?_
      refine zcS zM145 q145_20 ky12_3 kl12_3 (by decide) rfl (Nat.le_of_ble_eq_true rfl) zM128 (Nat.le_of_ble_eq_true rfl) (hw.mono (fun r0 h6 hr7 => ?_))
      obtain ⟨v5, rfl, hw⟩ := hr7
      show zP X (d + 1) 145 23 [some (.ref 82), some (.int a1), some (.int a2), some (.int a3)] [.int v5] z_S0 h6 (zI A)
      refine zb1_ne zM145 q145_23 (tgt := 29) rfl (fun hc => ?_) (fun hc => ?_)
      · have hw := hw.2 hc
        refine zl zM145 q145_29 rfl ?_
        refine zgI zM145 q145_30 (by decide) g12_110 s82 rfl (v := (h6 82 16)) rfl ?_
        refine zkB zM145 q145_33 kB40 ?_
        refine zb2_ne zM145 q145_35 (tgt := 41) rfl (fun hc => ?_) (fun hc => ?_)
        · have hw := hw.2 hc
          refine zl zM145 q145_41 rfl ?_
          refine zgR (a := 96) zM145 q145_42 (by decide) g12_113 s82 rfl ?_
          refine zl zM145 q145_45 rfl ?_
          refine zgI zM145 q145_46 (by decide) g12_110 s82 rfl (v := (h6 82 16)) rfl ?_
          refine zl zM145 q145_49 rfl ?_
          obtain ⟨hb, hw⟩ := hw
          refine ziS zM145 q145_50 (by decide) s96 hb rfl ?_
          refine zl zM145 q145_51 rfl ?_
          refine zgR (a := 97) zM145 q145_52 (by decide) g12_116 s82 rfl ?_
          refine zl zM145 q145_55 rfl ?_
          refine zgI zM145 q145_56 (by decide) g12_110 s82 rfl (v := (h6 82 16)) rfl ?_
          refine zl zM145 q145_59 rfl ?_
          obtain ⟨hb, hw⟩ := hw
          refine ziS zM145 q145_60 (by decide) s97 hb rfl ?_
          refine zl zM145 q145_61 rfl ?_
          refine zgR (a := 98) zM145 q145_62 (by decide) g12_119 s82 rfl ?_
          refine zl zM145 q145_65 rfl ?_
          refine zgI zM145 q145_66 (by decide) g12_110 s82 rfl (v := (h6 82 16)) rfl ?_
          refine zl zM145 q145_69 rfl ?_
          obtain ⟨hb, hw⟩ := hw
          refine ziS zM145 q145_70 (by decide) s98 hb rfl ?_
          refine zl zM145 q145_71 rfl ?_
          refine zgR (a := 99) zM145 q145_72 (by decide) g12_122 s82 rfl ?_
          refine zl zM145 q145_75 rfl ?_
          refine zgI zM145 q145_76 (by decide) g12_110 s82 rfl (v := (h6 82 16)) rfl ?_
          refine zl zM145 q145_79 rfl ?_
          refine zgI zM145 q145_80 (by decide) g12_9 s82 rfl (v := (h6 82 0)) rfl ?_
          obtain ⟨hb, hw⟩ := hw
          refine ziS zM145 q145_83 (by decide) s99 hb rfl ?_
          refine zl zM145 q145_84 rfl ?_
          refine zl zM145 q145_85 rfl ?_
          refine zgI zM145 q145_86 (by decide) g12_110 s82 rfl (v := (h6 82 16)) rfl ?_
          refine zkI zM145 q145_89 kI1 ?_
          refine zl zM145 q145_90 (pc' := 91) (st' := .int ((h6 82 16) + 1) :: _) rfl ?_
          refine zpi zM145 q145_91 (by decide) g12_110 s82 rfl rfl ?_
          refine zl zM145 q145_94 rfl ?_
          refine zgI zM145 q145_95 (by decide) g12_110 s82 rfl (v := ((h6 82 16) + 1)) rfl ?_
          exact zri zM145 q145_98 rfl rfl hw
        · have hw := hw.1 hc
          refine zkB zM145 q145_38 kBm4 ?_
          exact zri zM145 q145_40 rfl rfl hw
      · have hw := hw.1 hc
        refine zkB zM145 q145_26 kBm2 ?_
        exact zri zM145 q145_28 rfl rfl hw
-- X12_priceAsKnown
theorem b146 {X : Option (List Int32)} {d : Nat} {h : zH} {A : Int32 → zH → Prop} {a1 : Int32} {a2 : Int32} {a3 : Int32} (hw : zP X d 146 9 [some (.ref 82), some (.int a1), some (.int a2), some (.int a3), some (.int (-1)), some (.int 0), some (.int 0), none] [] z_S0 h (zI A)) : zP X d 146 0 (z_ent [.ref 82, .int a1, .int a2, .int a3] 8) [] z_S0 h (zI A) := by
  show zP X d 146 0 [some (.ref 82), some (.int a1), some (.int a2), some (.int a3), none, none, none, none] [] z_S0 h (zI A)
  refine zkI zM146 q146_0 kIm1 ?_
  refine zl zM146 q146_1 (ls' := [some (.ref 82), some (.int a1), some (.int a2), some (.int a3), some (.int (-1)), none, none, none]) rfl ?_
  refine zkI zM146 q146_3 kI0 ?_
  refine zl zM146 q146_4 (ls' := [some (.ref 82), some (.int a1), some (.int a2), some (.int a3), some (.int (-1)), some (.int 0), none, none]) rfl ?_
  refine zkI zM146 q146_6 kI0 ?_
  refine zl zM146 q146_7 (ls' := [some (.ref 82), some (.int a1), some (.int a2), some (.int a3), some (.int (-1)), some (.int 0), some (.int 0), none]) rfl ?_
  exact hw
theorem b146_9 {X : Option (List Int32)} {d : Nat} {h : zH} {A : Int32 → zH → Prop} {l1 : Int32} {l2 : Int32} {l3 : Int32} {l4 : Int32} {l5 : Int32} {l6 : Int32} (hw : ((l6 < (h 82 16) → (z_ib l6 40 ∧ (((h 96 (Int32.toNatClampNeg l6)) = l1 → (z_ib l6 40 ∧ ((l3 < (h 99 (Int32.toNatClampNeg l6)) → zP X d 146 67 [some (.ref 82), some (.int l1), some (.int l2), some (.int l3), some (.int l4), some (.int l5), some (.int l6), none] [] z_S0 h (zI A)) ∧ (¬ l3 < (h 99 (Int32.toNatClampNeg l6)) → (z_ib l6 40 ∧ ((l2 < (h 97 (Int32.toNatClampNeg l6)) → zP X d 146 67 [some (.ref 82), some (.int l1), some (.int l2), some (.int l3), some (.int l4), some (.int l5), some (.int l6), none] [] z_S0 h (zI A)) ∧ (¬ l2 < (h 97 (Int32.toNatClampNeg l6)) → (z_ib l6 40 ∧ (((h 97 (Int32.toNatClampNeg l6)) < l4 → zP X d 146 67 [some (.ref 82), some (.int l1), some (.int l2), some (.int l3), some (.int l4), some (.int l5), some (.int l6), none] [] z_S0 h (zI A)) ∧ (¬ (h 97 (Int32.toNatClampNeg l6)) < l4 → zP X d 146 68 [some (.ref 82), some (.int l1), some (.int l2), some (.int l3), some (.int l4), some (.int l5), some (.int l6), none] [.int 1] z_S0 h (zI A))))))))))) ∧ (¬ (h 96 (Int32.toNatClampNeg l6)) = l1 → zP X d 146 67 [some (.ref 82), some (.int l1), some (.int l2), some (.int l3), some (.int l4), some (.int l5), some (.int l6), none] [] z_S0 h (zI A))))) ∧ (¬ l6 < (h 82 16) → A l5 h))) : zP X d 146 9 [some (.ref 82), some (.int l1), some (.int l2), some (.int l3), some (.int l4), some (.int l5), some (.int l6), none] [] z_S0 h (zI A) := by
  refine zl zM146 q146_9 rfl ?_
  refine zl zM146 q146_11 rfl ?_
  refine zgI zM146 q146_12 (by decide) g12_110 s82 rfl (v := (h 82 16)) rfl ?_
  refine zb2_ge zM146 q146_15 (tgt := 99) rfl (fun hc => ?_) (fun hc => ?_)
  · have hw := hw.2 hc
    refine zl zM146 q146_99 rfl ?_
    exact zri zM146 q146_101 rfl rfl hw
  · have hw := hw.1 hc
    refine zl zM146 q146_18 rfl ?_
    refine zgR (a := 96) zM146 q146_19 (by decide) g12_113 s82 rfl ?_
    refine zl zM146 q146_22 rfl ?_
    obtain ⟨hb, hw⟩ := hw
    refine ziA zM146 q146_24 (by decide) s96 hb (v := (h 96 (Int32.toNatClampNeg l6))) rfl ?_
    refine zl zM146 q146_25 rfl ?_
    refine zb2_ne zM146 q146_26 (tgt := 67) rfl (fun hc => ?_) (fun hc => ?_)
    · have hw := hw.2 hc
      exact hw
    · have hw := hw.1 hc
      refine zl zM146 q146_29 rfl ?_
      refine zgR (a := 99) zM146 q146_30 (by decide) g12_122 s82 rfl ?_
      refine zl zM146 q146_33 rfl ?_
      obtain ⟨hb, hw⟩ := hw
      refine ziA zM146 q146_35 (by decide) s99 hb (v := (h 99 (Int32.toNatClampNeg l6))) rfl ?_
      refine zl zM146 q146_36 rfl ?_
      refine zb2_gt zM146 q146_37 (tgt := 67) rfl (fun hc => ?_) (fun hc => ?_)
      · have hw := hw.1 hc
        exact hw
      · have hw := hw.2 hc
        refine zl zM146 q146_40 rfl ?_
        refine zgR (a := 97) zM146 q146_41 (by decide) g12_116 s82 rfl ?_
        refine zl zM146 q146_44 rfl ?_
        obtain ⟨hb, hw⟩ := hw
        refine ziA zM146 q146_46 (by decide) s97 hb (v := (h 97 (Int32.toNatClampNeg l6))) rfl ?_
        refine zl zM146 q146_47 rfl ?_
        refine zb2_gt zM146 q146_48 (tgt := 67) rfl (fun hc => ?_) (fun hc => ?_)
        · have hw := hw.1 hc
          exact hw
        · have hw := hw.2 hc
          refine zl zM146 q146_51 rfl ?_
          refine zgR (a := 97) zM146 q146_52 (by decide) g12_116 s82 rfl ?_
          refine zl zM146 q146_55 rfl ?_
          obtain ⟨hb, hw⟩ := hw
          refine ziA zM146 q146_57 (by decide) s97 hb (v := (h 97 (Int32.toNatClampNeg l6))) rfl ?_
          refine zl zM146 q146_58 rfl ?_
          refine zb2_lt zM146 q146_60 (tgt := 67) rfl (fun hc => ?_) (fun hc => ?_)
          · have hw := hw.1 hc
            exact hw
          · have hw := hw.2 hc
            refine zkI zM146 q146_63 kI1 ?_
            refine zl zM146 q146_64 (pc' := 68) (ls' := _) (st' := _) rfl ?_
            exact hw
theorem b146_67 {X : Option (List Int32)} {d : Nat} {h : zH} {A : Int32 → zH → Prop} {l1 : Int32} {l2 : Int32} {l3 : Int32} {l4 : Int32} {l5 : Int32} {l6 : Int32} (hw : zP X d 146 68 [some (.ref 82), some (.int l1), some (.int l2), some (.int l3), some (.int l4), some (.int l5), some (.int l6), none] [.int 0] z_S0 h (zI A)) : zP X d 146 67 [some (.ref 82), some (.int l1), some (.int l2), some (.int l3), some (.int l4), some (.int l5), some (.int l6), none] [] z_S0 h (zI A) := by
  refine zkI zM146 q146_67 kI0 ?_
  exact hw
theorem b146_68 {X : Option (List Int32)} {d : Nat} {h : zH} {A : Int32 → zH → Prop} {l1 : Int32} {l2 : Int32} {l3 : Int32} {l4 : Int32} {l5 : Int32} {l6 : Int32} {w0 : Int32} (hw : ((w0 = 0 → zP X d 146 93 [some (.ref 82), some (.int l1), some (.int l2), some (.int l3), some (.int l4), some (.int l5), some (.int l6), none] [] z_S0 h (zI A)) ∧ (¬ w0 = 0 → (z_ib l6 40 ∧ (z_ib l6 40 ∧ zP X d 146 93 [some (.ref 82), some (.int l1), some (.int l2), some (.int l3), some (.int (h 97 (Int32.toNatClampNeg l6))), some (.int (h 98 (Int32.toNatClampNeg l6))), some (.int l6), none] [] z_S0 h (zI A)))))) : zP X d 146 68 [some (.ref 82), some (.int l1), some (.int l2), some (.int l3), some (.int l4), some (.int l5), some (.int l6), none] [.int w0] z_S0 h (zI A) := by
  refine zl zM146 q146_68 (ls' := [some (.ref 82), some (.int l1), some (.int l2), some (.int l3), some (.int l4), some (.int l5), some (.int l6), some (.int w0)]) rfl ?_
  refine zl zM146 q146_70 rfl ?_
  refine zb1_eq zM146 q146_72 (tgt := 93) rfl (fun hc => ?_) (fun hc => ?_)
  · have hw := hw.1 hc
    refine zweak (a := [some (.ref 82), some (.int l1), some (.int l2), some (.int l3), some (.int l4), some (.int l5), some (.int l6), none]) ?_ hw
    exact ⟨rfl, ⟨rfl, ⟨rfl, ⟨rfl, ⟨rfl, ⟨rfl, ⟨rfl, trivial⟩⟩⟩⟩⟩⟩⟩
  · have hw := hw.2 hc
    refine zl zM146 q146_75 rfl ?_
    refine zgR (a := 97) zM146 q146_76 (by decide) g12_116 s82 rfl ?_
    refine zl zM146 q146_79 rfl ?_
    obtain ⟨hb, hw⟩ := hw
    refine ziA zM146 q146_81 (by decide) s97 hb (v := (h 97 (Int32.toNatClampNeg l6))) rfl ?_
    refine zl zM146 q146_82 (ls' := [some (.ref 82), some (.int l1), some (.int l2), some (.int l3), some (.int (h 97 (Int32.toNatClampNeg l6))), some (.int l5), some (.int l6), some (.int w0)]) rfl ?_
    refine zl zM146 q146_84 rfl ?_
    refine zgR (a := 98) zM146 q146_85 (by decide) g12_119 s82 rfl ?_
    refine zl zM146 q146_88 rfl ?_
    obtain ⟨hb, hw⟩ := hw
    refine ziA zM146 q146_90 (by decide) s98 hb (v := (h 98 (Int32.toNatClampNeg l6))) rfl ?_
    refine zl zM146 q146_91 (ls' := [some (.ref 82), some (.int l1), some (.int l2), some (.int l3), some (.int (h 97 (Int32.toNatClampNeg l6))), some (.int (h 98 (Int32.toNatClampNeg l6))), some (.int l6), some (.int w0)]) rfl ?_
    refine zweak (a := [some (.ref 82), some (.int l1), some (.int l2), some (.int l3), some (.int (h 97 (Int32.toNatClampNeg l6))), some (.int (h 98 (Int32.toNatClampNeg l6))), some (.int l6), none]) ?_ hw
    exact ⟨rfl, ⟨rfl, ⟨rfl, ⟨rfl, ⟨rfl, ⟨rfl, ⟨rfl, trivial⟩⟩⟩⟩⟩⟩⟩
theorem b146_93 {X : Option (List Int32)} {d : Nat} {h : zH} {A : Int32 → zH → Prop} {l1 : Int32} {l2 : Int32} {l3 : Int32} {l4 : Int32} {l5 : Int32} {l6 : Int32} (hw : zP X d 146 9 [some (.ref 82), some (.int l1), some (.int l2), some (.int l3), some (.int l4), some (.int l5), some (.int (l6 + 1)), none] [] z_S0 h (zI A)) : zP X d 146 93 [some (.ref 82), some (.int l1), some (.int l2), some (.int l3), some (.int l4), some (.int l5), some (.int l6), none] [] z_S0 h (zI A) := by
  refine zl zM146 q146_93 (ls' := [some (.ref 82), some (.int l1), some (.int l2), some (.int l3), some (.int l4), some (.int l5), some (.int (l6 + 1)), none]) rfl ?_
  refine zl zM146 q146_96 (pc' := 9) (ls' := _) (st' := _) rfl ?_
  exact hw
-- X12_priceOf
theorem b147 {X : Option (List Int32)} {d : Nat} {h : zH} {A : Int32 → zH → Prop} {a1 : Int32} {a2 : Int32} {a3 : Int32} (hw : zP X d 133 0 (z_ent [.int a1] 1) [] z_S0 h (zI fun v1 h2 => ((v1 = 0 → A (-2) h2) ∧ (¬ v1 = 0 → zP X d 130 0 (z_ent [.int a2] 1) [] z_S0 h2 (zI fun v3 h4 => ((v3 = 0 → A (-2) h4) ∧ (¬ v3 = 0 → zP X d 128 0 (z_ent [.long (Int32.toInt64 a3), .long 0, .long (Int32.toInt64 (h4 82 0))] 6) [] z_S0 h4 (zI fun v5 h6 => ((v5 = 0 → A (-2) h6) ∧ (¬ v5 = 0 → zP X d 146 0 (z_ent [.ref 82, .int a1, .int a2, .int a3] 8) [] z_S0 h6 (zI fun v7 h8 => A v7 h8))))))))))) : zP X (d + 1) 147 0 (z_ent [.ref 82, .int a1, .int a2, .int a3] 4) [] z_S0 h (zI A) := by
  show zP X (d + 1) 147 0 [some (.ref 82), some (.int a1), some (.int a2), some (.int a3)] [] z_S0 h (zI A)
  refine zl zM147 q147_0 rfl ?_
  refine zcS zM147 q147_1 ky12_96 kl12_96 (by decide) rfl (Nat.le_of_ble_eq_true rfl) zM133 (Nat.le_of_ble_eq_true rfl) (hw.mono (fun r0 h2 hr12 => ?_))
  obtain ⟨v1, rfl, hw⟩ := hr12
  show zP X (d + 1) 147 4 [some (.ref 82), some (.int a1), some (.int a2), some (.int a3)] [.int v1] z_S0 h2 (zI A)
  refine zb1_eq zM147 q147_4 (tgt := 28) rfl (fun hc => ?_) (fun hc => ?_)
  · have hw := hw.1 hc
    refine zkB zM147 q147_28 kBm2 ?_
    exact zri zM147 q147_30 rfl rfl hw
  · have hw := hw.2 hc
    refine zl zM147 q147_7 rfl ?_
    refine zcS zM147 q147_8 ky12_105 kl12_105 (by decide) rfl (Nat.le_of_ble_eq_true rfl) zM130 (Nat.le_of_ble_eq_true rfl) (hw.mono (fun r0 h4 hr11 => ?_))
    obtain ⟨v3, rfl, hw⟩ := hr11
    show zP X (d + 1) 147 11 [some (.ref 82), some (.int a1), some (.int a2), some (.int a3)] [.int v3] z_S0 h4 (zI A)
    refine zb1_eq zM147 q147_11 (tgt := 28) rfl (fun hc => ?_) (fun hc => ?_)
    · have hw := hw.1 hc
      refine zkB zM147 q147_28 kBm2 ?_
      exact zri zM147 q147_30 rfl rfl hw
    · have hw := hw.2 hc
      refine zl zM147 q147_14 rfl ?_
      refine zl zM147 q147_15 (pc' := 16) (st' := .long (Int32.toInt64 a3) :: _) rfl ?_
      refine zkL (v := 0) zM147 q147_16 rfl ?_
      refine zl zM147 q147_17 rfl ?_
      refine zgI zM147 q147_18 (by decide) g12_9 s82 rfl (v := (h4 82 0)) rfl ?_
      refine zl zM147 q147_21 (pc' := 22) (st' := .long (Int32.toInt64 (h4 82 0)) :: _) rfl ?_
      refine zcS zM147 q147_22 ky12_3 kl12_3 (by decide) rfl (Nat.le_of_ble_eq_true rfl) zM128 (Nat.le_of_ble_eq_true rfl) (hw.mono (fun r0 h6 hr10 => ?_))
      obtain ⟨v5, rfl, hw⟩ := hr10
      show zP X (d + 1) 147 25 [some (.ref 82), some (.int a1), some (.int a2), some (.int a3)] [.int v5] z_S0 h6 (zI A)
      refine zb1_ne zM147 q147_25 (tgt := 31) rfl (fun hc => ?_) (fun hc => ?_)
      · have hw := hw.2 hc
        refine zl zM147 q147_31 rfl ?_
        refine zl zM147 q147_32 rfl ?_
        refine zl zM147 q147_33 rfl ?_
        refine zl zM147 q147_34 rfl ?_
        refine zcV zM147 q147_35 kl12_99 rfl rfl (Nat.le_of_ble_eq_true rfl) rfl zM146 (Nat.le_of_ble_eq_true rfl) (hw.mono (fun r0 h8 hr9 => ?_))
        obtain ⟨v7, rfl, hw⟩ := hr9
        show zP X (d + 1) 147 38 [some (.ref 82), some (.int a1), some (.int a2), some (.int a3)] [.int v7] z_S0 h8 (zI A)
        exact zri zM147 q147_38 rfl rfl hw
      · have hw := hw.1 hc
        refine zkB zM147 q147_28 kBm2 ?_
        exact zri zM147 q147_30 rfl rfl hw
-- X12_feed
theorem b148 {X : Option (List Int32)} {d : Nat} {h : zH} {A : Int32 → zH → Prop} {a1 : Int32} {a2 : Int64} (hw : zP X d 128 0 (z_ent [.long (Int32.toInt64 a1), .long 1, .long 8] 6) [] z_S0 h (zI fun v1 h2 => ((v1 = 0 → A (-2) h2) ∧ (¬ v1 = 0 → (((160 : Int32) < ((h2 82 22) + a1) → A (-4) h2) ∧ (¬ (160 : Int32) < ((h2 82 22) + a1) → zP X (d + 1) 148 33 [some (.ref 82), some (.int a1), some (.long a2), none, some (.int 0)] [] z_S0 h2 (zI A))))))) : zP X (d + 1) 148 0 (z_ent [.ref 82, .int a1, .long a2] 5) [] z_S0 h (zI A) := by
  show zP X (d + 1) 148 0 [some (.ref 82), some (.int a1), some (.long a2), none, none] [] z_S0 h (zI A)
  refine zl zM148 q148_0 rfl ?_
  refine zl zM148 q148_1 (pc' := 2) (st' := .long (Int32.toInt64 a1) :: _) rfl ?_
  refine zkL (v := 1) zM148 q148_2 rfl ?_
  refine zkJ zM148 q148_3 kc12_125 ?_
  refine zcS zM148 q148_6 ky12_3 kl12_3 (by decide) rfl (Nat.le_of_ble_eq_true rfl) zM128 (Nat.le_of_ble_eq_true rfl) (hw.mono (fun r0 h2 hr3 => ?_))
  obtain ⟨v1, rfl, hw⟩ := hr3
  show zP X (d + 1) 148 9 [some (.ref 82), some (.int a1), some (.long a2), none, none] [.int v1] z_S0 h2 (zI A)
  refine zb1_ne zM148 q148_9 (tgt := 15) rfl (fun hc => ?_) (fun hc => ?_)
  · have hw := hw.2 hc
    refine zl zM148 q148_15 rfl ?_
    refine zgI zM148 q148_16 (by decide) g12_127 s82 rfl (v := (h2 82 22)) rfl ?_
    refine zl zM148 q148_19 rfl ?_
    refine zl zM148 q148_20 (pc' := 21) (st' := .int ((h2 82 22) + a1) :: _) rfl ?_
    refine zkS zM148 q148_21 kS160 ?_
    refine zb2_le zM148 q148_24 (tgt := 30) rfl (fun hc => ?_) (fun hc => ?_)
    · have hw := hw.2 hc
      refine zkI zM148 q148_30 kI0 ?_
      refine zl zM148 q148_31 (ls' := [some (.ref 82), some (.int a1), some (.long a2), none, some (.int 0)]) rfl ?_
      exact hw
    · have hw := hw.1 hc
      refine zkB zM148 q148_27 kBm4 ?_
      exact zri zM148 q148_29 rfl rfl hw
  · have hw := hw.1 hc
    refine zkB zM148 q148_12 kBm2 ?_
    exact zri zM148 q148_14 rfl rfl hw
theorem b148_33 {X : Option (List Int32)} {d : Nat} {h : zH} {A : Int32 → zH → Prop} {l1 : Int32} {l2 : Int64} {l4 : Int32} (hw : ((l4 < l1 → (z_ib (h 82 22) 160 ∧ zP X (d + 1) 148 33 [some (.ref 82), some (.int l1), some (.long l2), none, some (.int (l4 + 1))] [] z_S0 (z_up (z_up h 100 (Int32.toNatClampNeg (h 82 22)) (vp_nar .byte ((Int32.toInt8 (Int64.toInt32 (l2 >>> (Int32.toInt64 (8 * l4) &&& 63)))).toInt32))) 82 22 ((h 82 22) + 1)) (zI A))) ∧ (¬ l4 < l1 → A (h 82 22) h))) : zP X (d + 1) 148 33 [some (.ref 82), some (.int l1), some (.long l2), none, some (.int l4)] [] z_S0 h (zI A) := by
  refine zl zM148 q148_33 rfl ?_
  refine zl zM148 q148_35 rfl ?_
  refine zb2_ge zM148 q148_36 (tgt := 73) rfl (fun hc => ?_) (fun hc => ?_)
  · have hw := hw.2 hc
    refine zl zM148 q148_73 rfl ?_
    refine zgI zM148 q148_74 (by decide) g12_127 s82 rfl (v := (h 82 22)) rfl ?_
    exact zri zM148 q148_77 rfl rfl hw
  · have hw := hw.1 hc
    refine zl zM148 q148_39 rfl ?_
    refine zgR (a := 100) zM148 q148_40 (by decide) g12_130 s82 rfl ?_
    refine zl zM148 q148_43 rfl ?_
    refine zgI zM148 q148_44 (by decide) g12_127 s82 rfl (v := (h 82 22)) rfl ?_
    refine zl zM148 q148_47 rfl ?_
    refine zkB zM148 q148_48 kB8 ?_
    refine zl zM148 q148_50 rfl ?_
    refine zl zM148 q148_52 (pc' := 53) (st' := .int (8 * l4) :: _) rfl ?_
    refine zl zM148 q148_53 (pc' := 54) (st' := .long (l2 >>> (Int32.toInt64 (8 * l4) &&& 63)) :: _) rfl ?_
    refine zl zM148 q148_54 (pc' := 55) (st' := .int (Int64.toInt32 (l2 >>> (Int32.toInt64 (8 * l4) &&& 63))) :: _) rfl ?_
    refine zl zM148 q148_55 (pc' := 56) (st' := .int ((Int32.toInt8 (Int64.toInt32 (l2 >>> (Int32.toInt64 (8 * l4) &&& 63)))).toInt32) :: _) rfl ?_
    obtain ⟨hb, hw⟩ := hw
    refine zbS zM148 q148_56 (by decide) s100 (by decide) hb rfl (w := (vp_nar .byte ((Int32.toInt8 (Int64.toInt32 (l2 >>> (Int32.toInt64 (8 * l4) &&& 63)))).toInt32))) rfl ?_
    refine zl zM148 q148_57 rfl ?_
    refine zl zM148 q148_58 rfl ?_
    refine zgI zM148 q148_59 (by decide) g12_127 s82 rfl (v := (h 82 22)) rfl ?_
    refine zkI zM148 q148_62 kI1 ?_
    refine zl zM148 q148_63 (pc' := 64) (st' := .int ((h 82 22) + 1) :: _) rfl ?_
    refine zpi zM148 q148_64 (by decide) g12_127 s82 rfl rfl ?_
    refine zl zM148 q148_67 (ls' := [some (.ref 82), some (.int l1), some (.long l2), none, some (.int (l4 + 1))]) rfl ?_
    refine zl zM148 q148_70 (pc' := 33) (ls' := _) (st' := _) rfl ?_
    exact hw
-- X12_isLetter
theorem b149 {X : Option (List Int32)} {d : Nat} {h : zH} {A : Int32 → zH → Prop} {a1 : Int32} (hw : ((a1 < (h 82 22) → (z_ib a1 160 ∧ (((h 100 (Int32.toNatClampNeg a1)) < 97 → A 0 h) ∧ (¬ (h 100 (Int32.toNatClampNeg a1)) < 97 → (z_ib a1 160 ∧ (((122 : Int32) < (h 100 (Int32.toNatClampNeg a1)) → A 0 h) ∧ (¬ (122 : Int32) < (h 100 (Int32.toNatClampNeg a1)) → A 1 h))))))) ∧ (¬ a1 < (h 82 22) → A 0 h))) : zP X d 149 0 (z_ent [.ref 82, .int a1] 2) [] z_S0 h (zI A) := by
  show zP X d 149 0 [some (.ref 82), some (.int a1)] [] z_S0 h (zI A)
  refine zl zM149 q149_0 rfl ?_
  refine zl zM149 q149_1 rfl ?_
  refine zgI zM149 q149_2 (by decide) g12_127 s82 rfl (v := (h 82 22)) rfl ?_
  refine zb2_ge zM149 q149_5 (tgt := 34) rfl (fun hc => ?_) (fun hc => ?_)
  · have hw := hw.2 hc
    refine zkI zM149 q149_34 kI0 ?_
    exact zri zM149 q149_35 rfl rfl hw
  · have hw := hw.1 hc
    refine zl zM149 q149_8 rfl ?_
    refine zgR (a := 100) zM149 q149_9 (by decide) g12_130 s82 rfl ?_
    refine zl zM149 q149_12 rfl ?_
    obtain ⟨hb, hw⟩ := hw
    refine zbA zM149 q149_13 (by decide) s100 (by decide) hb (v := (h 100 (Int32.toNatClampNeg a1))) rfl ?_
    refine zkB zM149 q149_14 kB97 ?_
    refine zb2_lt zM149 q149_16 (tgt := 34) rfl (fun hc => ?_) (fun hc => ?_)
    · have hw := hw.1 hc
      refine zkI zM149 q149_34 kI0 ?_
      exact zri zM149 q149_35 rfl rfl hw
    · have hw := hw.2 hc
      refine zl zM149 q149_19 rfl ?_
      refine zgR (a := 100) zM149 q149_20 (by decide) g12_130 s82 rfl ?_
      refine zl zM149 q149_23 rfl ?_
      obtain ⟨hb, hw⟩ := hw
      refine zbA zM149 q149_24 (by decide) s100 (by decide) hb (v := (h 100 (Int32.toNatClampNeg a1))) rfl ?_
      refine zkB zM149 q149_25 kB122 ?_
      refine zb2_gt zM149 q149_27 (tgt := 34) rfl (fun hc => ?_) (fun hc => ?_)
      · have hw := hw.1 hc
        refine zkI zM149 q149_34 kI0 ?_
        exact zri zM149 q149_35 rfl rfl hw
      · have hw := hw.2 hc
        refine zkI zM149 q149_30 kI1 ?_
        refine zl zM149 q149_31 (pc' := 35) (ls' := _) (st' := _) rfl ?_
        exact zri zM149 q149_35 rfl rfl hw
-- X12_isDigit
theorem b150 {X : Option (List Int32)} {d : Nat} {h : zH} {A : Int32 → zH → Prop} {a1 : Int32} (hw : ((a1 < (h 82 22) → (z_ib a1 160 ∧ (((h 100 (Int32.toNatClampNeg a1)) < 48 → A 0 h) ∧ (¬ (h 100 (Int32.toNatClampNeg a1)) < 48 → (z_ib a1 160 ∧ (((57 : Int32) < (h 100 (Int32.toNatClampNeg a1)) → A 0 h) ∧ (¬ (57 : Int32) < (h 100 (Int32.toNatClampNeg a1)) → A 1 h))))))) ∧ (¬ a1 < (h 82 22) → A 0 h))) : zP X d 150 0 (z_ent [.ref 82, .int a1] 2) [] z_S0 h (zI A) := by
  show zP X d 150 0 [some (.ref 82), some (.int a1)] [] z_S0 h (zI A)
  refine zl zM150 q150_0 rfl ?_
  refine zl zM150 q150_1 rfl ?_
  refine zgI zM150 q150_2 (by decide) g12_127 s82 rfl (v := (h 82 22)) rfl ?_
  refine zb2_ge zM150 q150_5 (tgt := 34) rfl (fun hc => ?_) (fun hc => ?_)
  · have hw := hw.2 hc
    refine zkI zM150 q150_34 kI0 ?_
    exact zri zM150 q150_35 rfl rfl hw
  · have hw := hw.1 hc
    refine zl zM150 q150_8 rfl ?_
    refine zgR (a := 100) zM150 q150_9 (by decide) g12_130 s82 rfl ?_
    refine zl zM150 q150_12 rfl ?_
    obtain ⟨hb, hw⟩ := hw
    refine zbA zM150 q150_13 (by decide) s100 (by decide) hb (v := (h 100 (Int32.toNatClampNeg a1))) rfl ?_
    refine zkB zM150 q150_14 kB48 ?_
    refine zb2_lt zM150 q150_16 (tgt := 34) rfl (fun hc => ?_) (fun hc => ?_)
    · have hw := hw.1 hc
      refine zkI zM150 q150_34 kI0 ?_
      exact zri zM150 q150_35 rfl rfl hw
    · have hw := hw.2 hc
      refine zl zM150 q150_19 rfl ?_
      refine zgR (a := 100) zM150 q150_20 (by decide) g12_130 s82 rfl ?_
      refine zl zM150 q150_23 rfl ?_
      obtain ⟨hb, hw⟩ := hw
      refine zbA zM150 q150_24 (by decide) s100 (by decide) hb (v := (h 100 (Int32.toNatClampNeg a1))) rfl ?_
      refine zkB zM150 q150_25 kB57 ?_
      refine zb2_gt zM150 q150_27 (tgt := 34) rfl (fun hc => ?_) (fun hc => ?_)
      · have hw := hw.1 hc
        refine zkI zM150 q150_34 kI0 ?_
        exact zri zM150 q150_35 rfl rfl hw
      · have hw := hw.2 hc
        refine zkI zM150 q150_30 kI1 ?_
        refine zl zM150 q150_31 (pc' := 35) (ls' := _) (st' := _) rfl ?_
        exact zri zM150 q150_35 rfl rfl hw
-- X12_readWord
theorem b151 {X : Option (List Int32)} {d : Nat} {h : zH} {A : zH → Prop}  (hw : zP X (d + 1) 151 0 [some (.ref 82), none, none, none, none] [] z_S0 h (zV A)) : zP X (d + 1) 151 0 (z_ent [.ref 82] 5) [] z_S0 h (zV A) := by
  show zP X (d + 1) 151 0 [some (.ref 82), none, none, none, none] [] z_S0 h (zV A)
  exact hw
theorem b151_0 {X : Option (List Int32)} {d : Nat} {h : zH} {A : zH → Prop}  (hw : zP X d 149 0 (z_ent [.ref 82, .int (h 82 26)] 2) [] z_S0 h (zI fun v1 h2 => ((v1 = 0 → zP X (d + 1) 151 31 [some (.ref 82), some (.int 0), none, none, none] [] z_S0 (z_up h2 82 27 5) (zV A)) ∧ (¬ v1 = 0 → zP X (d + 1) 151 0 [some (.ref 82), none, none, none, none] [] z_S0 (z_up h2 82 26 ((h2 82 26) + 1)) (zV A))))) : zP X (d + 1) 151 0 [some (.ref 82), none, none, none, none] [] z_S0 h (zV A) := by
  refine zl zM151 q151_0 rfl ?_
  refine zl zM151 q151_1 rfl ?_
  refine zgI zM151 q151_2 (by decide) g12_134 s82 rfl (v := (h 82 26)) rfl ?_
  refine zcV zM151 q151_5 kl12_137 rfl rfl (Nat.le_of_ble_eq_true rfl) rfl zM149 (Nat.le_of_ble_eq_true rfl) (hw.mono (fun r0 h2 hr3 => ?_))
  obtain ⟨v1, rfl, hw⟩ := hr3
  show zP X (d + 1) 151 8 [some (.ref 82), none, none, none, none] [.int v1] z_S0 h2 (zV A)
  refine zb1_eq zM151 q151_8 (tgt := 24) rfl (fun hc => ?_) (fun hc => ?_)
  · have hw := hw.1 hc
    refine zl zM151 q151_24 rfl ?_
    refine zkI zM151 q151_25 kI5 ?_
    refine zpi zM151 q151_26 (by decide) g12_140 s82 rfl rfl ?_
    refine zkI zM151 q151_29 kI0 ?_
    refine zl zM151 q151_30 (ls' := [some (.ref 82), some (.int 0), none, none, none]) rfl ?_
    exact hw
  · have hw := hw.2 hc
    refine zl zM151 q151_11 rfl ?_
    refine zl zM151 q151_12 rfl ?_
    refine zgI zM151 q151_13 (by decide) g12_134 s82 rfl (v := (h2 82 26)) rfl ?_
    refine zkI zM151 q151_16 kI1 ?_
    refine zl zM151 q151_17 (pc' := 18) (st' := .int ((h2 82 26) + 1) :: _) rfl ?_
    refine zpi zM151 q151_18 (by decide) g12_134 s82 rfl rfl ?_
    refine zl zM151 q151_21 (pc' := 0) (ls' := _) (st' := _) rfl ?_
    exact hw
theorem b151_31 {X : Option (List Int32)} {d : Nat} {h : zH} {A : zH → Prop} {l1 : Int32} (hw : ((l1 < 12 → (z_ib (l1 + 1) 13 ∧ (z_ib l1 13 ∧ ((((h 104 (Int32.toNatClampNeg (l1 + 1))) - (h 104 (Int32.toNatClampNeg l1))) = ((h 82 26) - (h 82 29)) → zP X (d + 1) 151 71 [some (.ref 82), some (.int l1), some (.int ((h 104 (Int32.toNatClampNeg (l1 + 1))) - (h 104 (Int32.toNatClampNeg l1)))), none, none] [.int 1] z_S0 h (zV A)) ∧ (¬ ((h 104 (Int32.toNatClampNeg (l1 + 1))) - (h 104 (Int32.toNatClampNeg l1))) = ((h 82 26) - (h 82 29)) → zP X (d + 1) 151 71 [some (.ref 82), some (.int l1), some (.int ((h 104 (Int32.toNatClampNeg (l1 + 1))) - (h 104 (Int32.toNatClampNeg l1)))), none, none] [.int 0] z_S0 h (zV A)))))) ∧ (¬ l1 < 12 → A h))) : zP X (d + 1) 151 31 [some (.ref 82), some (.int l1), none, none, none] [] z_S0 h (zV A) := by
  refine zl zM151 q151_31 rfl ?_
  refine zkB zM151 q151_32 kB12 ?_
  refine zb2_ge zM151 q151_34 (tgt := 169) rfl (fun hc => ?_) (fun hc => ?_)
  · have hw := hw.2 hc
    exact zrv zM151 q151_169 rfl hw
  · have hw := hw.1 hc
    refine zl zM151 q151_37 rfl ?_
    refine zgR (a := 104) zM151 q151_38 (by decide) g12_143 s82 rfl ?_
    refine zl zM151 q151_41 rfl ?_
    refine zkI zM151 q151_42 kI1 ?_
    refine zl zM151 q151_43 (pc' := 44) (st' := .int (l1 + 1) :: _) rfl ?_
    obtain ⟨hb, hw⟩ := hw
    refine ziA zM151 q151_44 (by decide) s104 hb (v := (h 104 (Int32.toNatClampNeg (l1 + 1)))) rfl ?_
    refine zl zM151 q151_45 rfl ?_
    refine zgR (a := 104) zM151 q151_46 (by decide) g12_143 s82 rfl ?_
    refine zl zM151 q151_49 rfl ?_
    obtain ⟨hb, hw⟩ := hw
    refine ziA zM151 q151_50 (by decide) s104 hb (v := (h 104 (Int32.toNatClampNeg l1))) rfl ?_
    refine zl zM151 q151_51 (pc' := 52) (st' := .int ((h 104 (Int32.toNatClampNeg (l1 + 1))) - (h 104 (Int32.toNatClampNeg l1))) :: _) rfl ?_
    refine zl zM151 q151_52 (ls' := [some (.ref 82), some (.int l1), some (.int ((h 104 (Int32.toNatClampNeg (l1 + 1))) - (h 104 (Int32.toNatClampNeg l1)))), none, none]) rfl ?_
    refine zl zM151 q151_53 rfl ?_
    refine zl zM151 q151_54 rfl ?_
    refine zgI zM151 q151_55 (by decide) g12_134 s82 rfl (v := (h 82 26)) rfl ?_
    refine zl zM151 q151_58 rfl ?_
    refine zgI zM151 q151_59 (by decide) g12_146 s82 rfl (v := (h 82 29)) rfl ?_
    refine zl zM151 q151_62 (pc' := 63) (st' := .int ((h 82 26) - (h 82 29)) :: _) rfl ?_
    refine zb2_ne zM151 q151_63 (tgt := 70) rfl (fun hc => ?_) (fun hc => ?_)
    · have hw := hw.2 hc
      refine zkI zM151 q151_70 kI0 ?_
      exact hw
    · have hw := hw.1 hc
      refine zkI zM151 q151_66 kI1 ?_
      refine zl zM151 q151_67 (pc' := 71) (ls' := _) (st' := _) rfl ?_
      exact hw
theorem b151_71 {X : Option (List Int32)} {d : Nat} {h : zH} {A : zH → Prop} {l1 : Int32} {l2 : Int32} {w0 : Int32} (hw : zP X (d + 1) 151 75 [some (.ref 82), some (.int l1), some (.int l2), some (.int w0), some (.int 0)] [] z_S0 h (zV A)) : zP X (d + 1) 151 71 [some (.ref 82), some (.int l1), some (.int l2), none, none] [.int w0] z_S0 h (zV A) := by
  refine zl zM151 q151_71 (ls' := [some (.ref 82), some (.int l1), some (.int l2), some (.int w0), none]) rfl ?_
  refine zkI zM151 q151_72 kI0 ?_
  refine zl zM151 q151_73 (ls' := [some (.ref 82), some (.int l1), some (.int l2), some (.int w0), some (.int 0)]) rfl ?_
  exact hw
theorem b151_75 {X : Option (List Int32)} {d : Nat} {h : zH} {A : zH → Prop} {l1 : Int32} {l2 : Int32} {l3 : Int32} {l4 : Int32} (hw : ((l4 < l2 → ((l3 = 0 → zP X (d + 1) 151 126 [some (.ref 82), some (.int l1), none, some (.int l3), none] [] z_S0 h (zV A)) ∧ (¬ l3 = 0 → (z_ib ((h 82 29) + l4) 160 ∧ (z_ib l1 13 ∧ (z_ib ((h 104 (Int32.toNatClampNeg l1)) + l4) 46 ∧ (((h 100 (Int32.toNatClampNeg ((h 82 29) + l4))) = (h 103 (Int32.toNatClampNeg ((h 104 (Int32.toNatClampNeg l1)) + l4))) → zP X (d + 1) 151 119 [some (.ref 82), some (.int l1), some (.int l2), none, some (.int l4)] [.int 1] z_S0 h (zV A)) ∧ (¬ (h 100 (Int32.toNatClampNeg ((h 82 29) + l4))) = (h 103 (Int32.toNatClampNeg ((h 104 (Int32.toNatClampNeg l1)) + l4))) → zP X (d + 1) 151 119 [some (.ref 82), some (.int l1), some (.int l2), none, some (.int l4)] [.int 0] z_S0 h (zV A))))))))) ∧ (¬ l4 < l2 → zP X (d + 1) 151 126 [some (.ref 82), some (.int l1), none, some (.int l3), none] [] z_S0 h (zV A)))) : zP X (d + 1) 151 75 [some (.ref 82), some (.int l1), some (.int l2), some (.int l3), some (.int l4)] [] z_S0 h (zV A) := by
  refine zl zM151 q151_75 rfl ?_
  refine zl zM151 q151_77 rfl ?_
  refine zb2_ge zM151 q151_78 (tgt := 126) rfl (fun hc => ?_) (fun hc => ?_)
  · have hw := hw.2 hc
    refine zweak (a := [some (.ref 82), some (.int l1), none, some (.int l3), none]) ?_ hw
    exact ⟨rfl, ⟨rfl, ⟨rfl, trivial⟩⟩⟩
  · have hw := hw.1 hc
    refine zl zM151 q151_81 rfl ?_
    refine zb1_eq zM151 q151_82 (tgt := 126) rfl (fun hc => ?_) (fun hc => ?_)
    · have hw := hw.1 hc
      refine zweak (a := [some (.ref 82), some (.int l1), none, some (.int l3), none]) ?_ hw
      exact ⟨rfl, ⟨rfl, ⟨rfl, trivial⟩⟩⟩
    · have hw := hw.2 hc
      refine zl zM151 q151_85 rfl ?_
      refine zgR (a := 100) zM151 q151_86 (by decide) g12_130 s82 rfl ?_
      refine zl zM151 q151_89 rfl ?_
      refine zgI zM151 q151_90 (by decide) g12_146 s82 rfl (v := (h 82 29)) rfl ?_
      refine zl zM151 q151_93 rfl ?_
      refine zl zM151 q151_95 (pc' := 96) (st' := .int ((h 82 29) + l4) :: _) rfl ?_
      obtain ⟨hb, hw⟩ := hw
      refine zbA zM151 q151_96 (by decide) s100 (by decide) hb (v := (h 100 (Int32.toNatClampNeg ((h 82 29) + l4)))) rfl ?_
      refine zl zM151 q151_97 rfl ?_
      refine zgR (a := 103) zM151 q151_98 (by decide) g12_149 s82 rfl ?_
      refine zl zM151 q151_101 rfl ?_
      refine zgR (a := 104) zM151 q151_102 (by decide) g12_143 s82 rfl ?_
      refine zl zM151 q151_105 rfl ?_
      obtain ⟨hb, hw⟩ := hw
      refine ziA zM151 q151_106 (by decide) s104 hb (v := (h 104 (Int32.toNatClampNeg l1))) rfl ?_
      refine zl zM151 q151_107 rfl ?_
      refine zl zM151 q151_109 (pc' := 110) (st' := .int ((h 104 (Int32.toNatClampNeg l1)) + l4) :: _) rfl ?_
      obtain ⟨hb, hw⟩ := hw
      refine zcA zM151 q151_110 (by decide) s103 hb (v := (h 103 (Int32.toNatClampNeg ((h 104 (Int32.toNatClampNeg l1)) + l4)))) rfl ?_
      refine zb2_ne zM151 q151_111 (tgt := 118) rfl (fun hc => ?_) (fun hc => ?_)
      · have hw := hw.2 hc
        refine zkI zM151 q151_118 kI0 ?_
        refine zweak (a := [some (.ref 82), some (.int l1), some (.int l2), none, some (.int l4)]) ?_ hw
        exact ⟨rfl, ⟨rfl, ⟨rfl, ⟨rfl, trivial⟩⟩⟩⟩
      · have hw := hw.1 hc
        refine zkI zM151 q151_114 kI1 ?_
        refine zl zM151 q151_115 (pc' := 119) (ls' := _) (st' := _) rfl ?_
        refine zweak (a := [some (.ref 82), some (.int l1), some (.int l2), none, some (.int l4)]) ?_ hw
        exact ⟨rfl, ⟨rfl, ⟨rfl, ⟨rfl, trivial⟩⟩⟩⟩
theorem b151_126 {X : Option (List Int32)} {d : Nat} {h : zH} {A : zH → Prop} {l1 : Int32} {l3 : Int32} (hw : ((l3 = 0 → zP X (d + 1) 151 163 [some (.ref 82), some (.int l1), none, none, none] [] z_S0 h (zV A)) ∧ (¬ l3 = 0 → ((l1 < 6 → zP X (d + 1) 151 142 [some (.ref 82), some (.int l1), none, none, none] [.int 2, .ref 82] z_S0 h (zV A)) ∧ (¬ l1 < 6 → zP X (d + 1) 151 142 [some (.ref 82), some (.int l1), none, none, none] [.int 4, .ref 82] z_S0 h (zV A)))))) : zP X (d + 1) 151 126 [some (.ref 82), some (.int l1), none, some (.int l3), none] [] z_S0 h (zV A) := by
  refine zl zM151 q151_126 rfl ?_
  refine zb1_eq zM151 q151_127 (tgt := 163) rfl (fun hc => ?_) (fun hc => ?_)
  · have hw := hw.1 hc
    refine zweak (a := [some (.ref 82), some (.int l1), none, none, none]) ?_ hw
    exact ⟨rfl, ⟨rfl, trivial⟩⟩
  · have hw := hw.2 hc
    refine zl zM151 q151_130 rfl ?_
    refine zl zM151 q151_131 rfl ?_
    refine zkB zM151 q151_132 kB6 ?_
    refine zb2_ge zM151 q151_134 (tgt := 141) rfl (fun hc => ?_) (fun hc => ?_)
    · have hw := hw.2 hc
      refine zkI zM151 q151_141 kI4 ?_
      refine zweak (a := [some (.ref 82), some (.int l1), none, none, none]) ?_ hw
      exact ⟨rfl, ⟨rfl, trivial⟩⟩
    · have hw := hw.1 hc
      refine zkI zM151 q151_137 kI2 ?_
      refine zl zM151 q151_138 (pc' := 142) (ls' := _) (st' := _) rfl ?_
      refine zweak (a := [some (.ref 82), some (.int l1), none, none, none]) ?_ hw
      exact ⟨rfl, ⟨rfl, trivial⟩⟩
theorem b151_119 {X : Option (List Int32)} {d : Nat} {h : zH} {A : zH → Prop} {l1 : Int32} {l2 : Int32} {l4 : Int32} {w0 : Int32} (hw : zP X (d + 1) 151 75 [some (.ref 82), some (.int l1), some (.int l2), some (.int w0), some (.int (l4 + 1))] [] z_S0 h (zV A)) : zP X (d + 1) 151 119 [some (.ref 82), some (.int l1), some (.int l2), none, some (.int l4)] [.int w0] z_S0 h (zV A) := by
  refine zl zM151 q151_119 (ls' := [some (.ref 82), some (.int l1), some (.int l2), some (.int w0), some (.int l4)]) rfl ?_
  refine zl zM151 q151_120 (ls' := [some (.ref 82), some (.int l1), some (.int l2), some (.int w0), some (.int (l4 + 1))]) rfl ?_
  refine zl zM151 q151_123 (pc' := 75) (ls' := _) (st' := _) rfl ?_
  exact hw
theorem b151_163 {X : Option (List Int32)} {d : Nat} {h : zH} {A : zH → Prop} {l1 : Int32} (hw : zP X (d + 1) 151 31 [some (.ref 82), some (.int (l1 + 1)), none, none, none] [] z_S0 h (zV A)) : zP X (d + 1) 151 163 [some (.ref 82), some (.int l1), none, none, none] [] z_S0 h (zV A) := by
  refine zl zM151 q151_163 (ls' := [some (.ref 82), some (.int (l1 + 1)), none, none, none]) rfl ?_
  refine zl zM151 q151_166 (pc' := 31) (ls' := _) (st' := _) rfl ?_
  exact hw
theorem b151_142 {X : Option (List Int32)} {d : Nat} {h : zH} {A : zH → Prop} {l1 : Int32} {w1 : Int32} (hw : ((l1 < 6 → zP X (d + 1) 151 160 [some (.ref 82), some (.int l1), none, none, none] [.int l1, .ref 82] z_S0 (z_up h 82 27 w1) (zV A)) ∧ (¬ l1 < 6 → zP X (d + 1) 151 160 [some (.ref 82), some (.int l1), none, none, none] [.int (l1 - 6), .ref 82] z_S0 (z_up h 82 27 w1) (zV A)))) : zP X (d + 1) 151 142 [some (.ref 82), some (.int l1), none, none, none] [.int w1, .ref 82] z_S0 h (zV A) := by
  refine zpi zM151 q151_142 (by decide) g12_140 s82 rfl rfl ?_
  refine zl zM151 q151_145 rfl ?_
  refine zl zM151 q151_146 rfl ?_
  refine zkB zM151 q151_147 kB6 ?_
  refine zb2_ge zM151 q151_149 (tgt := 156) rfl (fun hc => ?_) (fun hc => ?_)
  · have hw := hw.2 hc
    refine zl zM151 q151_156 rfl ?_
    refine zkB zM151 q151_157 kB6 ?_
    refine zl zM151 q151_159 (pc' := 160) (st' := .int (l1 - 6) :: _) rfl ?_
    exact hw
  · have hw := hw.1 hc
    refine zl zM151 q151_152 rfl ?_
    refine zl zM151 q151_153 (pc' := 160) (ls' := _) (st' := _) rfl ?_
    exact hw
theorem b151_160 {X : Option (List Int32)} {d : Nat} {h : zH} {A : zH → Prop} {l1 : Int32} {w1 : Int32} (hw : zP X (d + 1) 151 163 [some (.ref 82), some (.int l1), none, none, none] [] z_S0 (z_up h 82 28 w1) (zV A)) : zP X (d + 1) 151 160 [some (.ref 82), some (.int l1), none, none, none] [.int w1, .ref 82] z_S0 h (zV A) := by
  refine zpi zM151 q151_160 (by decide) g12_153 s82 rfl rfl ?_
  exact hw
-- X12_readNumber
theorem b152 {X : Option (List Int32)} {d : Nat} {h : zH} {A : zH → Prop}  (hw : zP X (d + 1) 152 5 [some (.ref 82)] [] z_S0 (z_up h 82 28 0) (zV A)) : zP X (d + 1) 152 0 (z_ent [.ref 82] 1) [] z_S0 h (zV A) := by
  show zP X (d + 1) 152 0 [some (.ref 82)] [] z_S0 h (zV A)
  refine zl zM152 q152_0 rfl ?_
  refine zkI zM152 q152_1 kI0 ?_
  refine zpi zM152 q152_2 (by decide) g12_153 s82 rfl rfl ?_
  exact hw
theorem b152_5 {X : Option (List Int32)} {d : Nat} {h : zH} {A : zH → Prop}  (hw : zP X d 150 0 (z_ent [.ref 82, .int (h 82 26)] 2) [] z_S0 h (zI fun v1 h2 => ((v1 = 0 → (((4 : Int32) < ((h2 82 26) - (h2 82 29)) → A (z_up h2 82 27 5)) ∧ (¬ (4 : Int32) < ((h2 82 26) - (h2 82 29)) → A (z_up h2 82 27 1)))) ∧ (¬ v1 = 0 → ((((h2 82 26) - (h2 82 29)) < 4 → (z_ib (h2 82 26) 160 ∧ zP X (d + 1) 152 57 [some (.ref 82)] [.int (((10 * (h2 82 28)) + (h2 100 (Int32.toNatClampNeg (h2 82 26)))) - 48), .ref 82] z_S0 h2 (zV A))) ∧ (¬ ((h2 82 26) - (h2 82 29)) < 4 → zP X (d + 1) 152 57 [some (.ref 82)] [.int (h2 82 28), .ref 82] z_S0 h2 (zV A))))))) : zP X (d + 1) 152 5 [some (.ref 82)] [] z_S0 h (zV A) := by
  refine zl zM152 q152_5 rfl ?_
  refine zl zM152 q152_6 rfl ?_
  refine zgI zM152 q152_7 (by decide) g12_134 s82 rfl (v := (h 82 26)) rfl ?_
  refine zcV zM152 q152_10 kl12_156 rfl rfl (Nat.le_of_ble_eq_true rfl) rfl zM150 (Nat.le_of_ble_eq_true rfl) (hw.mono (fun r0 h2 hr3 => ?_))
  obtain ⟨v1, rfl, hw⟩ := hr3
  show zP X (d + 1) 152 13 [some (.ref 82)] [.int v1] z_S0 h2 (zV A)
  refine zb1_eq zM152 q152_13 (tgt := 73) rfl (fun hc => ?_) (fun hc => ?_)
  · have hw := hw.1 hc
    refine zl zM152 q152_73 rfl ?_
    refine zl zM152 q152_74 rfl ?_
    refine zgI zM152 q152_75 (by decide) g12_134 s82 rfl (v := (h2 82 26)) rfl ?_
    refine zl zM152 q152_78 rfl ?_
    refine zgI zM152 q152_79 (by decide) g12_146 s82 rfl (v := (h2 82 29)) rfl ?_
    refine zl zM152 q152_82 (pc' := 83) (st' := .int ((h2 82 26) - (h2 82 29)) :: _) rfl ?_
    refine zkI zM152 q152_83 kI4 ?_
    refine zb2_le zM152 q152_84 (tgt := 91) rfl (fun hc => ?_) (fun hc => ?_)
    · have hw := hw.2 hc
      refine zkI zM152 q152_91 kI1 ?_
      refine zpi zM152 q152_92 (by decide) g12_140 s82 rfl rfl ?_
      exact zrv zM152 q152_95 rfl hw
    · have hw := hw.1 hc
      refine zkI zM152 q152_87 kI5 ?_
      refine zl zM152 q152_88 (pc' := 92) (ls' := _) (st' := _) rfl ?_
      refine zpi zM152 q152_92 (by decide) g12_140 s82 rfl rfl ?_
      exact zrv zM152 q152_95 rfl hw
  · have hw := hw.2 hc
    refine zl zM152 q152_16 rfl ?_
    refine zl zM152 q152_17 rfl ?_
    refine zgI zM152 q152_18 (by decide) g12_134 s82 rfl (v := (h2 82 26)) rfl ?_
    refine zl zM152 q152_21 rfl ?_
    refine zgI zM152 q152_22 (by decide) g12_146 s82 rfl (v := (h2 82 29)) rfl ?_
    refine zl zM152 q152_25 (pc' := 26) (st' := .int ((h2 82 26) - (h2 82 29)) :: _) rfl ?_
    refine zkI zM152 q152_26 kI4 ?_
    refine zb2_ge zM152 q152_27 (tgt := 53) rfl (fun hc => ?_) (fun hc => ?_)
    · have hw := hw.2 hc
      refine zl zM152 q152_53 rfl ?_
      refine zgI zM152 q152_54 (by decide) g12_153 s82 rfl (v := (h2 82 28)) rfl ?_
      exact hw
    · have hw := hw.1 hc
      refine zkB zM152 q152_30 kB10 ?_
      refine zl zM152 q152_32 rfl ?_
      refine zgI zM152 q152_33 (by decide) g12_153 s82 rfl (v := (h2 82 28)) rfl ?_
      refine zl zM152 q152_36 (pc' := 37) (st' := .int (10 * (h2 82 28)) :: _) rfl ?_
      refine zl zM152 q152_37 rfl ?_
      refine zgR (a := 100) zM152 q152_38 (by decide) g12_130 s82 rfl ?_
      refine zl zM152 q152_41 rfl ?_
      refine zgI zM152 q152_42 (by decide) g12_134 s82 rfl (v := (h2 82 26)) rfl ?_
      obtain ⟨hb, hw⟩ := hw
      refine zbA zM152 q152_45 (by decide) s100 (by decide) hb (v := (h2 100 (Int32.toNatClampNeg (h2 82 26)))) rfl ?_
      refine zl zM152 q152_46 (pc' := 47) (st' := .int ((10 * (h2 82 28)) + (h2 100 (Int32.toNatClampNeg (h2 82 26)))) :: _) rfl ?_
      refine zkB zM152 q152_47 kB48 ?_
      refine zl zM152 q152_49 (pc' := 50) (st' := .int (((10 * (h2 82 28)) + (h2 100 (Int32.toNatClampNeg (h2 82 26)))) - 48) :: _) rfl ?_
      refine zl zM152 q152_50 (pc' := 57) (ls' := _) (st' := _) rfl ?_
      exact hw
theorem b152_57 {X : Option (List Int32)} {d : Nat} {h : zH} {A : zH → Prop} {w1 : Int32} (hw : zP X (d + 1) 152 5 [some (.ref 82)] [] z_S0 (z_up (z_up h 82 28 w1) 82 26 ((h 82 26) + 1)) (zV A)) : zP X (d + 1) 152 57 [some (.ref 82)] [.int w1, .ref 82] z_S0 h (zV A) := by
  refine zpi zM152 q152_57 (by decide) g12_153 s82 rfl rfl ?_
  refine zl zM152 q152_60 rfl ?_
  refine zl zM152 q152_61 rfl ?_
  refine zgI zM152 q152_62 (by decide) g12_134 s82 rfl (v := (h 82 26)) rfl ?_
  refine zkI zM152 q152_65 kI1 ?_
  refine zl zM152 q152_66 (pc' := 67) (st' := .int ((h 82 26) + 1) :: _) rfl ?_
  refine zpi zM152 q152_67 (by decide) g12_134 s82 rfl rfl ?_
  refine zl zM152 q152_70 (pc' := 5) (ls' := _) (st' := _) rfl ?_
  exact hw
-- X12_next
theorem b153 {X : Option (List Int32)} {d : Nat} {h : zH} {A : zH → Prop}  (hw : zP X (d + 1) 153 0 [some (.ref 82), none] [] z_S0 h (zV A)) : zP X (d + 1) 153 0 (z_ent [.ref 82] 2) [] z_S0 h (zV A) := by
  show zP X (d + 1) 153 0 [some (.ref 82), none] [] z_S0 h (zV A)
  exact hw
theorem b153_0 {X : Option (List Int32)} {d : Nat} {h : zH} {A : zH → Prop}  (hw : (((h 82 26) < (h 82 22) → (z_ib (h 82 26) 160 ∧ (((h 100 (Int32.toNatClampNeg (h 82 26))) = 32 → zP X (d + 1) 153 39 [some (.ref 82), none] [] z_S0 h (zV A)) ∧ (¬ (h 100 (Int32.toNatClampNeg (h 82 26))) = 32 → (z_ib (h 82 26) 160 ∧ (((h 100 (Int32.toNatClampNeg (h 82 26))) = 10 → zP X (d + 1) 153 39 [some (.ref 82), none] [] z_S0 h (zV A)) ∧ (¬ (h 100 (Int32.toNatClampNeg (h 82 26))) = 10 → zP X (d + 1) 153 52 [some (.ref 82), none] [] z_S0 h (zV A)))))))) ∧ (¬ (h 82 26) < (h 82 22) → zP X (d + 1) 153 52 [some (.ref 82), none] [] z_S0 h (zV A)))) : zP X (d + 1) 153 0 [some (.ref 82), none] [] z_S0 h (zV A) := by
  refine zl zM153 q153_0 rfl ?_
  refine zgI zM153 q153_1 (by decide) g12_134 s82 rfl (v := (h 82 26)) rfl ?_
  refine zl zM153 q153_4 rfl ?_
  refine zgI zM153 q153_5 (by decide) g12_127 s82 rfl (v := (h 82 22)) rfl ?_
  refine zb2_ge zM153 q153_8 (tgt := 52) rfl (fun hc => ?_) (fun hc => ?_)
  · have hw := hw.2 hc
    exact hw
  · have hw := hw.1 hc
    refine zl zM153 q153_11 rfl ?_
    refine zgR (a := 100) zM153 q153_12 (by decide) g12_130 s82 rfl ?_
    refine zl zM153 q153_15 rfl ?_
    refine zgI zM153 q153_16 (by decide) g12_134 s82 rfl (v := (h 82 26)) rfl ?_
    obtain ⟨hb, hw⟩ := hw
    refine zbA zM153 q153_19 (by decide) s100 (by decide) hb (v := (h 100 (Int32.toNatClampNeg (h 82 26)))) rfl ?_
    refine zkB zM153 q153_20 kB32 ?_
    refine zb2_eq zM153 q153_22 (tgt := 39) rfl (fun hc => ?_) (fun hc => ?_)
    · have hw := hw.1 hc
      exact hw
    · have hw := hw.2 hc
      refine zl zM153 q153_25 rfl ?_
      refine zgR (a := 100) zM153 q153_26 (by decide) g12_130 s82 rfl ?_
      refine zl zM153 q153_29 rfl ?_
      refine zgI zM153 q153_30 (by decide) g12_134 s82 rfl (v := (h 82 26)) rfl ?_
      obtain ⟨hb, hw⟩ := hw
      refine zbA zM153 q153_33 (by decide) s100 (by decide) hb (v := (h 100 (Int32.toNatClampNeg (h 82 26)))) rfl ?_
      refine zkB zM153 q153_34 kB10 ?_
      refine zb2_ne zM153 q153_36 (tgt := 52) rfl (fun hc => ?_) (fun hc => ?_)
      · have hw := hw.2 hc
        exact hw
      · have hw := hw.1 hc
        exact hw
theorem b153_52 {X : Option (List Int32)} {d : Nat} {h : zH} {A : zH → Prop}  (hw : (((h 82 26) = (h 82 22) → A (z_up (z_up h 82 29 (h 82 26)) 82 27 0)) ∧ (¬ (h 82 26) = (h 82 22) → zP X d 149 0 (z_ent [.ref 82, .int (h 82 26)] 2) [] z_S0 (z_up h 82 29 (h 82 26)) (zI fun v1 h2 => ((v1 = 0 → zP X d 150 0 (z_ent [.ref 82, .int (h2 82 26)] 2) [] z_S0 h2 (zI fun v3 h4 => ((v3 = 0 → (z_ib (h4 82 26) 160 ∧ (((h4 100 (Int32.toNatClampNeg (h4 82 26))) = 40 → zP X (d + 1) 153 200 [some (.ref 82), none] [] z_S0 (z_up h4 82 28 (h4 100 (Int32.toNatClampNeg (h4 82 26)))) (zV A)) ∧ (¬ (h4 100 (Int32.toNatClampNeg (h4 82 26))) = 40 → (((h4 100 (Int32.toNatClampNeg (h4 82 26))) = 41 → zP X (d + 1) 153 200 [some (.ref 82), none] [] z_S0 (z_up h4 82 28 (h4 100 (Int32.toNatClampNeg (h4 82 26)))) (zV A)) ∧ (¬ (h4 100 (Int32.toNatClampNeg (h4 82 26))) = 41 → (((h4 100 (Int32.toNatClampNeg (h4 82 26))) = 59 → zP X (d + 1) 153 200 [some (.ref 82), none] [] z_S0 (z_up h4 82 28 (h4 100 (Int32.toNatClampNeg (h4 82 26)))) (zV A)) ∧ (¬ (h4 100 (Int32.toNatClampNeg (h4 82 26))) = 59 → (((h4 100 (Int32.toNatClampNeg (h4 82 26))) = 43 → zP X (d + 1) 153 200 [some (.ref 82), none] [] z_S0 (z_up h4 82 28 (h4 100 (Int32.toNatClampNeg (h4 82 26)))) (zV A)) ∧ (¬ (h4 100 (Int32.toNatClampNeg (h4 82 26))) = 43 → (((h4 100 (Int32.toNatClampNeg (h4 82 26))) = 45 → zP X (d + 1) 153 200 [some (.ref 82), none] [] z_S0 (z_up h4 82 28 (h4 100 (Int32.toNatClampNeg (h4 82 26)))) (zV A)) ∧ (¬ (h4 100 (Int32.toNatClampNeg (h4 82 26))) = 45 → (((h4 100 (Int32.toNatClampNeg (h4 82 26))) = 42 → zP X (d + 1) 153 200 [some (.ref 82), none] [] z_S0 (z_up h4 82 28 (h4 100 (Int32.toNatClampNeg (h4 82 26)))) (zV A)) ∧ (¬ (h4 100 (Int32.toNatClampNeg (h4 82 26))) = 42 → (((h4 100 (Int32.toNatClampNeg (h4 82 26))) = 60 → zP X (d + 1) 153 200 [some (.ref 82), none] [] z_S0 (z_up h4 82 28 (h4 100 (Int32.toNatClampNeg (h4 82 26)))) (zV A)) ∧ (¬ (h4 100 (Int32.toNatClampNeg (h4 82 26))) = 60 → (((h4 100 (Int32.toNatClampNeg (h4 82 26))) = 61 → zP X (d + 1) 153 200 [some (.ref 82), none] [] z_S0 (z_up h4 82 28 (h4 100 (Int32.toNatClampNeg (h4 82 26)))) (zV A)) ∧ (¬ (h4 100 (Int32.toNatClampNeg (h4 82 26))) = 61 → zP X (d + 1) 153 205 [some (.ref 82), none] [.int 0] z_S0 (z_up h4 82 28 (h4 100 (Int32.toNatClampNeg (h4 82 26)))) (zV A))))))))))))))))))) ∧ (¬ v3 = 0 → zP X d 152 0 (z_ent [.ref 82] 1) [] z_S0 h4 (zV fun h7 => A h7))))) ∧ (¬ v1 = 0 → zP X d 151 0 (z_ent [.ref 82] 5) [] z_S0 h2 (zV fun h12 => A h12))))))) : zP X (d + 1) 153 52 [some (.ref 82), none] [] z_S0 h (zV A) := by
  refine zl zM153 q153_52 rfl ?_
  refine zl zM153 q153_53 rfl ?_
  refine zgI zM153 q153_54 (by decide) g12_134 s82 rfl (v := (h 82 26)) rfl ?_
  refine zpi zM153 q153_57 (by decide) g12_146 s82 rfl rfl ?_
  refine zl zM153 q153_60 rfl ?_
  refine zgI zM153 q153_61 (by decide) g12_134 s82 rfl (v := (h 82 26)) rfl ?_
  refine zl zM153 q153_64 rfl ?_
  refine zgI zM153 q153_65 (by decide) g12_127 s82 rfl (v := (h 82 22)) rfl ?_
  refine zb2_ne zM153 q153_68 (tgt := 79) rfl (fun hc => ?_) (fun hc => ?_)
  · have hw := hw.2 hc
    refine zl zM153 q153_79 rfl ?_
    refine zl zM153 q153_80 rfl ?_
    refine zgI zM153 q153_81 (by decide) g12_134 s82 rfl (v := (h 82 26)) rfl ?_
    refine zcV zM153 q153_84 kl12_137 rfl rfl (Nat.le_of_ble_eq_true rfl) rfl zM149 (Nat.le_of_ble_eq_true rfl) (hw.mono (fun r0 h2 hr14 => ?_))
    obtain ⟨v1, rfl, hw⟩ := hr14
    show zP X (d + 1) 153 87 [some (.ref 82), none] [.int v1] z_S0 h2 (zV A)
    refine zb1_eq zM153 q153_87 (tgt := 97) rfl (fun hc => ?_) (fun hc => ?_)
    · have hw := hw.1 hc
      refine zl zM153 q153_97 rfl ?_
      refine zl zM153 q153_98 rfl ?_
      refine zgI zM153 q153_99 (by decide) g12_134 s82 rfl (v := (h2 82 26)) rfl ?_
      refine zcV zM153 q153_102 kl12_156 rfl rfl (Nat.le_of_ble_eq_true rfl) rfl zM150 (Nat.le_of_ble_eq_true rfl) (hw.mono (fun r0 h4 hr9 => ?_))
      obtain ⟨v3, rfl, hw⟩ := hr9
      show zP X (d + 1) 153 105 [some (.ref 82), none] [.int v3] z_S0 h4 (zV A)
      refine zb1_eq zM153 q153_105 (tgt := 115) rfl (fun hc => ?_) (fun hc => ?_)
      · have hw := hw.1 hc
        refine zl zM153 q153_115 rfl ?_
        refine zl zM153 q153_116 rfl ?_
        refine zgR (a := 100) zM153 q153_117 (by decide) g12_130 s82 rfl ?_
        refine zl zM153 q153_120 rfl ?_
        refine zgI zM153 q153_121 (by decide) g12_134 s82 rfl (v := (h4 82 26)) rfl ?_
        obtain ⟨hb, hw⟩ := hw
        refine zbA zM153 q153_124 (by decide) s100 (by decide) hb (v := (h4 100 (Int32.toNatClampNeg (h4 82 26)))) rfl ?_
        refine zpi zM153 q153_125 (by decide) g12_153 s82 rfl rfl ?_
        refine zl zM153 q153_128 rfl ?_
        refine zgI zM153 q153_129 (by decide) g12_153 s82 rfl (v := (h4 100 (Int32.toNatClampNeg (h4 82 26)))) rfl ?_
        refine zkB zM153 q153_132 kB40 ?_
        refine zb2_eq zM153 q153_134 (tgt := 200) rfl (fun hc => ?_) (fun hc => ?_)
        · have hw := hw.1 hc
          exact hw
        · have hw := hw.2 hc
          refine zl zM153 q153_137 rfl ?_
          refine zgI zM153 q153_138 (by decide) g12_153 s82 rfl (v := (h4 100 (Int32.toNatClampNeg (h4 82 26)))) rfl ?_
          refine zkB zM153 q153_141 kB41 ?_
          refine zb2_eq zM153 q153_143 (tgt := 200) rfl (fun hc => ?_) (fun hc => ?_)
          · have hw := hw.1 hc
            exact hw
          · have hw := hw.2 hc
            refine zl zM153 q153_146 rfl ?_
            refine zgI zM153 q153_147 (by decide) g12_153 s82 rfl (v := (h4 100 (Int32.toNatClampNeg (h4 82 26)))) rfl ?_
            refine zkB zM153 q153_150 kB59 ?_
            refine zb2_eq zM153 q153_152 (tgt := 200) rfl (fun hc => ?_) (fun hc => ?_)
            · have hw := hw.1 hc
              exact hw
            · have hw := hw.2 hc
              refine zl zM153 q153_155 rfl ?_
              refine zgI zM153 q153_156 (by decide) g12_153 s82 rfl (v := (h4 100 (Int32.toNatClampNeg (h4 82 26)))) rfl ?_
              refine zkB zM153 q153_159 kB43 ?_
              refine zb2_eq zM153 q153_161 (tgt := 200) rfl (fun hc => ?_) (fun hc => ?_)
              · have hw := hw.1 hc
                exact hw
              · have hw := hw.2 hc
                refine zl zM153 q153_164 rfl ?_
                refine zgI zM153 q153_165 (by decide) g12_153 s82 rfl (v := (h4 100 (Int32.toNatClampNeg (h4 82 26)))) rfl ?_
                refine zkB zM153 q153_168 kB45 ?_
                refine zb2_eq zM153 q153_170 (tgt := 200) rfl (fun hc => ?_) (fun hc => ?_)
                · have hw := hw.1 hc
                  exact hw
                · have hw := hw.2 hc
                  refine zl zM153 q153_173 rfl ?_
                  refine zgI zM153 q153_174 (by decide) g12_153 s82 rfl (v := (h4 100 (Int32.toNatClampNeg (h4 82 26)))) rfl ?_
                  refine zkB zM153 q153_177 kB42 ?_
                  refine zb2_eq zM153 q153_179 (tgt := 200) rfl (fun hc => ?_) (fun hc => ?_)
                  · have hw := hw.1 hc
                    exact hw
                  · have hw := hw.2 hc
                    refine zl zM153 q153_182 rfl ?_
                    refine zgI zM153 q153_183 (by decide) g12_153 s82 rfl (v := (h4 100 (Int32.toNatClampNeg (h4 82 26)))) rfl ?_
                    refine zkB zM153 q153_186 kB60 ?_
                    refine zb2_eq zM153 q153_188 (tgt := 200) rfl (fun hc => ?_) (fun hc => ?_)
                    · have hw := hw.1 hc
                      exact hw
                    · have hw := hw.2 hc
                      refine zl zM153 q153_191 rfl ?_
                      refine zgI zM153 q153_192 (by decide) g12_153 s82 rfl (v := (h4 100 (Int32.toNatClampNeg (h4 82 26)))) rfl ?_
                      refine zkB zM153 q153_195 kB61 ?_
                      refine zb2_ne zM153 q153_197 (tgt := 204) rfl (fun hc => ?_) (fun hc => ?_)
                      · have hw := hw.2 hc
                        refine zkI zM153 q153_204 kI0 ?_
                        exact hw
                      · have hw := hw.1 hc
                        exact hw
      · have hw := hw.2 hc
        refine zl zM153 q153_108 rfl ?_
        refine zcV zM153 q153_109 kl12_163 rfl rfl (Nat.le_of_ble_eq_true rfl) rfl zM152 (Nat.le_of_ble_eq_true rfl) (hw.mono (fun r0 h7 hr8 => ?_))
        obtain ⟨rfl, hw⟩ := hr8
        show zP X (d + 1) 153 112 [some (.ref 82), none] [] z_S0 h7 (zV A)
        refine zl zM153 q153_112 (pc' := 229) (ls' := _) (st' := _) rfl ?_
        exact zrv zM153 q153_229 rfl hw
    · have hw := hw.2 hc
      refine zl zM153 q153_90 rfl ?_
      refine zcV zM153 q153_91 kl12_159 rfl rfl (Nat.le_of_ble_eq_true rfl) rfl zM151 (Nat.le_of_ble_eq_true rfl) (hw.mono (fun r0 h12 hr13 => ?_))
      obtain ⟨rfl, hw⟩ := hr13
      show zP X (d + 1) 153 94 [some (.ref 82), none] [] z_S0 h12 (zV A)
      refine zl zM153 q153_94 (pc' := 229) (ls' := _) (st' := _) rfl ?_
      exact zrv zM153 q153_229 rfl hw
  · have hw := hw.1 hc
    refine zl zM153 q153_71 rfl ?_
    refine zkI zM153 q153_72 kI0 ?_
    refine zpi zM153 q153_73 (by decide) g12_140 s82 rfl rfl ?_
    refine zl zM153 q153_76 (pc' := 229) (ls' := _) (st' := _) rfl ?_
    exact zrv zM153 q153_229 rfl hw
theorem b153_39 {X : Option (List Int32)} {d : Nat} {h : zH} {A : zH → Prop}  (hw : zP X (d + 1) 153 0 [some (.ref 82), none] [] z_S0 (z_up h 82 26 ((h 82 26) + 1)) (zV A)) : zP X (d + 1) 153 39 [some (.ref 82), none] [] z_S0 h (zV A) := by
  refine zl zM153 q153_39 rfl ?_
  refine zl zM153 q153_40 rfl ?_
  refine zgI zM153 q153_41 (by decide) g12_134 s82 rfl (v := (h 82 26)) rfl ?_
  refine zkI zM153 q153_44 kI1 ?_
  refine zl zM153 q153_45 (pc' := 46) (st' := .int ((h 82 26) + 1) :: _) rfl ?_
  refine zpi zM153 q153_46 (by decide) g12_134 s82 rfl rfl ?_
  refine zl zM153 q153_49 (pc' := 0) (ls' := _) (st' := _) rfl ?_
  exact hw
theorem b153_200 {X : Option (List Int32)} {d : Nat} {h : zH} {A : zH → Prop}  (hw : zP X (d + 1) 153 205 [some (.ref 82), none] [.int 1] z_S0 h (zV A)) : zP X (d + 1) 153 200 [some (.ref 82), none] [] z_S0 h (zV A) := by
  refine zkI zM153 q153_200 kI1 ?_
  refine zl zM153 q153_201 (pc' := 205) (ls' := _) (st' := _) rfl ?_
  exact hw
theorem b153_205 {X : Option (List Int32)} {d : Nat} {h : zH} {A : zH → Prop} {w0 : Int32} (hw : ((w0 = 0 → zP X (d + 1) 153 216 [some (.ref 82), none] [.int 5, .ref 82] z_S0 h (zV A)) ∧ (¬ w0 = 0 → zP X (d + 1) 153 216 [some (.ref 82), none] [.int 3, .ref 82] z_S0 h (zV A)))) : zP X (d + 1) 153 205 [some (.ref 82), none] [.int w0] z_S0 h (zV A) := by
  refine zl zM153 q153_205 (ls' := [some (.ref 82), some (.int w0)]) rfl ?_
  refine zl zM153 q153_206 rfl ?_
  refine zl zM153 q153_207 rfl ?_
  refine zb1_eq zM153 q153_208 (tgt := 215) rfl (fun hc => ?_) (fun hc => ?_)
  · have hw := hw.1 hc
    refine zkI zM153 q153_215 kI5 ?_
    refine zweak (a := [some (.ref 82), none]) ?_ hw
    exact ⟨rfl, trivial⟩
  · have hw := hw.2 hc
    refine zkI zM153 q153_211 kI3 ?_
    refine zl zM153 q153_212 (pc' := 216) (ls' := _) (st' := _) rfl ?_
    refine zweak (a := [some (.ref 82), none]) ?_ hw
    exact ⟨rfl, trivial⟩
theorem b153_216 {X : Option (List Int32)} {d : Nat} {h : zH} {A : zH → Prop} {w1 : Int32} (hw : A (z_up (z_up h 82 27 w1) 82 26 ((h 82 26) + 1))) : zP X (d + 1) 153 216 [some (.ref 82), none] [.int w1, .ref 82] z_S0 h (zV A) := by
  refine zpi zM153 q153_216 (by decide) g12_140 s82 rfl rfl ?_
  refine zl zM153 q153_219 rfl ?_
  refine zl zM153 q153_220 rfl ?_
  refine zgI zM153 q153_221 (by decide) g12_134 s82 rfl (v := (h 82 26)) rfl ?_
  refine zkI zM153 q153_224 kI1 ?_
  refine zl zM153 q153_225 (pc' := 226) (st' := .int ((h 82 26) + 1) :: _) rfl ?_
  refine zpi zM153 q153_226 (by decide) g12_134 s82 rfl rfl ?_
  exact zrv zM153 q153_229 rfl hw
-- X12_isSign
theorem b154 {X : Option (List Int32)} {d : Nat} {h : zH} {A : Int32 → zH → Prop} {a1 : Int32} (hw : (((h 82 27) = 3 → (((h 82 28) = a1 → A 1 h) ∧ (¬ (h 82 28) = a1 → A 0 h))) ∧ (¬ (h 82 27) = 3 → A 0 h))) : zP X d 154 0 (z_ent [.ref 82, .int a1] 2) [] z_S0 h (zI A) := by
  show zP X d 154 0 [some (.ref 82), some (.int a1)] [] z_S0 h (zI A)
  refine zl zM154 q154_0 rfl ?_
  refine zgI zM154 q154_1 (by decide) g12_140 s82 rfl (v := (h 82 27)) rfl ?_
  refine zkI zM154 q154_4 kI3 ?_
  refine zb2_ne zM154 q154_5 (tgt := 20) rfl (fun hc => ?_) (fun hc => ?_)
  · have hw := hw.2 hc
    refine zkI zM154 q154_20 kI0 ?_
    exact zri zM154 q154_21 rfl rfl hw
  · have hw := hw.1 hc
    refine zl zM154 q154_8 rfl ?_
    refine zgI zM154 q154_9 (by decide) g12_153 s82 rfl (v := (h 82 28)) rfl ?_
    refine zl zM154 q154_12 rfl ?_
    refine zb2_ne zM154 q154_13 (tgt := 20) rfl (fun hc => ?_) (fun hc => ?_)
    · have hw := hw.2 hc
      refine zkI zM154 q154_20 kI0 ?_
      exact zri zM154 q154_21 rfl rfl hw
    · have hw := hw.1 hc
      refine zkI zM154 q154_16 kI1 ?_
      refine zl zM154 q154_17 (pc' := 21) (ls' := _) (st' := _) rfl ?_
      exact zri zM154 q154_21 rfl rfl hw
-- X12_isKey
theorem b155 {X : Option (List Int32)} {d : Nat} {h : zH} {A : Int32 → zH → Prop} {a1 : Int32} (hw : (((h 82 27) = 4 → (((h 82 28) = a1 → A 1 h) ∧ (¬ (h 82 28) = a1 → A 0 h))) ∧ (¬ (h 82 27) = 4 → A 0 h))) : zP X d 155 0 (z_ent [.ref 82, .int a1] 2) [] z_S0 h (zI A) := by
  show zP X d 155 0 [some (.ref 82), some (.int a1)] [] z_S0 h (zI A)
  refine zl zM155 q155_0 rfl ?_
  refine zgI zM155 q155_1 (by decide) g12_140 s82 rfl (v := (h 82 27)) rfl ?_
  refine zkI zM155 q155_4 kI4 ?_
  refine zb2_ne zM155 q155_5 (tgt := 20) rfl (fun hc => ?_) (fun hc => ?_)
  · have hw := hw.2 hc
    refine zkI zM155 q155_20 kI0 ?_
    exact zri zM155 q155_21 rfl rfl hw
  · have hw := hw.1 hc
    refine zl zM155 q155_8 rfl ?_
    refine zgI zM155 q155_9 (by decide) g12_153 s82 rfl (v := (h 82 28)) rfl ?_
    refine zl zM155 q155_12 rfl ?_
    refine zb2_ne zM155 q155_13 (tgt := 20) rfl (fun hc => ?_) (fun hc => ?_)
    · have hw := hw.2 hc
      refine zkI zM155 q155_20 kI0 ?_
      exact zri zM155 q155_21 rfl rfl hw
    · have hw := hw.1 hc
      refine zkI zM155 q155_16 kI1 ?_
      refine zl zM155 q155_17 (pc' := 21) (ls' := _) (st' := _) rfl ?_
      exact zri zM155 q155_21 rfl rfl hw
-- X12_emit
theorem b156 {X : Option (List Int32)} {d : Nat} {h : zH} {A : zH → Prop} {a1 : Int32} (hw : (z_ib ((h 82 37) + (h 82 38)) 2880 ∧ A (z_up (z_up h 101 (Int32.toNatClampNeg ((h 82 37) + (h 82 38))) a1) 82 38 ((h 82 38) + 1)))) : zP X d 156 0 (z_ent [.ref 82, .int a1] 2) [] z_S0 h (zV A) := by
  show zP X d 156 0 [some (.ref 82), some (.int a1)] [] z_S0 h (zV A)
  refine zl zM156 q156_0 rfl ?_
  refine zgR (a := 101) zM156 q156_1 (by decide) g12_166 s82 rfl ?_
  refine zl zM156 q156_4 rfl ?_
  refine zgI zM156 q156_5 (by decide) g12_169 s82 rfl (v := (h 82 37)) rfl ?_
  refine zl zM156 q156_8 rfl ?_
  refine zgI zM156 q156_9 (by decide) g12_172 s82 rfl (v := (h 82 38)) rfl ?_
  refine zl zM156 q156_12 (pc' := 13) (st' := .int ((h 82 37) + (h 82 38)) :: _) rfl ?_
  refine zl zM156 q156_13 rfl ?_
  obtain ⟨hb, hw⟩ := hw
  refine ziS zM156 q156_14 (by decide) s101 hb rfl ?_
  refine zl zM156 q156_15 rfl ?_
  refine zl zM156 q156_16 rfl ?_
  refine zgI zM156 q156_17 (by decide) g12_172 s82 rfl (v := (h 82 38)) rfl ?_
  refine zkI zM156 q156_20 kI1 ?_
  refine zl zM156 q156_21 (pc' := 22) (st' := .int ((h 82 38) + 1) :: _) rfl ?_
  refine zpi zM156 q156_22 (by decide) g12_172 s82 rfl rfl ?_
  exact zrv zM156 q156_25 rfl hw
-- X12_rank
theorem b157 {X : Option (List Int32)} {d : Nat} {h : zH} {A : Int32 → zH → Prop} {a1 : Int32} (hw : ((a1 = 12 → A 1 h) ∧ (¬ a1 = 12 → ((a1 = 11 → A 2 h) ∧ (¬ a1 = 11 → ((a1 = 13 → A 3 h) ∧ (¬ a1 = 13 → ((a1 = 9 → A 4 h) ∧ (¬ a1 = 9 → ((a1 = 10 → A 4 h) ∧ (¬ a1 = 10 → ((a1 = 6 → A 5 h) ∧ (¬ a1 = 6 → ((a1 = 7 → A 5 h) ∧ (¬ a1 = 7 → ((a1 = 8 → A 6 h) ∧ (¬ a1 = 8 → ((a1 = 14 → A 7 h) ∧ (¬ a1 = 14 → A 0 h))))))))))))))))))) : zP X d 157 0 (z_ent [.int a1] 1) [] z_S0 h (zI A) := by
  show zP X d 157 0 [some (.int a1)] [] z_S0 h (zI A)
  refine zl zM157 q157_0 rfl ?_
  refine zkB zM157 q157_1 kB12 ?_
  refine zb2_ne zM157 q157_3 (tgt := 10) rfl (fun hc => ?_) (fun hc => ?_)
  · have hw := hw.2 hc
    refine zl zM157 q157_10 rfl ?_
    refine zkB zM157 q157_11 kB11 ?_
    refine zb2_ne zM157 q157_13 (tgt := 20) rfl (fun hc => ?_) (fun hc => ?_)
    · have hw := hw.2 hc
      refine zl zM157 q157_20 rfl ?_
      refine zkB zM157 q157_21 kB13 ?_
      refine zb2_ne zM157 q157_23 (tgt := 30) rfl (fun hc => ?_) (fun hc => ?_)
      · have hw := hw.2 hc
        refine zl zM157 q157_30 rfl ?_
        refine zkB zM157 q157_31 kB9 ?_
        refine zb2_eq zM157 q157_33 (tgt := 42) rfl (fun hc => ?_) (fun hc => ?_)
        · have hw := hw.1 hc
          refine zkI zM157 q157_42 kI4 ?_
          refine zl zM157 q157_43 (pc' := 85) (ls' := _) (st' := _) rfl ?_
          exact zri zM157 q157_85 rfl rfl hw
        · have hw := hw.2 hc
          refine zl zM157 q157_36 rfl ?_
          refine zkB zM157 q157_37 kB10 ?_
          refine zb2_ne zM157 q157_39 (tgt := 46) rfl (fun hc => ?_) (fun hc => ?_)
          · have hw := hw.2 hc
            refine zl zM157 q157_46 rfl ?_
            refine zkB zM157 q157_47 kB6 ?_
            refine zb2_eq zM157 q157_49 (tgt := 58) rfl (fun hc => ?_) (fun hc => ?_)
            · have hw := hw.1 hc
              refine zkI zM157 q157_58 kI5 ?_
              refine zl zM157 q157_59 (pc' := 85) (ls' := _) (st' := _) rfl ?_
              exact zri zM157 q157_85 rfl rfl hw
            · have hw := hw.2 hc
              refine zl zM157 q157_52 rfl ?_
              refine zkB zM157 q157_53 kB7 ?_
              refine zb2_ne zM157 q157_55 (tgt := 62) rfl (fun hc => ?_) (fun hc => ?_)
              · have hw := hw.2 hc
                refine zl zM157 q157_62 rfl ?_
                refine zkB zM157 q157_63 kB8 ?_
                refine zb2_ne zM157 q157_65 (tgt := 73) rfl (fun hc => ?_) (fun hc => ?_)
                · have hw := hw.2 hc
                  refine zl zM157 q157_73 rfl ?_
                  refine zkB zM157 q157_74 kB14 ?_
                  refine zb2_ne zM157 q157_76 (tgt := 84) rfl (fun hc => ?_) (fun hc => ?_)
                  · have hw := hw.2 hc
                    refine zkI zM157 q157_84 kI0 ?_
                    exact zri zM157 q157_85 rfl rfl hw
                  · have hw := hw.1 hc
                    refine zkB zM157 q157_79 kB7 ?_
                    refine zl zM157 q157_81 (pc' := 85) (ls' := _) (st' := _) rfl ?_
                    exact zri zM157 q157_85 rfl rfl hw
                · have hw := hw.1 hc
                  refine zkB zM157 q157_68 kB6 ?_
                  refine zl zM157 q157_70 (pc' := 85) (ls' := _) (st' := _) rfl ?_
                  exact zri zM157 q157_85 rfl rfl hw
              · have hw := hw.1 hc
                refine zkI zM157 q157_58 kI5 ?_
                refine zl zM157 q157_59 (pc' := 85) (ls' := _) (st' := _) rfl ?_
                exact zri zM157 q157_85 rfl rfl hw
          · have hw := hw.1 hc
            refine zkI zM157 q157_42 kI4 ?_
            refine zl zM157 q157_43 (pc' := 85) (ls' := _) (st' := _) rfl ?_
            exact zri zM157 q157_85 rfl rfl hw
      · have hw := hw.1 hc
        refine zkI zM157 q157_26 kI3 ?_
        refine zl zM157 q157_27 (pc' := 85) (ls' := _) (st' := _) rfl ?_
        exact zri zM157 q157_85 rfl rfl hw
    · have hw := hw.1 hc
      refine zkI zM157 q157_16 kI2 ?_
      refine zl zM157 q157_17 (pc' := 85) (ls' := _) (st' := _) rfl ?_
      exact zri zM157 q157_85 rfl rfl hw
  · have hw := hw.1 hc
    refine zkI zM157 q157_6 kI1 ?_
    refine zl zM157 q157_7 (pc' := 85) (ls' := _) (st' := _) rfl ?_
    exact zri zM157 q157_85 rfl rfl hw
-- X12_doAll
theorem b158 {X : Option (List Int32)} {d : Nat} {h : zH} {A : zH → Prop} {a1 : Int32} (hw : zP X (d + 1) 158 0 [some (.ref 82), some (.int a1)] [] z_S0 h (zV A)) : zP X (d + 1) 158 0 (z_ent [.ref 82, .int a1] 2) [] z_S0 h (zV A) := by
  show zP X (d + 1) 158 0 [some (.ref 82), some (.int a1)] [] z_S0 h (zV A)
  exact hw
theorem b158_0 {X : Option (List Int32)} {d : Nat} {h : zH} {A : zH → Prop} {l1 : Int32} (hw : (((0 : Int32) < (h 82 33) → (z_ib ((h 82 33) - 1) 170 ∧ (((h 105 (Int32.toNatClampNeg ((h 82 33) - 1))) = 15 → A h) ∧ (¬ (h 105 (Int32.toNatClampNeg ((h 82 33) - 1))) = 15 → (z_ib ((h 82 33) - 1) 170 ∧ zP X d 157 0 (z_ent [.int (h 105 (Int32.toNatClampNeg ((h 82 33) - 1)))] 1) [] z_S0 h (zI fun v1 h2 => ((v1 < l1 → A h2) ∧ (¬ v1 < l1 → (z_ib ((h2 82 33) - 1) 170 ∧ (((h2 105 (Int32.toNatClampNeg ((h2 82 33) - 1))) = 13 → zP X (d + 1) 158 84 [some (.ref 82), some (.int l1)] [.int (h2 82 34), .ref 82] z_S0 (z_up h2 82 33 ((h2 82 33) - 1)) (zV A)) ∧ (¬ (h2 105 (Int32.toNatClampNeg ((h2 82 33) - 1))) = 13 → (z_ib ((h2 82 33) - 1) 170 ∧ (((h2 105 (Int32.toNatClampNeg ((h2 82 33) - 1))) = 14 → zP X (d + 1) 158 84 [some (.ref 82), some (.int l1)] [.int (h2 82 34), .ref 82] z_S0 (z_up h2 82 33 ((h2 82 33) - 1)) (zV A)) ∧ (¬ (h2 105 (Int32.toNatClampNeg ((h2 82 33) - 1))) = 14 → zP X (d + 1) 158 89 [some (.ref 82), some (.int l1)] [.int 0, .int (h2 82 34), .ref 82] z_S0 (z_up h2 82 33 ((h2 82 33) - 1)) (zV A))))))))))))))) ∧ (¬ (0 : Int32) < (h 82 33) → A h))) : zP X (d + 1) 158 0 [some (.ref 82), some (.int l1)] [] z_S0 h (zV A) := by
  refine zl zM158 q158_0 rfl ?_
  refine zgI zM158 q158_1 (by decide) g12_175 s82 rfl (v := (h 82 33)) rfl ?_
  refine zb1_le zM158 q158_4 (tgt := 109) rfl (fun hc => ?_) (fun hc => ?_)
  · have hw := hw.2 hc
    exact zrv zM158 q158_109 rfl hw
  · have hw := hw.1 hc
    refine zl zM158 q158_7 rfl ?_
    refine zgR (a := 105) zM158 q158_8 (by decide) g12_178 s82 rfl ?_
    refine zl zM158 q158_11 rfl ?_
    refine zgI zM158 q158_12 (by decide) g12_175 s82 rfl (v := (h 82 33)) rfl ?_
    refine zkI zM158 q158_15 kI1 ?_
    refine zl zM158 q158_16 (pc' := 17) (st' := .int ((h 82 33) - 1) :: _) rfl ?_
    obtain ⟨hb, hw⟩ := hw
    refine ziA zM158 q158_17 (by decide) s105 hb (v := (h 105 (Int32.toNatClampNeg ((h 82 33) - 1)))) rfl ?_
    refine zkB zM158 q158_18 kB15 ?_
    refine zb2_eq zM158 q158_20 (tgt := 109) rfl (fun hc => ?_) (fun hc => ?_)
    · have hw := hw.1 hc
      exact zrv zM158 q158_109 rfl hw
    · have hw := hw.2 hc
      refine zl zM158 q158_23 rfl ?_
      refine zgR (a := 105) zM158 q158_24 (by decide) g12_178 s82 rfl ?_
      refine zl zM158 q158_27 rfl ?_
      refine zgI zM158 q158_28 (by decide) g12_175 s82 rfl (v := (h 82 33)) rfl ?_
      refine zkI zM158 q158_31 kI1 ?_
      refine zl zM158 q158_32 (pc' := 33) (st' := .int ((h 82 33) - 1) :: _) rfl ?_
      obtain ⟨hb, hw⟩ := hw
      refine ziA zM158 q158_33 (by decide) s105 hb (v := (h 105 (Int32.toNatClampNeg ((h 82 33) - 1)))) rfl ?_
      refine zcS zM158 q158_34 ky12_181 kl12_181 (by decide) rfl (Nat.le_of_ble_eq_true rfl) zM157 (Nat.le_of_ble_eq_true rfl) (hw.mono (fun r0 h2 hr3 => ?_))
      obtain ⟨v1, rfl, hw⟩ := hr3
      show zP X (d + 1) 158 37 [some (.ref 82), some (.int l1)] [.int v1] z_S0 h2 (zV A)
      refine zl zM158 q158_37 rfl ?_
      refine zb2_lt zM158 q158_38 (tgt := 109) rfl (fun hc => ?_) (fun hc => ?_)
      · have hw := hw.1 hc
        exact zrv zM158 q158_109 rfl hw
      · have hw := hw.2 hc
        refine zl zM158 q158_41 rfl ?_
        refine zl zM158 q158_42 rfl ?_
        refine zgI zM158 q158_43 (by decide) g12_175 s82 rfl (v := (h2 82 33)) rfl ?_
        refine zkI zM158 q158_46 kI1 ?_
        refine zl zM158 q158_47 (pc' := 48) (st' := .int ((h2 82 33) - 1) :: _) rfl ?_
        refine zpi zM158 q158_48 (by decide) g12_175 s82 rfl rfl ?_
        refine zl zM158 q158_51 rfl ?_
        refine zl zM158 q158_52 rfl ?_
        refine zgI zM158 q158_53 (by decide) g12_184 s82 rfl (v := (h2 82 34)) rfl ?_
        refine zl zM158 q158_56 rfl ?_
        refine zgR (a := 105) zM158 q158_57 (by decide) g12_178 s82 rfl ?_
        refine zl zM158 q158_60 rfl ?_
        refine zgI zM158 q158_61 (by decide) g12_175 s82 rfl (v := ((h2 82 33) - 1)) rfl ?_
        obtain ⟨hb, hw⟩ := hw
        refine ziA zM158 q158_64 (by decide) s105 hb (v := (h2 105 (Int32.toNatClampNeg ((h2 82 33) - 1)))) rfl ?_
        refine zkB zM158 q158_65 kB13 ?_
        refine zb2_eq zM158 q158_67 (tgt := 84) rfl (fun hc => ?_) (fun hc => ?_)
        · have hw := hw.1 hc
          exact hw
        · have hw := hw.2 hc
          refine zl zM158 q158_70 rfl ?_
          refine zgR (a := 105) zM158 q158_71 (by decide) g12_178 s82 rfl ?_
          refine zl zM158 q158_74 rfl ?_
          refine zgI zM158 q158_75 (by decide) g12_175 s82 rfl (v := ((h2 82 33) - 1)) rfl ?_
          obtain ⟨hb, hw⟩ := hw
          refine ziA zM158 q158_78 (by decide) s105 hb (v := (h2 105 (Int32.toNatClampNeg ((h2 82 33) - 1)))) rfl ?_
          refine zkB zM158 q158_79 kB14 ?_
          refine zb2_ne zM158 q158_81 (tgt := 88) rfl (fun hc => ?_) (fun hc => ?_)
          · have hw := hw.2 hc
            refine zkI zM158 q158_88 kI0 ?_
            exact hw
          · have hw := hw.1 hc
            exact hw
theorem b158_84 {X : Option (List Int32)} {d : Nat} {h : zH} {A : zH → Prop} {l1 : Int32} {w1 : Int32} (hw : zP X (d + 1) 158 89 [some (.ref 82), some (.int l1)] [.int 1, .int w1, .ref 82] z_S0 h (zV A)) : zP X (d + 1) 158 84 [some (.ref 82), some (.int l1)] [.int w1, .ref 82] z_S0 h (zV A) := by
  refine zkI zM158 q158_84 kI1 ?_
  refine zl zM158 q158_85 (pc' := 89) (ls' := _) (st' := _) rfl ?_
  exact hw
theorem b158_89 {X : Option (List Int32)} {d : Nat} {h : zH} {A : zH → Prop} {l1 : Int32} {w1 : Int32} {w2 : Int32} (hw : (z_ib (h 82 33) 170 ∧ zP X d 156 0 (z_ent [.ref 82, .int (h 105 (Int32.toNatClampNeg (h 82 33)))] 2) [] z_S0 (z_up h 82 34 (w1 - w2)) (zV fun h6 => zP X (d + 1) 158 0 [some (.ref 82), some (.int l1)] [] z_S0 h6 (zV A)))) : zP X (d + 1) 158 89 [some (.ref 82), some (.int l1)] [.int w2, .int w1, .ref 82] z_S0 h (zV A) := by
  refine zl zM158 q158_89 (pc' := 90) (st' := .int (w1 - w2) :: _) rfl ?_
  refine zpi zM158 q158_90 (by decide) g12_184 s82 rfl rfl ?_
  refine zl zM158 q158_93 rfl ?_
  refine zl zM158 q158_94 rfl ?_
  refine zgR (a := 105) zM158 q158_95 (by decide) g12_178 s82 rfl ?_
  refine zl zM158 q158_98 rfl ?_
  refine zgI zM158 q158_99 (by decide) g12_175 s82 rfl (v := (h 82 33)) rfl ?_
  obtain ⟨hb, hw⟩ := hw
  refine ziA zM158 q158_102 (by decide) s105 hb (v := (h 105 (Int32.toNatClampNeg (h 82 33)))) rfl ?_
  refine zcV zM158 q158_103 kl12_187 rfl rfl (Nat.le_of_ble_eq_true rfl) rfl zM156 (Nat.le_of_ble_eq_true rfl) (hw.mono (fun r0 h6 hr7 => ?_))
  obtain ⟨rfl, hw⟩ := hr7
  show zP X (d + 1) 158 106 [some (.ref 82), some (.int l1)] [] z_S0 h6 (zV A)
  refine zl zM158 q158_106 (pc' := 0) (ls' := _) (st' := _) rfl ?_
  exact hw

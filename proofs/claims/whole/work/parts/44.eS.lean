/-! the same rules over any shape that begins with the class's own cells -/
def zCS (S : zS) : Prop := ∀ k, k < 82 → S[k]? = z_S0[k]?
theorem zCS0 : zCS z_S0 := fun _ _ => rfl
theorem zs1 {S : zS} {k : Nat} {c : zC} (hS : zCS S) (hk : k < 82) (h : z_S0[k]? = some c) : S[k]? = some c := by rw [hS k hk, h]
theorem zrc {S : zS} {b o : Nat} (hS : zCS S) (hb : b < 82) (h : z_rcv z_S0 b o = true) : z_rcv S b o = true := by
  unfold z_rcv z_obj at h ⊢
  rw [hS b hb]
  exact h
theorem zT82 {k : Nat} (h : k ∈ ([25, 28, 31, 34, 37, 40] : List Nat)) : k + 2 < 82 := by
  simp only [List.mem_cons, List.not_mem_nil, or_false] at h
  omega
theorem sTxS {S : zS} {k : Nat} (hS : zCS S) (h : k ∈ ([25, 28, 31, 34, 37, 40] : List Nat)) : k < 100000 ∧ k + 1 < 100000 ∧ k + 2 < 100000 ∧ S[k]? = some (.inr (.inr (10, [some (some (k + 1)), some (some (k + 2)), none]))) ∧ S[k + 1]? = some (.inl (.int, 160)) ∧ S[k + 2]? = some (.inl (.int, 3)) := by
  obtain ⟨a, b, c, e, f, g⟩ := sTx h
  have := zT82 h
  exact ⟨a, b, c, zs1 hS (by omega) e, zs1 hS (by omega) f, zs1 hS (by omega) g⟩
theorem zrT {S : zS} {k M : Nat} (hS : zCS S) (h : k ∈ ([25, 28, 31, 34, 37, 40] : List Nat)) (hM : z_ownOf M = 10 := by rfl) : z_rcv S k (z_ownOf M) = true := zrc hS (by have := zT82 h; omega) (z_rcvT h hM)
theorem zrStr {S : zS} {i M : Nat} (hi : i < 13) (hM : z_ownOf M = 15 := by rfl) : z_rcv S (100100 + i) (z_ownOf M) = true := by
  have := z_rcvStr hi hM
  unfold z_rcv at this ⊢
  rw [if_neg (by omega)] at this ⊢
  exact this
theorem e48 {S : zS} (hS : zCS S) {X : Option (List Int32)} {d : Nat} {h : zH} {A : zH → Prop} {a1 : Int32} (hw : (((h 18 1) < 160 → (z_ib (h 18 1) 160 ∧ A (z_up (z_up h 19 (Int32.toNatClampNeg (h 18 1)) a1) 18 1 ((h 18 1) + 1)))) ∧ (¬ (h 18 1) < 160 → A h))) : zP X d 48 0 (z_ent [.ref 18, .int a1] 2) [] S h (zV A) := by
  show zP X d 48 0 [some (.ref 18), some (.int a1)] [] S h (zV A)
  refine zl zM48 q48_0 rfl ?_
  refine zgI zM48 q48_1 (by decide) g9_15 (zs1 hS (by decide) s18) rfl (v := (h 18 1)) rfl ?_
  refine zkS zM48 q48_4 kS160 ?_
  refine zb2_ge zM48 q48_7 (tgt := 30) rfl (fun hc => ?_) (fun hc => ?_)
  · have hw := hw.2 hc
    exact zrv zM48 q48_30 rfl hw
  · have hw := hw.1 hc
    refine zl zM48 q48_10 rfl ?_
    refine zgR (a := 19) zM48 q48_11 (by decide) g9_9 (zs1 hS (by decide) s18) rfl ?_
    refine zl zM48 q48_14 rfl ?_
    refine zgI zM48 q48_15 (by decide) g9_15 (zs1 hS (by decide) s18) rfl (v := (h 18 1)) rfl ?_
    refine zl zM48 q48_18 rfl ?_
    obtain ⟨hb, hw⟩ := hw
    refine ziS zM48 q48_19 (by decide) (zs1 hS (by decide) s19) hb rfl ?_
    refine zl zM48 q48_20 rfl ?_
    refine zl zM48 q48_21 rfl ?_
    refine zgI zM48 q48_22 (by decide) g9_15 (zs1 hS (by decide) s18) rfl (v := (h 18 1)) rfl ?_
    refine zkI zM48 q48_25 kI1 ?_
    refine zl zM48 q48_26 (pc' := 27) (st' := .int ((h 18 1) + 1) :: _) rfl ?_
    refine zpi zM48 q48_27 (by decide) g9_15 (zs1 hS (by decide) s18) rfl rfl ?_
    exact zrv zM48 q48_30 rfl hw
theorem e49 {S : zS} (hS : zCS S) {X : Option (List Int32)} {d : Nat} {h : zH} {A : zH → Prop}  (hw : A (z_up h 18 1 0)) : zP X d 49 0 (z_ent [.ref 18] 1) [] S h (zV A) := by
  show zP X d 49 0 [some (.ref 18)] [] S h (zV A)
  refine zl zM49 q49_0 rfl ?_
  refine zkI zM49 q49_1 kI0 ?_
  refine zpi zM49 q49_2 (by decide) g9_15 (zs1 hS (by decide) s18) rfl rfl ?_
  exact zrv zM49 q49_5 rfl hw
theorem e50 {S : zS} (hS : zCS S) {X : Option (List Int32)} {d : Nat} {h : zH} {A : zH → Prop}  (hw : zP X d 52 0 (z_ent [.ref 18] 1) [] S (z_up h 18 3 0) (zV fun h3 => A h3)) : zP X (d + 1) 50 0 (z_ent [.ref 18] 1) [] S h (zV A) := by
  show zP X (d + 1) 50 0 [some (.ref 18)] [] S h (zV A)
  refine zl zM50 q50_0 rfl ?_
  refine zkI zM50 q50_1 kI0 ?_
  refine zpi zM50 q50_2 (by decide) g9_19 (zs1 hS (by decide) s18) rfl rfl ?_
  refine zl zM50 q50_5 rfl ?_
  refine zcV zM50 q50_6 kl9_22 rfl rfl (Nat.le_of_ble_eq_true rfl) (zrc hS (by decide) rfl) zM52 (Nat.le_of_ble_eq_true rfl) (hw.mono (fun r0 h3 hr4 => ?_))
  obtain ⟨rfl, hw⟩ := hr4
  show zP X (d + 1) 50 9 [some (.ref 18)] [] S h3 (zV A)
  exact zrv zM50 q50_9 rfl hw
theorem e51 {S : zS} (hS : zCS S) {X : Option (List Int32)} {d : Nat} {h : zH} {A : Int32 → zH → Prop} {a1 : Int32} (hw : (((h 18 4) = a1 → zP X d 52 0 (z_ent [.ref 18] 1) [] S h (zV fun h3 => A 1 h3)) ∧ (¬ (h 18 4) = a1 → A 0 h))) : zP X (d + 1) 51 0 (z_ent [.ref 18, .int a1] 2) [] S h (zI A) := by
  show zP X (d + 1) 51 0 [some (.ref 18), some (.int a1)] [] S h (zI A)
  refine zl zM51 q51_0 rfl ?_
  refine zgI zM51 q51_1 (by decide) g9_25 (zs1 hS (by decide) s18) rfl (v := (h 18 4)) rfl ?_
  refine zl zM51 q51_4 rfl ?_
  refine zb2_eq zM51 q51_5 (tgt := 10) rfl (fun hc => ?_) (fun hc => ?_)
  · have hw := hw.1 hc
    refine zl zM51 q51_10 rfl ?_
    refine zcV zM51 q51_11 kl9_22 rfl rfl (Nat.le_of_ble_eq_true rfl) (zrc hS (by decide) rfl) zM52 (Nat.le_of_ble_eq_true rfl) (hw.mono (fun r0 h3 hr4 => ?_))
    obtain ⟨rfl, hw⟩ := hr4
    show zP X (d + 1) 51 14 [some (.ref 18), some (.int a1)] [] S h3 (zI A)
    refine zkI zM51 q51_14 kI1 ?_
    exact zri zM51 q51_15 rfl rfl hw
  · have hw := hw.2 hc
    refine zkI zM51 q51_8 kI0 ?_
    exact zri zM51 q51_9 rfl rfl hw
theorem e52 {S : zS} (hS : zCS S) {X : Option (List Int32)} {d : Nat} {h : zH} {A : zH → Prop}  (hw : zP X (d + 1) 52 8 [some (.ref 18)] [] S (z_up h 18 2 (h 18 3)) (zV A)) : zP X (d + 1) 52 0 (z_ent [.ref 18] 1) [] S h (zV A) := by
  show zP X (d + 1) 52 0 [some (.ref 18)] [] S h (zV A)
  refine zl zM52 q52_0 rfl ?_
  refine zl zM52 q52_1 rfl ?_
  refine zgI zM52 q52_2 (by decide) g9_19 (zs1 hS (by decide) s18) rfl (v := (h 18 3)) rfl ?_
  refine zpi zM52 q52_5 (by decide) g9_28 (zs1 hS (by decide) s18) rfl rfl ?_
  exact hw
theorem e52_8 {S : zS} (hS : zCS S) {X : Option (List Int32)} {d : Nat} {h : zH} {A : zH → Prop}  (hw : (((h 18 2) < (h 18 1) → (z_ib (h 18 2) 160 ∧ zP X d 56 0 (z_ent [.int (h 19 (Int32.toNatClampNeg (h 18 2)))] 1) [] S h (zI fun v1 h2 => ((v1 = 0 → zP X (d + 1) 52 47 [some (.ref 18)] [] S h2 (zV A)) ∧ (¬ v1 = 0 → zP X (d + 1) 52 8 [some (.ref 18)] [] S (z_up h2 18 2 ((h2 18 2) + 1)) (zV A)))))) ∧ (¬ (h 18 2) < (h 18 1) → zP X (d + 1) 52 47 [some (.ref 18)] [] S h (zV A)))) : zP X (d + 1) 52 8 [some (.ref 18)] [] S h (zV A) := by
  refine zl zM52 q52_8 rfl ?_
  refine zgI zM52 q52_9 (by decide) g9_28 (zs1 hS (by decide) s18) rfl (v := (h 18 2)) rfl ?_
  refine zl zM52 q52_12 rfl ?_
  refine zgI zM52 q52_13 (by decide) g9_15 (zs1 hS (by decide) s18) rfl (v := (h 18 1)) rfl ?_
  refine zb2_ge zM52 q52_16 (tgt := 47) rfl (fun hc => ?_) (fun hc => ?_)
  · have hw := hw.2 hc
    exact hw
  · have hw := hw.1 hc
    refine zl zM52 q52_19 rfl ?_
    refine zgR (a := 19) zM52 q52_20 (by decide) g9_9 (zs1 hS (by decide) s18) rfl ?_
    refine zl zM52 q52_23 rfl ?_
    refine zgI zM52 q52_24 (by decide) g9_28 (zs1 hS (by decide) s18) rfl (v := (h 18 2)) rfl ?_
    obtain ⟨hb, hw⟩ := hw
    refine ziA zM52 q52_27 (by decide) (zs1 hS (by decide) s19) hb (v := (h 19 (Int32.toNatClampNeg (h 18 2)))) rfl ?_
    refine zcS zM52 q52_28 ky9_31 kl9_31 (by decide) rfl (Nat.le_of_ble_eq_true rfl) zM56 (Nat.le_of_ble_eq_true rfl) (hw.mono (fun r0 h2 hr3 => ?_))
    obtain ⟨v1, rfl, hw⟩ := hr3
    show zP X (d + 1) 52 31 [some (.ref 18)] [.int v1] S h2 (zV A)
    refine zb1_eq zM52 q52_31 (tgt := 47) rfl (fun hc => ?_) (fun hc => ?_)
    · have hw := hw.1 hc
      exact hw
    · have hw := hw.2 hc
      refine zl zM52 q52_34 rfl ?_
      refine zl zM52 q52_35 rfl ?_
      refine zgI zM52 q52_36 (by decide) g9_28 (zs1 hS (by decide) s18) rfl (v := (h2 18 2)) rfl ?_
      refine zkI zM52 q52_39 kI1 ?_
      refine zl zM52 q52_40 (pc' := 41) (st' := .int ((h2 18 2) + 1) :: _) rfl ?_
      refine zpi zM52 q52_41 (by decide) g9_28 (zs1 hS (by decide) s18) rfl rfl ?_
      refine zl zM52 q52_44 (pc' := 8) (ls' := _) (st' := _) rfl ?_
      exact hw
theorem e52_47 {S : zS} (hS : zCS S) {X : Option (List Int32)} {d : Nat} {h : zH} {A : zH → Prop}  (hw : (((h 18 2) < (h 18 1) → (z_ib (h 18 2) 160 ∧ zP X d 57 0 (z_ent [.int (h 19 (Int32.toNatClampNeg (h 18 2)))] 1) [] S (z_up h 18 3 (h 18 2)) (zI fun v4 h5 => ((v4 = 0 → (z_ib (h5 18 2) 160 ∧ zP X d 58 0 (z_ent [.int (h5 19 (Int32.toNatClampNeg (h5 18 2)))] 1) [] S h5 (zI fun v6 h7 => ((v6 = 0 → (z_ib (h7 18 2) 160 ∧ zP X d 59 0 (z_ent [.int (h7 19 (Int32.toNatClampNeg (h7 18 2)))] 1) [] S (z_up h7 18 3 ((h7 18 2) + 1)) (zI fun v8 h9 => ((v8 = 0 → A (z_up h9 18 4 257)) ∧ (¬ v8 = 0 → (z_ib (h9 18 2) 160 ∧ A (z_up h9 18 4 (h9 19 (Int32.toNatClampNeg (h9 18 2)))))))))) ∧ (¬ v6 = 0 → zP X d 54 0 (z_ent [.ref 18] 1) [] S h7 (zV fun h13 => A h13)))))) ∧ (¬ v4 = 0 → zP X d 53 0 (z_ent [.ref 18] 1) [] S h5 (zV fun h18 => A h18)))))) ∧ (¬ (h 18 2) < (h 18 1) → A (z_up (z_up h 18 3 (h 18 2)) 18 4 256)))) : zP X (d + 1) 52 47 [some (.ref 18)] [] S h (zV A) := by
  refine zl zM52 q52_47 rfl ?_
  refine zl zM52 q52_48 rfl ?_
  refine zgI zM52 q52_49 (by decide) g9_28 (zs1 hS (by decide) s18) rfl (v := (h 18 2)) rfl ?_
  refine zpi zM52 q52_52 (by decide) g9_19 (zs1 hS (by decide) s18) rfl rfl ?_
  refine zl zM52 q52_55 rfl ?_
  refine zgI zM52 q52_56 (by decide) g9_28 (zs1 hS (by decide) s18) rfl (v := (h 18 2)) rfl ?_
  refine zl zM52 q52_59 rfl ?_
  refine zgI zM52 q52_60 (by decide) g9_15 (zs1 hS (by decide) s18) rfl (v := (h 18 1)) rfl ?_
  refine zb2_lt zM52 q52_63 (tgt := 76) rfl (fun hc => ?_) (fun hc => ?_)
  · have hw := hw.1 hc
    refine zl zM52 q52_76 rfl ?_
    refine zgR (a := 19) zM52 q52_77 (by decide) g9_9 (zs1 hS (by decide) s18) rfl ?_
    refine zl zM52 q52_80 rfl ?_
    refine zgI zM52 q52_81 (by decide) g9_28 (zs1 hS (by decide) s18) rfl (v := (h 18 2)) rfl ?_
    obtain ⟨hb, hw⟩ := hw
    refine ziA zM52 q52_84 (by decide) (zs1 hS (by decide) s19) hb (v := (h 19 (Int32.toNatClampNeg (h 18 2)))) rfl ?_
    refine zcS zM52 q52_85 ky9_35 kl9_35 (by decide) rfl (Nat.le_of_ble_eq_true rfl) zM57 (Nat.le_of_ble_eq_true rfl) (hw.mono (fun r0 h5 hr20 => ?_))
    obtain ⟨v4, rfl, hw⟩ := hr20
    show zP X (d + 1) 52 88 [some (.ref 18)] [.int v4] S h5 (zV A)
    refine zb1_eq zM52 q52_88 (tgt := 98) rfl (fun hc => ?_) (fun hc => ?_)
    · have hw := hw.1 hc
      refine zl zM52 q52_98 rfl ?_
      refine zgR (a := 19) zM52 q52_99 (by decide) g9_9 (zs1 hS (by decide) s18) rfl ?_
      refine zl zM52 q52_102 rfl ?_
      refine zgI zM52 q52_103 (by decide) g9_28 (zs1 hS (by decide) s18) rfl (v := (h5 18 2)) rfl ?_
      obtain ⟨hb, hw⟩ := hw
      refine ziA zM52 q52_106 (by decide) (zs1 hS (by decide) s19) hb (v := (h5 19 (Int32.toNatClampNeg (h5 18 2)))) rfl ?_
      refine zcS zM52 q52_107 ky9_41 kl9_41 (by decide) rfl (Nat.le_of_ble_eq_true rfl) zM58 (Nat.le_of_ble_eq_true rfl) (hw.mono (fun r0 h7 hr15 => ?_))
      obtain ⟨v6, rfl, hw⟩ := hr15
      show zP X (d + 1) 52 110 [some (.ref 18)] [.int v6] S h7 (zV A)
      refine zb1_eq zM52 q52_110 (tgt := 120) rfl (fun hc => ?_) (fun hc => ?_)
      · have hw := hw.1 hc
        refine zl zM52 q52_120 rfl ?_
        refine zl zM52 q52_121 rfl ?_
        refine zgI zM52 q52_122 (by decide) g9_28 (zs1 hS (by decide) s18) rfl (v := (h7 18 2)) rfl ?_
        refine zkI zM52 q52_125 kI1 ?_
        refine zl zM52 q52_126 (pc' := 127) (st' := .int ((h7 18 2) + 1) :: _) rfl ?_
        refine zpi zM52 q52_127 (by decide) g9_19 (zs1 hS (by decide) s18) rfl rfl ?_
        refine zl zM52 q52_130 rfl ?_
        refine zl zM52 q52_131 rfl ?_
        refine zgR (a := 19) zM52 q52_132 (by decide) g9_9 (zs1 hS (by decide) s18) rfl ?_
        refine zl zM52 q52_135 rfl ?_
        refine zgI zM52 q52_136 (by decide) g9_28 (zs1 hS (by decide) s18) rfl (v := (h7 18 2)) rfl ?_
        obtain ⟨hb, hw⟩ := hw
        refine ziA zM52 q52_139 (by decide) (zs1 hS (by decide) s19) hb (v := (h7 19 (Int32.toNatClampNeg (h7 18 2)))) rfl ?_
        refine zcS zM52 q52_140 ky9_47 kl9_47 (by decide) rfl (Nat.le_of_ble_eq_true rfl) zM59 (Nat.le_of_ble_eq_true rfl) (hw.mono (fun r0 h9 hr10 => ?_))
        obtain ⟨v8, rfl, hw⟩ := hr10
        show zP X (d + 1) 52 143 [some (.ref 18)] [.int v8, .ref 18] S h9 (zV A)
        refine zb1_eq zM52 q52_143 (tgt := 158) rfl (fun hc => ?_) (fun hc => ?_)
        · have hw := hw.1 hc
          refine zkS zM52 q52_158 kS257 ?_
          refine zpi zM52 q52_161 (by decide) g9_25 (zs1 hS (by decide) s18) rfl rfl ?_
          exact zrv zM52 q52_164 rfl hw
        · have hw := hw.2 hc
          refine zl zM52 q52_146 rfl ?_
          refine zgR (a := 19) zM52 q52_147 (by decide) g9_9 (zs1 hS (by decide) s18) rfl ?_
          refine zl zM52 q52_150 rfl ?_
          refine zgI zM52 q52_151 (by decide) g9_28 (zs1 hS (by decide) s18) rfl (v := (h9 18 2)) rfl ?_
          obtain ⟨hb, hw⟩ := hw
          refine ziA zM52 q52_154 (by decide) (zs1 hS (by decide) s19) hb (v := (h9 19 (Int32.toNatClampNeg (h9 18 2)))) rfl ?_
          refine zl zM52 q52_155 (pc' := 161) (ls' := _) (st' := _) rfl ?_
          refine zpi zM52 q52_161 (by decide) g9_25 (zs1 hS (by decide) s18) rfl rfl ?_
          exact zrv zM52 q52_164 rfl hw
      · have hw := hw.2 hc
        refine zl zM52 q52_113 rfl ?_
        refine zcV zM52 q52_114 kl9_44 rfl rfl (Nat.le_of_ble_eq_true rfl) (zrc hS (by decide) rfl) zM54 (Nat.le_of_ble_eq_true rfl) (hw.mono (fun r0 h13 hr14 => ?_))
        obtain ⟨rfl, hw⟩ := hr14
        show zP X (d + 1) 52 117 [some (.ref 18)] [] S h13 (zV A)
        refine zl zM52 q52_117 (pc' := 164) (ls' := _) (st' := _) rfl ?_
        exact zrv zM52 q52_164 rfl hw
    · have hw := hw.2 hc
      refine zl zM52 q52_91 rfl ?_
      refine zcV zM52 q52_92 kl9_38 rfl rfl (Nat.le_of_ble_eq_true rfl) (zrc hS (by decide) rfl) zM53 (Nat.le_of_ble_eq_true rfl) (hw.mono (fun r0 h18 hr19 => ?_))
      obtain ⟨rfl, hw⟩ := hr19
      show zP X (d + 1) 52 95 [some (.ref 18)] [] S h18 (zV A)
      refine zl zM52 q52_95 (pc' := 164) (ls' := _) (st' := _) rfl ?_
      exact zrv zM52 q52_164 rfl hw
  · have hw := hw.2 hc
    refine zl zM52 q52_66 rfl ?_
    refine zkS zM52 q52_67 kS256 ?_
    refine zpi zM52 q52_70 (by decide) g9_25 (zs1 hS (by decide) s18) rfl rfl ?_
    refine zl zM52 q52_73 (pc' := 164) (ls' := _) (st' := _) rfl ?_
    exact zrv zM52 q52_164 rfl hw
theorem e53 {S : zS} (hS : zCS S) {X : Option (List Int32)} {d : Nat} {h : zH} {A : zH → Prop}  (hw : zP X (d + 1) 53 0 [some (.ref 18)] [] S h (zV A)) : zP X (d + 1) 53 0 (z_ent [.ref 18] 1) [] S h (zV A) := by
  show zP X (d + 1) 53 0 [some (.ref 18)] [] S h (zV A)
  exact hw
theorem e53_0 {S : zS} (hS : zCS S) {X : Option (List Int32)} {d : Nat} {h : zH} {A : zH → Prop}  (hw : (((h 18 3) < (h 18 1) → (z_ib (h 18 3) 160 ∧ zP X d 57 0 (z_ent [.int (h 19 (Int32.toNatClampNeg (h 18 3)))] 1) [] S h (zI fun v1 h2 => ((v1 = 0 → zP X (d + 1) 53 39 [some (.ref 18)] [] S h2 (zV A)) ∧ (¬ v1 = 0 → zP X (d + 1) 53 0 [some (.ref 18)] [] S (z_up h2 18 3 ((h2 18 3) + 1)) (zV A)))))) ∧ (¬ (h 18 3) < (h 18 1) → zP X (d + 1) 53 39 [some (.ref 18)] [] S h (zV A)))) : zP X (d + 1) 53 0 [some (.ref 18)] [] S h (zV A) := by
  refine zl zM53 q53_0 rfl ?_
  refine zgI zM53 q53_1 (by decide) g9_19 (zs1 hS (by decide) s18) rfl (v := (h 18 3)) rfl ?_
  refine zl zM53 q53_4 rfl ?_
  refine zgI zM53 q53_5 (by decide) g9_15 (zs1 hS (by decide) s18) rfl (v := (h 18 1)) rfl ?_
  refine zb2_ge zM53 q53_8 (tgt := 39) rfl (fun hc => ?_) (fun hc => ?_)
  · have hw := hw.2 hc
    exact hw
  · have hw := hw.1 hc
    refine zl zM53 q53_11 rfl ?_
    refine zgR (a := 19) zM53 q53_12 (by decide) g9_9 (zs1 hS (by decide) s18) rfl ?_
    refine zl zM53 q53_15 rfl ?_
    refine zgI zM53 q53_16 (by decide) g9_19 (zs1 hS (by decide) s18) rfl (v := (h 18 3)) rfl ?_
    obtain ⟨hb, hw⟩ := hw
    refine ziA zM53 q53_19 (by decide) (zs1 hS (by decide) s19) hb (v := (h 19 (Int32.toNatClampNeg (h 18 3)))) rfl ?_
    refine zcS zM53 q53_20 ky9_35 kl9_35 (by decide) rfl (Nat.le_of_ble_eq_true rfl) zM57 (Nat.le_of_ble_eq_true rfl) (hw.mono (fun r0 h2 hr3 => ?_))
    obtain ⟨v1, rfl, hw⟩ := hr3
    show zP X (d + 1) 53 23 [some (.ref 18)] [.int v1] S h2 (zV A)
    refine zb1_eq zM53 q53_23 (tgt := 39) rfl (fun hc => ?_) (fun hc => ?_)
    · have hw := hw.1 hc
      exact hw
    · have hw := hw.2 hc
      refine zl zM53 q53_26 rfl ?_
      refine zl zM53 q53_27 rfl ?_
      refine zgI zM53 q53_28 (by decide) g9_19 (zs1 hS (by decide) s18) rfl (v := (h2 18 3)) rfl ?_
      refine zkI zM53 q53_31 kI1 ?_
      refine zl zM53 q53_32 (pc' := 33) (st' := .int ((h2 18 3) + 1) :: _) rfl ?_
      refine zpi zM53 q53_33 (by decide) g9_19 (zs1 hS (by decide) s18) rfl rfl ?_
      refine zl zM53 q53_36 (pc' := 0) (ls' := _) (st' := _) rfl ?_
      exact hw
theorem e53_39 {S : zS} (hS : zCS S) {X : Option (List Int32)} {d : Nat} {h : zH} {A : zH → Prop}  (hw : zP X d 55 0 (z_ent [.ref 18, .ref 100101] 3) [] S h (zI fun v4 h5 => ((v4 = 0 → zP X d 55 0 (z_ent [.ref 18, .ref 100102] 3) [] S h5 (zI fun v6 h7 => ((v6 = 0 → zP X d 55 0 (z_ent [.ref 18, .ref 100103] 3) [] S h7 (zI fun v8 h9 => ((v8 = 0 → zP X d 55 0 (z_ent [.ref 18, .ref 100104] 3) [] S h9 (zI fun v10 h11 => ((v10 = 0 → zP X d 55 0 (z_ent [.ref 18, .ref 100105] 3) [] S h11 (zI fun v12 h13 => ((v12 = 0 → zP X d 55 0 (z_ent [.ref 18, .ref 100106] 3) [] S h13 (zI fun v14 h15 => ((v14 = 0 → zP X d 55 0 (z_ent [.ref 18, .ref 100107] 3) [] S h15 (zI fun v16 h17 => ((v16 = 0 → zP X d 55 0 (z_ent [.ref 18, .ref 100108] 3) [] S h17 (zI fun v18 h19 => ((v18 = 0 → zP X d 55 0 (z_ent [.ref 18, .ref 100109] 3) [] S h19 (zI fun v20 h21 => ((v20 = 0 → zP X d 55 0 (z_ent [.ref 18, .ref 100110] 3) [] S h21 (zI fun v22 h23 => ((v22 = 0 → zP X d 55 0 (z_ent [.ref 18, .ref 100111] 3) [] S h23 (zI fun v24 h25 => ((v24 = 0 → zP X d 55 0 (z_ent [.ref 18, .ref 100112] 3) [] S h25 (zI fun v26 h27 => ((v26 = 0 → A (z_up h27 18 4 257)) ∧ (¬ v26 = 0 → A (z_up h27 18 4 275))))) ∧ (¬ v24 = 0 → A (z_up h25 18 4 274))))) ∧ (¬ v22 = 0 → A (z_up h23 18 4 273))))) ∧ (¬ v20 = 0 → A (z_up h21 18 4 272))))) ∧ (¬ v18 = 0 → A (z_up h19 18 4 271))))) ∧ (¬ v16 = 0 → A (z_up h17 18 4 270))))) ∧ (¬ v14 = 0 → A (z_up h15 18 4 265))))) ∧ (¬ v12 = 0 → A (z_up h13 18 4 264))))) ∧ (¬ v10 = 0 → A (z_up h11 18 4 263))))) ∧ (¬ v8 = 0 → A (z_up h9 18 4 262))))) ∧ (¬ v6 = 0 → A (z_up h7 18 4 261))))) ∧ (¬ v4 = 0 → A (z_up h5 18 4 260))))) : zP X (d + 1) 53 39 [some (.ref 18)] [] S h (zV A) := by
  refine zl zM53 q53_39 rfl ?_
  refine zl zM53 q53_40 rfl ?_
  refine zks zM53 q53_41 ks9_50 kt9_50 ?_
  refine zcV zM53 q53_43 kl9_52 rfl rfl (Nat.le_of_ble_eq_true rfl) (zrc hS (by decide) rfl) zM55 (Nat.le_of_ble_eq_true rfl) (hw.mono (fun r0 h5 hr39 => ?_))
  obtain ⟨v4, rfl, hw⟩ := hr39
  show zP X (d + 1) 53 46 [some (.ref 18)] [.int v4, .ref 18] S h5 (zV A)
  refine zb1_eq zM53 q53_46 (tgt := 55) rfl (fun hc => ?_) (fun hc => ?_)
  · have hw := hw.1 hc
    refine zl zM53 q53_55 rfl ?_
    refine zks zM53 q53_56 ks9_56 kt9_56 ?_
    refine zcV zM53 q53_58 kl9_52 rfl rfl (Nat.le_of_ble_eq_true rfl) (zrc hS (by decide) rfl) zM55 (Nat.le_of_ble_eq_true rfl) (hw.mono (fun r0 h7 hr38 => ?_))
    obtain ⟨v6, rfl, hw⟩ := hr38
    show zP X (d + 1) 53 61 [some (.ref 18)] [.int v6, .ref 18] S h7 (zV A)
    refine zb1_eq zM53 q53_61 (tgt := 70) rfl (fun hc => ?_) (fun hc => ?_)
    · have hw := hw.1 hc
      refine zl zM53 q53_70 rfl ?_
      refine zks zM53 q53_71 ks9_58 kt9_58 ?_
      refine zcV zM53 q53_73 kl9_52 rfl rfl (Nat.le_of_ble_eq_true rfl) (zrc hS (by decide) rfl) zM55 (Nat.le_of_ble_eq_true rfl) (hw.mono (fun r0 h9 hr37 => ?_))
      obtain ⟨v8, rfl, hw⟩ := hr37
      show zP X (d + 1) 53 76 [some (.ref 18)] [.int v8, .ref 18] S h9 (zV A)
      refine zb1_eq zM53 q53_76 (tgt := 85) rfl (fun hc => ?_) (fun hc => ?_)
      · have hw := hw.1 hc
        refine zl zM53 q53_85 rfl ?_
        refine zks zM53 q53_86 ks9_60 kt9_60 ?_
        refine zcV zM53 q53_88 kl9_52 rfl rfl (Nat.le_of_ble_eq_true rfl) (zrc hS (by decide) rfl) zM55 (Nat.le_of_ble_eq_true rfl) (hw.mono (fun r0 h11 hr36 => ?_))
        obtain ⟨v10, rfl, hw⟩ := hr36
        show zP X (d + 1) 53 91 [some (.ref 18)] [.int v10, .ref 18] S h11 (zV A)
        refine zb1_eq zM53 q53_91 (tgt := 100) rfl (fun hc => ?_) (fun hc => ?_)
        · have hw := hw.1 hc
          refine zl zM53 q53_100 rfl ?_
          refine zks zM53 q53_101 ks9_62 kt9_62 ?_
          refine zcV zM53 q53_103 kl9_52 rfl rfl (Nat.le_of_ble_eq_true rfl) (zrc hS (by decide) rfl) zM55 (Nat.le_of_ble_eq_true rfl) (hw.mono (fun r0 h13 hr35 => ?_))
          obtain ⟨v12, rfl, hw⟩ := hr35
          show zP X (d + 1) 53 106 [some (.ref 18)] [.int v12, .ref 18] S h13 (zV A)
          refine zb1_eq zM53 q53_106 (tgt := 115) rfl (fun hc => ?_) (fun hc => ?_)
          · have hw := hw.1 hc
            refine zl zM53 q53_115 rfl ?_
            refine zks zM53 q53_116 ks9_64 kt9_64 ?_
            refine zcV zM53 q53_118 kl9_52 rfl rfl (Nat.le_of_ble_eq_true rfl) (zrc hS (by decide) rfl) zM55 (Nat.le_of_ble_eq_true rfl) (hw.mono (fun r0 h15 hr34 => ?_))
            obtain ⟨v14, rfl, hw⟩ := hr34
            show zP X (d + 1) 53 121 [some (.ref 18)] [.int v14, .ref 18] S h15 (zV A)
            refine zb1_eq zM53 q53_121 (tgt := 130) rfl (fun hc => ?_) (fun hc => ?_)
            · have hw := hw.1 hc
              refine zl zM53 q53_130 rfl ?_
              refine zks zM53 q53_131 ks9_66 kt9_66 ?_
              refine zcV zM53 q53_133 kl9_52 rfl rfl (Nat.le_of_ble_eq_true rfl) (zrc hS (by decide) rfl) zM55 (Nat.le_of_ble_eq_true rfl) (hw.mono (fun r0 h17 hr33 => ?_))
              obtain ⟨v16, rfl, hw⟩ := hr33
              show zP X (d + 1) 53 136 [some (.ref 18)] [.int v16, .ref 18] S h17 (zV A)
              refine zb1_eq zM53 q53_136 (tgt := 145) rfl (fun hc => ?_) (fun hc => ?_)
              · have hw := hw.1 hc
                refine zl zM53 q53_145 rfl ?_
                refine zks zM53 q53_146 ks9_68 kt9_68 ?_
                refine zcV zM53 q53_148 kl9_52 rfl rfl (Nat.le_of_ble_eq_true rfl) (zrc hS (by decide) rfl) zM55 (Nat.le_of_ble_eq_true rfl) (hw.mono (fun r0 h19 hr32 => ?_))
                obtain ⟨v18, rfl, hw⟩ := hr32
                show zP X (d + 1) 53 151 [some (.ref 18)] [.int v18, .ref 18] S h19 (zV A)
                refine zb1_eq zM53 q53_151 (tgt := 160) rfl (fun hc => ?_) (fun hc => ?_)
                · have hw := hw.1 hc
                  refine zl zM53 q53_160 rfl ?_
                  refine zks zM53 q53_161 ks9_70 kt9_70 ?_
                  refine zcV zM53 q53_163 kl9_52 rfl rfl (Nat.le_of_ble_eq_true rfl) (zrc hS (by decide) rfl) zM55 (Nat.le_of_ble_eq_true rfl) (hw.mono (fun r0 h21 hr31 => ?_))
                  obtain ⟨v20, rfl, hw⟩ := hr31
                  show zP X (d + 1) 53 166 [some (.ref 18)] [.int v20, .ref 18] S h21 (zV A)
                  refine zb1_eq zM53 q53_166 (tgt := 175) rfl (fun hc => ?_) (fun hc => ?_)
                  · have hw := hw.1 hc
                    refine zl zM53 q53_175 rfl ?_
                    refine zks zM53 q53_176 ks9_72 kt9_72 ?_
                    refine zcV zM53 q53_178 kl9_52 rfl rfl (Nat.le_of_ble_eq_true rfl) (zrc hS (by decide) rfl) zM55 (Nat.le_of_ble_eq_true rfl) (hw.mono (fun r0 h23 hr30 => ?_))
                    obtain ⟨v22, rfl, hw⟩ := hr30
                    show zP X (d + 1) 53 181 [some (.ref 18)] [.int v22, .ref 18] S h23 (zV A)
                    refine zb1_eq zM53 q53_181 (tgt := 190) rfl (fun hc => ?_) (fun hc => ?_)
                    · have hw := hw.1 hc
                      refine zl zM53 q53_190 rfl ?_
                      refine zks zM53 q53_191 ks9_74 kt9_74 ?_
                      refine zcV zM53 q53_193 kl9_52 rfl rfl (Nat.le_of_ble_eq_true rfl) (zrc hS (by decide) rfl) zM55 (Nat.le_of_ble_eq_true rfl) (hw.mono (fun r0 h25 hr29 => ?_))
                      obtain ⟨v24, rfl, hw⟩ := hr29
                      show zP X (d + 1) 53 196 [some (.ref 18)] [.int v24, .ref 18] S h25 (zV A)
                      refine zb1_eq zM53 q53_196 (tgt := 205) rfl (fun hc => ?_) (fun hc => ?_)
                      · have hw := hw.1 hc
                        refine zl zM53 q53_205 rfl ?_
                        refine zks zM53 q53_206 ks9_76 kt9_76 ?_
                        refine zcV zM53 q53_208 kl9_52 rfl rfl (Nat.le_of_ble_eq_true rfl) (zrc hS (by decide) rfl) zM55 (Nat.le_of_ble_eq_true rfl) (hw.mono (fun r0 h27 hr28 => ?_))
                        obtain ⟨v26, rfl, hw⟩ := hr28
                        show zP X (d + 1) 53 211 [some (.ref 18)] [.int v26, .ref 18] S h27 (zV A)
                        refine zb1_eq zM53 q53_211 (tgt := 220) rfl (fun hc => ?_) (fun hc => ?_)
                        · have hw := hw.1 hc
                          refine zkS zM53 q53_220 kS257 ?_
                          refine zpi zM53 q53_223 (by decide) g9_25 (zs1 hS (by decide) s18) rfl rfl ?_
                          exact zrv zM53 q53_226 rfl hw
                        · have hw := hw.2 hc
                          refine zkS zM53 q53_214 kS275 ?_
                          refine zl zM53 q53_217 (pc' := 223) (ls' := _) (st' := _) rfl ?_
                          refine zpi zM53 q53_223 (by decide) g9_25 (zs1 hS (by decide) s18) rfl rfl ?_
                          exact zrv zM53 q53_226 rfl hw
                      · have hw := hw.2 hc
                        refine zkS zM53 q53_199 kS274 ?_
                        refine zl zM53 q53_202 (pc' := 223) (ls' := _) (st' := _) rfl ?_
                        refine zpi zM53 q53_223 (by decide) g9_25 (zs1 hS (by decide) s18) rfl rfl ?_
                        exact zrv zM53 q53_226 rfl hw
                    · have hw := hw.2 hc
                      refine zkS zM53 q53_184 kS273 ?_
                      refine zl zM53 q53_187 (pc' := 223) (ls' := _) (st' := _) rfl ?_
                      refine zpi zM53 q53_223 (by decide) g9_25 (zs1 hS (by decide) s18) rfl rfl ?_
                      exact zrv zM53 q53_226 rfl hw
                  · have hw := hw.2 hc
                    refine zkS zM53 q53_169 kS272 ?_
                    refine zl zM53 q53_172 (pc' := 223) (ls' := _) (st' := _) rfl ?_
                    refine zpi zM53 q53_223 (by decide) g9_25 (zs1 hS (by decide) s18) rfl rfl ?_
                    exact zrv zM53 q53_226 rfl hw
                · have hw := hw.2 hc
                  refine zkS zM53 q53_154 kS271 ?_
                  refine zl zM53 q53_157 (pc' := 223) (ls' := _) (st' := _) rfl ?_
                  refine zpi zM53 q53_223 (by decide) g9_25 (zs1 hS (by decide) s18) rfl rfl ?_
                  exact zrv zM53 q53_226 rfl hw
              · have hw := hw.2 hc
                refine zkS zM53 q53_139 kS270 ?_
                refine zl zM53 q53_142 (pc' := 223) (ls' := _) (st' := _) rfl ?_
                refine zpi zM53 q53_223 (by decide) g9_25 (zs1 hS (by decide) s18) rfl rfl ?_
                exact zrv zM53 q53_226 rfl hw
            · have hw := hw.2 hc
              refine zkS zM53 q53_124 kS265 ?_
              refine zl zM53 q53_127 (pc' := 223) (ls' := _) (st' := _) rfl ?_
              refine zpi zM53 q53_223 (by decide) g9_25 (zs1 hS (by decide) s18) rfl rfl ?_
              exact zrv zM53 q53_226 rfl hw
          · have hw := hw.2 hc
            refine zkS zM53 q53_109 kS264 ?_
            refine zl zM53 q53_112 (pc' := 223) (ls' := _) (st' := _) rfl ?_
            refine zpi zM53 q53_223 (by decide) g9_25 (zs1 hS (by decide) s18) rfl rfl ?_
            exact zrv zM53 q53_226 rfl hw
        · have hw := hw.2 hc
          refine zkS zM53 q53_94 kS263 ?_
          refine zl zM53 q53_97 (pc' := 223) (ls' := _) (st' := _) rfl ?_
          refine zpi zM53 q53_223 (by decide) g9_25 (zs1 hS (by decide) s18) rfl rfl ?_
          exact zrv zM53 q53_226 rfl hw
      · have hw := hw.2 hc
        refine zkS zM53 q53_79 kS262 ?_
        refine zl zM53 q53_82 (pc' := 223) (ls' := _) (st' := _) rfl ?_
        refine zpi zM53 q53_223 (by decide) g9_25 (zs1 hS (by decide) s18) rfl rfl ?_
        exact zrv zM53 q53_226 rfl hw
    · have hw := hw.2 hc
      refine zkS zM53 q53_64 kS261 ?_
      refine zl zM53 q53_67 (pc' := 223) (ls' := _) (st' := _) rfl ?_
      refine zpi zM53 q53_223 (by decide) g9_25 (zs1 hS (by decide) s18) rfl rfl ?_
      exact zrv zM53 q53_226 rfl hw
  · have hw := hw.2 hc
    refine zkS zM53 q53_49 kS260 ?_
    refine zl zM53 q53_52 (pc' := 223) (ls' := _) (st' := _) rfl ?_
    refine zpi zM53 q53_223 (by decide) g9_25 (zs1 hS (by decide) s18) rfl rfl ?_
    exact zrv zM53 q53_226 rfl hw
theorem e54 {S : zS} (hS : zCS S) {X : Option (List Int32)} {d : Nat} {h : zH} {A : zH → Prop}  (hw : zP X (d + 1) 54 5 [some (.ref 18)] [] S (z_up h 18 5 0) (zV A)) : zP X (d + 1) 54 0 (z_ent [.ref 18] 1) [] S h (zV A) := by
  show zP X (d + 1) 54 0 [some (.ref 18)] [] S h (zV A)
  refine zl zM54 q54_0 rfl ?_
  refine zkI zM54 q54_1 kI0 ?_
  refine zpi zM54 q54_2 (by decide) g9_78 (zs1 hS (by decide) s18) rfl rfl ?_
  exact hw
theorem e54_5 {S : zS} (hS : zCS S) {X : Option (List Int32)} {d : Nat} {h : zH} {A : zH → Prop}  (hw : (((h 18 3) < (h 18 1) → (z_ib (h 18 3) 160 ∧ zP X d 58 0 (z_ent [.int (h 19 (Int32.toNatClampNeg (h 18 3)))] 1) [] S h (zI fun v1 h2 => ((v1 = 0 → zP X (d + 1) 54 68 [some (.ref 18)] [] S h2 (zV A)) ∧ (¬ v1 = 0 → (z_ib (h2 18 3) 160 ∧ zP X (d + 1) 54 5 [some (.ref 18)] [] S (z_up (z_up h2 18 5 ((((h2 18 5) * 10) + (h2 19 (Int32.toNatClampNeg (h2 18 3)))) - 48)) 18 3 ((h2 18 3) + 1)) (zV A))))))) ∧ (¬ (h 18 3) < (h 18 1) → zP X (d + 1) 54 68 [some (.ref 18)] [] S h (zV A)))) : zP X (d + 1) 54 5 [some (.ref 18)] [] S h (zV A) := by
  refine zl zM54 q54_5 rfl ?_
  refine zgI zM54 q54_6 (by decide) g9_19 (zs1 hS (by decide) s18) rfl (v := (h 18 3)) rfl ?_
  refine zl zM54 q54_9 rfl ?_
  refine zgI zM54 q54_10 (by decide) g9_15 (zs1 hS (by decide) s18) rfl (v := (h 18 1)) rfl ?_
  refine zb2_ge zM54 q54_13 (tgt := 68) rfl (fun hc => ?_) (fun hc => ?_)
  · have hw := hw.2 hc
    exact hw
  · have hw := hw.1 hc
    refine zl zM54 q54_16 rfl ?_
    refine zgR (a := 19) zM54 q54_17 (by decide) g9_9 (zs1 hS (by decide) s18) rfl ?_
    refine zl zM54 q54_20 rfl ?_
    refine zgI zM54 q54_21 (by decide) g9_19 (zs1 hS (by decide) s18) rfl (v := (h 18 3)) rfl ?_
    obtain ⟨hb, hw⟩ := hw
    refine ziA zM54 q54_24 (by decide) (zs1 hS (by decide) s19) hb (v := (h 19 (Int32.toNatClampNeg (h 18 3)))) rfl ?_
    refine zcS zM54 q54_25 ky9_41 kl9_41 (by decide) rfl (Nat.le_of_ble_eq_true rfl) zM58 (Nat.le_of_ble_eq_true rfl) (hw.mono (fun r0 h2 hr3 => ?_))
    obtain ⟨v1, rfl, hw⟩ := hr3
    show zP X (d + 1) 54 28 [some (.ref 18)] [.int v1] S h2 (zV A)
    refine zb1_eq zM54 q54_28 (tgt := 68) rfl (fun hc => ?_) (fun hc => ?_)
    · have hw := hw.1 hc
      exact hw
    · have hw := hw.2 hc
      refine zl zM54 q54_31 rfl ?_
      refine zl zM54 q54_32 rfl ?_
      refine zgI zM54 q54_33 (by decide) g9_78 (zs1 hS (by decide) s18) rfl (v := (h2 18 5)) rfl ?_
      refine zkB zM54 q54_36 kB10 ?_
      refine zl zM54 q54_38 (pc' := 39) (st' := .int ((h2 18 5) * 10) :: _) rfl ?_
      refine zl zM54 q54_39 rfl ?_
      refine zgR (a := 19) zM54 q54_40 (by decide) g9_9 (zs1 hS (by decide) s18) rfl ?_
      refine zl zM54 q54_43 rfl ?_
      refine zgI zM54 q54_44 (by decide) g9_19 (zs1 hS (by decide) s18) rfl (v := (h2 18 3)) rfl ?_
      obtain ⟨hb, hw⟩ := hw
      refine ziA zM54 q54_47 (by decide) (zs1 hS (by decide) s19) hb (v := (h2 19 (Int32.toNatClampNeg (h2 18 3)))) rfl ?_
      refine zl zM54 q54_48 (pc' := 49) (st' := .int (((h2 18 5) * 10) + (h2 19 (Int32.toNatClampNeg (h2 18 3)))) :: _) rfl ?_
      refine zkB zM54 q54_49 kB48 ?_
      refine zl zM54 q54_51 (pc' := 52) (st' := .int ((((h2 18 5) * 10) + (h2 19 (Int32.toNatClampNeg (h2 18 3)))) - 48) :: _) rfl ?_
      refine zpi zM54 q54_52 (by decide) g9_78 (zs1 hS (by decide) s18) rfl rfl ?_
      refine zl zM54 q54_55 rfl ?_
      refine zl zM54 q54_56 rfl ?_
      refine zgI zM54 q54_57 (by decide) g9_19 (zs1 hS (by decide) s18) rfl (v := (h2 18 3)) rfl ?_
      refine zkI zM54 q54_60 kI1 ?_
      refine zl zM54 q54_61 (pc' := 62) (st' := .int ((h2 18 3) + 1) :: _) rfl ?_
      refine zpi zM54 q54_62 (by decide) g9_19 (zs1 hS (by decide) s18) rfl rfl ?_
      refine zl zM54 q54_65 (pc' := 5) (ls' := _) (st' := _) rfl ?_
      exact hw
theorem e54_68 {S : zS} (hS : zCS S) {X : Option (List Int32)} {d : Nat} {h : zH} {A : zH → Prop}  (hw : (((4 : Int32) < ((h 18 3) - (h 18 2)) → A (z_up h 18 4 257)) ∧ (¬ (4 : Int32) < ((h 18 3) - (h 18 2)) → A (z_up h 18 4 258)))) : zP X (d + 1) 54 68 [some (.ref 18)] [] S h (zV A) := by
  refine zl zM54 q54_68 rfl ?_
  refine zl zM54 q54_69 rfl ?_
  refine zgI zM54 q54_70 (by decide) g9_19 (zs1 hS (by decide) s18) rfl (v := (h 18 3)) rfl ?_
  refine zl zM54 q54_73 rfl ?_
  refine zgI zM54 q54_74 (by decide) g9_28 (zs1 hS (by decide) s18) rfl (v := (h 18 2)) rfl ?_
  refine zl zM54 q54_77 (pc' := 78) (st' := .int ((h 18 3) - (h 18 2)) :: _) rfl ?_
  refine zkI zM54 q54_78 kI4 ?_
  refine zb2_le zM54 q54_79 (tgt := 88) rfl (fun hc => ?_) (fun hc => ?_)
  · have hw := hw.2 hc
    refine zkS zM54 q54_88 kS258 ?_
    refine zpi zM54 q54_91 (by decide) g9_25 (zs1 hS (by decide) s18) rfl rfl ?_
    exact zrv zM54 q54_94 rfl hw
  · have hw := hw.1 hc
    refine zkS zM54 q54_82 kS257 ?_
    refine zl zM54 q54_85 (pc' := 91) (ls' := _) (st' := _) rfl ?_
    refine zpi zM54 q54_91 (by decide) g9_25 (zs1 hS (by decide) s18) rfl rfl ?_
    exact zrv zM54 q54_94 rfl hw
theorem e55 {S : zS} (hS : zCS S) {X : Option (List Int32)} {d : Nat} {h : zH} {A : Int32 → zH → Prop} {i : Nat} (hi0 : i < 13) (hw : zP X d 216 0 (z_ent [.ref (100100 + i)] 1) [] S h (zI fun v1 h2 => ((v1 = ((h2 18 3) - (h2 18 2)) → zP X (d + 1) 55 20 [some (.ref 18), some (.ref (100100 + i)), some (.int 0)] [] S h2 (zI A)) ∧ (¬ v1 = ((h2 18 3) - (h2 18 2)) → A 0 h2)))) : zP X (d + 1) 55 0 (z_ent [.ref 18, .ref (100100 + i)] 3) [] S h (zI A) := by
  show zP X (d + 1) 55 0 [some (.ref 18), some (.ref (100100 + i)), none] [] S h (zI A)
  refine zl zM55 q55_0 rfl ?_
  refine zcV zM55 q55_1 kl9_81 rfl rfl (Nat.le_of_ble_eq_true rfl) (zrStr hi0) zM216 (Nat.le_of_ble_eq_true rfl) (hw.mono (fun r0 h2 hr3 => ?_))
  obtain ⟨v1, rfl, hw⟩ := hr3
  show zP X (d + 1) 55 4 [some (.ref 18), some (.ref (100100 + i)), none] [.int v1] S h2 (zI A)
  refine zl zM55 q55_4 rfl ?_
  refine zgI zM55 q55_5 (by decide) g9_19 (zs1 hS (by decide) s18) rfl (v := (h2 18 3)) rfl ?_
  refine zl zM55 q55_8 rfl ?_
  refine zgI zM55 q55_9 (by decide) g9_28 (zs1 hS (by decide) s18) rfl (v := (h2 18 2)) rfl ?_
  refine zl zM55 q55_12 (pc' := 13) (st' := .int ((h2 18 3) - (h2 18 2)) :: _) rfl ?_
  refine zb2_eq zM55 q55_13 (tgt := 18) rfl (fun hc => ?_) (fun hc => ?_)
  · have hw := hw.1 hc
    refine zkI zM55 q55_18 kI0 ?_
    refine zl zM55 q55_19 (ls' := [some (.ref 18), some (.ref (100100 + i)), some (.int 0)]) rfl ?_
    exact hw
  · have hw := hw.2 hc
    refine zkI zM55 q55_16 kI0 ?_
    exact zri zM55 q55_17 rfl rfl hw
theorem e55_20 {S : zS} (hS : zCS S) {X : Option (List Int32)} {d : Nat} {h : zH} {A : Int32 → zH → Prop} {i : Nat} {l2 : Int32} (hi0 : i < 13) (hw : zP X d 216 0 (z_ent [.ref (100100 + i)] 1) [] S h (zI fun v4 h5 => ((l2 < v4 → (z_ib ((h5 18 2) + l2) 160 ∧ zP X d 217 0 (z_ent [.ref (100100 + i), .int l2] 2) [] S h5 (zI fun v6 h7 => (((h5 19 (Int32.toNatClampNeg ((h5 18 2) + l2))) = v6 → zP X (d + 1) 55 20 [some (.ref 18), some (.ref (100100 + i)), some (.int (l2 + 1))] [] S h7 (zI A)) ∧ (¬ (h5 19 (Int32.toNatClampNeg ((h5 18 2) + l2))) = v6 → A 0 h7))))) ∧ (¬ l2 < v4 → A 1 h5)))) : zP X (d + 1) 55 20 [some (.ref 18), some (.ref (100100 + i)), some (.int l2)] [] S h (zI A) := by
  refine zl zM55 q55_20 rfl ?_
  refine zl zM55 q55_21 rfl ?_
  refine zcV zM55 q55_22 kl9_81 rfl rfl (Nat.le_of_ble_eq_true rfl) (zrStr hi0) zM216 (Nat.le_of_ble_eq_true rfl) (hw.mono (fun r0 h5 hr9 => ?_))
  obtain ⟨v4, rfl, hw⟩ := hr9
  show zP X (d + 1) 55 25 [some (.ref 18), some (.ref (100100 + i)), some (.int l2)] [.int v4, .int l2] S h5 (zI A)
  refine zb2_ge zM55 q55_25 (tgt := 55) rfl (fun hc => ?_) (fun hc => ?_)
  · have hw := hw.2 hc
    refine zkI zM55 q55_55 kI1 ?_
    exact zri zM55 q55_56 rfl rfl hw
  · have hw := hw.1 hc
    refine zl zM55 q55_28 rfl ?_
    refine zgR (a := 19) zM55 q55_29 (by decide) g9_9 (zs1 hS (by decide) s18) rfl ?_
    refine zl zM55 q55_32 rfl ?_
    refine zgI zM55 q55_33 (by decide) g9_28 (zs1 hS (by decide) s18) rfl (v := (h5 18 2)) rfl ?_
    refine zl zM55 q55_36 rfl ?_
    refine zl zM55 q55_37 (pc' := 38) (st' := .int ((h5 18 2) + l2) :: _) rfl ?_
    obtain ⟨hb, hw⟩ := hw
    refine ziA zM55 q55_38 (by decide) (zs1 hS (by decide) s19) hb (v := (h5 19 (Int32.toNatClampNeg ((h5 18 2) + l2)))) rfl ?_
    refine zl zM55 q55_39 rfl ?_
    refine zl zM55 q55_40 rfl ?_
    refine zcV zM55 q55_41 kl9_87 rfl rfl (Nat.le_of_ble_eq_true rfl) (zrStr hi0) zM217 (Nat.le_of_ble_eq_true rfl) (hw.mono (fun r0 h7 hr8 => ?_))
    obtain ⟨v6, rfl, hw⟩ := hr8
    show zP X (d + 1) 55 44 [some (.ref 18), some (.ref (100100 + i)), some (.int l2)] [.int v6, .int (h5 19 (Int32.toNatClampNeg ((h5 18 2) + l2)))] S h7 (zI A)
    refine zb2_eq zM55 q55_44 (tgt := 49) rfl (fun hc => ?_) (fun hc => ?_)
    · have hw := hw.1 hc
      refine zl zM55 q55_49 (ls' := [some (.ref 18), some (.ref (100100 + i)), some (.int (l2 + 1))]) rfl ?_
      refine zl zM55 q55_52 (pc' := 20) (ls' := _) (st' := _) rfl ?_
      exact hw
    · have hw := hw.2 hc
      refine zkI zM55 q55_47 kI0 ?_
      exact zri zM55 q55_48 rfl rfl hw
theorem e56 {S : zS} (hS : zCS S) {X : Option (List Int32)} {d : Nat} {h : zH} {A : Int32 → zH → Prop} {a1 : Int32} (hw : ((a1 = 32 → A 1 h) ∧ (¬ a1 = 32 → ((a1 = 10 → A 1 h) ∧ (¬ a1 = 10 → A 0 h))))) : zP X d 56 0 (z_ent [.int a1] 1) [] S h (zI A) := by
  show zP X d 56 0 [some (.int a1)] [] S h (zI A)
  refine zl zM56 q56_0 rfl ?_
  refine zkB zM56 q56_1 kB32 ?_
  refine zb2_eq zM56 q56_3 (tgt := 12) rfl (fun hc => ?_) (fun hc => ?_)
  · have hw := hw.1 hc
    refine zkI zM56 q56_12 kI1 ?_
    refine zl zM56 q56_13 (pc' := 17) (ls' := _) (st' := _) rfl ?_
    exact zri zM56 q56_17 rfl rfl hw
  · have hw := hw.2 hc
    refine zl zM56 q56_6 rfl ?_
    refine zkB zM56 q56_7 kB10 ?_
    refine zb2_ne zM56 q56_9 (tgt := 16) rfl (fun hc => ?_) (fun hc => ?_)
    · have hw := hw.2 hc
      refine zkI zM56 q56_16 kI0 ?_
      exact zri zM56 q56_17 rfl rfl hw
    · have hw := hw.1 hc
      refine zkI zM56 q56_12 kI1 ?_
      refine zl zM56 q56_13 (pc' := 17) (ls' := _) (st' := _) rfl ?_
      exact zri zM56 q56_17 rfl rfl hw
theorem e57 {S : zS} (hS : zCS S) {X : Option (List Int32)} {d : Nat} {h : zH} {A : Int32 → zH → Prop} {a1 : Int32} (hw : ((a1 < 97 → A 0 h) ∧ (¬ a1 < 97 → (((122 : Int32) < a1 → A 0 h) ∧ (¬ (122 : Int32) < a1 → A 1 h))))) : zP X d 57 0 (z_ent [.int a1] 1) [] S h (zI A) := by
  show zP X d 57 0 [some (.int a1)] [] S h (zI A)
  refine zl zM57 q57_0 rfl ?_
  refine zkB zM57 q57_1 kB97 ?_
  refine zb2_lt zM57 q57_3 (tgt := 16) rfl (fun hc => ?_) (fun hc => ?_)
  · have hw := hw.1 hc
    refine zkI zM57 q57_16 kI0 ?_
    exact zri zM57 q57_17 rfl rfl hw
  · have hw := hw.2 hc
    refine zl zM57 q57_6 rfl ?_
    refine zkB zM57 q57_7 kB122 ?_
    refine zb2_gt zM57 q57_9 (tgt := 16) rfl (fun hc => ?_) (fun hc => ?_)
    · have hw := hw.1 hc
      refine zkI zM57 q57_16 kI0 ?_
      exact zri zM57 q57_17 rfl rfl hw
    · have hw := hw.2 hc
      refine zkI zM57 q57_12 kI1 ?_
      refine zl zM57 q57_13 (pc' := 17) (ls' := _) (st' := _) rfl ?_
      exact zri zM57 q57_17 rfl rfl hw
theorem e58 {S : zS} (hS : zCS S) {X : Option (List Int32)} {d : Nat} {h : zH} {A : Int32 → zH → Prop} {a1 : Int32} (hw : ((a1 < 48 → A 0 h) ∧ (¬ a1 < 48 → (((57 : Int32) < a1 → A 0 h) ∧ (¬ (57 : Int32) < a1 → A 1 h))))) : zP X d 58 0 (z_ent [.int a1] 1) [] S h (zI A) := by
  show zP X d 58 0 [some (.int a1)] [] S h (zI A)
  refine zl zM58 q58_0 rfl ?_
  refine zkB zM58 q58_1 kB48 ?_
  refine zb2_lt zM58 q58_3 (tgt := 16) rfl (fun hc => ?_) (fun hc => ?_)
  · have hw := hw.1 hc
    refine zkI zM58 q58_16 kI0 ?_
    exact zri zM58 q58_17 rfl rfl hw
  · have hw := hw.2 hc
    refine zl zM58 q58_6 rfl ?_
    refine zkB zM58 q58_7 kB57 ?_
    refine zb2_gt zM58 q58_9 (tgt := 16) rfl (fun hc => ?_) (fun hc => ?_)
    · have hw := hw.1 hc
      refine zkI zM58 q58_16 kI0 ?_
      exact zri zM58 q58_17 rfl rfl hw
    · have hw := hw.2 hc
      refine zkI zM58 q58_12 kI1 ?_
      refine zl zM58 q58_13 (pc' := 17) (ls' := _) (st' := _) rfl ?_
      exact zri zM58 q58_17 rfl rfl hw
theorem e59 {S : zS} (hS : zCS S) {X : Option (List Int32)} {d : Nat} {h : zH} {A : Int32 → zH → Prop} {a1 : Int32} (hw : ((a1 = 40 → A 1 h) ∧ (a1 = 41 → A 1 h) ∧ (a1 = 42 → A 1 h) ∧ (a1 = 43 → A 1 h) ∧ (a1 = 44 → A 0 h) ∧ (a1 = 45 → A 1 h) ∧ (a1 = 46 → A 0 h) ∧ (a1 = 47 → A 0 h) ∧ (a1 = 48 → A 0 h) ∧ (a1 = 49 → A 0 h) ∧ (a1 = 50 → A 0 h) ∧ (a1 = 51 → A 0 h) ∧ (a1 = 52 → A 0 h) ∧ (a1 = 53 → A 0 h) ∧ (a1 = 54 → A 0 h) ∧ (a1 = 55 → A 0 h) ∧ (a1 = 56 → A 0 h) ∧ (a1 = 57 → A 0 h) ∧ (a1 = 58 → A 0 h) ∧ (a1 = 59 → A 1 h) ∧ (a1 = 60 → A 1 h) ∧ (a1 = 61 → A 1 h) ∧ ((¬ a1 = 40 ∧ ¬ a1 = 41 ∧ ¬ a1 = 42 ∧ ¬ a1 = 43 ∧ ¬ a1 = 44 ∧ ¬ a1 = 45 ∧ ¬ a1 = 46 ∧ ¬ a1 = 47 ∧ ¬ a1 = 48 ∧ ¬ a1 = 49 ∧ ¬ a1 = 50 ∧ ¬ a1 = 51 ∧ ¬ a1 = 52 ∧ ¬ a1 = 53 ∧ ¬ a1 = 54 ∧ ¬ a1 = 55 ∧ ¬ a1 = 56 ∧ ¬ a1 = 57 ∧ ¬ a1 = 58 ∧ ¬ a1 = 59 ∧ ¬ a1 = 60 ∧ ¬ a1 = 61) → A 0 h))) : zP X d 59 0 (z_ent [.int a1] 1) [] S h (zI A) := by
  show zP X d 59 0 [some (.int a1)] [] S h (zI A)
  refine zl zM59 q59_0 rfl ?_
  by_cases hs1 : a1 = 40
  · have hw := hw.1 hs1
    refine zts 40 hs1 zM59 q59_1 (tgt := 104) (by decide) rfl rfl ?_
    refine zkI zM59 q59_104 kI1 ?_
    exact zri zM59 q59_105 rfl rfl hw
  by_cases hs2 : a1 = 41
  · have hw := hw.2.1 hs2
    refine zts 41 hs2 zM59 q59_1 (tgt := 104) (by decide) rfl rfl ?_
    refine zkI zM59 q59_104 kI1 ?_
    exact zri zM59 q59_105 rfl rfl hw
  by_cases hs3 : a1 = 42
  · have hw := hw.2.2.1 hs3
    refine zts 42 hs3 zM59 q59_1 (tgt := 104) (by decide) rfl rfl ?_
    refine zkI zM59 q59_104 kI1 ?_
    exact zri zM59 q59_105 rfl rfl hw
  by_cases hs4 : a1 = 43
  · have hw := hw.2.2.2.1 hs4
    refine zts 43 hs4 zM59 q59_1 (tgt := 104) (by decide) rfl rfl ?_
    refine zkI zM59 q59_104 kI1 ?_
    exact zri zM59 q59_105 rfl rfl hw
  by_cases hs5 : a1 = 44
  · have hw := hw.2.2.2.2.1 hs5
    refine zts 44 hs5 zM59 q59_1 (tgt := 106) (by decide) rfl rfl ?_
    refine zkI zM59 q59_106 kI0 ?_
    exact zri zM59 q59_107 rfl rfl hw
  by_cases hs6 : a1 = 45
  · have hw := hw.2.2.2.2.2.1 hs6
    refine zts 45 hs6 zM59 q59_1 (tgt := 104) (by decide) rfl rfl ?_
    refine zkI zM59 q59_104 kI1 ?_
    exact zri zM59 q59_105 rfl rfl hw
  by_cases hs7 : a1 = 46
  · have hw := hw.2.2.2.2.2.2.1 hs7
    refine zts 46 hs7 zM59 q59_1 (tgt := 106) (by decide) rfl rfl ?_
    refine zkI zM59 q59_106 kI0 ?_
    exact zri zM59 q59_107 rfl rfl hw
  by_cases hs8 : a1 = 47
  · have hw := hw.2.2.2.2.2.2.2.1 hs8
    refine zts 47 hs8 zM59 q59_1 (tgt := 106) (by decide) rfl rfl ?_
    refine zkI zM59 q59_106 kI0 ?_
    exact zri zM59 q59_107 rfl rfl hw
  by_cases hs9 : a1 = 48
  · have hw := hw.2.2.2.2.2.2.2.2.1 hs9
    refine zts 48 hs9 zM59 q59_1 (tgt := 106) (by decide) rfl rfl ?_
    refine zkI zM59 q59_106 kI0 ?_
    exact zri zM59 q59_107 rfl rfl hw
  by_cases hs10 : a1 = 49
  · have hw := hw.2.2.2.2.2.2.2.2.2.1 hs10
    refine zts 49 hs10 zM59 q59_1 (tgt := 106) (by decide) rfl rfl ?_
    refine zkI zM59 q59_106 kI0 ?_
    exact zri zM59 q59_107 rfl rfl hw
  by_cases hs11 : a1 = 50
  · have hw := hw.2.2.2.2.2.2.2.2.2.2.1 hs11
    refine zts 50 hs11 zM59 q59_1 (tgt := 106) (by decide) rfl rfl ?_
    refine zkI zM59 q59_106 kI0 ?_
    exact zri zM59 q59_107 rfl rfl hw
  by_cases hs12 : a1 = 51
  · have hw := hw.2.2.2.2.2.2.2.2.2.2.2.1 hs12
    refine zts 51 hs12 zM59 q59_1 (tgt := 106) (by decide) rfl rfl ?_
    refine zkI zM59 q59_106 kI0 ?_
    exact zri zM59 q59_107 rfl rfl hw
  by_cases hs13 : a1 = 52
  · have hw := hw.2.2.2.2.2.2.2.2.2.2.2.2.1 hs13
    refine zts 52 hs13 zM59 q59_1 (tgt := 106) (by decide) rfl rfl ?_
    refine zkI zM59 q59_106 kI0 ?_
    exact zri zM59 q59_107 rfl rfl hw
  by_cases hs14 : a1 = 53
  · have hw := hw.2.2.2.2.2.2.2.2.2.2.2.2.2.1 hs14
    refine zts 53 hs14 zM59 q59_1 (tgt := 106) (by decide) rfl rfl ?_
    refine zkI zM59 q59_106 kI0 ?_
    exact zri zM59 q59_107 rfl rfl hw
  by_cases hs15 : a1 = 54
  · have hw := hw.2.2.2.2.2.2.2.2.2.2.2.2.2.2.1 hs15
    refine zts 54 hs15 zM59 q59_1 (tgt := 106) (by decide) rfl rfl ?_
    refine zkI zM59 q59_106 kI0 ?_
    exact zri zM59 q59_107 rfl rfl hw
  by_cases hs16 : a1 = 55
  · have hw := hw.2.2.2.2.2.2.2.2.2.2.2.2.2.2.2.1 hs16
    refine zts 55 hs16 zM59 q59_1 (tgt := 106) (by decide) rfl rfl ?_
    refine zkI zM59 q59_106 kI0 ?_
    exact zri zM59 q59_107 rfl rfl hw
  by_cases hs17 : a1 = 56
  · have hw := hw.2.2.2.2.2.2.2.2.2.2.2.2.2.2.2.2.1 hs17
    refine zts 56 hs17 zM59 q59_1 (tgt := 106) (by decide) rfl rfl ?_
    refine zkI zM59 q59_106 kI0 ?_
    exact zri zM59 q59_107 rfl rfl hw
  by_cases hs18 : a1 = 57
  · have hw := hw.2.2.2.2.2.2.2.2.2.2.2.2.2.2.2.2.2.1 hs18
    refine zts 57 hs18 zM59 q59_1 (tgt := 106) (by decide) rfl rfl ?_
    refine zkI zM59 q59_106 kI0 ?_
    exact zri zM59 q59_107 rfl rfl hw
  by_cases hs19 : a1 = 58
  · have hw := hw.2.2.2.2.2.2.2.2.2.2.2.2.2.2.2.2.2.2.1 hs19
    refine zts 58 hs19 zM59 q59_1 (tgt := 106) (by decide) rfl rfl ?_
    refine zkI zM59 q59_106 kI0 ?_
    exact zri zM59 q59_107 rfl rfl hw
  by_cases hs20 : a1 = 59
  · have hw := hw.2.2.2.2.2.2.2.2.2.2.2.2.2.2.2.2.2.2.2.1 hs20
    refine zts 59 hs20 zM59 q59_1 (tgt := 104) (by decide) rfl rfl ?_
    refine zkI zM59 q59_104 kI1 ?_
    exact zri zM59 q59_105 rfl rfl hw
  by_cases hs21 : a1 = 60
  · have hw := hw.2.2.2.2.2.2.2.2.2.2.2.2.2.2.2.2.2.2.2.2.1 hs21
    refine zts 60 hs21 zM59 q59_1 (tgt := 104) (by decide) rfl rfl ?_
    refine zkI zM59 q59_104 kI1 ?_
    exact zri zM59 q59_105 rfl rfl hw
  by_cases hs22 : a1 = 61
  · have hw := hw.2.2.2.2.2.2.2.2.2.2.2.2.2.2.2.2.2.2.2.2.2.1 hs22
    refine zts 61 hs22 zM59 q59_1 (tgt := 104) (by decide) rfl rfl ?_
    refine zkI zM59 q59_104 kI1 ?_
    exact zri zM59 q59_105 rfl rfl hw
  have hw := hw.2.2.2.2.2.2.2.2.2.2.2.2.2.2.2.2.2.2.2.2.2.2 ⟨hs1, hs2, hs3, hs4, hs5, hs6, hs7, hs8, hs9, hs10, hs11, hs12, hs13, hs14, hs15, hs16, hs17, hs18, hs19, hs20, hs21, hs22⟩
  have hs1 := z_neI hs1
  have hs2 := z_neI hs2
  have hs3 := z_neI hs3
  have hs4 := z_neI hs4
  have hs5 := z_neI hs5
  have hs6 := z_neI hs6
  have hs7 := z_neI hs7
  have hs8 := z_neI hs8
  have hs9 := z_neI hs9
  have hs10 := z_neI hs10
  have hs11 := z_neI hs11
  have hs12 := z_neI hs12
  have hs13 := z_neI hs13
  have hs14 := z_neI hs14
  have hs15 := z_neI hs15
  have hs16 := z_neI hs16
  have hs17 := z_neI hs17
  have hs18 := z_neI hs18
  have hs19 := z_neI hs19
  have hs20 := z_neI hs20
  have hs21 := z_neI hs21
  have hs22 := z_neI hs22
  refine ztd (tgt := 106) ?_ zM59 q59_1 rfl ?_
  · simp only [show (40 : Int32).toInt = 40 from rfl, show (41 : Int32).toInt = 41 from rfl, show (42 : Int32).toInt = 42 from rfl, show (43 : Int32).toInt = 43 from rfl, show (44 : Int32).toInt = 44 from rfl, show (45 : Int32).toInt = 45 from rfl, show (46 : Int32).toInt = 46 from rfl, show (47 : Int32).toInt = 47 from rfl, show (48 : Int32).toInt = 48 from rfl, show (49 : Int32).toInt = 49 from rfl, show (50 : Int32).toInt = 50 from rfl, show (51 : Int32).toInt = 51 from rfl, show (52 : Int32).toInt = 52 from rfl, show (53 : Int32).toInt = 53 from rfl, show (54 : Int32).toInt = 54 from rfl, show (55 : Int32).toInt = 55 from rfl, show (56 : Int32).toInt = 56 from rfl, show (57 : Int32).toInt = 57 from rfl, show (58 : Int32).toInt = 58 from rfl, show (59 : Int32).toInt = 59 from rfl, show (60 : Int32).toInt = 60 from rfl, show (61 : Int32).toInt = 61 from rfl] at hs1 hs2 hs3 hs4 hs5 hs6 hs7 hs8 hs9 hs10 hs11 hs12 hs13 hs14 hs15 hs16 hs17 hs18 hs19 hs20 hs21 hs22; omega
  refine zkI zM59 q59_106 kI0 ?_
  exact zri zM59 q59_107 rfl rfl hw
theorem e61 {S : zS} (hS : zCS S) {X : Option (List Int32)} {d : Nat} {h : zH} {A : Int32 → zH → Prop} {t : Nat} (ht0 : t ∈ ([25, 28, 31, 34, 37, 40] : List Nat)) (hw : zP X d 50 0 (z_ent [.ref 18] 1) [] S (z_up h (t) 2 0) (zV fun h3 => zP X (d + 1) 61 11 [some (.ref (t)), some (.ref 18), some (.int 0)] [] S h3 (zI A))) : zP X (d + 1) 61 0 (z_ent [.ref (t), .ref 18] 3) [] S h (zI A) := by
  show zP X (d + 1) 61 0 [some (.ref (t)), some (.ref 18), none] [] S h (zI A)
  refine zl zM61 q61_0 rfl ?_
  refine zkI zM61 q61_1 kI0 ?_
  refine zpi zM61 q61_2 (sTxS hS ht0).1 g10_18 (sTxS hS ht0).2.2.2.1 rfl rfl ?_
  refine zl zM61 q61_5 rfl ?_
  refine zcV zM61 q61_6 kl10_22 rfl rfl (Nat.le_of_ble_eq_true rfl) (zrc hS (by decide) rfl) zM50 (Nat.le_of_ble_eq_true rfl) (hw.mono (fun r0 h3 hr4 => ?_))
  obtain ⟨rfl, hw⟩ := hr4
  show zP X (d + 1) 61 9 [some (.ref (t)), some (.ref 18), none] [] S h3 (zI A)
  refine zkI zM61 q61_9 kI0 ?_
  refine zl zM61 q61_10 (ls' := [some (.ref (t)), some (.ref 18), some (.int 0)]) rfl ?_
  exact hw
theorem e61_11 {S : zS} (hS : zCS S) {X : Option (List Int32)} {d : Nat} {h : zH} {A : Int32 → zH → Prop} {l0 : Nat} {l2 : Int32} (hl0 : l0 ∈ ([25, 28, 31, 34, 37, 40] : List Nat)) (hw : ((l2 < 3 → zP X d 51 0 (z_ent [.ref 18, .int (260 + l2)] 2) [] S h (zI fun v5 h7 => ((v5 = 0 → A 0 h7) ∧ (¬ v5 = 0 → zP X d 63 0 (z_ent [.ref (l0), .ref 18, .int 0] 4) [] S h7 (zI fun v8 h10 => ((v8 = 0 → A 0 h10) ∧ (¬ v8 = 0 → (z_ib l2 3 ∧ zP X d 51 0 (z_ent [.ref 18, .int 59] 2) [] S (z_up h10 (l0 + 2) (Int32.toNatClampNeg l2) (h10 (l0) 2)) (zI fun v11 h13 => ((v11 = 0 → A 0 h13) ∧ (¬ v11 = 0 → zP X (d + 1) 61 11 [some (.ref (l0)), some (.ref 18), some (.int (l2 + 1))] [] S h13 (zI A)))))))))))) ∧ (¬ l2 < 3 → (((h 18 4) = 256 → A 1 h) ∧ (¬ (h 18 4) = 256 → A 0 h))))) : zP X (d + 1) 61 11 [some (.ref (l0)), some (.ref 18), some (.int l2)] [] S h (zI A) := by
  refine zl zM61 q61_11 rfl ?_
  refine zkI zM61 q61_12 kI3 ?_
  refine zb2_ge zM61 q61_13 (tgt := 66) rfl (fun hc => ?_) (fun hc => ?_)
  · have hw := hw.2 hc
    refine zl zM61 q61_66 rfl ?_
    refine zgI zM61 q61_67 (by decide) g10_35 (zs1 hS (by decide) s18) rfl (v := (h 18 4)) rfl ?_
    refine zkS zM61 q61_70 kS256 ?_
    refine zb2_ne zM61 q61_73 (tgt := 80) rfl (fun hc => ?_) (fun hc => ?_)
    · have hw := hw.2 hc
      refine zkI zM61 q61_80 kI0 ?_
      exact zri zM61 q61_81 rfl rfl hw
    · have hw := hw.1 hc
      refine zkI zM61 q61_76 kI1 ?_
      refine zl zM61 q61_77 (pc' := 81) (ls' := _) (st' := _) rfl ?_
      exact zri zM61 q61_81 rfl rfl hw
  · have hw := hw.1 hc
    refine zl zM61 q61_16 rfl ?_
    refine zkS zM61 q61_17 kS260 ?_
    refine zl zM61 q61_20 rfl ?_
    refine zl zM61 q61_21 (pc' := 22) (st' := .int (260 + l2) :: _) rfl ?_
    refine zcV zM61 q61_22 kl10_27 rfl rfl (Nat.le_of_ble_eq_true rfl) (zrc hS (by decide) rfl) zM51 (Nat.le_of_ble_eq_true rfl) (hw.mono (fun r0 h7 hr16 => ?_))
    obtain ⟨v5, rfl, hw⟩ := hr16
    show zP X (d + 1) 61 25 [some (.ref (l0)), some (.ref 18), some (.int l2)] [.int v5] S h7 (zI A)
    refine zb1_eq zM61 q61_25 (tgt := 37) rfl (fun hc => ?_) (fun hc => ?_)
    · have hw := hw.1 hc
      refine zkI zM61 q61_37 kI0 ?_
      exact zri zM61 q61_38 rfl rfl hw
    · have hw := hw.2 hc
      refine zl zM61 q61_28 rfl ?_
      refine zl zM61 q61_29 rfl ?_
      refine zkI zM61 q61_30 kI0 ?_
      refine zcV zM61 q61_31 kl10_31 rfl rfl (Nat.le_of_ble_eq_true rfl) (zrT hS hl0) zM63 (Nat.le_of_ble_eq_true rfl) (hw.mono (fun r0 h10 hr15 => ?_))
      obtain ⟨v8, rfl, hw⟩ := hr15
      show zP X (d + 1) 61 34 [some (.ref (l0)), some (.ref 18), some (.int l2)] [.int v8] S h10 (zI A)
      refine zb1_ne zM61 q61_34 (tgt := 39) rfl (fun hc => ?_) (fun hc => ?_)
      · have hw := hw.2 hc
        refine zl zM61 q61_39 rfl ?_
        refine zgR (a := l0 + 2) zM61 q61_40 (sTxS hS hl0).1 g10_15 (sTxS hS hl0).2.2.2.1 rfl ?_
        refine zl zM61 q61_43 rfl ?_
        refine zl zM61 q61_44 rfl ?_
        refine zgI zM61 q61_45 (sTxS hS hl0).1 g10_18 (sTxS hS hl0).2.2.2.1 rfl (v := (h10 (l0) 2)) rfl ?_
        obtain ⟨hb, hw⟩ := hw
        refine ziS zM61 q61_48 (sTxS hS hl0).2.2.1 (sTxS hS hl0).2.2.2.2.2 hb rfl ?_
        refine zl zM61 q61_49 rfl ?_
        refine zkB zM61 q61_50 kB59 ?_
        refine zcV zM61 q61_52 kl10_27 rfl rfl (Nat.le_of_ble_eq_true rfl) (zrc hS (by decide) rfl) zM51 (Nat.le_of_ble_eq_true rfl) (hw.mono (fun r0 h13 hr14 => ?_))
        obtain ⟨v11, rfl, hw⟩ := hr14
        show zP X (d + 1) 61 55 [some (.ref (l0)), some (.ref 18), some (.int l2)] [.int v11] S h13 (zI A)
        refine zb1_ne zM61 q61_55 (tgt := 60) rfl (fun hc => ?_) (fun hc => ?_)
        · have hw := hw.2 hc
          refine zl zM61 q61_60 (ls' := [some (.ref (l0)), some (.ref 18), some (.int (l2 + 1))]) rfl ?_
          refine zl zM61 q61_63 (pc' := 11) (ls' := _) (st' := _) rfl ?_
          exact hw
        · have hw := hw.1 hc
          refine zkI zM61 q61_58 kI0 ?_
          exact zri zM61 q61_59 rfl rfl hw
      · have hw := hw.1 hc
        refine zkI zM61 q61_37 kI0 ?_
        exact zri zM61 q61_38 rfl rfl hw
theorem e62 {S : zS} (hS : zCS S) {X : Option (List Int32)} {d : Nat} {h : zH} {A : zH → Prop} {t : Nat} {a1 : Int32} (ht0 : t ∈ ([25, 28, 31, 34, 37, 40] : List Nat)) (hw : (((h (t) 2) < 160 → (z_ib (h (t) 2) 160 ∧ A (z_up (z_up h (t + 1) (Int32.toNatClampNeg (h (t) 2)) a1) (t) 2 (((z_up h (t + 1) (Int32.toNatClampNeg (h (t) 2)) a1) (t) 2) + 1)))) ∧ (¬ (h (t) 2) < 160 → A h))) : zP X d 62 0 (z_ent [.ref (t), .int a1] 2) [] S h (zV A) := by
  show zP X d 62 0 [some (.ref (t)), some (.int a1)] [] S h (zV A)
  refine zl zM62 q62_0 rfl ?_
  refine zgI zM62 q62_1 (sTxS hS ht0).1 g10_18 (sTxS hS ht0).2.2.2.1 rfl (v := (h (t) 2)) rfl ?_
  refine zkS zM62 q62_4 kS160 ?_
  refine zb2_ge zM62 q62_7 (tgt := 30) rfl (fun hc => ?_) (fun hc => ?_)
  · have hw := hw.2 hc
    exact zrv zM62 q62_30 rfl hw
  · have hw := hw.1 hc
    refine zl zM62 q62_10 rfl ?_
    refine zgR (a := t + 1) zM62 q62_11 (sTxS hS ht0).1 g10_9 (sTxS hS ht0).2.2.2.1 rfl ?_
    refine zl zM62 q62_14 rfl ?_
    refine zgI zM62 q62_15 (sTxS hS ht0).1 g10_18 (sTxS hS ht0).2.2.2.1 rfl (v := (h (t) 2)) rfl ?_
    refine zl zM62 q62_18 rfl ?_
    obtain ⟨hb, hw⟩ := hw
    refine ziS zM62 q62_19 (sTxS hS ht0).2.1 (sTxS hS ht0).2.2.2.2.1 hb rfl ?_
    refine zl zM62 q62_20 rfl ?_
    refine zl zM62 q62_21 rfl ?_
    refine zgI zM62 q62_22 (sTxS hS ht0).1 g10_18 (sTxS hS ht0).2.2.2.1 rfl (v := ((z_up h (t + 1) (Int32.toNatClampNeg (h (t) 2)) a1) (t) 2)) rfl ?_
    refine zkI zM62 q62_25 kI1 ?_
    refine zl zM62 q62_26 (pc' := 27) (st' := .int (((z_up h (t + 1) (Int32.toNatClampNeg (h (t) 2)) a1) (t) 2) + 1) :: _) rfl ?_
    refine zpi zM62 q62_27 (sTxS hS ht0).1 g10_18 (sTxS hS ht0).2.2.2.1 rfl rfl ?_
    exact zrv zM62 q62_30 rfl hw
theorem e63 {S : zS} (hS : zCS S) {X : Option (List Int32)} {d : Nat} {h : zH} {A : Int32 → zH → Prop} {t : Nat} {a2 : Int32} (ht0 : t ∈ ([25, 28, 31, 34, 37, 40] : List Nat)) (hw : zP X d 64 0 (z_ent [.ref (t), .ref 18, .int a2] 4) [] S h (zI fun v1 h3 => ((v1 = 0 → A 0 h3) ∧ (¬ v1 = 0 → zP X (d + 1) 63 13 [some (.ref (t)), some (.ref 18), some (.int a2), some (.int 0)] [] S h3 (zI A))))) : zP X (d + 1) 63 0 (z_ent [.ref (t), .ref 18, .int a2] 4) [] S h (zI A) := by
  show zP X (d + 1) 63 0 [some (.ref (t)), some (.ref 18), some (.int a2), none] [] S h (zI A)
  refine zl zM63 q63_0 rfl ?_
  refine zl zM63 q63_1 rfl ?_
  refine zl zM63 q63_2 rfl ?_
  refine zcV zM63 q63_3 kl10_38 rfl rfl (Nat.le_of_ble_eq_true rfl) (zrT hS ht0) zM64 (Nat.le_of_ble_eq_true rfl) (hw.mono (fun r0 h3 hr4 => ?_))
  obtain ⟨v1, rfl, hw⟩ := hr4
  show zP X (d + 1) 63 6 [some (.ref (t)), some (.ref 18), some (.int a2), none] [.int v1] S h3 (zI A)
  refine zb1_ne zM63 q63_6 (tgt := 11) rfl (fun hc => ?_) (fun hc => ?_)
  · have hw := hw.2 hc
    refine zkI zM63 q63_11 kI0 ?_
    refine zl zM63 q63_12 (ls' := [some (.ref (t)), some (.ref 18), some (.int a2), some (.int 0)]) rfl ?_
    exact hw
  · have hw := hw.1 hc
    refine zkI zM63 q63_9 kI0 ?_
    exact zri zM63 q63_10 rfl rfl hw
theorem e63_13 {S : zS} (hS : zCS S) {X : Option (List Int32)} {d : Nat} {h : zH} {A : Int32 → zH → Prop} {l0 : Nat} {l2 : Int32} {l3 : Int32} (hl0 : l0 ∈ ([25, 28, 31, 34, 37, 40] : List Nat)) (hw : ((l3 < 160 → (((h 18 4) = 263 → zP X d 52 0 (z_ent [.ref 18] 1) [] S h (zV fun h7 => zP X d 64 0 (z_ent [.ref (l0), .ref 18, .int l2] 4) [] S h7 (zI fun v8 h10 => ((v8 = 0 → A 0 h10) ∧ (¬ v8 = 0 → zP X d 62 0 (z_ent [.ref (l0), .int (-9)] 2) [] S h10 (zV fun h13 => zP X (d + 1) 63 13 [some (.ref (l0)), some (.ref 18), some (.int l2), some (.int (l3 + 1))] [] S h13 (zI A))))))) ∧ (¬ (h 18 4) = 263 → A 1 h))) ∧ (¬ l3 < 160 → A 1 h))) : zP X (d + 1) 63 13 [some (.ref (l0)), some (.ref 18), some (.int l2), some (.int l3)] [] S h (zI A) := by
  refine zl zM63 q63_13 rfl ?_
  refine zkS zM63 q63_14 kS160 ?_
  refine zb2_ge zM63 q63_17 (tgt := 57) rfl (fun hc => ?_) (fun hc => ?_)
  · have hw := hw.2 hc
    refine zkI zM63 q63_57 kI1 ?_
    exact zri zM63 q63_58 rfl rfl hw
  · have hw := hw.1 hc
    refine zl zM63 q63_20 rfl ?_
    refine zgI zM63 q63_21 (by decide) g10_35 (zs1 hS (by decide) s18) rfl (v := (h 18 4)) rfl ?_
    refine zkS zM63 q63_24 kS263 ?_
    refine zb2_ne zM63 q63_27 (tgt := 57) rfl (fun hc => ?_) (fun hc => ?_)
    · have hw := hw.2 hc
      refine zkI zM63 q63_57 kI1 ?_
      exact zri zM63 q63_58 rfl rfl hw
    · have hw := hw.1 hc
      refine zl zM63 q63_30 rfl ?_
      refine zcV zM63 q63_31 kl10_41 rfl rfl (Nat.le_of_ble_eq_true rfl) (zrc hS (by decide) rfl) zM52 (Nat.le_of_ble_eq_true rfl) (hw.mono (fun r0 h7 hr16 => ?_))
      obtain ⟨rfl, hw⟩ := hr16
      show zP X (d + 1) 63 34 [some (.ref (l0)), some (.ref 18), some (.int l2), some (.int l3)] [] S h7 (zI A)
      refine zl zM63 q63_34 rfl ?_
      refine zl zM63 q63_35 rfl ?_
      refine zl zM63 q63_36 rfl ?_
      refine zcV zM63 q63_37 kl10_38 rfl rfl (Nat.le_of_ble_eq_true rfl) (zrT hS hl0) zM64 (Nat.le_of_ble_eq_true rfl) (hw.mono (fun r0 h10 hr15 => ?_))
      obtain ⟨v8, rfl, hw⟩ := hr15
      show zP X (d + 1) 63 40 [some (.ref (l0)), some (.ref 18), some (.int l2), some (.int l3)] [.int v8] S h10 (zI A)
      refine zb1_ne zM63 q63_40 (tgt := 45) rfl (fun hc => ?_) (fun hc => ?_)
      · have hw := hw.2 hc
        refine zl zM63 q63_45 rfl ?_
        refine zkB zM63 q63_46 kBm9 ?_
        refine zcV zM63 q63_48 kl10_44 rfl rfl (Nat.le_of_ble_eq_true rfl) (zrT hS hl0) zM62 (Nat.le_of_ble_eq_true rfl) (hw.mono (fun r0 h13 hr14 => ?_))
        obtain ⟨rfl, hw⟩ := hr14
        show zP X (d + 1) 63 51 [some (.ref (l0)), some (.ref 18), some (.int l2), some (.int l3)] [] S h13 (zI A)
        refine zl zM63 q63_51 (ls' := [some (.ref (l0)), some (.ref 18), some (.int l2), some (.int (l3 + 1))]) rfl ?_
        refine zl zM63 q63_54 (pc' := 13) (ls' := _) (st' := _) rfl ?_
        exact hw
      · have hw := hw.1 hc
        refine zkI zM63 q63_43 kI0 ?_
        exact zri zM63 q63_44 rfl rfl hw
theorem e64 {S : zS} (hS : zCS S) {X : Option (List Int32)} {d : Nat} {h : zH} {A : Int32 → zH → Prop} {t : Nat} {a2 : Int32} (ht0 : t ∈ ([25, 28, 31, 34, 37, 40] : List Nat)) (hw : zP X d 65 0 (z_ent [.ref (t), .ref 18, .int a2] 3) [] S h (zI fun v1 h3 => ((v1 = 0 → A 0 h3) ∧ (¬ v1 = 0 → zP X (d + 1) 64 13 [some (.ref (t)), some (.ref 18), some (.int a2), some (.int 0)] [] S h3 (zI A))))) : zP X (d + 1) 64 0 (z_ent [.ref (t), .ref 18, .int a2] 4) [] S h (zI A) := by
  show zP X (d + 1) 64 0 [some (.ref (t)), some (.ref 18), some (.int a2), none] [] S h (zI A)
  refine zl zM64 q64_0 rfl ?_
  refine zl zM64 q64_1 rfl ?_
  refine zl zM64 q64_2 rfl ?_
  refine zcV zM64 q64_3 kl10_48 rfl rfl (Nat.le_of_ble_eq_true rfl) (zrT hS ht0) zM65 (Nat.le_of_ble_eq_true rfl) (hw.mono (fun r0 h3 hr4 => ?_))
  obtain ⟨v1, rfl, hw⟩ := hr4
  show zP X (d + 1) 64 6 [some (.ref (t)), some (.ref 18), some (.int a2), none] [.int v1] S h3 (zI A)
  refine zb1_ne zM64 q64_6 (tgt := 11) rfl (fun hc => ?_) (fun hc => ?_)
  · have hw := hw.2 hc
    refine zkI zM64 q64_11 kI0 ?_
    refine zl zM64 q64_12 (ls' := [some (.ref (t)), some (.ref 18), some (.int a2), some (.int 0)]) rfl ?_
    exact hw
  · have hw := hw.1 hc
    refine zkI zM64 q64_9 kI0 ?_
    exact zri zM64 q64_10 rfl rfl hw
theorem e64_13 {S : zS} (hS : zCS S) {X : Option (List Int32)} {d : Nat} {h : zH} {A : Int32 → zH → Prop} {l0 : Nat} {l2 : Int32} {l3 : Int32} (hl0 : l0 ∈ ([25, 28, 31, 34, 37, 40] : List Nat)) (hw : ((l3 < 160 → (((h 18 4) = 264 → zP X d 52 0 (z_ent [.ref 18] 1) [] S h (zV fun h7 => zP X d 65 0 (z_ent [.ref (l0), .ref 18, .int l2] 3) [] S h7 (zI fun v8 h10 => ((v8 = 0 → A 0 h10) ∧ (¬ v8 = 0 → zP X d 62 0 (z_ent [.ref (l0), .int (-8)] 2) [] S h10 (zV fun h13 => zP X (d + 1) 64 13 [some (.ref (l0)), some (.ref 18), some (.int l2), some (.int (l3 + 1))] [] S h13 (zI A))))))) ∧ (¬ (h 18 4) = 264 → A 1 h))) ∧ (¬ l3 < 160 → A 1 h))) : zP X (d + 1) 64 13 [some (.ref (l0)), some (.ref 18), some (.int l2), some (.int l3)] [] S h (zI A) := by
  refine zl zM64 q64_13 rfl ?_
  refine zkS zM64 q64_14 kS160 ?_
  refine zb2_ge zM64 q64_17 (tgt := 57) rfl (fun hc => ?_) (fun hc => ?_)
  · have hw := hw.2 hc
    refine zkI zM64 q64_57 kI1 ?_
    exact zri zM64 q64_58 rfl rfl hw
  · have hw := hw.1 hc
    refine zl zM64 q64_20 rfl ?_
    refine zgI zM64 q64_21 (by decide) g10_35 (zs1 hS (by decide) s18) rfl (v := (h 18 4)) rfl ?_
    refine zkS zM64 q64_24 kS264 ?_
    refine zb2_ne zM64 q64_27 (tgt := 57) rfl (fun hc => ?_) (fun hc => ?_)
    · have hw := hw.2 hc
      refine zkI zM64 q64_57 kI1 ?_
      exact zri zM64 q64_58 rfl rfl hw
    · have hw := hw.1 hc
      refine zl zM64 q64_30 rfl ?_
      refine zcV zM64 q64_31 kl10_41 rfl rfl (Nat.le_of_ble_eq_true rfl) (zrc hS (by decide) rfl) zM52 (Nat.le_of_ble_eq_true rfl) (hw.mono (fun r0 h7 hr16 => ?_))
      obtain ⟨rfl, hw⟩ := hr16
      show zP X (d + 1) 64 34 [some (.ref (l0)), some (.ref 18), some (.int l2), some (.int l3)] [] S h7 (zI A)
      refine zl zM64 q64_34 rfl ?_
      refine zl zM64 q64_35 rfl ?_
      refine zl zM64 q64_36 rfl ?_
      refine zcV zM64 q64_37 kl10_48 rfl rfl (Nat.le_of_ble_eq_true rfl) (zrT hS hl0) zM65 (Nat.le_of_ble_eq_true rfl) (hw.mono (fun r0 h10 hr15 => ?_))
      obtain ⟨v8, rfl, hw⟩ := hr15
      show zP X (d + 1) 64 40 [some (.ref (l0)), some (.ref 18), some (.int l2), some (.int l3)] [.int v8] S h10 (zI A)
      refine zb1_ne zM64 q64_40 (tgt := 45) rfl (fun hc => ?_) (fun hc => ?_)
      · have hw := hw.2 hc
        refine zl zM64 q64_45 rfl ?_
        refine zkB zM64 q64_46 kBm8 ?_
        refine zcV zM64 q64_48 kl10_44 rfl rfl (Nat.le_of_ble_eq_true rfl) (zrT hS hl0) zM62 (Nat.le_of_ble_eq_true rfl) (hw.mono (fun r0 h13 hr14 => ?_))
        obtain ⟨rfl, hw⟩ := hr14
        show zP X (d + 1) 64 51 [some (.ref (l0)), some (.ref 18), some (.int l2), some (.int l3)] [] S h13 (zI A)
        refine zl zM64 q64_51 (ls' := [some (.ref (l0)), some (.ref 18), some (.int l2), some (.int (l3 + 1))]) rfl ?_
        refine zl zM64 q64_54 (pc' := 13) (ls' := _) (st' := _) rfl ?_
        exact hw
      · have hw := hw.1 hc
        refine zkI zM64 q64_43 kI0 ?_
        exact zri zM64 q64_44 rfl rfl hw
theorem e65 {S : zS} (hS : zCS S) {X : Option (List Int32)} {d : Nat} {h : zH} {A : Int32 → zH → Prop} {t : Nat} {a2 : Int32} (ht0 : t ∈ ([25, 28, 31, 34, 37, 40] : List Nat)) (hw : (((h 18 4) = 265 → ((a2 < 5 → zP X d 52 0 (z_ent [.ref 18] 1) [] S h (zV fun h3 => zP X d 65 0 (z_ent [.ref (t), .ref 18, .int (a2 + 1)] 3) [] S h3 (zI fun v4 h6 => ((v4 = 0 → A 0 h6) ∧ (¬ v4 = 0 → zP X d 62 0 (z_ent [.ref (t), .int (-2)] 2) [] S h6 (zV fun h9 => A 1 h9)))))) ∧ (¬ a2 < 5 → A 0 h))) ∧ (¬ (h 18 4) = 265 → zP X d 66 0 (z_ent [.ref (t), .ref 18, .int a2] 4) [] S h (zI fun v13 h15 => ((v13 = 0 ∨ v13 = 1) ∧ A v13 h15))))) : zP X (d + 1) 65 0 (z_ent [.ref (t), .ref 18, .int a2] 3) [] S h (zI A) := by
  show zP X (d + 1) 65 0 [some (.ref (t)), some (.ref 18), some (.int a2)] [] S h (zI A)
  refine zl zM65 q65_0 rfl ?_
  refine zgI zM65 q65_1 (by decide) g10_35 (zs1 hS (by decide) s18) rfl (v := (h 18 4)) rfl ?_
  refine zkS zM65 q65_4 kS265 ?_
  refine zb2_eq zM65 q65_7 (tgt := 17) rfl (fun hc => ?_) (fun hc => ?_)
  · have hw := hw.1 hc
    refine zl zM65 q65_17 rfl ?_
    refine zkI zM65 q65_18 kI5 ?_
    refine zb2_lt zM65 q65_19 (tgt := 24) rfl (fun hc => ?_) (fun hc => ?_)
    · have hw := hw.1 hc
      refine zl zM65 q65_24 rfl ?_
      refine zcV zM65 q65_25 kl10_41 rfl rfl (Nat.le_of_ble_eq_true rfl) (zrc hS (by decide) rfl) zM52 (Nat.le_of_ble_eq_true rfl) (hw.mono (fun r0 h3 hr12 => ?_))
      obtain ⟨rfl, hw⟩ := hr12
      show zP X (d + 1) 65 28 [some (.ref (t)), some (.ref 18), some (.int a2)] [] S h3 (zI A)
      refine zl zM65 q65_28 rfl ?_
      refine zl zM65 q65_29 rfl ?_
      refine zl zM65 q65_30 rfl ?_
      refine zkI zM65 q65_31 kI1 ?_
      refine zl zM65 q65_32 (pc' := 33) (st' := .int (a2 + 1) :: _) rfl ?_
      refine zcV zM65 q65_33 kl10_48 rfl rfl (Nat.le_of_ble_eq_true rfl) (zrT hS ht0) zM65 (Nat.le_of_ble_eq_true rfl) (hw.mono (fun r0 h6 hr11 => ?_))
      obtain ⟨v4, rfl, hw⟩ := hr11
      show zP X (d + 1) 65 36 [some (.ref (t)), some (.ref 18), some (.int a2)] [.int v4] S h6 (zI A)
      refine zb1_ne zM65 q65_36 (tgt := 41) rfl (fun hc => ?_) (fun hc => ?_)
      · have hw := hw.2 hc
        refine zl zM65 q65_41 rfl ?_
        refine zkB zM65 q65_42 kBm2 ?_
        refine zcV zM65 q65_44 kl10_44 rfl rfl (Nat.le_of_ble_eq_true rfl) (zrT hS ht0) zM62 (Nat.le_of_ble_eq_true rfl) (hw.mono (fun r0 h9 hr10 => ?_))
        obtain ⟨rfl, hw⟩ := hr10
        show zP X (d + 1) 65 47 [some (.ref (t)), some (.ref 18), some (.int a2)] [] S h9 (zI A)
        refine zkI zM65 q65_47 kI1 ?_
        exact zri zM65 q65_48 rfl rfl hw
      · have hw := hw.1 hc
        refine zkI zM65 q65_39 kI0 ?_
        exact zri zM65 q65_40 rfl rfl hw
    · have hw := hw.2 hc
      refine zkI zM65 q65_22 kI0 ?_
      exact zri zM65 q65_23 rfl rfl hw
  · have hw := hw.2 hc
    refine zl zM65 q65_10 rfl ?_
    refine zl zM65 q65_11 rfl ?_
    refine zl zM65 q65_12 rfl ?_
    refine zcV zM65 q65_13 kl10_51 rfl rfl (Nat.le_of_ble_eq_true rfl) (zrT hS ht0) zM66 (Nat.le_of_ble_eq_true rfl) (hw.mono (fun r0 h15 hr16 => ?_))
    obtain ⟨v13, rfl, hw⟩ := hr16
    show zP X (d + 1) 65 16 [some (.ref (t)), some (.ref 18), some (.int a2)] [.int v13] S h15 (zI A)
    exact zri zM65 q65_16 rfl (z_nb hw.1) hw.2
theorem e66 {S : zS} (hS : zCS S) {X : Option (List Int32)} {d : Nat} {h : zH} {A : Int32 → zH → Prop} {t : Nat} {a2 : Int32} (ht0 : t ∈ ([25, 28, 31, 34, 37, 40] : List Nat)) (hw : zP X d 67 0 (z_ent [.ref (t), .ref 18, .int a2] 5) [] S h (zI fun v1 h3 => ((v1 = 0 → A 0 h3) ∧ (¬ v1 = 0 → (((h3 18 4) = 60 → zP X (d + 1) 66 30 [some (.ref (t)), some (.ref 18), some (.int a2), some (.int (h3 18 4))] [] S h3 (zI A)) ∧ (¬ (h3 18 4) = 60 → (((h3 18 4) = 61 → zP X (d + 1) 66 30 [some (.ref (t)), some (.ref 18), some (.int a2), some (.int (h3 18 4))] [] S h3 (zI A)) ∧ (¬ (h3 18 4) = 61 → A 1 h3)))))))) : zP X (d + 1) 66 0 (z_ent [.ref (t), .ref 18, .int a2] 4) [] S h (zI A) := by
  show zP X (d + 1) 66 0 [some (.ref (t)), some (.ref 18), some (.int a2), none] [] S h (zI A)
  refine zl zM66 q66_0 rfl ?_
  refine zl zM66 q66_1 rfl ?_
  refine zl zM66 q66_2 rfl ?_
  refine zcV zM66 q66_3 kl10_54 rfl rfl (Nat.le_of_ble_eq_true rfl) (zrT hS ht0) zM67 (Nat.le_of_ble_eq_true rfl) (hw.mono (fun r0 h3 hr4 => ?_))
  obtain ⟨v1, rfl, hw⟩ := hr4
  show zP X (d + 1) 66 6 [some (.ref (t)), some (.ref 18), some (.int a2), none] [.int v1] S h3 (zI A)
  refine zb1_ne zM66 q66_6 (tgt := 11) rfl (fun hc => ?_) (fun hc => ?_)
  · have hw := hw.2 hc
    refine zl zM66 q66_11 rfl ?_
    refine zgI zM66 q66_12 (by decide) g10_35 (zs1 hS (by decide) s18) rfl (v := (h3 18 4)) rfl ?_
    refine zl zM66 q66_15 (ls' := [some (.ref (t)), some (.ref 18), some (.int a2), some (.int (h3 18 4))]) rfl ?_
    refine zl zM66 q66_16 rfl ?_
    refine zkB zM66 q66_17 kB60 ?_
    refine zb2_eq zM66 q66_19 (tgt := 30) rfl (fun hc => ?_) (fun hc => ?_)
    · have hw := hw.1 hc
      exact hw
    · have hw := hw.2 hc
      refine zl zM66 q66_22 rfl ?_
      refine zkB zM66 q66_23 kB61 ?_
      refine zb2_eq zM66 q66_25 (tgt := 30) rfl (fun hc => ?_) (fun hc => ?_)
      · have hw := hw.1 hc
        exact hw
      · have hw := hw.2 hc
        refine zkI zM66 q66_28 kI1 ?_
        exact zri zM66 q66_29 rfl rfl hw
  · have hw := hw.1 hc
    refine zkI zM66 q66_9 kI0 ?_
    exact zri zM66 q66_10 rfl rfl hw
theorem e66_30 {S : zS} (hS : zCS S) {X : Option (List Int32)} {d : Nat} {h : zH} {A : Int32 → zH → Prop} {l0 : Nat} {l2 : Int32} {l3 : Int32} (hl0 : l0 ∈ ([25, 28, 31, 34, 37, 40] : List Nat)) (hw : zP X d 52 0 (z_ent [.ref 18] 1) [] S h (zV fun h7 => zP X d 67 0 (z_ent [.ref (l0), .ref 18, .int l2] 5) [] S h7 (zI fun v8 h10 => ((v8 = 0 → A 0 h10) ∧ (¬ v8 = 0 → ((l3 = 60 → zP X d 62 0 (z_ent [.ref (l0), .int (-6)] 2) [] S h10 (zV fun h17 => A 1 h17)) ∧ (¬ l3 = 60 → zP X d 62 0 (z_ent [.ref (l0), .int (-7)] 2) [] S h10 (zV fun h13 => A 1 h13)))))))) : zP X (d + 1) 66 30 [some (.ref (l0)), some (.ref 18), some (.int l2), some (.int l3)] [] S h (zI A) := by
  refine zl zM66 q66_30 rfl ?_
  refine zcV zM66 q66_31 kl10_41 rfl rfl (Nat.le_of_ble_eq_true rfl) (zrc hS (by decide) rfl) zM52 (Nat.le_of_ble_eq_true rfl) (hw.mono (fun r0 h7 hr20 => ?_))
  obtain ⟨rfl, hw⟩ := hr20
  show zP X (d + 1) 66 34 [some (.ref (l0)), some (.ref 18), some (.int l2), some (.int l3)] [] S h7 (zI A)
  refine zl zM66 q66_34 rfl ?_
  refine zl zM66 q66_35 rfl ?_
  refine zl zM66 q66_36 rfl ?_
  refine zcV zM66 q66_37 kl10_54 rfl rfl (Nat.le_of_ble_eq_true rfl) (zrT hS hl0) zM67 (Nat.le_of_ble_eq_true rfl) (hw.mono (fun r0 h10 hr19 => ?_))
  obtain ⟨v8, rfl, hw⟩ := hr19
  show zP X (d + 1) 66 40 [some (.ref (l0)), some (.ref 18), some (.int l2), some (.int l3)] [.int v8] S h10 (zI A)
  refine zb1_ne zM66 q66_40 (tgt := 45) rfl (fun hc => ?_) (fun hc => ?_)
  · have hw := hw.2 hc
    refine zl zM66 q66_45 rfl ?_
    refine zl zM66 q66_46 rfl ?_
    refine zkB zM66 q66_47 kB60 ?_
    refine zb2_ne zM66 q66_49 (tgt := 57) rfl (fun hc => ?_) (fun hc => ?_)
    · have hw := hw.2 hc
      refine zkB zM66 q66_57 kBm7 ?_
      refine zcV zM66 q66_59 kl10_44 rfl rfl (Nat.le_of_ble_eq_true rfl) (zrT hS hl0) zM62 (Nat.le_of_ble_eq_true rfl) (hw.mono (fun r0 h13 hr14 => ?_))
      obtain ⟨rfl, hw⟩ := hr14
      show zP X (d + 1) 66 62 [some (.ref (l0)), some (.ref 18), some (.int l2), some (.int l3)] [] S h13 (zI A)
      refine zkI zM66 q66_62 kI1 ?_
      exact zri zM66 q66_63 rfl rfl hw
    · have hw := hw.1 hc
      refine zkB zM66 q66_52 kBm6 ?_
      refine zl zM66 q66_54 (pc' := 59) (ls' := _) (st' := _) rfl ?_
      refine zcV zM66 q66_59 kl10_44 rfl rfl (Nat.le_of_ble_eq_true rfl) (zrT hS hl0) zM62 (Nat.le_of_ble_eq_true rfl) (hw.mono (fun r0 h17 hr18 => ?_))
      obtain ⟨rfl, hw⟩ := hr18
      show zP X (d + 1) 66 62 [some (.ref (l0)), some (.ref 18), some (.int l2), some (.int l3)] [] S h17 (zI A)
      refine zkI zM66 q66_62 kI1 ?_
      exact zri zM66 q66_63 rfl rfl hw
  · have hw := hw.1 hc
    refine zkI zM66 q66_43 kI0 ?_
    exact zri zM66 q66_44 rfl rfl hw
theorem e67 {S : zS} (hS : zCS S) {X : Option (List Int32)} {d : Nat} {h : zH} {A : Int32 → zH → Prop} {t : Nat} {a2 : Int32} (ht0 : t ∈ ([25, 28, 31, 34, 37, 40] : List Nat)) (hw : zP X d 68 0 (z_ent [.ref (t), .ref 18, .int a2] 4) [] S h (zI fun v1 h3 => ((v1 = 0 → A 0 h3) ∧ (¬ v1 = 0 → zP X (d + 1) 67 13 [some (.ref (t)), some (.ref 18), some (.int a2), some (.int 0), none] [] S h3 (zI A))))) : zP X (d + 1) 67 0 (z_ent [.ref (t), .ref 18, .int a2] 5) [] S h (zI A) := by
  show zP X (d + 1) 67 0 [some (.ref (t)), some (.ref 18), some (.int a2), none, none] [] S h (zI A)
  refine zl zM67 q67_0 rfl ?_
  refine zl zM67 q67_1 rfl ?_
  refine zl zM67 q67_2 rfl ?_
  refine zcV zM67 q67_3 kl10_57 rfl rfl (Nat.le_of_ble_eq_true rfl) (zrT hS ht0) zM68 (Nat.le_of_ble_eq_true rfl) (hw.mono (fun r0 h3 hr4 => ?_))
  obtain ⟨v1, rfl, hw⟩ := hr4
  show zP X (d + 1) 67 6 [some (.ref (t)), some (.ref 18), some (.int a2), none, none] [.int v1] S h3 (zI A)
  refine zb1_ne zM67 q67_6 (tgt := 11) rfl (fun hc => ?_) (fun hc => ?_)
  · have hw := hw.2 hc
    refine zkI zM67 q67_11 kI0 ?_
    refine zl zM67 q67_12 (ls' := [some (.ref (t)), some (.ref 18), some (.int a2), some (.int 0), none]) rfl ?_
    exact hw
  · have hw := hw.1 hc
    refine zkI zM67 q67_9 kI0 ?_
    exact zri zM67 q67_10 rfl rfl hw
theorem e67_13 {S : zS} (hS : zCS S) {X : Option (List Int32)} {d : Nat} {h : zH} {A : Int32 → zH → Prop} {l0 : Nat} {l2 : Int32} {l3 : Int32} (hl0 : l0 ∈ ([25, 28, 31, 34, 37, 40] : List Nat)) (hw : ((l3 < 160 → (((h 18 4) = 43 → zP X (d + 1) 67 38 [some (.ref (l0)), some (.ref 18), some (.int l2), some (.int l3), none] [] S h (zI A)) ∧ (¬ (h 18 4) = 43 → (((h 18 4) = 45 → zP X (d + 1) 67 38 [some (.ref (l0)), some (.ref 18), some (.int l2), some (.int l3), none] [] S h (zI A)) ∧ (¬ (h 18 4) = 45 → A 1 h))))) ∧ (¬ l3 < 160 → A 1 h))) : zP X (d + 1) 67 13 [some (.ref (l0)), some (.ref 18), some (.int l2), some (.int l3), none] [] S h (zI A) := by
  refine zl zM67 q67_13 rfl ?_
  refine zkS zM67 q67_14 kS160 ?_
  refine zb2_ge zM67 q67_17 (tgt := 83) rfl (fun hc => ?_) (fun hc => ?_)
  · have hw := hw.2 hc
    refine zkI zM67 q67_83 kI1 ?_
    exact zri zM67 q67_84 rfl rfl hw
  · have hw := hw.1 hc
    refine zl zM67 q67_20 rfl ?_
    refine zgI zM67 q67_21 (by decide) g10_35 (zs1 hS (by decide) s18) rfl (v := (h 18 4)) rfl ?_
    refine zkB zM67 q67_24 kB43 ?_
    refine zb2_eq zM67 q67_26 (tgt := 38) rfl (fun hc => ?_) (fun hc => ?_)
    · have hw := hw.1 hc
      exact hw
    · have hw := hw.2 hc
      refine zl zM67 q67_29 rfl ?_
      refine zgI zM67 q67_30 (by decide) g10_35 (zs1 hS (by decide) s18) rfl (v := (h 18 4)) rfl ?_
      refine zkB zM67 q67_33 kB45 ?_
      refine zb2_ne zM67 q67_35 (tgt := 83) rfl (fun hc => ?_) (fun hc => ?_)
      · have hw := hw.2 hc
        refine zkI zM67 q67_83 kI1 ?_
        exact zri zM67 q67_84 rfl rfl hw
      · have hw := hw.1 hc
        exact hw
theorem e67_38 {S : zS} (hS : zCS S) {X : Option (List Int32)} {d : Nat} {h : zH} {A : Int32 → zH → Prop} {l0 : Nat} {l2 : Int32} {l3 : Int32} (hl0 : l0 ∈ ([25, 28, 31, 34, 37, 40] : List Nat)) (hw : zP X d 52 0 (z_ent [.ref 18] 1) [] S h (zV fun h7 => zP X d 68 0 (z_ent [.ref (l0), .ref 18, .int l2] 4) [] S h7 (zI fun v8 h10 => ((v8 = 0 → A 0 h10) ∧ (¬ v8 = 0 → (((h 18 4) = 43 → zP X (d + 1) 67 74 [some (.ref (l0)), some (.ref 18), some (.int l2), some (.int l3), none] [.int (-3), .ref (l0)] S h10 (zI A)) ∧ (¬ (h 18 4) = 43 → zP X (d + 1) 67 74 [some (.ref (l0)), some (.ref 18), some (.int l2), some (.int l3), none] [.int (-4), .ref (l0)] S h10 (zI A)))))))) : zP X (d + 1) 67 38 [some (.ref (l0)), some (.ref 18), some (.int l2), some (.int l3), none] [] S h (zI A) := by
  refine zl zM67 q67_38 rfl ?_
  refine zgI zM67 q67_39 (by decide) g10_35 (zs1 hS (by decide) s18) rfl (v := (h 18 4)) rfl ?_
  refine zl zM67 q67_42 (ls' := [some (.ref (l0)), some (.ref 18), some (.int l2), some (.int l3), some (.int (h 18 4))]) rfl ?_
  refine zl zM67 q67_44 rfl ?_
  refine zcV zM67 q67_45 kl10_41 rfl rfl (Nat.le_of_ble_eq_true rfl) (zrc hS (by decide) rfl) zM52 (Nat.le_of_ble_eq_true rfl) (hw.mono (fun r0 h7 hr12 => ?_))
  obtain ⟨rfl, hw⟩ := hr12
  show zP X (d + 1) 67 48 [some (.ref (l0)), some (.ref 18), some (.int l2), some (.int l3), some (.int (h 18 4))] [] S h7 (zI A)
  refine zl zM67 q67_48 rfl ?_
  refine zl zM67 q67_49 rfl ?_
  refine zl zM67 q67_50 rfl ?_
  refine zcV zM67 q67_51 kl10_57 rfl rfl (Nat.le_of_ble_eq_true rfl) (zrT hS hl0) zM68 (Nat.le_of_ble_eq_true rfl) (hw.mono (fun r0 h10 hr11 => ?_))
  obtain ⟨v8, rfl, hw⟩ := hr11
  show zP X (d + 1) 67 54 [some (.ref (l0)), some (.ref 18), some (.int l2), some (.int l3), some (.int (h 18 4))] [.int v8] S h10 (zI A)
  refine zb1_ne zM67 q67_54 (tgt := 59) rfl (fun hc => ?_) (fun hc => ?_)
  · have hw := hw.2 hc
    refine zl zM67 q67_59 rfl ?_
    refine zl zM67 q67_60 rfl ?_
    refine zkB zM67 q67_62 kB43 ?_
    refine zb2_ne zM67 q67_64 (tgt := 72) rfl (fun hc => ?_) (fun hc => ?_)
    · have hw := hw.2 hc
      refine zkB zM67 q67_72 kBm4 ?_
      refine zweak (a := [some (.ref (l0)), some (.ref 18), some (.int l2), some (.int l3), none]) ?_ hw
      exact ⟨rfl, ⟨rfl, ⟨rfl, ⟨rfl, trivial⟩⟩⟩⟩
    · have hw := hw.1 hc
      refine zkB zM67 q67_67 kBm3 ?_
      refine zl zM67 q67_69 (pc' := 74) (ls' := _) (st' := _) rfl ?_
      refine zweak (a := [some (.ref (l0)), some (.ref 18), some (.int l2), some (.int l3), none]) ?_ hw
      exact ⟨rfl, ⟨rfl, ⟨rfl, ⟨rfl, trivial⟩⟩⟩⟩
  · have hw := hw.1 hc
    refine zkI zM67 q67_57 kI0 ?_
    exact zri zM67 q67_58 rfl rfl hw
theorem e67_74 {S : zS} (hS : zCS S) {X : Option (List Int32)} {d : Nat} {h : zH} {A : Int32 → zH → Prop} {l0 : Nat} {l2 : Int32} {l3 : Int32} {w0 : Nat} {w1 : Int32} (hl0 : l0 ∈ ([25, 28, 31, 34, 37, 40] : List Nat)) (hv0 : w0 ∈ ([25, 28, 31, 34, 37, 40] : List Nat)) (hw : zP X d 62 0 (z_ent [.ref (w0), .int w1] 2) [] S h (zV fun h15 => zP X (d + 1) 67 13 [some (.ref (l0)), some (.ref 18), some (.int l2), some (.int (l3 + 1)), none] [] S h15 (zI A))) : zP X (d + 1) 67 74 [some (.ref (l0)), some (.ref 18), some (.int l2), some (.int l3), none] [.int w1, .ref (w0)] S h (zI A) := by
  refine zcV zM67 q67_74 kl10_44 rfl rfl (Nat.le_of_ble_eq_true rfl) (zrT hS hv0) zM62 (Nat.le_of_ble_eq_true rfl) (hw.mono (fun r0 h15 hr16 => ?_))
  obtain ⟨rfl, hw⟩ := hr16
  show zP X (d + 1) 67 77 [some (.ref (l0)), some (.ref 18), some (.int l2), some (.int l3), none] [] S h15 (zI A)
  refine zl zM67 q67_77 (ls' := [some (.ref (l0)), some (.ref 18), some (.int l2), some (.int (l3 + 1)), none]) rfl ?_
  refine zl zM67 q67_80 (pc' := 13) (ls' := _) (st' := _) rfl ?_
  exact hw
theorem e68 {S : zS} (hS : zCS S) {X : Option (List Int32)} {d : Nat} {h : zH} {A : Int32 → zH → Prop} {t : Nat} {a2 : Int32} (ht0 : t ∈ ([25, 28, 31, 34, 37, 40] : List Nat)) (hw : zP X d 69 0 (z_ent [.ref (t), .ref 18, .int a2] 4) [] S h (zI fun v1 h3 => ((v1 = 0 → A 0 h3) ∧ (¬ v1 = 0 → zP X (d + 1) 68 13 [some (.ref (t)), some (.ref 18), some (.int a2), some (.int 0)] [] S h3 (zI A))))) : zP X (d + 1) 68 0 (z_ent [.ref (t), .ref 18, .int a2] 4) [] S h (zI A) := by
  show zP X (d + 1) 68 0 [some (.ref (t)), some (.ref 18), some (.int a2), none] [] S h (zI A)
  refine zl zM68 q68_0 rfl ?_
  refine zl zM68 q68_1 rfl ?_
  refine zl zM68 q68_2 rfl ?_
  refine zcV zM68 q68_3 kl10_60 rfl rfl (Nat.le_of_ble_eq_true rfl) (zrT hS ht0) zM69 (Nat.le_of_ble_eq_true rfl) (hw.mono (fun r0 h3 hr4 => ?_))
  obtain ⟨v1, rfl, hw⟩ := hr4
  show zP X (d + 1) 68 6 [some (.ref (t)), some (.ref 18), some (.int a2), none] [.int v1] S h3 (zI A)
  refine zb1_ne zM68 q68_6 (tgt := 11) rfl (fun hc => ?_) (fun hc => ?_)
  · have hw := hw.2 hc
    refine zkI zM68 q68_11 kI0 ?_
    refine zl zM68 q68_12 (ls' := [some (.ref (t)), some (.ref 18), some (.int a2), some (.int 0)]) rfl ?_
    exact hw
  · have hw := hw.1 hc
    refine zkI zM68 q68_9 kI0 ?_
    exact zri zM68 q68_10 rfl rfl hw
theorem e68_13 {S : zS} (hS : zCS S) {X : Option (List Int32)} {d : Nat} {h : zH} {A : Int32 → zH → Prop} {l0 : Nat} {l2 : Int32} {l3 : Int32} (hl0 : l0 ∈ ([25, 28, 31, 34, 37, 40] : List Nat)) (hw : ((l3 < 160 → (((h 18 4) = 42 → zP X d 52 0 (z_ent [.ref 18] 1) [] S h (zV fun h7 => zP X d 69 0 (z_ent [.ref (l0), .ref 18, .int l2] 4) [] S h7 (zI fun v8 h10 => ((v8 = 0 → A 0 h10) ∧ (¬ v8 = 0 → zP X d 62 0 (z_ent [.ref (l0), .int (-5)] 2) [] S h10 (zV fun h13 => zP X (d + 1) 68 13 [some (.ref (l0)), some (.ref 18), some (.int l2), some (.int (l3 + 1))] [] S h13 (zI A))))))) ∧ (¬ (h 18 4) = 42 → A 1 h))) ∧ (¬ l3 < 160 → A 1 h))) : zP X (d + 1) 68 13 [some (.ref (l0)), some (.ref 18), some (.int l2), some (.int l3)] [] S h (zI A) := by
  refine zl zM68 q68_13 rfl ?_
  refine zkS zM68 q68_14 kS160 ?_
  refine zb2_ge zM68 q68_17 (tgt := 56) rfl (fun hc => ?_) (fun hc => ?_)
  · have hw := hw.2 hc
    refine zkI zM68 q68_56 kI1 ?_
    exact zri zM68 q68_57 rfl rfl hw
  · have hw := hw.1 hc
    refine zl zM68 q68_20 rfl ?_
    refine zgI zM68 q68_21 (by decide) g10_35 (zs1 hS (by decide) s18) rfl (v := (h 18 4)) rfl ?_
    refine zkB zM68 q68_24 kB42 ?_
    refine zb2_ne zM68 q68_26 (tgt := 56) rfl (fun hc => ?_) (fun hc => ?_)
    · have hw := hw.2 hc
      refine zkI zM68 q68_56 kI1 ?_
      exact zri zM68 q68_57 rfl rfl hw
    · have hw := hw.1 hc
      refine zl zM68 q68_29 rfl ?_
      refine zcV zM68 q68_30 kl10_41 rfl rfl (Nat.le_of_ble_eq_true rfl) (zrc hS (by decide) rfl) zM52 (Nat.le_of_ble_eq_true rfl) (hw.mono (fun r0 h7 hr16 => ?_))
      obtain ⟨rfl, hw⟩ := hr16
      show zP X (d + 1) 68 33 [some (.ref (l0)), some (.ref 18), some (.int l2), some (.int l3)] [] S h7 (zI A)
      refine zl zM68 q68_33 rfl ?_
      refine zl zM68 q68_34 rfl ?_
      refine zl zM68 q68_35 rfl ?_
      refine zcV zM68 q68_36 kl10_60 rfl rfl (Nat.le_of_ble_eq_true rfl) (zrT hS hl0) zM69 (Nat.le_of_ble_eq_true rfl) (hw.mono (fun r0 h10 hr15 => ?_))
      obtain ⟨v8, rfl, hw⟩ := hr15
      show zP X (d + 1) 68 39 [some (.ref (l0)), some (.ref 18), some (.int l2), some (.int l3)] [.int v8] S h10 (zI A)
      refine zb1_ne zM68 q68_39 (tgt := 44) rfl (fun hc => ?_) (fun hc => ?_)
      · have hw := hw.2 hc
        refine zl zM68 q68_44 rfl ?_
        refine zkB zM68 q68_45 kBm5 ?_
        refine zcV zM68 q68_47 kl10_44 rfl rfl (Nat.le_of_ble_eq_true rfl) (zrT hS hl0) zM62 (Nat.le_of_ble_eq_true rfl) (hw.mono (fun r0 h13 hr14 => ?_))
        obtain ⟨rfl, hw⟩ := hr14
        show zP X (d + 1) 68 50 [some (.ref (l0)), some (.ref 18), some (.int l2), some (.int l3)] [] S h13 (zI A)
        refine zl zM68 q68_50 (ls' := [some (.ref (l0)), some (.ref 18), some (.int l2), some (.int (l3 + 1))]) rfl ?_
        refine zl zM68 q68_53 (pc' := 13) (ls' := _) (st' := _) rfl ?_
        exact hw
      · have hw := hw.1 hc
        refine zkI zM68 q68_42 kI0 ?_
        exact zri zM68 q68_43 rfl rfl hw
theorem e69 {S : zS} (hS : zCS S) {X : Option (List Int32)} {d : Nat} {h : zH} {A : Int32 → zH → Prop} {t : Nat} {a2 : Int32} (ht0 : t ∈ ([25, 28, 31, 34, 37, 40] : List Nat)) (hw : (((h 18 4) = 45 → ((a2 < 5 → zP X d 70 0 (z_ent [.ref (t), .ref 18, .int (a2 + 1)] 3) [] S h (zI fun v5 h7 => ((v5 = 0 → A 0 h7) ∧ (¬ v5 = 0 → A 1 h7)))) ∧ (¬ a2 < 5 → A 0 h))) ∧ (¬ (h 18 4) = 45 → (((h 18 4) = 40 → ((a2 < 5 → zP X d 71 0 (z_ent [.ref (t), .ref 18, .int (a2 + 1)] 3) [] S h (zI fun v1 h3 => ((v1 = 0 → A 0 h3) ∧ (¬ v1 = 0 → A 1 h3)))) ∧ (¬ a2 < 5 → A 0 h))) ∧ (¬ (h 18 4) = 40 → (((h 18 4) = 258 → zP X (d + 1) 69 77 [some (.ref (t)), some (.ref 18), none, some (.int (h 18 4))] [] S h (zI A)) ∧ (¬ (h 18 4) = 258 → (((h 18 4) < 270 → A 0 h) ∧ (¬ (h 18 4) < 270 → zP X (d + 1) 69 77 [some (.ref (t)), some (.ref 18), none, some (.int (h 18 4))] [] S h (zI A)))))))))) : zP X (d + 1) 69 0 (z_ent [.ref (t), .ref 18, .int a2] 4) [] S h (zI A) := by
  show zP X (d + 1) 69 0 [some (.ref (t)), some (.ref 18), some (.int a2), none] [] S h (zI A)
  refine zl zM69 q69_0 rfl ?_
  refine zgI zM69 q69_1 (by decide) g10_35 (zs1 hS (by decide) s18) rfl (v := (h 18 4)) rfl ?_
  refine zl zM69 q69_4 (ls' := [some (.ref (t)), some (.ref 18), some (.int a2), some (.int (h 18 4))]) rfl ?_
  refine zl zM69 q69_5 rfl ?_
  refine zkB zM69 q69_6 kB45 ?_
  refine zb2_ne zM69 q69_8 (tgt := 33) rfl (fun hc => ?_) (fun hc => ?_)
  · have hw := hw.2 hc
    refine zl zM69 q69_33 rfl ?_
    refine zkB zM69 q69_34 kB40 ?_
    refine zb2_ne zM69 q69_36 (tgt := 61) rfl (fun hc => ?_) (fun hc => ?_)
    · have hw := hw.2 hc
      refine zl zM69 q69_61 rfl ?_
      refine zkS zM69 q69_62 kS258 ?_
      refine zb2_eq zM69 q69_65 (tgt := 77) rfl (fun hc => ?_) (fun hc => ?_)
      · have hw := hw.1 hc
        refine zweak (a := [some (.ref (t)), some (.ref 18), none, some (.int (h 18 4))]) ?_ hw
        exact ⟨rfl, ⟨rfl, ⟨rfl, trivial⟩⟩⟩
      · have hw := hw.2 hc
        refine zl zM69 q69_68 rfl ?_
        refine zkS zM69 q69_69 kS270 ?_
        refine zb2_ge zM69 q69_72 (tgt := 77) rfl (fun hc => ?_) (fun hc => ?_)
        · have hw := hw.2 hc
          refine zweak (a := [some (.ref (t)), some (.ref 18), none, some (.int (h 18 4))]) ?_ hw
          exact ⟨rfl, ⟨rfl, ⟨rfl, trivial⟩⟩⟩
        · have hw := hw.1 hc
          refine zkI zM69 q69_75 kI0 ?_
          exact zri zM69 q69_76 rfl rfl hw
    · have hw := hw.1 hc
      refine zl zM69 q69_39 rfl ?_
      refine zkI zM69 q69_40 kI5 ?_
      refine zb2_ge zM69 q69_41 (tgt := 59) rfl (fun hc => ?_) (fun hc => ?_)
      · have hw := hw.2 hc
        refine zkI zM69 q69_59 kI0 ?_
        exact zri zM69 q69_60 rfl rfl hw
      · have hw := hw.1 hc
        refine zl zM69 q69_44 rfl ?_
        refine zl zM69 q69_45 rfl ?_
        refine zl zM69 q69_46 rfl ?_
        refine zkI zM69 q69_47 kI1 ?_
        refine zl zM69 q69_48 (pc' := 49) (st' := .int (a2 + 1) :: _) rfl ?_
        refine zcV zM69 q69_49 kl10_66 rfl rfl (Nat.le_of_ble_eq_true rfl) (zrT hS ht0) zM71 (Nat.le_of_ble_eq_true rfl) (hw.mono (fun r0 h3 hr4 => ?_))
        obtain ⟨v1, rfl, hw⟩ := hr4
        show zP X (d + 1) 69 52 [some (.ref (t)), some (.ref 18), some (.int a2), some (.int (h 18 4))] [.int v1] S h3 (zI A)
        refine zb1_eq zM69 q69_52 (tgt := 59) rfl (fun hc => ?_) (fun hc => ?_)
        · have hw := hw.1 hc
          refine zkI zM69 q69_59 kI0 ?_
          exact zri zM69 q69_60 rfl rfl hw
        · have hw := hw.2 hc
          refine zkI zM69 q69_55 kI1 ?_
          refine zl zM69 q69_56 (pc' := 60) (ls' := _) (st' := _) rfl ?_
          exact zri zM69 q69_60 rfl rfl hw
  · have hw := hw.1 hc
    refine zl zM69 q69_11 rfl ?_
    refine zkI zM69 q69_12 kI5 ?_
    refine zb2_ge zM69 q69_13 (tgt := 31) rfl (fun hc => ?_) (fun hc => ?_)
    · have hw := hw.2 hc
      refine zkI zM69 q69_31 kI0 ?_
      exact zri zM69 q69_32 rfl rfl hw
    · have hw := hw.1 hc
      refine zl zM69 q69_16 rfl ?_
      refine zl zM69 q69_17 rfl ?_
      refine zl zM69 q69_18 rfl ?_
      refine zkI zM69 q69_19 kI1 ?_
      refine zl zM69 q69_20 (pc' := 21) (st' := .int (a2 + 1) :: _) rfl ?_
      refine zcV zM69 q69_21 kl10_63 rfl rfl (Nat.le_of_ble_eq_true rfl) (zrT hS ht0) zM70 (Nat.le_of_ble_eq_true rfl) (hw.mono (fun r0 h7 hr8 => ?_))
      obtain ⟨v5, rfl, hw⟩ := hr8
      show zP X (d + 1) 69 24 [some (.ref (t)), some (.ref 18), some (.int a2), some (.int (h 18 4))] [.int v5] S h7 (zI A)
      refine zb1_eq zM69 q69_24 (tgt := 31) rfl (fun hc => ?_) (fun hc => ?_)
      · have hw := hw.1 hc
        refine zkI zM69 q69_31 kI0 ?_
        exact zri zM69 q69_32 rfl rfl hw
      · have hw := hw.2 hc
        refine zkI zM69 q69_27 kI1 ?_
        refine zl zM69 q69_28 (pc' := 32) (ls' := _) (st' := _) rfl ?_
        exact zri zM69 q69_32 rfl rfl hw
theorem e69_77 {S : zS} (hS : zCS S) {X : Option (List Int32)} {d : Nat} {h : zH} {A : Int32 → zH → Prop} {l0 : Nat} {l3 : Int32} (hl0 : l0 ∈ ([25, 28, 31, 34, 37, 40] : List Nat)) (hw : ((l3 = 258 → zP X (d + 1) 69 100 [none, some (.ref 18), none, none] [.int (h 18 5), .ref (l0)] S h (zI A)) ∧ (¬ l3 = 258 → zP X (d + 1) 69 100 [none, some (.ref 18), none, none] [.int ((-10) - (l3 - 270)), .ref (l0)] S h (zI A)))) : zP X (d + 1) 69 77 [some (.ref (l0)), some (.ref 18), none, some (.int l3)] [] S h (zI A) := by
  refine zl zM69 q69_77 rfl ?_
  refine zl zM69 q69_78 rfl ?_
  refine zkS zM69 q69_79 kS258 ?_
  refine zb2_ne zM69 q69_82 (tgt := 92) rfl (fun hc => ?_) (fun hc => ?_)
  · have hw := hw.2 hc
    refine zkB zM69 q69_92 kBm10 ?_
    refine zl zM69 q69_94 rfl ?_
    refine zkS zM69 q69_95 kS270 ?_
    refine zl zM69 q69_98 (pc' := 99) (st' := .int (l3 - 270) :: _) rfl ?_
    refine zl zM69 q69_99 (pc' := 100) (st' := .int ((-10) - (l3 - 270)) :: _) rfl ?_
    refine zweak (a := [none, some (.ref 18), none, none]) ?_ hw
    exact ⟨rfl, trivial⟩
  · have hw := hw.1 hc
    refine zl zM69 q69_85 rfl ?_
    refine zgI zM69 q69_86 (by decide) g10_69 (zs1 hS (by decide) s18) rfl (v := (h 18 5)) rfl ?_
    refine zl zM69 q69_89 (pc' := 100) (ls' := _) (st' := _) rfl ?_
    refine zweak (a := [none, some (.ref 18), none, none]) ?_ hw
    exact ⟨rfl, trivial⟩
theorem e69_100 {S : zS} (hS : zCS S) {X : Option (List Int32)} {d : Nat} {h : zH} {A : Int32 → zH → Prop} {w0 : Nat} {w1 : Int32} (hv0 : w0 ∈ ([25, 28, 31, 34, 37, 40] : List Nat)) (hw : zP X d 62 0 (z_ent [.ref (w0), .int w1] 2) [] S h (zV fun h11 => zP X d 52 0 (z_ent [.ref 18] 1) [] S h11 (zV fun h14 => A 1 h14))) : zP X (d + 1) 69 100 [none, some (.ref 18), none, none] [.int w1, .ref (w0)] S h (zI A) := by
  refine zcV zM69 q69_100 kl10_44 rfl rfl (Nat.le_of_ble_eq_true rfl) (zrT hS hv0) zM62 (Nat.le_of_ble_eq_true rfl) (hw.mono (fun r0 h11 hr16 => ?_))
  obtain ⟨rfl, hw⟩ := hr16
  show zP X (d + 1) 69 103 [none, some (.ref 18), none, none] [] S h11 (zI A)
  refine zl zM69 q69_103 rfl ?_
  refine zcV zM69 q69_104 kl10_41 rfl rfl (Nat.le_of_ble_eq_true rfl) (zrc hS (by decide) rfl) zM52 (Nat.le_of_ble_eq_true rfl) (hw.mono (fun r0 h14 hr15 => ?_))
  obtain ⟨rfl, hw⟩ := hr15
  show zP X (d + 1) 69 107 [none, some (.ref 18), none, none] [] S h14 (zI A)
  refine zkI zM69 q69_107 kI1 ?_
  exact zri zM69 q69_108 rfl rfl hw
theorem e70 {S : zS} (hS : zCS S) {X : Option (List Int32)} {d : Nat} {h : zH} {A : Int32 → zH → Prop} {t : Nat} {a2 : Int32} (ht0 : t ∈ ([25, 28, 31, 34, 37, 40] : List Nat)) (hw : zP X d 52 0 (z_ent [.ref 18] 1) [] S h (zV fun h3 => zP X d 69 0 (z_ent [.ref (t), .ref 18, .int a2] 4) [] S h3 (zI fun v4 h6 => ((v4 = 0 → A 0 h6) ∧ (¬ v4 = 0 → zP X d 62 0 (z_ent [.ref (t), .int (-1)] 2) [] S h6 (zV fun h9 => A 1 h9)))))) : zP X (d + 1) 70 0 (z_ent [.ref (t), .ref 18, .int a2] 3) [] S h (zI A) := by
  show zP X (d + 1) 70 0 [some (.ref (t)), some (.ref 18), some (.int a2)] [] S h (zI A)
  refine zl zM70 q70_0 rfl ?_
  refine zcV zM70 q70_1 kl10_41 rfl rfl (Nat.le_of_ble_eq_true rfl) (zrc hS (by decide) rfl) zM52 (Nat.le_of_ble_eq_true rfl) (hw.mono (fun r0 h3 hr12 => ?_))
  obtain ⟨rfl, hw⟩ := hr12
  show zP X (d + 1) 70 4 [some (.ref (t)), some (.ref 18), some (.int a2)] [] S h3 (zI A)
  refine zl zM70 q70_4 rfl ?_
  refine zl zM70 q70_5 rfl ?_
  refine zl zM70 q70_6 rfl ?_
  refine zcV zM70 q70_7 kl10_60 rfl rfl (Nat.le_of_ble_eq_true rfl) (zrT hS ht0) zM69 (Nat.le_of_ble_eq_true rfl) (hw.mono (fun r0 h6 hr11 => ?_))
  obtain ⟨v4, rfl, hw⟩ := hr11
  show zP X (d + 1) 70 10 [some (.ref (t)), some (.ref 18), some (.int a2)] [.int v4] S h6 (zI A)
  refine zb1_ne zM70 q70_10 (tgt := 15) rfl (fun hc => ?_) (fun hc => ?_)
  · have hw := hw.2 hc
    refine zl zM70 q70_15 rfl ?_
    refine zkI zM70 q70_16 kIm1 ?_
    refine zcV zM70 q70_17 kl10_44 rfl rfl (Nat.le_of_ble_eq_true rfl) (zrT hS ht0) zM62 (Nat.le_of_ble_eq_true rfl) (hw.mono (fun r0 h9 hr10 => ?_))
    obtain ⟨rfl, hw⟩ := hr10
    show zP X (d + 1) 70 20 [some (.ref (t)), some (.ref 18), some (.int a2)] [] S h9 (zI A)
    refine zkI zM70 q70_20 kI1 ?_
    exact zri zM70 q70_21 rfl rfl hw
  · have hw := hw.1 hc
    refine zkI zM70 q70_13 kI0 ?_
    exact zri zM70 q70_14 rfl rfl hw
theorem e71 {S : zS} (hS : zCS S) {X : Option (List Int32)} {d : Nat} {h : zH} {A : Int32 → zH → Prop} {t : Nat} {a2 : Int32} (ht0 : t ∈ ([25, 28, 31, 34, 37, 40] : List Nat)) (hw : zP X d 52 0 (z_ent [.ref 18] 1) [] S h (zV fun h3 => zP X d 63 0 (z_ent [.ref (t), .ref 18, .int a2] 4) [] S h3 (zI fun v4 h6 => ((v4 = 0 → A 0 h6) ∧ (¬ v4 = 0 → zP X d 51 0 (z_ent [.ref 18, .int 41] 2) [] S h6 (zI fun v7 h9 => ((v7 = 0 → A 0 h9) ∧ (¬ v7 = 0 → A 1 h9)))))))) : zP X (d + 1) 71 0 (z_ent [.ref (t), .ref 18, .int a2] 3) [] S h (zI A) := by
  show zP X (d + 1) 71 0 [some (.ref (t)), some (.ref 18), some (.int a2)] [] S h (zI A)
  refine zl zM71 q71_0 rfl ?_
  refine zcV zM71 q71_1 kl10_41 rfl rfl (Nat.le_of_ble_eq_true rfl) (zrc hS (by decide) rfl) zM52 (Nat.le_of_ble_eq_true rfl) (hw.mono (fun r0 h3 hr12 => ?_))
  obtain ⟨rfl, hw⟩ := hr12
  show zP X (d + 1) 71 4 [some (.ref (t)), some (.ref 18), some (.int a2)] [] S h3 (zI A)
  refine zl zM71 q71_4 rfl ?_
  refine zl zM71 q71_5 rfl ?_
  refine zl zM71 q71_6 rfl ?_
  refine zcV zM71 q71_7 kl10_31 rfl rfl (Nat.le_of_ble_eq_true rfl) (zrT hS ht0) zM63 (Nat.le_of_ble_eq_true rfl) (hw.mono (fun r0 h6 hr11 => ?_))
  obtain ⟨v4, rfl, hw⟩ := hr11
  show zP X (d + 1) 71 10 [some (.ref (t)), some (.ref 18), some (.int a2)] [.int v4] S h6 (zI A)
  refine zb1_eq zM71 q71_10 (tgt := 26) rfl (fun hc => ?_) (fun hc => ?_)
  · have hw := hw.1 hc
    refine zkI zM71 q71_26 kI0 ?_
    exact zri zM71 q71_27 rfl rfl hw
  · have hw := hw.2 hc
    refine zl zM71 q71_13 rfl ?_
    refine zkB zM71 q71_14 kB41 ?_
    refine zcV zM71 q71_16 kl10_27 rfl rfl (Nat.le_of_ble_eq_true rfl) (zrc hS (by decide) rfl) zM51 (Nat.le_of_ble_eq_true rfl) (hw.mono (fun r0 h9 hr10 => ?_))
    obtain ⟨v7, rfl, hw⟩ := hr10
    show zP X (d + 1) 71 19 [some (.ref (t)), some (.ref 18), some (.int a2)] [.int v7] S h9 (zI A)
    refine zb1_eq zM71 q71_19 (tgt := 26) rfl (fun hc => ?_) (fun hc => ?_)
    · have hw := hw.1 hc
      refine zkI zM71 q71_26 kI0 ?_
      exact zri zM71 q71_27 rfl rfl hw
    · have hw := hw.2 hc
      refine zkI zM71 q71_22 kI1 ?_
      refine zl zM71 q71_23 (pc' := 27) (ls' := _) (st' := _) rfl ?_
      exact zri zM71 q71_27 rfl rfl hw
theorem e88 {S : zS} (hS : zCS S) {X : Option (List Int32)} {d : Nat} {h : zH} {A : Int32 → zH → Prop}  (hw : (((h 20 4) < 6 → (z_ib (h 20 4) 6 ∧ zP X d 61 0 (z_ent [.ref (z_tx (Int32.toNatClampNeg (h 20 4))), .ref 18] 3) [] S h (zI fun v2 h4 => zP X d 49 0 (z_ent [.ref 18] 1) [] S h4 (zV fun h7 => ((v2 = 0 → A ((-100) - (h7 18 2)) h7) ∧ (¬ v2 = 0 → A (((h7 20 4) + 1) - 1) (z_up h7 20 4 ((h7 20 4) + 1)))))))) ∧ (¬ (h 20 4) < 6 → A (-4) h))) : zP X (d + 1) 88 0 (z_ent [.ref 0] 2) [] S h (zI A) := by
  show zP X (d + 1) 88 0 [some (.ref 0), none] [] S h (zI A)
  refine zl zM88 q88_0 rfl ?_
  refine zgR (a := 20) zM88 q88_1 (by decide) g11_37 (zs1 hS (by decide) s0) rfl ?_
  refine zgI zM88 q88_4 (by decide) g11_121 (zs1 hS (by decide) s20) rfl (v := (h 20 4)) rfl ?_
  refine zkB zM88 q88_7 kB6 ?_
  refine zb2_lt zM88 q88_9 (tgt := 15) rfl (fun hc => ?_) (fun hc => ?_)
  · have hw := hw.1 hc
    refine zl zM88 q88_15 rfl ?_
    refine zgR (a := 20) zM88 q88_16 (by decide) g11_37 (zs1 hS (by decide) s0) rfl ?_
    refine zgR (a := 21) zM88 q88_19 (by decide) g11_111 (zs1 hS (by decide) s20) rfl ?_
    refine zl zM88 q88_22 rfl ?_
    refine zgR (a := 20) zM88 q88_23 (by decide) g11_37 (zs1 hS (by decide) s0) rfl ?_
    refine zgI zM88 q88_26 (by decide) g11_121 (zs1 hS (by decide) s20) rfl (v := (h 20 4)) rfl ?_
    obtain ⟨hb, hw⟩ := hw
    obtain ⟨hm1e, hm1⟩ := z_txIn hb
    refine zaa zM88 q88_29 (by decide) (zs1 hS (by decide) s21) (by decide) hb ?_
    rw [hm1e]
    refine zl zM88 q88_30 rfl ?_
    refine zgR (a := 18) zM88 q88_31 (by decide) g11_30 (zs1 hS (by decide) s0) rfl ?_
    refine zcV zM88 q88_34 kl11_115 rfl rfl (Nat.le_of_ble_eq_true rfl) (zrT hS hm1) zM61 (Nat.le_of_ble_eq_true rfl) (hw.mono (fun r0 h4 hr9 => ?_))
    obtain ⟨v2, rfl, hw⟩ := hr9
    show zP X (d + 1) 88 37 [some (.ref 0), none] [.int v2] S h4 (zI A)
    refine zl zM88 q88_37 (ls' := [some (.ref 0), some (.int v2)]) rfl ?_
    refine zl zM88 q88_38 rfl ?_
    refine zgR (a := 18) zM88 q88_39 (by decide) g11_30 (zs1 hS (by decide) s0) rfl ?_
    refine zcV zM88 q88_42 kl11_125 rfl rfl (Nat.le_of_ble_eq_true rfl) (zrc hS (by decide) rfl) zM49 (Nat.le_of_ble_eq_true rfl) (hw.mono (fun r0 h7 hr8 => ?_))
    obtain ⟨rfl, hw⟩ := hr8
    show zP X (d + 1) 88 45 [some (.ref 0), some (.int v2)] [] S h7 (zI A)
    refine zl zM88 q88_45 rfl ?_
    refine zb1_ne zM88 q88_46 (tgt := 60) rfl (fun hc => ?_) (fun hc => ?_)
    · have hw := hw.2 hc
      refine zl zM88 q88_60 rfl ?_
      refine zgR (a := 20) zM88 q88_61 (by decide) g11_37 (zs1 hS (by decide) s0) rfl ?_
      refine zl zM88 q88_64 rfl ?_
      refine zgI zM88 q88_65 (by decide) g11_121 (zs1 hS (by decide) s20) rfl (v := (h7 20 4)) rfl ?_
      refine zkI zM88 q88_68 kI1 ?_
      refine zl zM88 q88_69 (pc' := 70) (st' := .int ((h7 20 4) + 1) :: _) rfl ?_
      refine zpi zM88 q88_70 (by decide) g11_121 (zs1 hS (by decide) s20) rfl rfl ?_
      refine zl zM88 q88_73 rfl ?_
      refine zgR (a := 20) zM88 q88_74 (by decide) g11_37 (zs1 hS (by decide) s0) rfl ?_
      refine zgI zM88 q88_77 (by decide) g11_121 (zs1 hS (by decide) s20) rfl (v := ((h7 20 4) + 1)) rfl ?_
      refine zkI zM88 q88_80 kI1 ?_
      refine zl zM88 q88_81 (pc' := 82) (st' := .int (((h7 20 4) + 1) - 1) :: _) rfl ?_
      exact zri zM88 q88_82 rfl rfl hw
    · have hw := hw.1 hc
      refine zkB zM88 q88_49 kBm100 ?_
      refine zl zM88 q88_51 rfl ?_
      refine zgR (a := 18) zM88 q88_52 (by decide) g11_30 (zs1 hS (by decide) s0) rfl ?_
      refine zgI zM88 q88_55 (by decide) g11_225 (zs1 hS (by decide) s18) rfl (v := (h7 18 2)) rfl ?_
      refine zl zM88 q88_58 (pc' := 59) (st' := .int ((-100) - (h7 18 2)) :: _) rfl ?_
      exact zri zM88 q88_59 rfl rfl hw
  · have hw := hw.2 hc
    refine zkB zM88 q88_12 kBm4 ?_
    exact zri zM88 q88_14 rfl rfl hw

/-! the constructor of the class: its tape and its first text -/
theorem zCS1 : zCS zS1 := fun k hk => by
  show (z_S0.take 82)[k]? = z_S0[k]?
  rw [List.getElem?_take_of_lt hk]
theorem kl11_97 : z_cal 11 97 = some (216, 0, 0) := by decide +kernel
theorem kl11_103 : z_cal 11 103 = some (217, 0, 1) := by decide +kernel
theorem ks11_95 : z_con 11 95 = none := by decide +kernel
theorem kt11_95 : z_sno 11 95 = some 0 := by decide +kernel
theorem z_ch0 : ∀ j, j < 43 → z_chv ((z_stn 0).getD j 0) = nI (zB0 j) ∧ zB0 j < 256 := by decide +kernel
theorem zHs4 (c j : Nat) (h : ¬ ((c = 74 ∨ c = 76 ∨ c = 78 ∨ c = 80) ∧ j = 1)) : zHs 4 c j = 0 := by
  show (z_up (z_up (z_up (z_up (fun _ _ => 0) 74 1 (-1)) 76 1 (-1)) 78 1 (-1)) 80 1 (-1)) c j = 0
  unfold z_up upd
  by_cases h1 : c = 80
  · subst h1
    rw [if_pos rfl, if_neg (by omega), if_neg (by decide), if_neg (by decide), if_neg (by decide)]
  · rw [if_neg h1]
    by_cases h2 : c = 78
    · subst h2
      rw [if_pos rfl, if_neg (by omega), if_neg (by decide), if_neg (by decide)]
    · rw [if_neg h2]
      by_cases h3 : c = 76
      · subst h3
        rw [if_pos rfl, if_neg (by omega), if_neg (by decide)]
      · rw [if_neg h3]
        by_cases h4 : c = 74
        · subst h4
          rw [if_pos rfl, if_neg (by omega)]
        · rw [if_neg h4]
def zI0 (h : zH) : Prop := (∀ c j, ¬ (c = 18 ∨ c = 19 ∨ (c = 20 ∧ j = 4) ∨ (25 ≤ c ∧ c ≤ 27) ∨ ((c = 74 ∨ c = 76 ∨ c = 78 ∨ c = 80) ∧ j = 1)) → h c j = 0) ∧ h 18 1 = 0 ∧ h 20 4 = 1 ∧ h 74 1 = -1 ∧ h 76 1 = -1 ∧ h 78 1 = -1 ∧ h 80 1 = -1 ∧ zCd (h 26) (h 27) 0 0 [[103, 0, 7], [4, 105, 8], [101]]
section ZCT
variable {X : Option (List Int32)} {d : Nat} {Q : Option Value → zH → Prop}
theorem cT_loop : ∀ (m i : Nat) (G : zH), i + m = 43 → (∀ c j, ¬ (c = 19 ∨ (c = 18 ∧ j = 1)) → G c j = zHs 4 c j) → G 18 1 = nI i → (∀ j, j < i → G 19 j = nI (zB0 j)) → (∀ G' : zH, (∀ c j, ¬ (c = 19 ∨ (c = 18 ∧ j = 1)) → G' c j = zHs 4 c j) → G' 18 1 = nI 43 → (∀ j, j < 43 → G' 19 j = nI (zB0 j)) → zP X (d + 56) 75 206 [some (.ref 0), some (.int (nI 43))] [] zS1 G' Q) → zP X (d + 56) 75 178 [some (.ref 0), some (.int (nI i))] [] zS1 G Q := by
  intro m
  induction m with
  | zero =>
    intro i G hi h1 h2 h3 K
    have e : i = 43 := by omega
    subst e
    refine zl zM75 q75_178 rfl ?_
    refine zks zM75 q75_179 ks11_95 kt11_95 ?_
    refine zcV zM75 q75_181 kl11_97 rfl rfl (Nat.le_of_ble_eq_true rfl) (zrStr (i := 0) (by decide)) zM216 (Nat.le_of_ble_eq_true rfl) ((c216 (A := fun v h1 => v = nI 43 ∧ h1 = G) (i := 0) (by decide) ⟨rfl, rfl⟩).mono (fun r0 g2 hr => ?_))
    obtain ⟨v, rfl, rfl, rfl⟩ := hr
    show zP X (d + 56) 75 184 [some (.ref 0), some (.int (nI 43))] [.int (nI 43), .int (nI 43)] zS1 g2 Q
    refine zb2_ge zM75 q75_184 (tgt := 206) rfl (fun _ => K g2 h1 h2 h3) (fun hc => absurd hc (nI_nlt (Nat.le_refl _) (by decide)))
  | succ m ih =>
    intro i G hi h1 h2 h3 K
    obtain ⟨t1, t2⟩ := z_ch0 i (by omega)
    refine zl zM75 q75_178 rfl ?_
    refine zks zM75 q75_179 ks11_95 kt11_95 ?_
    refine zcV zM75 q75_181 kl11_97 rfl rfl (Nat.le_of_ble_eq_true rfl) (zrStr (i := 0) (by decide)) zM216 (Nat.le_of_ble_eq_true rfl) ((c216 (A := fun v h1 => v = nI 43 ∧ h1 = G) (i := 0) (by decide) ⟨rfl, rfl⟩).mono (fun r0 g2 hr => ?_))
    obtain ⟨v, rfl, rfl, rfl⟩ := hr
    show zP X (d + 56) 75 184 [some (.ref 0), some (.int (nI i))] [.int (nI 43), .int (nI i)] zS1 g2 Q
    refine zb2_ge zM75 q75_184 (tgt := 206) rfl (fun hc => absurd (nI_lt (by omega) (by decide)) hc) (fun _ => ?_)
    refine zl zM75 q75_187 rfl ?_
    refine zgR (a := 18) zM75 q75_188 (by decide) g11_30 (zs1 zCS1 (by decide) s0) rfl ?_
    refine zks zM75 q75_191 ks11_95 kt11_95 ?_
    refine zl zM75 q75_193 rfl ?_
    refine zcV zM75 q75_194 kl11_103 rfl rfl (Nat.le_of_ble_eq_true rfl) (zrStr (i := 0) (by decide)) zM217 (Nat.le_of_ble_eq_true rfl) (zPd (d := d + 52 + 3) (by omega) ((c217 (A := fun v h1 => v = nI (zB0 i) ∧ h1 = g2) (i := 0) (j := i) (by decide) (by show i < 43; omega) ⟨t1, rfl⟩).mono (fun r0 g3 hr => ?_)))
    obtain ⟨v, rfl, rfl, rfl⟩ := hr
    show zP X (d + 56) 75 197 [some (.ref 0), some (.int (nI i))] [.int (nI (zB0 i)), .ref 18] zS1 g3 Q
    refine zcV zM75 q75_197 kl11_107 rfl rfl (Nat.le_of_ble_eq_true rfl) (zrc zCS1 (by decide) rfl) zM48 (Nat.le_of_ble_eq_true rfl) ((e48 (A := fun h1 => h1 = z_up (z_up g3 19 i (nI (zB0 i))) 18 1 (nI (i + 1))) zCS1 ?_).mono (fun r0 g4 hr => ?_))
    · rw [h2, nI_clamp (show i < 2 ^ 31 by omega), nI_1]
      exact ⟨fun _ => ⟨vp_in_nI (by omega) (by decide), rfl⟩, fun z => absurd (nI_lt (b := 160) (by omega) (by decide)) z⟩
    · obtain ⟨rfl, rfl⟩ := hr
      show zP X (d + 56) 75 200 [some (.ref 0), some (.int (nI i))] [] zS1 (z_up (z_up g3 19 i (nI (zB0 i))) 18 1 (nI (i + 1))) Q
      refine zl zM75 q75_200 (ls' := [some (.ref 0), some (.int (nI i + 1))]) rfl ?_
      refine zl zM75 q75_203 (pc' := 178) rfl ?_
      rw [nI_1]
      refine ih (i + 1) _ (by omega) (fun c j q => ?_) rfl (fun j hj => ?_) K
      · rw [← h1 c j q]
        unfold z_up upd
        by_cases e1 : c = 18
        · subst e1
          rw [if_pos rfl, if_neg (by omega), if_neg (by decide)]
        · rw [if_neg e1, if_neg (by omega)]
      · show upd (g3 19) i (nI (zB0 i)) j = nI (zB0 j)
        by_cases e1 : j = i
        · rw [e1, upd_S]
        · rw [upd_N _ _ e1]
          exact h3 j (by omega)
theorem cT : zP X (d + 56) 75 176 [some (.ref 0), some (.int 4)] [] zS1 (zHs 4) (zV zI0) := by
  refine zkI zM75 q75_176 kI0 ?_
  refine zl zM75 q75_177 (ls' := [some (.ref 0), some (.int 0)]) rfl ?_
  refine cT_loop 43 0 (zHs 4) rfl (fun _ _ _ => rfl) rfl (fun j hj => absurd hj (Nat.not_lt_zero j)) ?_
  intro G h1 h2 h3
  refine zl zM75 q75_206 rfl ?_
  have hB : zBX zB0 43 G := ⟨by decide, h2, fun i hi => ⟨(z_ch0 i hi).2, h3 i hi⟩⟩
  have e0 : (0 : Int32).toNatClampNeg = 0 := by decide
  have h25 : 25 ∈ ([25, 28, 31, 34, 37, 40] : List Nat) := by decide
  refine zgR (a := 20) zM75 q75_207 (by decide) g11_37 (zs1 zCS1 (by decide) s0) rfl ?_
  refine zgR (a := 21) zM75 q75_210 (by decide) g11_111 (zs1 zCS1 (by decide) s20) rfl ?_
  refine zkI zM75 q75_213 kI0 ?_
  refine zaa zM75 q75_214 (by decide) (zs1 zCS1 (by decide) s21) (by decide) (show z_ib 0 6 from by decide) ?_
  rw [e0]
  show zP X (d + 56) 75 215 [some (.ref 0), some (.int (nI 43))] [.ref 25] zS1 G (zV zI0)
  refine zl zM75 q75_215 rfl ?_
  refine zgR (a := 18) zM75 q75_216 (by decide) g11_30 (zs1 zCS1 (by decide) s0) rfl ?_
  refine zcV zM75 q75_219 kl11_115 rfl rfl (Nat.le_of_ble_eq_true rfl) (zrT zCS1 h25) zM61 (Nat.le_of_ble_eq_true rfl) (zPd (d := d + 1 + 54) (by omega) ((w_text X (d + 1) zS1 25 G (fun _ h1 => zFr (mY 25) G h1 ∧ zCd (h1 26) (h1 27) 0 0 [[103, 0, 7], [4, 105, 8], [101]]) zCS1 h25 hB (fun _ G' f1 f2 => ⟨f1, f2⟩) (fun e => by cases e)).mono (fun r0 G' hr => ?_)))
  obtain ⟨v, rfl, f1, f2⟩ := hr
  show zP X (d + 56) 75 222 [some (.ref 0), some (.int (nI 43))] [.int v] zS1 G' (zV zI0)
  refine zl zM75 q75_222 rfl ?_
  refine zl zM75 q75_223 rfl ?_
  refine zgR (a := 20) zM75 q75_224 (by decide) g11_37 (zs1 zCS1 (by decide) s0) rfl ?_
  refine zkI zM75 q75_227 kI1 ?_
  refine zpi zM75 q75_228 (by decide) g11_121 (zs1 zCS1 (by decide) s20) rfl rfl ?_
  refine zl zM75 q75_231 rfl ?_
  refine zgR (a := 18) zM75 q75_232 (by decide) g11_30 (zs1 zCS1 (by decide) s0) rfl ?_
  refine zcV zM75 q75_235 kl11_125 rfl rfl (Nat.le_of_ble_eq_true rfl) (zrc zCS1 (by decide) rfl) zM49 (Nat.le_of_ble_eq_true rfl) ((e49 (A := zI0) zCS1 ?_).mono (fun r0 h4 hr => ?_))
  · have hh : ∀ c j, ¬ (c = 18 ∨ (c = 20 ∧ j = 4)) → (z_up (z_up G' 20 4 1) 18 1 0) c j = G' c j := by
      intro c j q
      by_cases e1 : c = 20
      · subst e1
        rw [z_upN _ (by omega), z_upS, upd_N _ _ (by omega)]
      · rw [z_upN _ (by omega), z_upN _ (by omega)]
    refine ⟨fun c j q => ?_, rfl, rfl, ?_, ?_, ?_, ?_, f2⟩
    · rw [hh c j (by omega), f1 c j (by omega), h1 c j (by omega)]
      exact zHs4 c j (by omega)
    · rw [hh 74 1 (by omega), f1 74 1 (by omega), h1 74 1 (by omega)]; rfl
    · rw [hh 76 1 (by omega), f1 76 1 (by omega), h1 76 1 (by omega)]; rfl
    · rw [hh 78 1 (by omega), f1 78 1 (by omega), h1 78 1 (by omega)]; rfl
    · rw [hh 80 1 (by omega), f1 80 1 (by omega), h1 80 1 (by omega)]; rfl
  · obtain ⟨rfl, hr⟩ := hr
    show zP X (d + 56) 75 238 [some (.ref 0), some (.int (nI 43))] [] zS1 h4 (zV zI0)
    exact zrv zM75 q75_238 rfl hr
end ZCT
theorem kc75 {X : Option (List Int32)} {d : Nat} {Q : Option Value → zS → zH → Prop} (K : ∀ h1, zI0 h1 → Q none zS1 h1) : zN X (d + 56) 75 0 (z_ent [.ref 0] 2) [] [.inr (.inr (11, [some none, some none, some none, some none, some none, some none, some none, some none, some none, some none, some none, some none, some none, some none, some none, none, none, none]))] (fun _ _ => 0) Q := by
  refine kc75a (d := d + 53) (nP cT ?_)
  rintro r h' ⟨rfl, q⟩
  exact K h' q

/-! both readings: compared, not, and all levels together -/
def zMN (B : Nat → Nat) (s q o : Nat) (ok : Bool) (q' : Nat) (L : List Nat) : Prop := ∀ (X : Option (List Int32)) (d row : Nat) (W E : List Nat) (m : Int32) (g G : zH) (A : Int32 → zH → Prop), zBM B s g → row < 18 → md_op W = o → E.length + W.length ≤ q → zTop 4 W → ¬ m = 0 → G 106 (md_dp W) = 0 → zSM B s g row q W E G → (ok = true → ∀ (P E1 : List Nat) (G' : zH) (m' : Int32), zSM B s g row q' (P ++ W) E1 G' → E1 ++ P = E ++ L → zPr 3 P → (∀ j, j < md_dp W → G' 106 j = G 106 j) → ((lx_t B s q' = 60 ∨ lx_t B s q' = 61) → ¬ G' 106 (md_dp W) = 0) → z40 X d row 0 m' G' A) → (ok = false → ∀ (G' : zH) (W' E' : List Nat), zSM B s g row q' W' E' G' → A 0 G') → z40 X d row 1 m G A
def zLN (B : Nat → Nat) (s q o r : Nat) : Prop := ∃ (ok : Bool) (q' : Nat) (L : List Nat), zRS B s q ok q' L ∧ (ok = true → zSt 3 (lx_t B s q')) ∧ zCL B s 65 3 (8 * r + 11) q o ok q' L ∧ zMN B s q o ok q' L
section ZAL
variable {B : Nat → Nat} {s : Nat}
theorem zLN_Lv {q o r : Nat} (h : zLN B s q o r) : zLv B s 3 65 3 (8 * r + 11) q o := by
  obtain ⟨ok, q', L, a, b, c, e⟩ := h
  refine ⟨ok, q', L, a, b, c, ?_⟩
  intro X d row W E m g G A hB hr hop hl hW h1 h2 h3 hS K1 K0
  refine e X d row W E m g G A hB hr hop hl (zTop_mono (by decide) hW) (h2 (by decide)) (h3 (by decide)) hS ?_ K0
  intro e P E1 G' m' y1 y2 y3 y4 y5
  exact K1 e P E1 G' m' y1 y2 y3 y4 (fun z => by omega) (fun _ => y5)
theorem t_cmp {q o r : Nat} (hs : s ≤ 160) (hq : q ≤ s) (ho : o + r = 5) (hsub : ∀ q2, q ≤ q2 → q2 ≤ s → zLv B s 5 67 5 (8 * r + 9) q2 o) : zLv B s 4 66 4 (8 * r + 10) q o := by
  obtain ⟨ok1, q1, L1, res, st1, cl1, md1⟩ := hsub q (Nat.le_refl _) hq
  have res1 := res.1
  have E3 := lx_t_ok B s q1
  have E1 : ∀ n, n < 1000 → (nI (lx_t B s q1) = nI n ↔ lx_t B s q1 = n) := fun n hn => nI_eq (by omega) (by omega)
  have up : ∀ t, zSt 5 t → zSt 4 t := fun t h => ⟨fun _ => h.1 (by decide), fun _ => h.2.1 (by decide), fun z => by omega, fun z => by omega⟩
  cases eok : ok1 with
  | false =>
    refine ⟨false, q1, L1, ⟨res1, fun e => (by cases e)⟩, fun e => (by cases e), ?_, ?_⟩
    · intro X d S t k g G A hS ht hB hk h K1 K0
      refine zPd (d := d + (8 * r + 9) + 1) (by omega) (e66 hS ht ?_)
      exact cl1 X d S t k g G _ hS ht hB hk h (fun e => by rw [eok] at e; cases e) (fun e G2 k' y1 => ⟨fun _ => K0 rfl G2 k' y1, fun z => absurd rfl z⟩)
    · intro X d row W E m g G A hB hr hop hl hW h1 h2 h3 hS K1 K0
      exact md1 X d row W E m g G A hB hr hop hl (zTop_mono (by decide) hW) (fun _ => h1 (by decide)) (fun z => by omega) (fun z => by omega) hS (fun e => by rw [eok] at e; cases e) (fun _ => K0 rfl)
  | true =>
    obtain ⟨w1, w2, w3⟩ := res.2 eok
    by_cases hop2 : lx_t B s q1 = 60 ∨ lx_t B s q1 = 61
    · -- compared
      obtain ⟨x, hx, hxt⟩ : ∃ x, (x = 9 ∨ x = 10) ∧ lx_t B s q1 = tkN x := by
        rcases hop2 with y | y
        · exact ⟨9, Or.inl rfl, y⟩
        · exact ⟨10, Or.inr rfl, y⟩
      have hx6 : 6 ≤ x ∧ x < 13 := by omega
      have hrx : rkN x = 4 := by rcases hx with rfl | rfl <;> rfl
      have hlt := lx_n_lt res1 (show ¬ lx_t B s q1 = 256 by omega)
      have hsl := lx_s_le B res1
      have hnl := lx_n_le (B := B) res1
      obtain ⟨ok2, q2, L2, rs2, st2, cl2, md2⟩ := hsub (lx_n B s q1) (by omega) hnl
      have rs21 := rs2.1
      refine ⟨ok2, q2, L1 ++ L2 ++ [x], ⟨rs21, fun e => ?_⟩, fun e => up _ (st2 e), ?_, ?_⟩
      · obtain ⟨v1, v2, v3⟩ := rs2.2 e
        rw [List.length_append, List.length_append]
        exact ⟨by show q + (L1.length + L2.length + 1) ≤ q2; omega, by omega, zW_jn w3 v3 hx6⟩
      · intro X d S t k g G A hS ht hB hk h K1 K0
        refine zPd (d := d + (8 * r + 9) + 1) (by omega) (e66 hS ht ?_)
        refine cl1 X d S t k g G _ hS ht hB hk h (fun _ G1 y1 y2 y3 => ⟨fun z => absurd z (by decide), fun _ => ?_⟩) (fun e => by rw [eok] at e; cases e)
        rw [y1.2.2.2.1]
        have s30 : zP X (d + (8 * r + 9) + 1) 66 30 [some (.ref t), some (.ref 18), some (.int (nI o)), some (.int (nI (lx_t B s q1)))] [] S G1 (zI A) := by
          refine e66_30 hS ht (zPd (d := d + (8 * r + 3) + 6) (by omega) (cx52 hS ht hB res1 y1 ?_))
          intro G2 f1 f2
          refine cl2 X d S t (k + L1.length) g G2 _ hS ht hB (by omega) f1 (fun e G3 z1 z2 z3 => ⟨fun z => absurd z (by decide), fun _ => ?_⟩) (fun e G3 k' z1 => ⟨fun _ => K0 e G3 k' z1, fun z => absurd rfl z⟩)
          obtain ⟨v1, v2, v3⟩ := rs2.2 e
          have fin : zP X (d + (8 * r + 9)) 62 0 (z_ent [.ref t, .int (z_xc x)] 2) [] S G3 (zV fun G4 => A 1 G4) := by
            refine cx62 hS ht (by omega) z1 ?_
            intro G4 u1 u2
            have z2' : ∀ j, j < k + L1.length → G3 (t + 1) j = G1 (t + 1) j := fun j hj => by rw [z2 j hj, f2]
            have hg := z_gt y2 y3 z2' z3
            have hg2 := z_gu (c := x) hg.1 hg.2
            have el : k + (L1 ++ L2).length = k + L1.length + L2.length := by rw [List.length_append, ← Nat.add_assoc]
            rw [el, ← u2] at hg2
            refine K1 e G4 ?_ hg2.1 hg2.2
            rw [List.length_append, ← Nat.add_assoc, el]
            exact u1
          refine ⟨fun y => ?_, fun y => ?_⟩
          · have y := (E1 60 (by decide)).mp y
            have hx : x = 9 := hx.resolve_right (fun z => by rw [z] at hxt; have hxt : lx_t B s q1 = 61 := hxt; omega)
            rw [hx, show z_xc 9 = -6 from by decide] at fin
            exact fin
          · have y : ¬ lx_t B s q1 = 60 := fun z => y ((E1 60 (by decide)).mpr z)
            have hx : x = 10 := hx.resolve_left (fun z => by rw [z] at hxt; exact y hxt)
            rw [hx, show z_xc 10 = -7 from by decide] at fin
            exact fin
        refine ⟨fun _ => s30, fun n60 => ⟨fun _ => s30, fun n61 => ?_⟩⟩
        rcases hop2 with y | y
        · exact absurd ((E1 60 (by decide)).mpr y) n60
        · exact absurd ((E1 61 (by decide)).mpr y) n61
      · intro X d row W E m g G A hB hr hop hl hW h1 h2 h3 hS K1 K0
        refine md1 X d row W E m g G A hB hr hop hl (zTop_mono (by decide) hW) (fun _ => h1 (by decide)) (fun z => by omega) (fun z => by omega) hS ?_ (fun e => by rw [eok] at e; cases e)
        intro _ P E1' G1 m1 y1 y2 y3 y4 y5 y6
        have yl := congrArg List.length y2
        rw [List.length_append, List.length_append] at yl
        have hdp := md_dp_op W
        have hdx : md_dp (x :: W) = md_dp W := by rw [md_dp, if_neg (by omega)]; rfl
        have hopx : md_op (x :: W) = md_op W := by rw [md_op, if_neg (by omega)]; rfl
        refine cs_op (x := x) (P := P) hB res1 hr hx6 hxt (by rw [hrx]; exact hW) (by rw [hrx]; exact zPr_mono y3 (by decide)) (by omega) (by omega) y1 (fun _ => (y5 (by decide)).mpr (h3 (by decide))) ?_
        intro G2 f1 f2 f3 f4 f5
        refine md2 X d row (x :: W) (E1' ++ P) _ g G2 A hB hr (by omega) (by rw [List.length_append, List.length_cons]; omega) (Or.inr ⟨hx6.1, by omega, by omega⟩) (fun _ b => ?_) (fun z => by omega) (fun z => by omega) f1 ?_ K0
        · refine absurd ?_ b
          rw [zb_f (by omega)]
        · intro e P2 E2 G3 m3 z1 z2 z3 z4 z5 z6
          rw [hdx] at z4 z5
          have ea : P2 ++ x :: W = (P2 ++ [x]) ++ W := by rw [List.append_assoc]; rfl
          rw [ea] at z1
          refine K1 e (P2 ++ [x]) E2 G3 m3 z1 ?_ ?_ (fun j hj => ?_) (fun z => by omega) (fun _ _ => ?_)
          · rw [← List.append_assoc, z2, y2]
            simp
          · intro z hz
            rcases List.mem_append.mp hz with hz | hz
            · have := z3 z hz
              exact ⟨this.1, this.2.1, by omega⟩
            · rw [List.mem_singleton.mp hz]
              exact ⟨hx6.1, by omega, by omega⟩
          · rw [z4 j hj, f2 j (by omega), y4 j hj]
          · rw [z5 (by decide)]
            exact f5 hrx
    · -- a sum alone
      refine ⟨true, q1, L1, ⟨res1, fun _ => ⟨w1, w2, w3⟩⟩, fun _ => up _ (st1 eok), ?_, ?_⟩
      · intro X d S t k g G A hS ht hB hk h K1 K0
        refine zPd (d := d + (8 * r + 9) + 1) (by omega) (e66 hS ht ?_)
        refine cl1 X d S t k g G _ hS ht hB hk h (fun _ G1 y1 y2 y3 => ⟨fun z => absurd z (by decide), fun _ => ?_⟩) (fun e => by rw [eok] at e; cases e)
        rw [y1.2.2.2.1]
        exact ⟨fun y => absurd (Or.inl ((E1 60 (by decide)).mp y)) hop2, fun _ => ⟨fun y => absurd (Or.inr ((E1 61 (by decide)).mp y)) hop2, fun _ => K1 rfl G1 y1 y2 y3⟩⟩
      · intro X d row W E m g G A hB hr hop hl hW h1 h2 h3 hS K1 K0
        refine md1 X d row W E m g G A hB hr hop hl (zTop_mono (by decide) hW) (fun _ => h1 (by decide)) (fun z => by omega) (fun z => by omega) hS ?_ (fun e => by rw [eok] at e; cases e)
        intro _ P E1' G1 m1 y1 y2 y3 y4 y5 y6
        exact K1 rfl P E1' G1 m1 y1 y2 (zPr_mono y3 (by decide)) y4 (fun z => by omega) (fun _ z => absurd z hop2)
theorem t_not {q o r : Nat} (hs : s ≤ 160) (hq : q ≤ s) (ho : o + r = 5) (hcmp : zLv B s 4 66 4 (8 * r + 10) q o) (hnot : ∀ q2 o2 r2, q < q2 → q2 ≤ s → o2 + r2 = 5 → zLN B s q2 o2 r2) : zLN B s q o r := by
  have hsl := lx_s_le B hq
  have hok := lx_t_ok B s q
  have hn := lx_n_le (B := B) hq
  have E1 : nI (lx_t B s q) = 265 ↔ lx_t B s q = 265 := nI_eq (b := 265) (by omega) (by decide)
  have E5 : nI o < 5 ↔ o < 5 := nI_ltI (b := 5) (by omega) (by decide)
  by_cases c1 : lx_t B s q = 265
  · have hlt := lx_n_lt hq (show ¬ lx_t B s q = 256 by omega)
    by_cases o5 : o < 5
    · obtain ⟨r', rfl⟩ : ∃ r', r = r' + 1 := ⟨r - 1, by omega⟩
      obtain ⟨ok1, q1, L1, ⟨res1, res2⟩, st1, cl1, md1⟩ := hnot (lx_n B s q) (o + 1) r' hlt.1 hn (by omega)
      refine ⟨ok1, q1, L1 ++ [13], ⟨res1, fun e => ?_⟩, st1, ?_, ?_⟩
      · obtain ⟨w1, w2, w3⟩ := res2 e
        rw [List.length_append]
        exact ⟨by show q + (L1.length + 1) ≤ q1; omega, by omega, zW_un w3 (Or.inl rfl)⟩
      · intro X d S t k g G A hS ht hB hk h K1 K0
        refine zPd (d := d + (8 * r' + 18) + 1) (by omega) (e65 hS ht ?_)
        rw [h.2.2.2.1]
        refine ⟨fun _ => ⟨fun _ => ?_, fun n => absurd (E5.mpr o5) n⟩, fun n => absurd (E1.mpr c1) n⟩
        rw [nI_1]
        refine zPd (d := d + (8 * r' + 12) + 6) (by omega) (cx52 hS ht hB hq h ?_)
        intro G1 f1 f2
        refine zPd (d := (d + 7) + (8 * r' + 11)) (by omega) (cl1 X (d + 7) S t k g G1 _ hS ht hB (by omega) f1 (fun e G2 y1 y2 y3 => ⟨fun z => absurd z (by decide), fun _ => ?_⟩) (fun e G2 k' y1 => ⟨fun _ => K0 e G2 k' y1, fun z => absurd rfl z⟩))
        obtain ⟨w1, w2, w3⟩ := res2 e
        rw [show (-2 : Int32) = z_xc 13 from by decide]
        refine cx62 hS ht (by omega) y1 ?_
        intro G3 z1 z2
        have hg := z_gu (c := 13) y2 y3
        rw [← z2] at hg
        refine K1 e G3 ?_ (fun j hj => by rw [hg.1 j hj, f2]) hg.2
        rw [List.length_append]
        exact z1
      · intro X d row W E m g G A hB hr hop hl hW hm h3 hS K1 K0
        have op13 : md_op (13 :: W) = o + 1 := by rw [md_op, if_pos (by decide)]; omega
        have dp13 : md_dp (13 :: W) = md_dp W := by rw [md_dp, if_neg (by decide)]; rfl
        refine cs_pre hB hq (by omega) (by omega) (by omega) hS (fun y => by omega) (fun y => by omega) ?_ (fun y => ?_)
        · intro _ _ _ G1 f1 f2
          refine md1 X d row (13 :: W) E 1 g G1 A hB hr op13 (by rw [List.length_cons]; omega) (Or.inr ⟨by decide, by decide, by decide⟩) (by decide) (by rw [dp13, f2]; exact h3) f1 ?_ K0
          intro e P E1' G2 m2 y1 y2 y3 y4 y5
          rw [dp13] at y4 y5
          have ea : P ++ 13 :: W = (P ++ [13]) ++ W := by rw [List.append_assoc]; rfl
          rw [ea] at y1
          refine K1 e (P ++ [13]) E1' G2 m2 y1 ?_ ?_ (fun j hj => by rw [y4 j hj, f2]) y5
          · rw [← List.append_assoc, y2]
            simp
          · intro z hz
            rcases List.mem_append.mp hz with hz | hz
            · exact y3 z hz
            · rw [List.mem_singleton.mp hz]
              exact ⟨by decide, by decide, by decide⟩
        · rcases y with y | y
          · omega
          · rcases y.2.2 with z | z
            · exact absurd z hm
            · exact absurd c1 z
    · refine ⟨false, q, [], ⟨hq, fun e => by cases e⟩, fun e => (by cases e), ?_, ?_⟩
      · intro X d S t k g G A hS ht hB hk h K1 K0
        refine zPd (d := d + (8 * r + 10) + 1) (by omega) (e65 hS ht ?_)
        rw [h.2.2.2.1]
        exact ⟨fun _ => ⟨fun z => absurd (E5.mp z) o5, fun _ => K0 rfl G k h⟩, fun n => absurd (E1.mpr c1) n⟩
      · intro X d row W E m g G A hB hr hop hl hW hm h3 hS K1 K0
        exact cs_pre hB hq (by omega) (by omega) (by omega) hS (fun y => by omega) (fun y => by omega) (fun _ _ z => by omega) (fun _ => K0 rfl G _ _ hS)
  · obtain ⟨ok1, q1, L1, res, st1, cl1, md1⟩ := hcmp
    refine ⟨ok1, q1, L1, res, fun e => ?_, ?_, ?_⟩
    · have := st1 e
      exact ⟨fun _ => this.1 (by decide), fun _ => this.2.1 (by decide), fun z => by omega, fun z => by omega⟩
    · intro X d S t k g G A hS ht hB hk h K1 K0
      refine zPd (d := d + (8 * r + 10) + 1) (by omega) (e65 hS ht ?_)
      rw [h.2.2.2.1]
      refine ⟨fun y => absurd (E1.mp y) c1, fun _ => ?_⟩
      exact cl1 X d S t k g G _ hS ht hB hk h (fun e G1 y1 y2 y3 => ⟨Or.inr rfl, K1 e G1 y1 y2 y3⟩) (fun e G2 k' y1 => ⟨Or.inl rfl, K0 e G2 k' y1⟩)
    · intro X d row W E m g G A hB hr hop hl hW hm h3 hS K1 K0
      refine md1 X d row W E m g G A hB hr hop hl hW (fun _ _ => c1) (fun z => by omega) (fun _ => h3) hS ?_ K0
      intro e P E1' G1 m1 y1 y2 y3 y4 y5 y6
      exact K1 e P E1' G1 m1 y1 y2 (zPr_mono y3 (by decide)) y4 (y6 (by decide))
def zAll (B : Nat → Nat) (s q : Nat) : Prop := (∀ o r, o + r = 5 → zL1 B s q o r) ∧ (∀ o r, o + r = 5 → zLN B s q o r) ∧ (∀ o r, o + r = 5 → zLv B s 1 63 4 (8 * r + 13) q o)
theorem t_step {q : Nat} (hs : s ≤ 160) (hq : q ≤ s) (ih : ∀ q2, q < q2 → q2 ≤ s → zAll B s q2) : zAll B s q := by
  have p1 : ∀ o r, o + r = 5 → ∀ q2, q ≤ q2 → q2 ≤ s → zL1 B s q2 o r := by
    intro o r ho q2 h1 h2
    by_cases e : q = q2
    · subst e
      exact t_one hs hq ho (fun q3 o2 r2 a b c => (ih q3 a b).1 o2 r2 c) (fun q3 o2 r2 a b c => (ih q3 a b).2.2 o2 r2 c)
    · exact (ih q2 (by omega) h2).1 o r ho
  have p2 : ∀ o r, o + r = 5 → ∀ q2, q ≤ q2 → q2 ≤ s → zLv B s 6 68 4 (8 * r + 8) q2 o := fun o r ho q2 h1 h2 => t_term hs h2 ho (fun q3 a b => zL1_Lv (p1 o r ho q3 (by omega) b))
  have p3 : ∀ o r, o + r = 5 → ∀ q2, q ≤ q2 → q2 ≤ s → zLv B s 5 67 5 (8 * r + 9) q2 o := fun o r ho q2 h1 h2 => t_sum hs h2 ho (fun q3 a b => p2 o r ho q3 (by omega) b)
  have p4 : ∀ o r, o + r = 5 → ∀ q2, q ≤ q2 → q2 ≤ s → zLv B s 4 66 4 (8 * r + 10) q2 o := fun o r ho q2 h1 h2 => t_cmp hs h2 ho (fun q3 a b => p3 o r ho q3 (by omega) b)
  have p5 : ∀ o r, o + r = 5 → ∀ q2, q ≤ q2 → q2 ≤ s → zLN B s q2 o r := by
    intro o r ho q2 h1 h2
    by_cases e : q = q2
    · subst e
      exact t_not hs hq ho (p4 o r ho q (Nat.le_refl _) hq) (fun q3 o2 r2 a b c => (ih q3 a b).2.1 o2 r2 c)
    · exact (ih q2 (by omega) h2).2.1 o r ho
  have p6 : ∀ o r, o + r = 5 → ∀ q2, q ≤ q2 → q2 ≤ s → zLv B s 2 64 4 (8 * r + 12) q2 o := fun o r ho q2 h1 h2 => t_both hs h2 ho (fun q3 a b => zLN_Lv (p5 o r ho q3 (by omega) b))
  exact ⟨fun o r ho => p1 o r ho q (Nat.le_refl _) hq, fun o r ho => p5 o r ho q (Nat.le_refl _) hq, fun o r ho => t_either hs hq ho (fun q3 a b => p6 o r ho q3 a b)⟩
theorem t_all (hs : s ≤ 160) : ∀ (n q : Nat), s - q ≤ n → q ≤ s → zAll B s q
  | 0, q, hn, hq => t_step hs hq (fun q2 a b => by omega)
  | n + 1, q, hn, hq => t_step hs hq (fun q2 a b => t_all hs n q2 (by omega) b)
theorem t_E (hs : s ≤ 160) {q : Nat} (hq : q ≤ s) : zLv B s 1 63 4 53 q 0 := (t_all hs (s - q) q (Nat.le_refl _) hq).2.2 0 5 rfl
end ZAL

/-! text -/
def tMk (c j : Nat) : Bool := (Nat.ble 25 c && Nat.ble c 42) || Nat.beq c 18 || Nat.beq c 101 || Nat.beq c 102 || (Nat.beq c 20 && Nat.beq j 4) || (Nat.beq c 82 && (Nat.beq j 22 || Nat.beq j 23)) || zScr c j
theorem zR_tx {h g : zH} (R : zR h) (E : ∀ c j, tMk c j = false → g c j = h c j) (G4 : zG4 g) (G5 : zG5 g) : zR g := by
  have e := z_mix_eq E
  have H4 : zG4 (z_mix tMk h g) := by rw [← e]; exact G4
  have H5 : zG5 (z_mix tMk h g) := by rw [← e]; exact G5
  have k : zR (z_mix tMk h g) := ⟨R.g0, R.g1, R.g2, R.g3, H4, H5, R.g6, R.g7, R.g8, R.g9, R.g10, R.g11, R.g12, R.g13, R.g14⟩
  rw [e]
  exact k
theorem tMk_no {c j : Nat} (q : tMk c j = false) : ¬ (25 ≤ c ∧ c ≤ 42) ∧ ¬ c = 18 ∧ ¬ c = 101 ∧ ¬ c = 102 ∧ ¬ (c = 20 ∧ j = 4) ∧ ¬ (c = 82 ∧ (j = 22 ∨ j = 23)) ∧ ¬ c = 105 ∧ ¬ c = 106 ∧ ¬ (c = 82 ∧ (j = 26 ∨ j = 27 ∨ j = 28 ∨ j = 29 ∨ j = 33 ∨ j = 34 ∨ j = 35 ∨ j = 37 ∨ j = 38)) := by
  refine ⟨fun ⟨a, b⟩ => ?_, fun z => ?_, fun z => ?_, fun z => ?_, fun z => ?_, fun z => ?_, fun z => ?_, fun z => ?_, fun z => ?_⟩
  · unfold tMk at q
    rw [Nat.ble_eq_true_of_le a, Nat.ble_eq_true_of_le b] at q
    cases q
  · subst z; cases q
  · subst z; cases q
  · subst z; cases q
  · obtain ⟨rfl, rfl⟩ := z
    cases q
  · obtain ⟨rfl, rfl | rfl⟩ := z <;> cases q
  · subst z; cases q
  · subst z; cases q
  · obtain ⟨rfl, rfl | rfl | rfl | rfl | rfl | rfl | rfl | rfl | rfl⟩ := z <;> cases q
theorem z_tx3 : ∀ t, t < 6 → z_tx t = 25 + 3 * t := by decide
theorem zTx_cg {st en co cm co' cm' : Nat → Int32} {t : Nat} (h : zTx st en co cm t) (h1 : ∀ j, j < 160 * (3 * (t + 1)) → co' j = co j) (h2 : ∀ j, j < 3 * (t + 1) → cm' j = cm j) : zTx st en co' cm' t := by
  obtain ⟨L0, L1, L2, w0, w1, w2, hl, s0, s1, s2, e0, e1, e2, m0, m1, m2, c0, c1, c2⟩ := h
  refine ⟨L0, L1, L2, w0, w1, w2, hl, s0, s1, s2, e0, e1, e2, ?_, ?_, ?_, fun j hj => ?_, fun j hj => ?_, fun j hj => ?_⟩
  · rw [h2 _ (by omega)]; exact m0
  · rw [h2 _ (by omega)]; exact m1
  · rw [h2 _ (by omega)]; exact m2
  · rw [h1 _ (by omega)]; exact c0 j hj
  · rw [h1 _ (by omega)]; exact c1 j hj
  · rw [h1 _ (by omega)]; exact c2 j hj
theorem zTx_new {st en co cm : Nat → Int32} {t s : Nat} {Ls : List (List Nat)} (hl : Ls.length = 3) (hs : zSum Ls ≤ s) (hs2 : s ≤ 160) (hw : ∀ L, L ∈ Ls → zW L) (hc : zCd st en 0 0 Ls) (hm : zMd co cm (3 * t) Ls) : zTx st en co cm t := by
  match Ls, hl with
  | [L0, L1, L2], _ =>
    obtain ⟨a1, a2, a3, a4, a5, a6, -⟩ := hc
    obtain ⟨b1, b2, b3, b4, b5, b6, -⟩ := hm
    simp only [Nat.zero_add] at a1 a2 a3 a4 a5 a6
    have hs : L0.length + (L1.length + (L2.length + 0)) ≤ s := hs
    exact ⟨L0, L1, L2, hw L0 (by simp), hw L1 (by simp), hw L2 (by simp), by omega, a1, a3, a5, a2, a4, a6, b1, b3, b5, b2, b4, b6⟩
section ZQX
variable {X : Option (List Int32)} {d : Nat}
/-- text of the class, over any shape that begins with its cells -/
theorem cx88 {B : Nat → Nat} {s T pl : Nat} {S : zS} {G : zH} {A : Int32 → zH → Prop} {ok : Bool} {Ls : List (List Nat)} (hS : zCS S) (hT : G 20 4 = nI T) (hT6 : T < 6) (hB : zBX B s G)
    (cl : ∀ (X : Option (List Int32)) (d : Nat) (S : zS) (t : Nat) (G : zH) (A : Int32 → zH → Prop), zCS S → zTL t → zBX B s G → (ok = true → ∀ G', zFr (mY t) G G' → zCd (G' (t + 1)) (G' (t + 2)) 0 0 Ls → A 1 G') → (ok = false → ∀ G', zFr (mY t) G G' → G' 18 2 = nI pl → A 0 G') → zP X (d + 54) 61 0 (z_ent [.ref t, .ref 18] 3) [] S G (zI A))
    (K1 : ok = true → ∀ G', zFr (mY (z_tx T)) G G' → zCd (G' (z_tx T + 1)) (G' (z_tx T + 2)) 0 0 Ls → A (nI T) (z_up (z_up G' 18 1 0) 20 4 (nI (T + 1)))) (K0 : ok = false → ∀ G', zFr (mY (z_tx T)) G G' → A (-100 - nI pl) (z_up G' 18 1 0)) : zP X (d + 55) 88 0 (z_ent [.ref 0] 2) [] S G (zI A) := by
  have ht := z_txM T hT6
  have h3 := z_tx3 T hT6
  refine zPd (d := d + 54 + 1) (by omega) (e88 hS ⟨fun _ => ?_, fun n => ?_⟩)
  · rw [hT, nI_clamp (show T < 2 ^ 31 by omega)]
    refine ⟨vp_in_nI hT6 (by decide), cl X d S (z_tx T) G _ hS ht hB (fun e G' f1 f2 => e49 hS ⟨fun z => absurd z (by decide), fun _ => ?_⟩) (fun e G' f1 f2 => e49 hS ⟨fun _ => ?_, fun z => absurd rfl z⟩)⟩
    · have e4 : (z_up G' 18 1 0) 20 4 = nI T := by
        show G' 20 4 = nI T
        rw [f1 20 4 (by omega)]
        exact hT
      rw [e4, nI_1, nI_pred]
      exact K1 e G' f1 f2
    · have e2 : (z_up G' 18 1 0) 18 2 = nI pl := f2
      rw [e2]
      exact K0 e G' f1
  · refine absurd ?_ n
    rw [hT]
    exact nI_lt (b := 6) hT6 (by decide)
theorem q_text {h : zH} (R : zR h) : zP X (d + 55) 88 0 (z_ent [.ref 0] 2) [] z_S0 h (zI fun r h1 => zP X (d + 55) 165 0 (z_ent [.ref 82] 2) [] z_S0 h1 (zI fun r2 h2 => r = r2 ∧ zR h2)) := by
  obtain ⟨⟨s, hs, h18, h82, hby⟩, T, hT1, hT6, hTx, hTm, -⟩ := R.g4
  obtain ⟨T2, hT2, hT21, hT26, htx⟩ := z_text R
  have eT : T2 = T := by
    rw [hTx] at hT2
    exact ((nI_eq (a := T) (b := T2) (by omega) (by omega)).mp hT2).symm
  subst eT
  by_cases hT : T2 = 6
  · subst hT
    refine b88 ⟨fun y => ?_, fun _ => b165 ⟨fun _ => ⟨rfl, R⟩, fun n => absurd hTm n⟩⟩
    rw [hTx] at y
    exact absurd y (by decide)
  · have hT5 : T2 < 6 := by omega
    obtain ⟨B, hBd⟩ : ∃ B : Nat → Nat, B = fun i => (h 19 i).toNatClampNeg := ⟨_, rfl⟩
    have hb : ∀ i, i < s → B i < 256 ∧ h 19 i = nI (B i) ∧ h 100 i = sx (B i) := by
      intro i hi
      obtain ⟨b, b1, b2, b3⟩ := hby i hi
      have : B i = b := by
        rw [hBd]
        show (h 19 i).toNatClampNeg = b
        rw [b2, nI_clamp (by omega)]
      rw [this]
      exact ⟨b1, b2, b3⟩
    have hBX : zBX B s h := ⟨hs, h18, fun i hi => ⟨(hb i hi).1, (hb i hi).2.1⟩⟩
    have hBM : ∀ G, (∀ c j, ¬ (c = 18 ∨ (25 ≤ c ∧ c ≤ 42) ∨ (c = 20 ∧ j = 4)) → G c j = h c j) → zBM B s G := by
      intro G E
      refine ⟨hs, by rw [E 82 22 (by omega)]; exact h82, fun i hi => ⟨(hb i hi).1, by rw [E 100 i (by omega)]; exact (hb i hi).2.2⟩, fun i hi => ?_, fun i hi => ?_⟩
      · rw [E 103 i (by omega)]; exact R.g14.1 i hi
      · rw [E 104 i (by omega)]; exact R.g14.2 i hi
    obtain ⟨ok, pl, Ls, a1, a2, a3, a4⟩ := t_text (B := B) hs
    have h3 := z_tx3 T2 hT5
    have g5 := R.g5
    -- the end of both
    have fin : ∀ (g G2 : zH) (T' : Nat), (T' = T2 ∨ T' = T2 + 1) → (∀ c j, ¬ (c = 18 ∨ (25 ≤ c ∧ c ≤ 42) ∨ (c = 20 ∧ j = 4)) → g c j = h c j) → g 18 1 = 0 → g 20 4 = nI T' → (∀ c j, 25 ≤ c ∧ c ≤ 42 → ¬ c = z_tx T2 → ¬ c = z_tx T2 + 1 → ¬ c = z_tx T2 + 2 → g c j = h c j) → zFr mT g G2 → (∀ j, j < 160 * (3 * T2) → G2 101 j = g 101 j) → (∀ j, j < 3 * T2 → G2 102 j = g 102 j) → (T' = T2 + 1 → zTx (g (z_tx T2 + 1)) (g (z_tx T2 + 2)) (G2 101) (G2 102) T2) → ∀ H, (∀ c j, ¬ (c = 82 ∧ (j = 22 ∨ j = 23)) → H c j = G2 c j) → H 82 22 = 0 → H 82 23 = nI T' → zR H := by
      intro g G2 T' hT' E1 e18 e20 E2 F e101 e102 new H EH e22 e23
      have EE : ∀ c j, tMk c j = false → H c j = h c j := by
        intro c j q
        obtain ⟨n1, n2, n3, n4, n5, n6, n7, n8, n9⟩ := tMk_no q
        rw [EH c j n6, F c j (by omega), E1 c j (by omega)]
      have key : ∀ t, t < T' → zTx (H (z_tx t + 1)) (H (z_tx t + 2)) (H 101) (H 102) t := by
        intro t ht
        have t6 : t < 6 := by omega
        have z3 := z_tx3 t t6
        have c1 : H (z_tx t + 1) = g (z_tx t + 1) := funext fun j => by rw [EH _ j (by omega), F _ j (by omega)]
        have c2 : H (z_tx t + 2) = g (z_tx t + 2) := funext fun j => by rw [EH _ j (by omega), F _ j (by omega)]
        have c3 : H 101 = G2 101 := funext fun j => EH 101 j (by omega)
        have c4 : H 102 = G2 102 := funext fun j => EH 102 j (by omega)
        rw [c1, c2, c3, c4]
        by_cases q : t = T2
        · subst q
          exact new (by omega)
        · have old := htx t (by omega)
          have d1 : g (z_tx t + 1) = h (z_tx t + 1) := funext fun j => E2 _ j (by omega) (by omega) (by omega) (by omega)
          have d2 : g (z_tx t + 2) = h (z_tx t + 2) := funext fun j => E2 _ j (by omega) (by omega) (by omega) (by omega)
          rw [d1, d2]
          refine zTx_cg old (fun j hj => ?_) (fun j hj => ?_)
          · rw [e101 j (by omega), E1 101 j (by omega)]
          · rw [e102 j (by omega), E1 102 j (by omega)]
      have H20 : H 20 4 = nI T' := by rw [EH 20 4 (by omega), F 20 4 (by omega)]; exact e20
      refine zR_tx R EE ⟨⟨0, Nat.zero_le _, ?_, e22, fun i hi => absurd hi (Nat.not_lt_zero i)⟩, T', by omega, by omega, H20, e23, key 0, key 1, key 2, key 3, key 4, key 5⟩ ?_
      · rw [EH 18 1 (by omega), F 18 1 (by omega)]
        exact e18
      · obtain ⟨⟨n, x1, x2, x3⟩, y1, y2, y3, y4, y5⟩ := g5
        have f : ∀ c, (∀ j, tMk c j = false) → H c = h c := fun c hc => funext fun j => EE c j (hc j)
        refine ⟨⟨n, x1, ?_, ?_⟩, ?_, ?_, ?_, ?_, ?_⟩
        · rw [EE 20 5 rfl]; exact x2
        · rw [EE 82 40 rfl]; exact x3
        · rw [f 22 (fun _ => rfl), f 108 (fun _ => rfl)]; exact y1
        · rw [f 23 (fun _ => rfl), f 109 (fun _ => rfl)]; exact y2
        · rw [f 24 (fun _ => rfl), f 110 (fun _ => rfl)]; exact y3
        · rw [f 109 (fun _ => rfl)]; exact y4
        · intro i
          obtain ⟨t, u1, u2, u3⟩ := y5 i
          rw [hTx, nI_ltI (by omega) (by omega)] at u1
          refine ⟨t, ?_, u2, ?_⟩
          · rw [H20]
            exact nI_lt (by omega) (by omega)
          · rw [f 24 (fun _ => rfl)]; exact u3
    have n6 : ¬ nI T2 = 6 := fun z => hT ((nI_eq (b := 6) (by omega) (by decide)).mp z)
    refine cx88 zCS0 hTx hT5 hBX a3 ?_ ?_
    · intro e G' f1 f2
      obtain ⟨b1, b2, b3⟩ := a2 e
      obtain ⟨g, hg⟩ : ∃ g, g = z_up (z_up G' 18 1 0) 20 4 (nI (T2 + 1)) := ⟨_, rfl⟩
      rw [← hg]
      have gd : ∀ c j, ¬ c = 18 → ¬ (c = 20 ∧ j = 4) → g c j = G' c j := by
        intro c j q1 q2
        rw [hg]
        by_cases q : c = 20
        · subst q
          rw [z_upS, upd_N _ _ (fun z => q2 ⟨rfl, z⟩), z_upN _ q1]
        · rw [z_upN _ q, z_upN _ q1]
      have E1 : ∀ c j, ¬ (c = 18 ∨ (25 ≤ c ∧ c ≤ 42) ∨ (c = 20 ∧ j = 4)) → g c j = h c j := fun c j q => by
        rw [gd c j (by omega) (by omega), f1 c j (by omega)]
      have e82 : g 82 23 = nI T2 := by rw [E1 82 23 (by omega)]; exact hTm
      refine zPd (d := d + 49 + 5 + 1) (by omega) (b165 ?_)
      rw [e82]
      refine ⟨fun y => absurd y n6, fun _ => ?_⟩
      refine a4 X (d + 49) T2 g _ hT5 (hBM g E1) (fun _ G2 y1 y2 y3 y4 => ?_) (fun e2 => by rw [e] at e2; cases e2)
      refine ⟨fun _ => ?_, fun n => absurd rfl n⟩
      have g23 : G2 82 23 = nI T2 := by rw [y1 82 23 (by omega)]; exact e82
      rw [g23, nI_1, nI_pred]
      refine ⟨rfl, fin g G2 (T2 + 1) (Or.inr rfl) E1 ?_ ?_ (fun c j q1 q2 q3 q4 => ?_) y1 y3 y4 (fun _ => ?_) _ (fun c j q => ?_) rfl rfl⟩
      · rw [hg]; rfl
      · rw [hg]; rfl
      · rw [gd c j (by omega) (by omega), f1 c j (by omega)]
      · have d1 : g (z_tx T2 + 1) = G' (z_tx T2 + 1) := funext fun j => gd _ j (by omega) (by omega)
        have d2 : g (z_tx T2 + 2) = G' (z_tx T2 + 2) := funext fun j => gd _ j (by omega) (by omega)
        rw [d1, d2]
        exact zTx_new b1 b2 hs b3 f2 y2
      · by_cases q5 : c = 82
        · subst q5
          rw [z_upS, upd_N _ _ (by omega), z_upS, upd_N _ _ (by omega)]
        · rw [z_upN _ q5, z_upN _ q5]
    · intro e G' f1
      obtain ⟨g, hg⟩ : ∃ g, g = z_up G' 18 1 0 := ⟨_, rfl⟩
      rw [← hg]
      have gd : ∀ c j, ¬ c = 18 → g c j = G' c j := by
        intro c j q1
        rw [hg, z_upN _ q1]
      have E1 : ∀ c j, ¬ (c = 18 ∨ (25 ≤ c ∧ c ≤ 42) ∨ (c = 20 ∧ j = 4)) → g c j = h c j := fun c j q => by
        rw [gd c j (by omega), f1 c j (by omega)]
      have e82 : g 82 23 = nI T2 := by rw [E1 82 23 (by omega)]; exact hTm
      refine zPd (d := d + 49 + 5 + 1) (by omega) (b165 ?_)
      rw [e82]
      refine ⟨fun y => absurd y n6, fun _ => ?_⟩
      refine a4 X (d + 49) T2 g _ hT5 (hBM g E1) (fun e2 => by rw [e] at e2; cases e2) (fun _ G2 y1 y3 y4 => ?_)
      refine ⟨fun y => absurd y (nI_m1 (by omega)), fun _ => ?_⟩
      refine ⟨rfl, fin g G2 T2 (Or.inl rfl) E1 ?_ ?_ (fun c j q1 q2 q3 q4 => ?_) y1 y3 y4 (fun z => by omega) _ (fun c j q => ?_) rfl ?_⟩
      · rw [hg]; rfl
      · rw [gd 20 4 (by omega), f1 20 4 (by omega)]; exact hTx
      · rw [gd c j (by omega), f1 c j (by omega)]
      · by_cases q5 : c = 82
        · subst q5
          rw [z_upS, upd_N _ _ (by omega)]
        · rw [z_upN _ q5]
      · rw [z_upS, upd_N _ _ (by decide), y1 82 23 (by omega)]
        exact e82
end ZQX

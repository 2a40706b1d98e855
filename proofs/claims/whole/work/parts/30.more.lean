/-! cartTold, taken, bid -/
abbrev z_isk (q i : Nat) : Prop := i = 0 ∨ q = i ∨ (i = 1 ∧ (q = 3 ∨ q = 5)) ∨ (i = 2 ∧ q = 4)
theorem z_ltm {a : Int32} {N : Nat} (hN : N < 2 ^ 30) : ¬ (nI N - 1) < a ↔ a < nI N := by
  have e1 : (nI N - 1).toInt = (N : Int) - 1 := pk_sub_toInt (a := N) (b := 1) hN (by decide)
  have e2 : (nI N).toInt = (N : Int) := nI_toInt (by omega)
  rw [Int32.lt_iff_toInt_lt, Int32.lt_iff_toInt_lt, e1, e2]
  omega
section ZMO
variable {X : Option (List Int32)} {d : Nat} {h : zH} {A : Int32 → zH → Prop} {J : Int64 → zH → Prop}
theorem c19_at {q i : Nat} (hq : q ≤ 5) (hi : i ≤ 5) (k : A (zb (z_isk q i)) h) : zP X d 19 10 [none, none, some (.int (nI i)), some (.int (nI q)), some (.int 0)] [] z_S0 h (zI A) := by
  have e0 : nI 0 = 0 := rfl
  have hit : ∀ (c : Int32), c < 6 → A 1 h → zP X d 19 10 [none, none, some (.int (nI i)), some (.int (nI i)), some (.int c)] [] z_S0 h (zI A) := fun c hc k => b19_10 ⟨fun _ => ⟨fun g => absurd g (nI_m1 (by omega)), fun _ => ⟨fun _ => k, fun g => absurd rfl g⟩⟩, fun g => absurd hc g⟩
  have z0 : ∀ (c : Int32), c < 6 → A (zb (i = 0)) h → zP X d 19 10 [none, none, some (.int (nI i)), some (.int (nI 0)), some (.int c)] [] z_S0 h (zI A) := by
    intro c hc k
    by_cases g : i = 0
    · rw [zb_t g] at k
      subst g
      exact hit c hc k
    · rw [zb_f g] at k
      refine b19_10 ⟨fun _ => ⟨fun g => absurd g (by decide), fun _ => ⟨fun g2 => absurd ((nI_eq (by decide) (by omega)).mp g2).symm g, fun _ => ⟨by decide, b19_10 ⟨fun _ => ⟨fun _ => k, fun g => absurd rfl g⟩, fun _ => k⟩⟩⟩⟩, fun g => absurd hc g⟩
  have z12 : ∀ (c : Int32) (q : Nat), (q = 1 ∨ q = 2) → c < 6 → c + 1 < 6 → A (zb (i = q ∨ i = 0)) h → zP X d 19 10 [none, none, some (.int (nI i)), some (.int (nI q)), some (.int c)] [] z_S0 h (zI A) := by
    intro c q hq2 hc hc2 k
    by_cases g : i = q
    · rw [zb_t (Or.inl g)] at k
      subst g
      exact hit c hc k
    · have e : zb (i = q ∨ i = 0) = zb (i = 0) := by
        by_cases g0 : i = 0
        · rw [zb_t g0, zb_t (Or.inr g0)]
        · rw [zb_f g0, zb_f (fun q => q.elim g g0)]
      rw [e] at k
      refine b19_10 ⟨fun _ => ⟨fun g => absurd g (nI_m1 (by omega)), fun _ => ⟨fun g2 => absurd ((nI_eq (by omega) (by omega)).mp g2).symm g, fun _ => ⟨vp_in_nI (by omega) (by decide), ?_⟩⟩⟩, fun g => absurd hc g⟩
      rcases hq2 with rfl | rfl
      · exact z0 (c + 1) hc2 k
      · exact z0 (c + 1) hc2 k
  have z345 : ∀ (q q2 : Nat), (q2 = 1 ∨ q2 = 2) → q ≤ 5 → (z_ro0.getD 2 (.int, [])).2.getD (Int32.toNatClampNeg (nI q)) 0 = nI q2 → A (zb (i = q ∨ i = q2 ∨ i = 0)) h → zP X d 19 10 [none, none, some (.int (nI i)), some (.int (nI q)), some (.int 0)] [] z_S0 h (zI A) := by
    intro q q2 hq2 hq eu k
    by_cases g : i = q
    · rw [zb_t (Or.inl g)] at k
      subst g
      exact hit 0 (by decide) k
    · have e : zb (i = q ∨ i = q2 ∨ i = 0) = zb (i = q2 ∨ i = 0) := by
        by_cases g0 : i = q2 ∨ i = 0
        · rw [zb_t g0, zb_t (Or.inr g0)]
        · rw [zb_f g0, zb_f (fun q => q.elim g g0)]
      rw [e] at k
      refine b19_10 ⟨fun _ => ⟨fun g => absurd g (nI_m1 (by omega)), fun _ => ⟨fun g2 => absurd ((nI_eq (by omega) (by omega)).mp g2).symm g, fun _ => ⟨vp_in_nI (by omega) (by decide), ?_⟩⟩⟩, fun g => absurd (by decide) g⟩
      rw [eu]
      exact z12 (0 + 1) q2 hq2 (by decide) (by decide) k
  have tr : ∀ {p p2 : Prop} [Decidable p] [Decidable p2], (p ↔ p2) → A (zb p) h → A (zb p2) h := by
    intro p p2 _ _ hh kk
    have : zb p = zb p2 := by
      unfold zb
      by_cases g : p
      · rw [if_pos g, if_pos (hh.mp g)]
      · rw [if_neg g, if_neg (fun q => g (hh.mpr q))]
    rw [← this]; exact kk
  have c6 : q = 0 ∨ q = 1 ∨ q = 2 ∨ q = 3 ∨ q = 4 ∨ q = 5 := by omega
  rcases c6 with rfl | rfl | rfl | rfl | rfl | rfl
  · exact z0 0 (by decide) (tr (by omega) k)
  · exact z12 0 1 (Or.inl rfl) (by decide) (by decide) (tr (by omega) k)
  · exact z12 0 2 (Or.inr rfl) (by decide) (by decide) (tr (by omega) k)
  · exact z345 3 1 (Or.inl rfl) (by omega) (by decide +kernel) (tr (by omega) k)
  · exact z345 4 2 (Or.inr rfl) (by omega) (by decide +kernel) (tr (by omega) k)
  · exact z345 5 1 (Or.inl rfl) (by omega) (by decide +kernel) (tr (by omega) k)
theorem q_taken {a1 a2 : Int32} (R : zR h) : zP X (d + 2) 118 0 (z_ent [.ref 0, .int a1, .int a2] 3) [] z_S0 h (zI fun r h1 => zP X (d + 2) 211 0 (z_ent [.ref 82, .int a1, .int a2] 5) [] z_S0 h1 (zI fun r2 h2 => r = r2 ∧ zR h2)) := by
  obtain ⟨⟨n, hle, hn, hm⟩, e2, e3, e4, e5, e6, e7, e8, e9, e10, e11, hkd, hsi, hdr⟩ := R.g1
  refine b118 (c119 (zsw (fun g => ?_) (fun g => c11 hn (by omega) (zsw (fun g2 => ?_) (fun g2 => ?_)))))
  · exact b211 (c128 0 5 (by decide) (by decide) (zsw (fun _ => ⟨rfl, R⟩) (fun q => absurd q g)))
  · exact b211 (c128 0 5 (by decide) (by decide) (zsw (fun q => absurd g q) (fun _ => c134 hm (zsw (fun _ => ⟨rfl, R⟩) (fun q => absurd q g2)))))
  · obtain ⟨j, hj, rfl⟩ := zhasN (by omega) g2
    obtain ⟨i, hi, rfl⟩ := z_inN 5 (by decide) g
    obtain ⟨q, hq, ek⟩ := hkd j
    have ib : z_ib (nI j) 40 := vp_in_nI (by omega) (by decide)
    have cl : (nI j).toNatClampNeg = j := nI_clamp (by omega)
    have e0 : nI i = 0 ↔ i = 0 := nI_eq (b := 0) (by omega) (by decide)
    have e1 : nI i = 1 ↔ i = 1 := nI_eq (b := 1) (by omega) (by decide)
    have e22 : nI i = 2 ↔ i = 2 := nI_eq (b := 2) (by omega) (by decide)
    have f3 : nI q = 3 ↔ q = 3 := nI_eq (b := 3) (by omega) (by decide)
    have f4 : nI q = 4 ↔ q = 4 := nI_eq (b := 4) (by omega) (by decide)
    have f5 : nI q = 5 ↔ q = 5 := nI_eq (b := 5) (by omega) (by decide)
    have fi : nI q = nI i ↔ q = i := nI_eq (by omega) (by omega)
    have key : ∀ w : Int32, w = (if z_isk q i then h 6 j else -13) → zP X (d + 2) 211 0 (z_ent [.ref 82, .int (nI j), .int (nI i)] 5) [] z_S0 h (zI fun r2 h2 => w = r2 ∧ zR h2) := by
      intro w hw
      have yes : z_isk q i → zP X (d + 2) 211 67 [some (.ref 82), some (.int (nI j)), none, none, none] [] z_S0 h (zI fun r2 h2 => w = r2 ∧ zR h2) := by
        intro g
        rw [if_pos g] at hw
        refine b211_67 (b211_72 ⟨fun q => absurd q (by decide), fun _ => ⟨ib, ?_, R⟩⟩)
        rw [cl, hw, e6]
      have no : ¬ z_isk q i → zP X (d + 2) 211 71 [some (.ref 82), some (.int (nI j)), none, none, none] [] z_S0 h (zI fun r2 h2 => w = r2 ∧ zR h2) := by
        intro g
        rw [if_neg g] at hw
        exact b211_71 (b211_72 ⟨fun _ => ⟨hw, R⟩, fun q => absurd rfl q⟩)
      have rest : ¬ i = 0 → ¬ q = i → ¬ (i = 1 ∧ (q = 3 ∨ q = 5)) → zP X (d + 2) 211 57 [some (.ref 82), some (.int (nI j)), some (.int (nI i)), some (.int (nI q)), none] [] z_S0 h (zI fun r2 h2 => w = r2 ∧ zR h2) := by
        intro k1 k2 k3
        rw [← e0] at k1
        refine b211_57 ⟨fun g => ⟨fun g2 => yes ?_, fun g2 => no ?_⟩, fun g => no ?_⟩
        · rw [e22] at g; rw [f4] at g2; unfold z_isk; omega
        · rw [e22] at g; rw [f4] at g2; rw [e0] at k1; unfold z_isk; omega
        · rw [e22] at g; rw [e0] at k1; unfold z_isk; omega
      refine b211 (c128 0 5 (by decide) (by decide) (zsw (fun q => absurd g q) (fun _ => c134 hm (zsw (fun q => absurd g2 q) (fun _ => ⟨ib, ?_⟩)))))
      rw [cl, ← e2, ek]
      refine ⟨fun k1 => yes ?_, fun k1 => ⟨fun k2 => yes ?_, fun k2 => ⟨fun k3 => ⟨fun k4 => yes ?_, fun k4 => ⟨fun k5 => yes ?_, fun k5 => rest ?_ ?_ ?_⟩⟩, fun k3 => rest ?_ ?_ ?_⟩⟩⟩
      · exact Or.inl (e0.mp k1)
      · exact Or.inr (Or.inl (fi.mp k2))
      · exact Or.inr (Or.inr (Or.inl ⟨e1.mp k3, Or.inl (f3.mp k4)⟩))
      · exact Or.inr (Or.inr (Or.inl ⟨e1.mp k3, Or.inr (f5.mp k5)⟩))
      · exact fun q => k1 (e0.mpr q)
      · exact fun q => k2 (fi.mpr q)
      · exact fun q => q.2.elim (fun z => k4 (f3.mpr z)) (fun z => k5 (f5.mpr z))
      · exact fun q => k1 (e0.mpr q)
      · exact fun q => k2 (fi.mpr q)
      · exact fun q => k3 (e1.mpr q.1)
    refine b19 ⟨ib, ?_⟩
    rw [cl, ek]
    refine c19_at hq hi (zsw (fun g => key _ ?_) (fun g => ⟨ib, key _ ?_⟩))
    · rw [if_neg g]
    · rw [if_pos g]
theorem c78 {j : Nat} {n : Nat} {a2 : Int32} (q : Nat) (hn : h 1 10 = nI n) (hj : j < n) (hle : n ≤ 40) (hq : q ≤ 5) (hk : h 2 j = nI q) (hsi : h 11 j = 0 ∨ h 11 j = 1) (k : A (sp_cnt (h 2 j) (h 3 j) (h 4 j) (h 6 j) (h 10 j) (z_of q 0 (h 10 j)) (z_of q 1 (h 10 j)) (z_of q 2 (h 10 j)) (z_of q 3 (h 10 j)) (z_wa q (h 10 j)) (z_sb q (h 8 j) (h 6 j)) (h 5 j) (h 11 j) a2) h) : zP X (d + 2) 78 0 (z_ent [.ref 0, .int (nI j), .int a2] 3) [] z_S0 h (zI A) := by
  have ib : z_ib (nI j) 40 := vp_in_nI (by omega) (by decide)
  have cl : (nI j).toNatClampNeg = j := nI_clamp (by omega)
  have has : zhas (nI j) n := ⟨nI_pos (by omega), (nI_ltI (by omega) (by omega)).mpr hj⟩
  refine b78 (c11 hn (by omega) (zsw (fun g => absurd has g) (fun _ => ?_)))
  rw [cl]
  refine ⟨?_, ?_, ?_, ?_, ?_, ?_, ?_, ?_, ?_, ?_, ?_, ?_, ?_, ?_⟩
  · intro g; subst g; exact ⟨ib, k⟩
  · intro g; subst g; exact ⟨ib, k⟩
  · intro g; subst g; exact ⟨ib, k⟩
  · intro g; subst g; exact ⟨ib, k⟩
  · intro g; subst g; exact ⟨ib, k⟩
  · intro g; subst g; exact ⟨ib, c16 0 q rfl (by omega) (by omega) hq hk k⟩
  · intro g; subst g; exact ⟨ib, c16 1 q rfl (by omega) (by omega) hq hk k⟩
  · intro g; subst g; exact ⟨ib, c16 2 q rfl (by omega) (by omega) hq hk k⟩
  · intro g; subst g; exact ⟨ib, c16 3 q rfl (by omega) (by omega) hq hk k⟩
  · intro g; subst g; exact c17 q (by omega) hq hk k
  · intro g; subst g; exact c18 q (by omega) hq hk k
  · intro g; subst g; exact ⟨ib, k⟩
  · intro g; subst g
    refine ⟨ib, fun g => ?_, fun g => ?_⟩
    · rw [g] at k; exact k
    · rw [hsi.resolve_left g] at k; exact k
  · rintro ⟨g0, g1, g2, g3, g4, g5, g6, g7, g8, g9, g10, g11, g12⟩
    simp only [sp_cnt, if_neg g0, if_neg g1, if_neg g2, if_neg g3, if_neg g4, if_neg g5, if_neg g6, if_neg g7, if_neg g8, if_neg g9, if_neg g10, if_neg g11, if_neg g12] at k
    exact k
theorem z_12 {a : Int32} (g : zin a 0 12) : a = 0 ∨ a = 1 ∨ a = 2 ∨ a = 3 ∨ a = 4 ∨ a = 5 ∨ a = 6 ∨ a = 7 ∨ a = 8 ∨ a = 9 ∨ a = 10 ∨ a = 11 ∨ a = 12 := by
  obtain ⟨i, hi, rfl⟩ := z_inN 12 (by decide) g
  have c : i = 0 ∨ i = 1 ∨ i = 2 ∨ i = 3 ∨ i = 4 ∨ i = 5 ∨ i = 6 ∨ i = 7 ∨ i = 8 ∨ i = 9 ∨ i = 10 ∨ i = 11 ∨ i = 12 := by omega
  rcases c with rfl | rfl | rfl | rfl | rfl | rfl | rfl | rfl | rfl | rfl | rfl | rfl | rfl <;> decide
theorem c139 {j : Nat} {n : Nat} {a2 : Int32} (q : Nat) (hn : h 82 3 = nI n) (hj : j < n) (hle : n ≤ 40) (hq : q ≤ 5) (hk : h 85 j = nI q) (hG : zG0 h) (hsi : h 94 j = 0 ∨ h 94 j = 1) (k : A (sp_cnt (h 85 j) (h 86 j) (h 87 j) (h 88 j) (h 92 j) (z_of q 0 (h 92 j)) (z_of q 1 (h 92 j)) (z_of q 2 (h 92 j)) (z_of q 3 (h 92 j)) (z_wa q (h 92 j)) (z_sb q (h 90 j) (h 88 j)) (h 91 j) (h 94 j) a2) h) : zP X (d + 2) 139 0 (z_ent [.ref 82, .int (nI j), .int a2] 3) [] z_S0 h (zI A) := by
  have ib : z_ib (nI j) 40 := vp_in_nI (by omega) (by decide)
  have cl : (nI j).toNatClampNeg = j := nI_clamp (by omega)
  have has : zhas (nI j) n := ⟨nI_pos (by omega), (nI_ltI (by omega) (by omega)).mpr hj⟩
  refine b139 (c134 hn (zsw (fun g => absurd has g) (fun _ => c128 0 12 (by decide) (by decide) (zsw (fun g => ?_) (fun g => ?_)))))
  · have e : sp_cnt (h 85 j) (h 86 j) (h 87 j) (h 88 j) (h 92 j) (z_of q 0 (h 92 j)) (z_of q 1 (h 92 j)) (z_of q 2 (h 92 j)) (z_of q 3 (h 92 j)) (z_wa q (h 92 j)) (z_sb q (h 90 j) (h 88 j)) (h 91 j) (h 94 j) a2 = -2 := by
      unfold sp_cnt
      rw [if_neg, if_neg, if_neg, if_neg, if_neg, if_neg, if_neg, if_neg, if_neg, if_neg, if_neg, if_neg, if_neg]
      all_goals (rintro rfl; exact g (by decide))
    rw [e] at k
    exact k
  · rw [cl]
    refine ⟨?_, ?_, ?_, ?_, ?_, ?_, ?_, ?_, ?_, ?_, ?_, ?_, ?_, ?_⟩
    · intro g; subst g; exact ⟨ib, k⟩
    · intro g; subst g; exact ⟨ib, k⟩
    · intro g; subst g; exact ⟨ib, k⟩
    · intro g; subst g; exact ⟨ib, k⟩
    · intro g; subst g; exact ⟨ib, k⟩
    · intro g; subst g; exact ⟨ib, c136 0 q rfl (by omega) (by omega) hq hk hG k⟩
    · intro g; subst g; exact ⟨ib, c136 1 q rfl (by omega) (by omega) hq hk hG k⟩
    · intro g; subst g; exact ⟨ib, c136 2 q rfl (by omega) (by omega) hq hk hG k⟩
    · intro g; subst g; exact ⟨ib, c136 3 q rfl (by omega) (by omega) hq hk hG k⟩
    · intro g; subst g; exact c137 q (by omega) hq hk hG k
    · intro g; subst g; exact c138 q (by omega) hq hk hG k
    · intro g; subst g; exact ⟨ib, k⟩
    · intro g; subst g
      refine ⟨ib, fun g => ?_, fun g => ?_⟩
      · rw [g] at k; exact k
      · rw [hsi.resolve_left g] at k; exact k
    · rintro ⟨g0, g1, g2, g3, g4, g5, g6, g7, g8, g9, g10, g11, g12⟩
      rcases z_12 g with c | c | c | c | c | c | c | c | c | c | c | c | c
      · exact absurd c g0
      · exact absurd c g1
      · exact absurd c g2
      · exact absurd c g3
      · exact absurd c g4
      · exact absurd c g5
      · exact absurd c g6
      · exact absurd c g7
      · exact absurd c g8
      · exact absurd c g9
      · exact absurd c g10
      · exact absurd c g11
      · exact absurd c g12
theorem q_cartTold {a1 a2 : Int32} (R : zR h) : zP X (d + 2) 78 0 (z_ent [.ref 0, .int a1, .int a2] 3) [] z_S0 h (zI fun r h1 => zP X (d + 2) 139 0 (z_ent [.ref 82, .int a1, .int a2] 3) [] z_S0 h1 (zI fun r2 h2 => r = r2 ∧ zR h2)) := by
  obtain ⟨⟨n, hle, hn, hm⟩, e2, e3, e4, e5, e6, e7, e8, e9, e10, e11, hkd, hsi, hdr⟩ := R.g1
  by_cases g : zhas a1 n
  · obtain ⟨j, hj, rfl⟩ := zhasN (by omega) g
    obtain ⟨q, hq, ek⟩ := hkd j
    refine c78 q hn hj hle hq ek (hsi j) (c139 q hm hj hle hq (by rw [← e2]; exact ek) R.g0 (by rw [← e11]; exact hsi j) ⟨?_, R⟩)
    rw [e2, e3, e4, e5, e6, e8, e10, e11]
  · exact b78 (c11 hn (by omega) (zsw (fun _ => b139 (c134 hm (zsw (fun _ => ⟨rfl, R⟩) (fun q => absurd q g)))) (fun q => absurd q g)))
abbrev z_cin (pa da : Nat → Int32) (p f t : Int32) (k : Nat) : Prop := pa k = p ∧ zin (da k) f t
theorem c15 {j : Nat} {p f t : Int32} (hj : j < 40) (k : A (zb (z_cin (h 3) (h 5) p f t j)) h) : zP X (d + 1) 15 0 (z_ent [.ref 1, .int (nI j), .int p, .int f, .int t] 5) [] z_S0 h (zI A) := by
  have ib : z_ib (nI j) 40 := vp_in_nI (by omega) (by decide)
  have cl : (nI j).toNatClampNeg = j := nI_clamp (by omega)
  refine b15 ⟨ib, ?_⟩
  rw [cl]
  refine ⟨fun g => ⟨ib, c119 (zsw (fun g2 => ?_) (fun g2 => ?_))⟩, fun g => ?_⟩
  · rw [zb_f (fun q => g2 q.2)] at k; exact k
  · rw [zb_t ⟨g, g2⟩] at k; exact k
  · rw [zb_f (fun q => g q.1)] at k; exact k
theorem c175 {j : Nat} {p f t : Int32} (hj : j < 40) (k : A (zb (z_cin (h 86) (h 91) p f t j)) h) : zP X d 175 0 (z_ent [.ref 82, .int (nI j), .int p, .int f, .int t] 5) [] z_S0 h (zI A) := by
  have ib : z_ib (nI j) 40 := vp_in_nI (by omega) (by decide)
  have cl : (nI j).toNatClampNeg = j := nI_clamp (by omega)
  refine b175 ⟨ib, ?_⟩
  rw [cl]
  refine ⟨fun g => ⟨ib, fun g2 => ?_, fun g2 => ⟨ib, fun g3 => ?_, fun g3 => ?_⟩⟩, fun g => ?_⟩
  · rw [zb_f (fun q => q.2.1 g2)] at k; exact k
  · rw [zb_f (fun q => q.2.2 g3)] at k; exact k
  · rw [zb_t ⟨g, g2, g3⟩] at k; exact k
  · rw [zb_f (fun q => g q.1)] at k; exact k
def z_wb (pa da dr kd : Nat → Int32) (b s p f t : Int32) : Nat → Nat → Int64 → Int64
  | 0, _, a => a
  | m + 1, k, a => z_wb pa da dr kd b s p f t m (k + 1) (if z_cin pa da p f t k then a + Int32.toInt64 (z_of (z_kd (kd k)) 0 (dr k) * b / 100) + Int32.toInt64 (z_of (z_kd (kd k)) 1 (dr k) * s / 100) else a)
theorem c104_loop {n r : Nat} {p f t : Int32} (hn : h 1 10 = nI n) (hle : n ≤ 40) (hkd : ∀ i, ∃ q, q ≤ 5 ∧ h 2 i = nI q) (hr : r < 5) : ∀ (m k : Nat) (a : Int64), k + m = n → J (z_wb (h 3) (h 5) (h 9) (h 2) (h 58 r) (h 59 r) p f t m k a) h → zP X (d + 2) 104 6 [some (.ref 0), some (.int (nI r)), some (.int p), some (.int f), some (.int t), some (.long a), none, some (.int (nI k)), none] [] z_S0 h (zJ J)
  | 0, k, a, hk, hA => by
    refine b104_6 ⟨fun g => ?_, fun _ => hA⟩
    rw [hn, nI_ltI (by omega) (by omega)] at g
    omega
  | m + 1, k, a, hk, hA => by
    have ib : z_ib (nI k) 40 := vp_in_nI (by omega) (by decide)
    have cl : (nI k).toNatClampNeg = k := nI_clamp (by omega)
    have ibr : z_ib (nI r) 5 := vp_in_nI (by omega) (by decide)
    have clr : (nI r).toNatClampNeg = r := nI_clamp (by omega)
    refine b104_6 ⟨fun _ => c15 (by omega) (zsw (fun g => b104_100 ?_) (fun g => ⟨ib, c16 0 _ rfl (by omega) (by omega) (z_kd_ok (hkd k)).1 (z_kd_ok (hkd k)).2 ⟨ibr, c127 (c16 1 _ rfl (by omega) (by omega) (z_kd_ok (hkd k)).1 (z_kd_ok (hkd k)).2 ⟨ibr, c127 (b104_100 ?_)⟩)⟩⟩)), fun g => ?_⟩
    · rw [nI_1]
      refine c104_loop hn hle hkd hr m (k + 1) _ (by omega) ?_
      rw [z_wb, if_neg g] at hA
      exact hA
    · rw [nI_1, cl, clr]
      refine c104_loop hn hle hkd hr m (k + 1) _ (by omega) ?_
      rw [z_wb, if_pos g] at hA
      exact hA
    · rw [hn, nI_ltI (by omega) (by omega)] at g
      omega
theorem c189_loop {n r : Nat} {p f t : Int32} (hn : h 82 3 = nI n) (hle : n ≤ 40) (hkd : ∀ i, ∃ q, q ≤ 5 ∧ h 85 i = nI q) (hG : zG0 h) (hr : r < 5) : ∀ (m k : Nat) (a : Int64), k + m = n → J (z_wb (h 86) (h 91) (h 93) (h 85) (h 123 r) (h 124 r) p f t m k a) h → zP X (d + 1) 189 6 [some (.ref 82), some (.int p), some (.int f), some (.int t), some (.int (nI r)), some (.long a), none, some (.int (nI k))] [] z_S0 h (zJ J)
  | 0, k, a, hk, hA => by
    refine b189_6 ⟨fun g => ?_, fun _ => hA⟩
    rw [hn, nI_ltI (by omega) (by omega)] at g
    omega
  | m + 1, k, a, hk, hA => by
    have ib : z_ib (nI k) 40 := vp_in_nI (by omega) (by decide)
    have cl : (nI k).toNatClampNeg = k := nI_clamp (by omega)
    have ibr : z_ib (nI r) 5 := vp_in_nI (by omega) (by decide)
    have clr : (nI r).toNatClampNeg = r := nI_clamp (by omega)
    refine b189_6 ⟨fun _ => c175 (by omega) (zsw (fun g => b189_89 ?_) (fun g => ⟨ib, c136 0 _ rfl (by omega) (by omega) (z_kd_ok (hkd k)).1 (z_kd_ok (hkd k)).2 hG ⟨ibr, ib, c136 1 _ rfl (by omega) (by omega) (z_kd_ok (hkd k)).1 (z_kd_ok (hkd k)).2 hG ⟨ibr, b189_89 ?_⟩⟩⟩)), fun g => ?_⟩
    · rw [nI_1]
      refine c189_loop hn hle hkd hG hr m (k + 1) _ (by omega) ?_
      rw [z_wb, if_neg g] at hA
      exact hA
    · rw [nI_1, cl, clr]
      refine c189_loop hn hle hkd hG hr m (k + 1) _ (by omega) ?_
      rw [z_wb, if_pos g] at hA
      exact hA
    · rw [hn, nI_ltI (by omega) (by omega)] at g
      omega
def z_lst (W : Nat → Int64) : Nat → Nat → Int64 → Int64
  | 0, _, a => a
  | m + 1, k, a => z_lst W m (k + 1) (if k = 0 ∨ lg_cmp (W k) a < 0 then W k else a)
theorem c103_loop {n N : Nat} {p f t : Int32} (hn : h 1 10 = nI n) (hle : n ≤ 40) (hkd : ∀ i, ∃ q, q ≤ 5 ∧ h 2 i = nI q) (hN : h 0 15 = nI N) (hNl : N ≤ 5) : ∀ (m k : Nat) (a : Int64), k + m = N → J (z_lst (fun r => z_wb (h 3) (h 5) (h 9) (h 2) (h 58 r) (h 59 r) p f t n 0 0) m k a) h → zP X (d + 3) 103 56 [some (.ref 0), some (.int p), some (.int f), some (.int t), none, some (.long a), none, some (.int (nI k)), none, none] [] z_S0 h (zJ J)
  | 0, k, a, hk, hA => by
    refine b103_56 ⟨fun g => ?_, fun _ => hA⟩
    rw [hN, nI_ltI (by omega) (by omega)] at g
    omega
  | m + 1, k, a, hk, hA => by
    have e0 : nI k = 0 ↔ k = 0 := nI_eq (b := 0) (by omega) (by decide)
    have go : ∀ b, (if k = 0 ∨ lg_cmp (z_wb (h 3) (h 5) (h 9) (h 2) (h 58 k) (h 59 k) p f t n 0 0) a < 0 then z_wb (h 3) (h 5) (h 9) (h 2) (h 58 k) (h 59 k) p f t n 0 0 else a) = b → zP X (d + 3) 103 93 [some (.ref 0), some (.int p), some (.int f), some (.int t), none, some (.long b), none, some (.int (nI k)), none, none] [] z_S0 h (zJ J) := by
      intro b hb
      refine b103_93 ?_
      rw [nI_1]
      refine c103_loop hn hle hkd hN hNl m (k + 1) b (by omega) ?_
      rw [z_lst, hb] at hA
      exact hA
    refine b103_56 ⟨fun _ => b104 (c104_loop hn hle hkd (by omega) n 0 0 (by omega) ⟨fun g => b103_89 (go _ ?_), fun g => ⟨fun g2 => b103_89 (go _ ?_), fun g2 => go _ ?_⟩⟩), fun g => ?_⟩
    · rw [if_pos (Or.inl (e0.mp g))]
    · rw [if_pos (Or.inr g2)]
    · rw [if_neg (fun q => q.elim (fun z => g (e0.mpr z)) g2)]
    · rw [hN, nI_ltI (by omega) (by omega)] at g
      omega
theorem c190_loop {n N : Nat} {p f t : Int32} (hn : h 82 3 = nI n) (hle : n ≤ 40) (hkd : ∀ i, ∃ q, q ≤ 5 ∧ h 85 i = nI q) (hG : zG0 h) (hN : h 82 59 = nI N) (hNl : N ≤ 5) : ∀ (m k : Nat) (a : Int64), k + m = N → J (z_lst (fun r => z_wb (h 86) (h 91) (h 93) (h 85) (h 123 r) (h 124 r) p f t n 0 0) m k a) h → zP X (d + 2) 190 56 [some (.ref 82), some (.int p), some (.int f), some (.int t), none, some (.long a), none, some (.int (nI k)), none, none] [] z_S0 h (zJ J)
  | 0, k, a, hk, hA => by
    refine b190_56 ⟨fun g => ?_, fun _ => hA⟩
    rw [hN, nI_ltI (by omega) (by omega)] at g
    omega
  | m + 1, k, a, hk, hA => by
    have e0 : nI k = 0 ↔ k = 0 := nI_eq (b := 0) (by omega) (by decide)
    have go : ∀ b, (if k = 0 ∨ lg_cmp (z_wb (h 86) (h 91) (h 93) (h 85) (h 123 k) (h 124 k) p f t n 0 0) a < 0 then z_wb (h 86) (h 91) (h 93) (h 85) (h 123 k) (h 124 k) p f t n 0 0 else a) = b → zP X (d + 2) 190 96 [some (.ref 82), some (.int p), some (.int f), some (.int t), none, none, none, some (.int (nI k)), none, none] [.long b] z_S0 h (zJ J) := by
      intro b hb
      refine b190_96 ?_
      rw [nI_1]
      refine c190_loop hn hle hkd hG hN hNl m (k + 1) b (by omega) ?_
      rw [z_lst, hb] at hA
      exact hA
    refine b190_56 ⟨fun _ => b189 (c189_loop hn hle hkd hG (by omega) n 0 0 (by omega) ⟨fun g => b190_89 (go _ ?_), fun g => ⟨fun g2 => b190_89 (go _ ?_), fun g2 => go _ ?_⟩⟩), fun g => ?_⟩
    · rw [if_pos (Or.inl (e0.mp g))]
    · rw [if_pos (Or.inr g2)]
    · rw [if_neg (fun q => q.elim (fun z => g (e0.mpr z)) g2)]
    · rw [hN, nI_ltI (by omega) (by omega)] at g
      omega
theorem q_bid {a1 a2 a3 a4 : Int32} (R : zR h) : zP X (d + 3) 103 0 (z_ent [.ref 0, .int a1, .int a2, .int a3, .int a4] 10) [] z_S0 h (zJ fun r h1 => zP X (d + 3) 190 0 (z_ent [.ref 82, .int a1, .int a2, .int a3, .int a4] 10) [] z_S0 h1 (zJ fun r2 h2 => r = r2 ∧ zR h2)) := by
  obtain ⟨⟨n, hle, hn, hm⟩, e2, e3, e4, e5, e6, e7, e8, e9, e10, e11, hkd, hsi, hdr⟩ := R.g1
  obtain ⟨⟨N, hNl, hN, hN2⟩, f1, f2⟩ := R.g8
  have hkd2 : ∀ i, ∃ q, q ≤ 5 ∧ h 85 i = nI q := by rw [← e2]; exact hkd
  have lm : ¬ (nI N - 1) < a4 ↔ a4 < nI N := z_ltm (by omega)
  refine b103 (c120 (zsw (fun g => ?_) (fun g => c126 (zsw (fun g2 => ?_) (fun g2 => c119 (zsw (fun g3 => ?_) (fun g3 => ?_)))))))
  · exact b190 (c131 (zsw (fun _ => ⟨rfl, R⟩) (fun q => absurd q g)))
  · exact b190 (c131 (zsw (fun q => absurd g q) (fun _ => c174 (zsw (fun _ => ⟨rfl, R⟩) (fun q => absurd q g2)))))
  · refine b190 (c131 (zsw (fun q => absurd g q) (fun _ => c174 (zsw (fun q => absurd g2 q) (fun _ => ⟨fun _ => ⟨rfl, R⟩, fun q1 => ⟨fun q2 => ?_, fun _ => ⟨rfl, R⟩⟩⟩)))))
    rw [hN2] at q2
    rw [hN] at g3
    exact absurd ⟨q1, lm.mpr q2⟩ g3
  · rw [hN] at g3
    have q2 : a4 < nI N := lm.mp g3.2
    have go : ∀ w : Int64, ((a4 = (-1) → zP X (d + 3) 190 56 [some (.ref 82), some (.int a1), some (.int a2), some (.int a3), none, some (.long 0), none, some (.int 0), none, none] [] z_S0 h (zJ fun r2 h2 => w = r2 ∧ zR h2)) ∧ (¬ a4 = (-1) → zP X (d + 2) 189 0 (z_ent [.ref 82, .int a1, .int a2, .int a3, .int a4] 8) [] z_S0 h (zJ fun v5 h6 => w = v5 ∧ zR h6))) → zP X (d + 3) 190 0 (z_ent [.ref 82, .int a1, .int a2, .int a3, .int a4] 10) [] z_S0 h (zJ fun r2 h2 => w = r2 ∧ zR h2) := by
      intro w k
      refine b190 (c131 (zsw (fun q => absurd g q) (fun _ => c174 (zsw (fun q => absurd g2 q) (fun _ => ⟨fun q => absurd q g3.1, fun _ => ⟨fun _ => k, fun q => ?_⟩⟩)))))
      rw [hN2] at q
      exact absurd q2 q
    refine ⟨fun g4 => c103_loop hn hle hkd hN hNl N 0 0 (by omega) (go _ ⟨fun _ => c190_loop (d := d + 1) hm hle hkd2 R.g0 hN2 hNl N 0 0 (by omega) ⟨?_, R⟩, fun q => absurd g4 q⟩), fun g4 => ?_⟩
    · rw [e3, e5, e9, e2, f1, f2]
    · have h0 : ¬ a4 < 0 := by
        intro q
        apply g4
        have t1 := Int32.lt_iff_toInt_lt.mp q
        have t2 : ¬ a4.toInt < (-1 : Int32).toInt := fun z => g3.1 (Int32.lt_iff_toInt_lt.mpr z)
        have z1 : (0 : Int32).toInt = 0 := rfl
        have z2 : (-1 : Int32).toInt = -1 := rfl
        rw [z1] at t1
        rw [z2] at t2
        refine Int32.toInt_inj.mp ?_
        rw [z2]
        omega
      obtain ⟨r, hr, rfl⟩ := zhasN (N := N) (by omega) ⟨h0, q2⟩
      refine b104 (c104_loop (d := d) hn hle hkd (by omega) n 0 0 (by omega) (go _ ⟨fun q => absurd q g4, fun _ => b189 (c189_loop (d := d + 1) hm hle hkd2 R.g0 (by omega) n 0 0 (by omega) ⟨?_, R⟩)⟩))
      rw [e3, e5, e9, e2, f1, f2]
end ZMO

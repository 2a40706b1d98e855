/-! rows that are put behind the others: both sides -/
abbrev zhas (a : Int32) (N : Nat) : Prop := ¬ a < 0 ∧ a < nI N
theorem zhas_iff {a : Int32} {N : Nat} (hN : N < 2 ^ 30) : zin a 0 (nI N - 1) ↔ zhas a N := by
  unfold zin zhas
  have e1 : (nI N - 1).toInt = (N : Int) - 1 := by
    have := pk_sub_toInt (a := N) (b := 1) hN (by decide)
    exact this
  have e2 : (nI N).toInt = (N : Int) := nI_toInt (by omega)
  rw [Int32.lt_iff_toInt_lt, Int32.lt_iff_toInt_lt, Int32.lt_iff_toInt_lt, e1, e2]
  omega
theorem z_up_id (h : zH) (k j : Nat) : z_up h k j (h k j) = h := by
  funext a b
  unfold z_up upd
  by_cases h1 : a = k
  · subst h1
    rw [if_pos rfl]
    by_cases h2 : b = j
    · rw [if_pos h2, h2]
    · rw [if_neg h2]
  · rw [if_neg h1]
theorem z_ibn {x : Int32} {n N : Nat} (hx : x = nI n) (hn : n < N) (hN : N < 2 ^ 31) : z_ib x N := by
  rw [hx]; exact vp_in_nI hn hN
theorem z_cl {x : Int32} {n : Nat} (hx : x = nI n) (hn : n < 2 ^ 31) : x.toNatClampNeg = n := by rw [hx]; exact nI_clamp hn
theorem z_ltN {x : Int32} {n N : Nat} (hx : x = nI n) (hn : n < 2 ^ 31) (hN : N < 2 ^ 31) : x < nI N ↔ n < N := by rw [hx]; exact nI_ltI hn hN
theorem z_eqN {x : Int32} {n N : Nat} (hx : x = nI n) (hn : n < 2 ^ 31) (hN : N < 2 ^ 31) : x = nI N ↔ n = N := by rw [hx]; exact nI_eq hn hN
section ZADD
variable {X : Option (List Int32)} {d : Nat} {h : zH} {A : Int32 → zH → Prop}
theorem c11 {a1 : Int32} {N : Nat} (hN : h 1 10 = nI N) (hNl : N < 2 ^ 30) (k : A (zb (zhas a1 N)) h) : zP X (d + 1) 11 0 (z_ent [.ref 1, .int a1] 2) [] z_S0 h (zI A) := by
  refine b11 (c119 ⟨zb_01 _, ?_⟩)
  rw [hN]
  by_cases hp : zhas a1 N
  · rw [zb_t hp] at k
    rw [zb_t ((zhas_iff hNl).mpr hp)]
    exact k
  · rw [zb_f hp] at k
    rw [zb_f (fun q => hp ((zhas_iff hNl).mp q))]
    exact k
theorem c134 {a1 : Int32} {N : Nat} (hN : h 82 3 = nI N) (k : A (zb (zhas a1 N)) h) : zP X d 134 0 (z_ent [.ref 82, .int a1] 2) [] z_S0 h (zI A) := by
  refine b134 ⟨fun h1 => ?_, fun h1 => ⟨fun h2 => ?_, fun h2 => ?_⟩⟩
  · rw [zb_f (fun q => q.1 h1)] at k; exact k
  · rw [hN] at h2
    rw [zb_t ⟨h1, h2⟩] at k; exact k
  · rw [hN] at h2
    rw [zb_f (fun q => h2 q.2)] at k; exact k
theorem c107 {a1 a2 : Int32} {n : Nat}  (hn : h 65 2 = nI n) (hle : n ≤ 8) (k1 : ¬ (zin a1 1 9999 ∧ zin a2 0 9999) → A (-2) h) (k2 : zin a1 1 9999 ∧ zin a2 0 9999 → ¬ n < 8 → A (-4) h) (k3 : zin a1 1 9999 ∧ zin a2 0 9999 → n < 8 → A (nI n) (z_up (z_up (z_up h 66 n a1) 67 n a2) 65 2 (nI (n + 1)))) : zP X (d + 2) 107 0 (z_ent [.ref 0, .int a1, .int a2] 3) [] z_S0 h (zI A) := by
  refine b107 (c119 (zsw (fun g => k1 (fun q => g q.1)) (fun h1 => (c119 (zsw (fun g => k1 (fun q => g q.2)) (fun h2 => ⟨fun g => ?_, fun g => ?_⟩))))))
  · have g1 : n < 8 := (z_ltN (N := 8) hn (by omega) (by decide)).mp g
    have g2 : z_ib (h 65 2) 8 := z_ibn hn g1 (by decide)
    refine b2 ⟨g2, g2, ?_⟩
    have e1 := z_cl hn (by omega)
    rw [e1, hn, nI_1, nI_pred]
    exact k3 ⟨h1, h2⟩ g1
  · exact k2 ⟨h1, h2⟩ (fun q => g ((z_ltN (N := 8) hn (by omega) (by decide)).mpr q))
theorem c195 {a1 a2 : Int32} {n : Nat}  (hn : h 82 67 = nI n) (hle : n ≤ 8) (k1 : ¬ (zin a1 1 9999 ∧ zin a2 0 9999) → A (-2) h) (k2 : zin a1 1 9999 ∧ zin a2 0 9999 → ¬ n < 8 → A (-4) h) (k3 : zin a1 1 9999 ∧ zin a2 0 9999 → n < 8 → A (nI n) (z_up (z_up (z_up h 129 n a1) 130 n a2) 82 67 (nI (n + 1)))) : zP X (d + 2) 195 0 (z_ent [.ref 82, .int a1, .int a2] 3) [] z_S0 h (zI A) := by
  refine b195 (c128 1 9999 (by decide) (by decide) (zsw (fun g => k1 (fun q => g q.1)) (fun h1 => (c128 0 9999 (by decide) (by decide) (zsw (fun g => k1 (fun q => g q.2)) (fun h2 => ⟨fun g => ?_, fun g => ?_⟩))))))
  · exact k2 ⟨h1, h2⟩ (fun q => by have := (z_eqN (N := 8) hn (by omega) (by decide)).mp g; omega)
  · have g1 : n < 8 := by
      have : n ≠ 8 := fun q => g ((z_eqN (N := 8) hn (by omega) (by decide)).mpr q)
      omega
    have g2 : z_ib (h 82 67) 8 := z_ibn hn g1 (by decide)
    refine ⟨g2, g2, ?_⟩
    have e1 := z_cl hn (by omega)
    rw [e1, hn, nI_1, nI_pred]
    exact k3 ⟨h1, h2⟩ g1
theorem p_barge {a1 a2 : Int32} {n : Nat}  (hn : h 65 2 = nI n) (hm : h 82 67 = nI n) (hle : n ≤ 8) : zP X (d + 2) 107 0 (z_ent [.ref 0, .int a1, .int a2] 3) [] z_S0 h (zI fun r h1 => zP X (d + 2) 195 0 (z_ent [.ref 82, .int a1, .int a2] 3) [] z_S0 h1 (zI fun r2 h2 => r = r2 ∧ (h2 = h ∨ (zin a1 1 9999 ∧ zin a2 0 9999 ∧ n < 8 ∧ h2 = (z_up (z_up (z_up (z_up (z_up (z_up h 66 n a1) 67 n a2) 65 2 (nI (n + 1))) 129 n a1) 130 n a2) 82 67 (nI (n + 1))))))) := by
  refine c107  hn hle (fun g => ?_) (fun g g2 => ?_) (fun g g2 => ?_)
  · exact c195  hm hle (fun _ => ⟨rfl, Or.inl rfl⟩) (fun q => absurd q g) (fun q => absurd q g)
  · exact c195  hm hle (fun q => absurd g q) (fun _ _ => ⟨rfl, Or.inl rfl⟩) (fun _ q => absurd q g2)
  · exact c195  (hn := hm) hle (fun q => absurd g q) (fun _ q => absurd g2 q) (fun _ _ => ⟨rfl, Or.inr ⟨g.1, g.2, g2, rfl⟩⟩)
theorem c109 {a1 a2 : Int32} {n : Nat}  (hn : h 68 4 = nI n) (hle : n ≤ 6) (k1 : ¬ (zin a1 0 9999 ∧ zin a2 0 999) → A (-2) h) (k2 : zin a1 0 9999 ∧ zin a2 0 999 → ¬ n < 6 → A (-4) h) (k3 : zin a1 0 9999 ∧ zin a2 0 999 → n < 6 → A (nI n) (z_up (z_up (z_up h 69 n a1) 70 n a2) 68 4 (nI (n + 1)))) : zP X (d + 2) 109 0 (z_ent [.ref 0, .int a1, .int a2] 3) [] z_S0 h (zI A) := by
  refine b109 (c119 (zsw (fun g => k1 (fun q => g q.1)) (fun h1 => (c119 (zsw (fun g => k1 (fun q => g q.2)) (fun h2 => ⟨fun g => ?_, fun g => ?_⟩))))))
  · have g1 : n < 6 := (z_ltN (N := 6) hn (by omega) (by decide)).mp g
    have g2 : z_ib (h 68 4) 6 := z_ibn hn g1 (by decide)
    refine b6 ⟨g2, g2, ?_⟩
    have e1 := z_cl hn (by omega)
    rw [e1, hn, nI_1, nI_pred]
    exact k3 ⟨h1, h2⟩ g1
  · exact k2 ⟨h1, h2⟩ (fun q => g ((z_ltN (N := 6) hn (by omega) (by decide)).mpr q))
theorem c199 {a1 a2 : Int32} {n : Nat}  (hn : h 82 72 = nI n) (hle : n ≤ 6) (k1 : ¬ (zin a1 0 9999 ∧ zin a2 0 999) → A (-2) h) (k2 : zin a1 0 9999 ∧ zin a2 0 999 → ¬ n < 6 → A (-4) h) (k3 : zin a1 0 9999 ∧ zin a2 0 999 → n < 6 → A (nI n) (z_up (z_up (z_up h 133 n a1) 134 n a2) 82 72 (nI (n + 1)))) : zP X (d + 2) 199 0 (z_ent [.ref 82, .int a1, .int a2] 3) [] z_S0 h (zI A) := by
  refine b199 (c128 0 9999 (by decide) (by decide) (zsw (fun g => k1 (fun q => g q.1)) (fun h1 => (c128 0 999 (by decide) (by decide) (zsw (fun g => k1 (fun q => g q.2)) (fun h2 => ⟨fun g => ?_, fun g => ?_⟩))))))
  · exact k2 ⟨h1, h2⟩ (fun q => by have := (z_eqN (N := 6) hn (by omega) (by decide)).mp g; omega)
  · have g1 : n < 6 := by
      have : n ≠ 6 := fun q => g ((z_eqN (N := 6) hn (by omega) (by decide)).mpr q)
      omega
    have g2 : z_ib (h 82 72) 6 := z_ibn hn g1 (by decide)
    refine ⟨g2, g2, ?_⟩
    have e1 := z_cl hn (by omega)
    rw [e1, hn, nI_1, nI_pred]
    exact k3 ⟨h1, h2⟩ g1
theorem p_buyer {a1 a2 : Int32} {n : Nat}  (hn : h 68 4 = nI n) (hm : h 82 72 = nI n) (hle : n ≤ 6) : zP X (d + 2) 109 0 (z_ent [.ref 0, .int a1, .int a2] 3) [] z_S0 h (zI fun r h1 => zP X (d + 2) 199 0 (z_ent [.ref 82, .int a1, .int a2] 3) [] z_S0 h1 (zI fun r2 h2 => r = r2 ∧ (h2 = h ∨ (zin a1 0 9999 ∧ zin a2 0 999 ∧ n < 6 ∧ h2 = (z_up (z_up (z_up (z_up (z_up (z_up h 69 n a1) 70 n a2) 68 4 (nI (n + 1))) 133 n a1) 134 n a2) 82 72 (nI (n + 1))))))) := by
  refine c109  hn hle (fun g => ?_) (fun g g2 => ?_) (fun g g2 => ?_)
  · exact c199  hm hle (fun _ => ⟨rfl, Or.inl rfl⟩) (fun q => absurd q g) (fun q => absurd q g)
  · exact c199  hm hle (fun q => absurd g q) (fun _ _ => ⟨rfl, Or.inl rfl⟩) (fun _ q => absurd q g2)
  · exact c199  (hn := hm) hle (fun q => absurd g q) (fun _ q => absurd g2 q) (fun _ _ => ⟨rfl, Or.inr ⟨g.1, g.2, g2, rfl⟩⟩)
theorem c102 {a1 a2 : Int32} {n : Nat}  (hn : h 0 15 = nI n) (hle : n ≤ 5) (k1 : ¬ (zin a1 0 999 ∧ zin a2 0 999) → A (-2) h) (k2 : zin a1 0 999 ∧ zin a2 0 999 → ¬ n < 5 → A (-4) h) (k3 : zin a1 0 999 ∧ zin a2 0 999 → n < 5 → A (nI n) (z_up (z_up (z_up h 58 n a1) 59 n a2) 0 15 (nI (n + 1)))) : zP X (d + 2) 102 0 (z_ent [.ref 0, .int a1, .int a2] 3) [] z_S0 h (zI A) := by
  refine b102 (c119 (zsw (fun g => k1 (fun q => g q.1)) (fun h1 => (c119 (zsw (fun g => k1 (fun q => g q.2)) (fun h2 => ⟨fun g => ?_, fun g => ?_⟩))))))
  · have g1 : n < 5 := (z_ltN (N := 5) hn (by omega) (by decide)).mp g
    have g2 : z_ib (h 0 15) 5 := z_ibn hn g1 (by decide)
    refine ⟨g2, g2, ?_⟩
    have e1 := z_cl hn (by omega)
    rw [e1, hn, nI_1, nI_pred]
    exact k3 ⟨h1, h2⟩ g1
  · exact k2 ⟨h1, h2⟩ (fun q => g ((z_ltN (N := 5) hn (by omega) (by decide)).mpr q))
theorem c188 {a1 a2 : Int32} {n : Nat}  (hn : h 82 59 = nI n) (hle : n ≤ 5) (k1 : ¬ (zin a1 0 999 ∧ zin a2 0 999) → A (-2) h) (k2 : zin a1 0 999 ∧ zin a2 0 999 → ¬ n < 5 → A (-4) h) (k3 : zin a1 0 999 ∧ zin a2 0 999 → n < 5 → A (nI n) (z_up (z_up (z_up h 123 n a1) 124 n a2) 82 59 (nI (n + 1)))) : zP X (d + 2) 188 0 (z_ent [.ref 82, .int a1, .int a2] 3) [] z_S0 h (zI A) := by
  refine b188 (c128 0 999 (by decide) (by decide) (zsw (fun g => k1 (fun q => g q.1)) (fun h1 => (c128 0 999 (by decide) (by decide) (zsw (fun g => k1 (fun q => g q.2)) (fun h2 => ⟨fun g => ?_, fun g => ?_⟩))))))
  · exact k2 ⟨h1, h2⟩ (fun q => by have := (z_eqN (N := 5) hn (by omega) (by decide)).mp g; omega)
  · have g1 : n < 5 := by
      have : n ≠ 5 := fun q => g ((z_eqN (N := 5) hn (by omega) (by decide)).mpr q)
      omega
    have g2 : z_ib (h 82 59) 5 := z_ibn hn g1 (by decide)
    refine ⟨g2, g2, ?_⟩
    have e1 := z_cl hn (by omega)
    rw [e1, hn, nI_1, nI_pred]
    exact k3 ⟨h1, h2⟩ g1
theorem p_row {a1 a2 : Int32} {n : Nat}  (hn : h 0 15 = nI n) (hm : h 82 59 = nI n) (hle : n ≤ 5) : zP X (d + 2) 102 0 (z_ent [.ref 0, .int a1, .int a2] 3) [] z_S0 h (zI fun r h1 => zP X (d + 2) 188 0 (z_ent [.ref 82, .int a1, .int a2] 3) [] z_S0 h1 (zI fun r2 h2 => r = r2 ∧ (h2 = h ∨ (zin a1 0 999 ∧ zin a2 0 999 ∧ n < 5 ∧ h2 = (z_up (z_up (z_up (z_up (z_up (z_up h 58 n a1) 59 n a2) 0 15 (nI (n + 1))) 123 n a1) 124 n a2) 82 59 (nI (n + 1))))))) := by
  refine c102  hn hle (fun g => ?_) (fun g g2 => ?_) (fun g g2 => ?_)
  · exact c188  hm hle (fun _ => ⟨rfl, Or.inl rfl⟩) (fun q => absurd q g) (fun q => absurd q g)
  · exact c188  hm hle (fun q => absurd g q) (fun _ _ => ⟨rfl, Or.inl rfl⟩) (fun _ q => absurd q g2)
  · exact c188  (hn := hm) hle (fun q => absurd g q) (fun _ q => absurd g2 q) (fun _ _ => ⟨rfl, Or.inr ⟨g.1, g.2, g2, rfl⟩⟩)
theorem c99 {a1 a2 a3 a4 : Int32} {n : Nat}  (hn : h 49 8 = nI n) (hle : n ≤ 12) (k1 : ¬ (zin a1 0 5 ∧ zin a2 1 999 ∧ zin a3 0 5 ∧ zin a4 0 9999) → A (-2) h) (k2 : zin a1 0 5 ∧ zin a2 1 999 ∧ zin a3 0 5 ∧ zin a4 0 9999 → ¬ n < 12 → A (-4) h) (k3 : zin a1 0 5 ∧ zin a2 1 999 ∧ zin a3 0 5 ∧ zin a4 0 9999 → n < 12 → A (nI n) (z_up (z_up (z_up (z_up (z_up h 50 n a1) 51 n a2) 52 n a3) 53 n a4) 49 8 (nI (n + 1)))) : zP X (d + 2) 99 0 (z_ent [.ref 0, .int a1, .int a2, .int a3, .int a4] 5) [] z_S0 h (zI A) := by
  refine b99 (c120 (zsw (fun g => k1 (fun q => g q.1)) (fun h1 => (c119 (zsw (fun g => k1 (fun q => g q.2.1)) (fun h2 => (c119 (zsw (fun g => k1 (fun q => g q.2.2.1)) (fun h3 => (c119 (zsw (fun g => k1 (fun q => g q.2.2.2)) (fun h4 => ⟨fun g => ?_, fun g => ?_⟩))))))))))))
  · have g1 : n < 12 := (z_ltN (N := 12) hn (by omega) (by decide)).mp g
    have g2 : z_ib (h 49 8) 12 := z_ibn hn g1 (by decide)
    refine b26 ⟨g2, g2, g2, g2, ?_⟩
    have e1 := z_cl hn (by omega)
    rw [e1, hn, nI_1, nI_pred]
    exact k3 ⟨h1, h2, h3, h4⟩ g1
  · exact k2 ⟨h1, h2, h3, h4⟩ (fun q => g ((z_ltN (N := 12) hn (by omega) (by decide)).mpr q))
theorem c181 {a1 a2 a3 a4 : Int32} {n : Nat}  (hn : h 82 48 = nI n) (hle : n ≤ 12) (k1 : ¬ (zin a1 0 5 ∧ zin a2 1 999 ∧ zin a3 0 5 ∧ zin a4 0 9999) → A (-2) h) (k2 : zin a1 0 5 ∧ zin a2 1 999 ∧ zin a3 0 5 ∧ zin a4 0 9999 → ¬ n < 12 → A (-4) h) (k3 : zin a1 0 5 ∧ zin a2 1 999 ∧ zin a3 0 5 ∧ zin a4 0 9999 → n < 12 → A (nI n) (z_up (z_up (z_up (z_up (z_up h 114 n a1) 115 n a2) 116 n a3) 117 n a4) 82 48 (nI (n + 1)))) : zP X (d + 2) 181 0 (z_ent [.ref 82, .int a1, .int a2, .int a3, .int a4] 5) [] z_S0 h (zI A) := by
  refine b181 (c131 (zsw (fun g => k1 (fun q => g q.1)) (fun h1 => (c128 1 999 (by decide) (by decide) (zsw (fun g => k1 (fun q => g q.2.1)) (fun h2 => (c128 0 5 (by decide) (by decide) (zsw (fun g => k1 (fun q => g q.2.2.1)) (fun h3 => (c128 0 9999 (by decide) (by decide) (zsw (fun g => k1 (fun q => g q.2.2.2)) (fun h4 => ⟨fun g => ?_, fun g => ?_⟩))))))))))))
  · exact k2 ⟨h1, h2, h3, h4⟩ (fun q => by have := (z_eqN (N := 12) hn (by omega) (by decide)).mp g; omega)
  · have g1 : n < 12 := by
      have : n ≠ 12 := fun q => g ((z_eqN (N := 12) hn (by omega) (by decide)).mpr q)
      omega
    have g2 : z_ib (h 82 48) 12 := z_ibn hn g1 (by decide)
    refine ⟨g2, g2, g2, g2, ?_⟩
    have e1 := z_cl hn (by omega)
    rw [e1, hn, nI_1, nI_pred]
    exact k3 ⟨h1, h2, h3, h4⟩ g1
theorem p_door {a1 a2 a3 a4 : Int32} {n : Nat}  (hn : h 49 8 = nI n) (hm : h 82 48 = nI n) (hle : n ≤ 12) : zP X (d + 2) 99 0 (z_ent [.ref 0, .int a1, .int a2, .int a3, .int a4] 5) [] z_S0 h (zI fun r h1 => zP X (d + 2) 181 0 (z_ent [.ref 82, .int a1, .int a2, .int a3, .int a4] 5) [] z_S0 h1 (zI fun r2 h2 => r = r2 ∧ (h2 = h ∨ (zin a1 0 5 ∧ zin a2 1 999 ∧ zin a3 0 5 ∧ zin a4 0 9999 ∧ n < 12 ∧ h2 = (z_up (z_up (z_up (z_up (z_up (z_up (z_up (z_up (z_up (z_up h 50 n a1) 51 n a2) 52 n a3) 53 n a4) 49 8 (nI (n + 1))) 114 n a1) 115 n a2) 116 n a3) 117 n a4) 82 48 (nI (n + 1))))))) := by
  refine c99  hn hle (fun g => ?_) (fun g g2 => ?_) (fun g g2 => ?_)
  · exact c181  hm hle (fun _ => ⟨rfl, Or.inl rfl⟩) (fun q => absurd q g) (fun q => absurd q g)
  · exact c181  hm hle (fun q => absurd g q) (fun _ _ => ⟨rfl, Or.inl rfl⟩) (fun _ q => absurd q g2)
  · exact c181  (hn := hm) hle (fun q => absurd g q) (fun _ q => absurd g2 q) (fun _ _ => ⟨rfl, Or.inr ⟨g.1, g.2.1, g.2.2.1, g.2.2.2, g2, rfl⟩⟩)
theorem c94 {a1 a2 a3 : Int32} {n : Nat} {N : Nat} (hNl : N < 2 ^ 30) (hN : h 1 10 = nI N) (hn : h 45 3 = nI n) (hle : n ≤ 20) (k1 : ¬ (zhas a1 N ∧ zin a2 0 9 ∧ zin a3 0 9999) → A (-2) h) (k2 : zhas a1 N ∧ zin a2 0 9 ∧ zin a3 0 9999 → ¬ n < 20 → A (-4) h) (k3 : zhas a1 N ∧ zin a2 0 9 ∧ zin a3 0 9999 → n < 20 → A (nI n) (z_up (z_up (z_up (z_up h 46 n a1) 47 n a2) 48 n a3) 45 3 (nI (n + 1)))) : zP X (d + 2) 94 0 (z_ent [.ref 0, .int a1, .int a2, .int a3] 4) [] z_S0 h (zI A) := by
  refine b94 (c11 hN hNl (zsw (fun g => k1 (fun q => g q.1)) (fun h1 => (c123 (zsw (fun g => k1 (fun q => g q.2.1)) (fun h2 => (c119 (zsw (fun g => k1 (fun q => g q.2.2)) (fun h3 => ⟨fun g => ?_, fun g => ?_⟩)))))))))
  · have g1 : n < 20 := (z_ltN (N := 20) hn (by omega) (by decide)).mp g
    have g2 : z_ib (h 45 3) 20 := z_ibn hn g1 (by decide)
    refine b34 ⟨g2, g2, g2, ?_⟩
    have e1 := z_cl hn (by omega)
    rw [e1, hn, nI_1, nI_pred]
    exact k3 ⟨h1, h2, h3⟩ g1
  · exact k2 ⟨h1, h2, h3⟩ (fun q => g ((z_ltN (N := 20) hn (by omega) (by decide)).mpr q))
theorem c177 {a1 a2 a3 : Int32} {n : Nat} {N : Nat} (hN2 : h 82 3 = nI N) (hn : h 82 44 = nI n) (hle : n ≤ 20) (k1 : ¬ (zhas a1 N ∧ zin a2 0 9 ∧ zin a3 0 9999) → A (-2) h) (k2 : zhas a1 N ∧ zin a2 0 9 ∧ zin a3 0 9999 → ¬ n < 20 → A (-4) h) (k3 : zhas a1 N ∧ zin a2 0 9 ∧ zin a3 0 9999 → n < 20 → A (nI n) (z_up (z_up (z_up (z_up h 111 n a1) 112 n a2) 113 n a3) 82 44 (nI (n + 1)))) : zP X (d + 2) 177 0 (z_ent [.ref 82, .int a1, .int a2, .int a3] 4) [] z_S0 h (zI A) := by
  refine b177 (c134 hN2 (zsw (fun g => k1 (fun q => g q.1)) (fun h1 => (c128 0 9 (by decide) (by decide) (zsw (fun g => k1 (fun q => g q.2.1)) (fun h2 => (c128 0 9999 (by decide) (by decide) (zsw (fun g => k1 (fun q => g q.2.2)) (fun h3 => ⟨fun g => ?_, fun g => ?_⟩)))))))))
  · exact k2 ⟨h1, h2, h3⟩ (fun q => by have := (z_eqN (N := 20) hn (by omega) (by decide)).mp g; omega)
  · have g1 : n < 20 := by
      have : n ≠ 20 := fun q => g ((z_eqN (N := 20) hn (by omega) (by decide)).mpr q)
      omega
    have g2 : z_ib (h 82 44) 20 := z_ibn hn g1 (by decide)
    refine ⟨g2, g2, g2, ?_⟩
    have e1 := z_cl hn (by omega)
    rw [e1, hn, nI_1, nI_pred]
    exact k3 ⟨h1, h2, h3⟩ g1
theorem p_find {a1 a2 a3 : Int32} {n : Nat} {N : Nat} (hNl : N < 2 ^ 30) (hN : h 1 10 = nI N) (hN2 : h 82 3 = nI N) (hn : h 45 3 = nI n) (hm : h 82 44 = nI n) (hle : n ≤ 20) : zP X (d + 2) 94 0 (z_ent [.ref 0, .int a1, .int a2, .int a3] 4) [] z_S0 h (zI fun r h1 => zP X (d + 2) 177 0 (z_ent [.ref 82, .int a1, .int a2, .int a3] 4) [] z_S0 h1 (zI fun r2 h2 => r = r2 ∧ (h2 = h ∨ (zhas a1 N ∧ zin a2 0 9 ∧ zin a3 0 9999 ∧ n < 20 ∧ h2 = (z_up (z_up (z_up (z_up (z_up (z_up (z_up (z_up h 46 n a1) 47 n a2) 48 n a3) 45 3 (nI (n + 1))) 111 n a1) 112 n a2) 113 n a3) 82 44 (nI (n + 1))))))) := by
  refine c94 hNl hN hn hle (fun g => ?_) (fun g g2 => ?_) (fun g g2 => ?_)
  · exact c177 hN2 hm hle (fun _ => ⟨rfl, Or.inl rfl⟩) (fun q => absurd q g) (fun q => absurd q g)
  · exact c177 hN2 hm hle (fun q => absurd g q) (fun _ _ => ⟨rfl, Or.inl rfl⟩) (fun _ q => absurd q g2)
  · exact c177 (N := N) hN2 (hn := hm) hle (fun q => absurd g q) (fun _ q => absurd g2 q) (fun _ _ => ⟨rfl, Or.inr ⟨g.1, g.2.1, g.2.2, g2, rfl⟩⟩)
theorem c85 {a1 a2 a3 : Int32} {n : Nat} {D : Int32} (hD : h 0 16 = D) (hn : h 13 4 = nI n) (hle : n ≤ 40) (k1 : ¬ (zin a1 0 3 ∧ zin a2 0 399 ∧ zin a3 0 999) → A (-2) h) (k2 : zin a1 0 3 ∧ zin a2 0 399 ∧ zin a3 0 999 → ¬ n < 40 → A (-4) h) (k3 : zin a1 0 3 ∧ zin a2 0 399 ∧ zin a3 0 999 → n < 40 → A (nI (n + 1)) (z_up (z_up (z_up (z_up (z_up h 14 n a1) 15 n a2) 16 n a3) 17 n D) 13 4 (nI (n + 1)))) : zP X (d + 2) 85 0 (z_ent [.ref 0, .int a1, .int a2, .int a3] 4) [] z_S0 h (zI A) := by
  subst hD
  refine b85 (c122 (zsw (fun g => k1 (fun q => g q.1)) (fun h1 => (c125 (zsw (fun g => k1 (fun q => g q.2.1)) (fun h2 => (c119 (zsw (fun g => k1 (fun q => g q.2.2)) (fun h3 => ⟨fun g => ?_, fun g => ?_⟩)))))))))
  · have g1 : n < 40 := (z_ltN (N := 40) hn (by omega) (by decide)).mp g
    have g2 : z_ib (h 13 4) 40 := z_ibn hn g1 (by decide)
    refine b40 ⟨g2, g2, g2, g2, ?_⟩
    have e1 := z_cl hn (by omega)
    rw [e1, hn, nI_1]
    exact k3 ⟨h1, h2, h3⟩ g1
  · exact k2 ⟨h1, h2, h3⟩ (fun q => g ((z_ltN (N := 40) hn (by omega) (by decide)).mpr q))
theorem c145 {a1 a2 a3 : Int32} {n : Nat} {D : Int32} (hD : h 82 0 = D) (hn : h 82 16 = nI n) (hle : n ≤ 40) (k1 : ¬ (zin a1 0 3 ∧ zin a2 0 399 ∧ zin a3 0 999) → A (-2) h) (k2 : zin a1 0 3 ∧ zin a2 0 399 ∧ zin a3 0 999 → ¬ n < 40 → A (-4) h) (k3 : zin a1 0 3 ∧ zin a2 0 399 ∧ zin a3 0 999 → n < 40 → A (nI (n + 1)) (z_up (z_up (z_up (z_up (z_up h 96 n a1) 97 n a2) 98 n a3) 99 n D) 82 16 (nI (n + 1)))) : zP X (d + 2) 145 0 (z_ent [.ref 82, .int a1, .int a2, .int a3] 4) [] z_S0 h (zI A) := by
  subst hD
  refine b145 (c133 (zsw (fun g => k1 (fun q => g q.1)) (fun h1 => (c130 (zsw (fun g => k1 (fun q => g q.2.1)) (fun h2 => (c128 0 999 (by decide) (by decide) (zsw (fun g => k1 (fun q => g q.2.2)) (fun h3 => ⟨fun g => ?_, fun g => ?_⟩)))))))))
  · exact k2 ⟨h1, h2, h3⟩ (fun q => by have := (z_eqN (N := 40) hn (by omega) (by decide)).mp g; omega)
  · have g1 : n < 40 := by
      have : n ≠ 40 := fun q => g ((z_eqN (N := 40) hn (by omega) (by decide)).mpr q)
      omega
    have g2 : z_ib (h 82 16) 40 := z_ibn hn g1 (by decide)
    refine ⟨g2, g2, g2, g2, ?_⟩
    have e1 := z_cl hn (by omega)
    rw [e1, hn, nI_1]
    exact k3 ⟨h1, h2, h3⟩ g1
theorem p_price {a1 a2 a3 : Int32} {n : Nat} {D : Int32} (hDx : h 0 16 = D) (hDm : h 82 0 = D) (hn : h 13 4 = nI n) (hm : h 82 16 = nI n) (hle : n ≤ 40) : zP X (d + 2) 85 0 (z_ent [.ref 0, .int a1, .int a2, .int a3] 4) [] z_S0 h (zI fun r h1 => zP X (d + 2) 145 0 (z_ent [.ref 82, .int a1, .int a2, .int a3] 4) [] z_S0 h1 (zI fun r2 h2 => r = r2 ∧ (h2 = h ∨ (zin a1 0 3 ∧ zin a2 0 399 ∧ zin a3 0 999 ∧ n < 40 ∧ h2 = (z_up (z_up (z_up (z_up (z_up (z_up (z_up (z_up (z_up (z_up h 14 n a1) 15 n a2) 16 n a3) 17 n D) 13 4 (nI (n + 1))) 96 n a1) 97 n a2) 98 n a3) 99 n D) 82 16 (nI (n + 1))))))) := by
  refine c85 hDx hn hle (fun g => ?_) (fun g g2 => ?_) (fun g g2 => ?_)
  · exact c145 hDm hm hle (fun _ => ⟨rfl, Or.inl rfl⟩) (fun q => absurd q g) (fun q => absurd q g)
  · exact c145 hDm hm hle (fun q => absurd g q) (fun _ _ => ⟨rfl, Or.inl rfl⟩) (fun _ q => absurd q g2)
  · exact c145 (D := D) hDm (hn := hm) hle (fun q => absurd g q) (fun _ q => absurd g2 q) (fun _ _ => ⟨rfl, Or.inr ⟨g.1, g.2.1, g.2.2, g2, rfl⟩⟩)
theorem c89 {a1 a2 a3 : Int32} {n : Nat} {T : Int32} (hT : h 20 4 = T) (hn : h 20 5 = nI n) (hle : n ≤ 20) (k1 : ¬ (zin a1 0 5 ∧ zin a2 0 399 ∧ zin a3 0 (T - 1)) → A (-2) h) (k2 : zin a1 0 5 ∧ zin a2 0 399 ∧ zin a3 0 (T - 1) → ¬ n < 20 → A (-4) h) (k3 : zin a1 0 5 ∧ zin a2 0 399 ∧ zin a3 0 (T - 1) → n < 20 → A (nI (n + 1)) (z_up (z_up (z_up (z_up h 22 n a1) 23 n a2) 24 n a3) 20 5 (nI (n + 1)))) : zP X (d + 2) 89 0 (z_ent [.ref 0, .int a1, .int a2, .int a3] 4) [] z_S0 h (zI A) := by
  subst hT
  refine b89 (c120 (zsw (fun g => k1 (fun q => g q.1)) (fun h1 => (c125 (zsw (fun g => k1 (fun q => g q.2.1)) (fun h2 => (c119 (zsw (fun g => k1 (fun q => g q.2.2)) (fun h3 => ⟨fun g => ?_, fun g => ?_⟩)))))))))
  · have g1 : n < 20 := (z_ltN (N := 20) hn (by omega) (by decide)).mp g
    have g2 : z_ib (h 20 5) 20 := z_ibn hn g1 (by decide)
    refine b23 ⟨g2, g2, g2, ?_⟩
    have e1 := z_cl hn (by omega)
    rw [e1, hn, nI_1]
    exact k3 ⟨h1, h2, h3⟩ g1
  · exact k2 ⟨h1, h2, h3⟩ (fun q => g ((z_ltN (N := 20) hn (by omega) (by decide)).mpr q))
theorem c170 {a1 a2 a3 : Int32} {n : Nat} {T : Int32} (hT : h 82 23 = T) (hn : h 82 40 = nI n) (hle : n ≤ 20) (k1 : ¬ (zin a1 0 5 ∧ zin a2 0 399 ∧ zin a3 0 (T - 1)) → A (-2) h) (k2 : zin a1 0 5 ∧ zin a2 0 399 ∧ zin a3 0 (T - 1) → ¬ n < 20 → A (-4) h) (k3 : zin a1 0 5 ∧ zin a2 0 399 ∧ zin a3 0 (T - 1) → n < 20 → A (nI (n + 1)) (z_up (z_up (z_up (z_up h 108 n a1) 109 n a2) 110 n a3) 82 40 (nI (n + 1)))) : zP X (d + 2) 170 0 (z_ent [.ref 82, .int a1, .int a2, .int a3] 4) [] z_S0 h (zI A) := by
  subst hT
  refine b170 (c131 (zsw (fun g => k1 (fun q => g q.1)) (fun h1 => (c130 (zsw (fun g => k1 (fun q => g q.2.1)) (fun h2 => (c128 0 (h 82 23 - 1) (by decide) rfl (zsw (fun g => k1 (fun q => g q.2.2)) (fun h3 => ⟨fun g => ?_, fun g => ?_⟩)))))))))
  · exact k2 ⟨h1, h2, h3⟩ (fun q => by have := (z_eqN (N := 20) hn (by omega) (by decide)).mp g; omega)
  · have g1 : n < 20 := by
      have : n ≠ 20 := fun q => g ((z_eqN (N := 20) hn (by omega) (by decide)).mpr q)
      omega
    have g2 : z_ib (h 82 40) 20 := z_ibn hn g1 (by decide)
    refine ⟨g2, g2, g2, ?_⟩
    have e1 := z_cl hn (by omega)
    rw [e1, hn, nI_1]
    exact k3 ⟨h1, h2, h3⟩ g1
theorem p_contract {a1 a2 a3 : Int32} {n : Nat} {T : Int32} (hTx : h 20 4 = T) (hTm : h 82 23 = T) (hn : h 20 5 = nI n) (hm : h 82 40 = nI n) (hle : n ≤ 20) : zP X (d + 2) 89 0 (z_ent [.ref 0, .int a1, .int a2, .int a3] 4) [] z_S0 h (zI fun r h1 => zP X (d + 2) 170 0 (z_ent [.ref 82, .int a1, .int a2, .int a3] 4) [] z_S0 h1 (zI fun r2 h2 => r = r2 ∧ (h2 = h ∨ (zin a1 0 5 ∧ zin a2 0 399 ∧ zin a3 0 (T - 1) ∧ n < 20 ∧ h2 = (z_up (z_up (z_up (z_up (z_up (z_up (z_up (z_up h 22 n a1) 23 n a2) 24 n a3) 20 5 (nI (n + 1))) 108 n a1) 109 n a2) 110 n a3) 82 40 (nI (n + 1))))))) := by
  refine c89 hTx hn hle (fun g => ?_) (fun g g2 => ?_) (fun g g2 => ?_)
  · exact c170 hTm hm hle (fun _ => ⟨rfl, Or.inl rfl⟩) (fun q => absurd q g) (fun q => absurd q g)
  · exact c170 hTm hm hle (fun q => absurd g q) (fun _ _ => ⟨rfl, Or.inl rfl⟩) (fun _ q => absurd q g2)
  · exact c170 (T := T) hTm (hn := hm) hle (fun q => absurd g q) (fun _ q => absurd g2 q) (fun _ _ => ⟨rfl, Or.inr ⟨g.1, g.2.1, g.2.2, g2, rfl⟩⟩)
end ZADD

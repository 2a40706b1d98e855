/-! bytes fed to the tape -/
def z_byX (l : Int64) (i : Int32) : Int32 := (Int64.toInt32 ((Int64.toUInt64 l >>> ((Int32.toInt64 (8 * i)).toUInt64 &&& Int64.toUInt64 63)).toInt64)) &&& 255
def z_byM (l : Int64) (i : Int32) : Int32 := vp_nar .byte ((Int32.toInt8 (Int64.toInt32 (l >>> (Int32.toInt64 (8 * i) &&& 63)))).toInt32)
theorem z_byM_eq (l : Int64) (i : Int32) : z_byM l i = (Int32.toInt8 (Int64.toInt32 (l >>> (Int32.toInt64 (8 * i) &&& 63)))).toInt32 := by
  unfold z_byM vp_nar
  rw [pk_nb]
theorem z_shk : ∀ i, i < 8 → ((Int32.toInt64 (8 * nI i) &&& 63).toBitVec.smod 64).toNat = 8 * i ∧ (((Int32.toInt64 (8 * nI i)).toUInt64 &&& Int64.toUInt64 63).toBitVec % 64).toNat = 8 * i := by decide +kernel
theorem z_by8 (v : BitVec 64) (k : Nat) (hk : k + 8 ≤ 64) : ((v.sshiftRight k).setWidth 32).setWidth 8 = (((v >>> k).setWidth 32) &&& 255#32).setWidth 8 := by
  apply BitVec.eq_of_getLsbD_eq
  intro j hj
  have e : (255#32).getLsbD j = true := by
    have : j = 0 ∨ j = 1 ∨ j = 2 ∨ j = 3 ∨ j = 4 ∨ j = 5 ∨ j = 6 ∨ j = 7 := by omega
    rcases this with rfl | rfl | rfl | rfl | rfl | rfl | rfl | rfl <;> decide
  simp only [BitVec.getLsbD_setWidth, BitVec.getLsbD_and, BitVec.getLsbD_sshiftRight, BitVec.getLsbD_ushiftRight, e, Bool.and_true]
  have h1 : decide (j < 8) = true := decide_eq_true hj
  have h2 : decide (j < 32) = true := decide_eq_true (by omega)
  have h3 : ¬ 64 ≤ j := by omega
  have h4 : k + j < 64 := by omega
  simp [h1, h2, h3, h4]
theorem z_byte (l : Int64) {i : Nat} (hi : i < 8) : ∃ b, b < 256 ∧ z_byX l (nI i) = nI b ∧ z_byM l (nI i) = (nI b).toInt8.toInt32 := by
  obtain ⟨s1, s2⟩ := z_shk i hi
  obtain ⟨b, hb, e⟩ := pk_andE (Int64.toInt32 ((Int64.toUInt64 l >>> ((Int32.toInt64 (8 * nI i)).toUInt64 &&& Int64.toUInt64 63)).toInt64)) (m := 255) 8 (by decide)
  refine ⟨b, hb, e, ?_⟩
  rw [z_byM_eq, ← e]
  congr 1
  apply Int8.toBitVec_inj.mp
  have := z_by8 l.toBitVec (8 * i) (by omega)
  have t1 : (Int32.toInt8 (Int64.toInt32 (l >>> (Int32.toInt64 (8 * nI i) &&& 63)))).toBitVec = ((l.toBitVec.sshiftRight (8 * i)).setWidth 32).setWidth 8 := by
    rw [Int32.toBitVec_toInt8, Int64.toBitVec_toInt32, BitVec.signExtend_eq_setWidth_of_le _ (by decide), BitVec.signExtend_eq_setWidth_of_le _ (by decide), Int64.toBitVec_shiftRight, BitVec.sshiftRight', s1]
  have t2 : (Int32.toInt8 ((Int64.toInt32 ((Int64.toUInt64 l >>> ((Int32.toInt64 (8 * nI i)).toUInt64 &&& Int64.toUInt64 63)).toInt64)) &&& 255)).toBitVec = (((l.toBitVec >>> (8 * i)).setWidth 32) &&& 255#32).setWidth 8 := by
    rw [Int32.toBitVec_toInt8, Int32.toBitVec_and, Int64.toBitVec_toInt32, BitVec.signExtend_eq_setWidth_of_le _ (by decide), BitVec.signExtend_eq_setWidth_of_le _ (by decide), UInt64.toBitVec_toInt64, UInt64.toBitVec_shiftRight]
    rw [show l.toUInt64.toBitVec >>> (((Int32.toInt64 (8 * nI i)).toUInt64 &&& Int64.toUInt64 63).toBitVec % 64) = l.toBitVec >>> (((Int32.toInt64 (8 * nI i)).toUInt64 &&& Int64.toUInt64 63).toBitVec % 64).toNat from rfl, s2]
    rfl
  rw [t1, t2]
  exact this
section ZFE
variable {X : Option (List Int32)} {d : Nat} {A : Int32 → zH → Prop}
theorem c87_loop {n : Nat} {l : Int64} (hn : n ≤ 8) : ∀ (m k s : Nat) (h : zH), k + m = n → h 18 1 = nI s → s + m ≤ 160 → A (nI (s + m)) (z_up (z_pt h 19 (fun j => if s ≤ j ∧ j < s + m then z_byX l (nI (k + (j - s))) else h 19 j)) 18 1 (nI (s + m))) → zP X (d + 1) 87 34 [some (.ref 0), some (.int (nI n)), some (.long l), none, some (.int (nI k))] [] z_S0 h (zI A)
  | 0, k, s, h, hk, hs, hl, hA => by
    refine b87_34 ⟨fun g => ?_, fun _ => ?_⟩
    · rw [nI_ltI (by omega) (by omega)] at g
      omega
    · have e : (fun j => if s ≤ j ∧ j < s + 0 then z_byX l (nI (k + (j - s))) else h 19 j) = h 19 := funext fun j => if_neg (by omega)
      rw [e, z_pt_id, Nat.add_zero, ← hs, z_up_id] at hA
      exact hA
  | m + 1, k, s, h, hk, hs, hl, hA => by
    refine b87_34 ⟨fun _ => b48 ?_, fun g => ?_⟩
    · rw [hs, nI_clamp (by omega)]
      refine ⟨fun _ => ⟨vp_in_nI (by omega) (by decide), ?_⟩, fun q => absurd ((nI_ltI (b := 160) (by omega) (by decide)).mpr (by omega)) q⟩
      rw [nI_1, nI_1]
      refine c87_loop hn m (k + 1) (s + 1) _ (by omega) rfl (by omega) ?_
      have e : z_up (z_pt (z_up (z_up h 19 s (z_byX l (nI k))) 18 1 (nI (s + 1))) 19 (fun j => if s + 1 ≤ j ∧ j < s + 1 + m then z_byX l (nI (k + 1 + (j - (s + 1)))) else (z_up (z_up h 19 s (z_byX l (nI k))) 18 1 (nI (s + 1))) 19 j)) 18 1 (nI (s + 1 + m)) = z_up (z_pt h 19 (fun j => if s ≤ j ∧ j < s + (m + 1) then z_byX l (nI (k + (j - s))) else h 19 j)) 18 1 (nI (s + (m + 1))) := by
        have e1 : s + 1 + m = s + (m + 1) := by omega
        have e2 : (fun j => if s + 1 ≤ j ∧ j < s + 1 + m then z_byX l (nI (k + 1 + (j - (s + 1)))) else (z_up (z_up h 19 s (z_byX l (nI k))) 18 1 (nI (s + 1))) 19 j) = (fun j => if s ≤ j ∧ j < s + (m + 1) then z_byX l (nI (k + (j - s))) else h 19 j) := by
          funext j
          show (if s + 1 ≤ j ∧ j < s + 1 + m then z_byX l (nI (k + 1 + (j - (s + 1)))) else upd (h 19) s (z_byX l (nI k)) j) = _
          by_cases q : j = s
          · subst q
            rw [if_neg (by omega), if_pos ⟨by omega, by omega⟩, upd_S, Nat.sub_self, Nat.add_zero]
          · rw [upd_N _ _ q]
            by_cases q2 : s ≤ j ∧ j < s + (m + 1)
            · rw [if_pos q2, if_pos ⟨by omega, by omega⟩]
              congr 2
              omega
            · rw [if_neg q2, if_neg (by omega)]
        rw [e2, e1]
        simp only [z_up_pt]
        funext c j
        by_cases q : c = 18
        · subst q
          by_cases q2 : j = 1
          · subst q2
            simp (disch := omega) only [z_ptS, upd_S]
          · simp (disch := omega) only [z_ptS, z_ptN, upd_N]
        · by_cases q2 : c = 19
          · subst q2
            simp (disch := omega) only [z_ptS, z_ptN]
          · simp (disch := omega) only [z_ptN]
      have e1 : s + 1 + m = s + (m + 1) := by omega
      show A (nI (s + 1 + m)) (z_up (z_pt (z_up (z_up h 19 s (z_byX l (nI k))) 18 1 (nI (s + 1))) 19 (fun j => if s + 1 ≤ j ∧ j < s + 1 + m then z_byX l (nI (k + 1 + (j - (s + 1)))) else (z_up (z_up h 19 s (z_byX l (nI k))) 18 1 (nI (s + 1))) 19 j)) 18 1 (nI (s + 1 + m)))
      rw [e, e1]
      exact hA
    · exact absurd ((nI_ltI (by omega) (by omega)).mpr (by omega)) g
theorem c148_loop {n : Nat} {l : Int64} (hn : n ≤ 8) : ∀ (m k s : Nat) (h : zH), k + m = n → h 82 22 = nI s → s + m ≤ 160 → A (nI (s + m)) (z_up (z_pt h 100 (fun j => if s ≤ j ∧ j < s + m then z_byM l (nI (k + (j - s))) else h 100 j)) 82 22 (nI (s + m))) → zP X (d + 1) 148 33 [some (.ref 82), some (.int (nI n)), some (.long l), none, some (.int (nI k))] [] z_S0 h (zI A)
  | 0, k, s, h, hk, hs, hl, hA => by
    refine b148_33 ⟨fun g => ?_, fun _ => ?_⟩
    · rw [nI_ltI (by omega) (by omega)] at g
      omega
    · have e : (fun j => if s ≤ j ∧ j < s + 0 then z_byM l (nI (k + (j - s))) else h 100 j) = h 100 := funext fun j => if_neg (by omega)
      rw [e, z_pt_id, Nat.add_zero, ← hs, z_up_id] at hA
      exact hA
  | m + 1, k, s, h, hk, hs, hl, hA => by
    refine b148_33 ⟨fun _ => ?_, fun g => ?_⟩
    · rw [hs, nI_clamp (by omega)]
      refine ⟨vp_in_nI (by omega) (by decide), ?_⟩
      rw [nI_1, nI_1]
      refine c148_loop hn m (k + 1) (s + 1) _ (by omega) rfl (by omega) ?_
      have e : z_up (z_pt (z_up (z_up h 100 s (z_byM l (nI k))) 82 22 (nI (s + 1))) 100 (fun j => if s + 1 ≤ j ∧ j < s + 1 + m then z_byM l (nI (k + 1 + (j - (s + 1)))) else (z_up (z_up h 100 s (z_byM l (nI k))) 82 22 (nI (s + 1))) 100 j)) 82 22 (nI (s + 1 + m)) = z_up (z_pt h 100 (fun j => if s ≤ j ∧ j < s + (m + 1) then z_byM l (nI (k + (j - s))) else h 100 j)) 82 22 (nI (s + (m + 1))) := by
        have e1 : s + 1 + m = s + (m + 1) := by omega
        have e2 : (fun j => if s + 1 ≤ j ∧ j < s + 1 + m then z_byM l (nI (k + 1 + (j - (s + 1)))) else (z_up (z_up h 100 s (z_byM l (nI k))) 82 22 (nI (s + 1))) 100 j) = (fun j => if s ≤ j ∧ j < s + (m + 1) then z_byM l (nI (k + (j - s))) else h 100 j) := by
          funext j
          show (if s + 1 ≤ j ∧ j < s + 1 + m then z_byM l (nI (k + 1 + (j - (s + 1)))) else upd (h 100) s (z_byM l (nI k)) j) = _
          by_cases q : j = s
          · subst q
            rw [if_neg (by omega), if_pos ⟨by omega, by omega⟩, upd_S, Nat.sub_self, Nat.add_zero]
          · rw [upd_N _ _ q]
            by_cases q2 : s ≤ j ∧ j < s + (m + 1)
            · rw [if_pos q2, if_pos ⟨by omega, by omega⟩]
              congr 2
              omega
            · rw [if_neg q2, if_neg (by omega)]
        rw [e2, e1]
        simp only [z_up_pt]
        funext c j
        by_cases q : c = 82
        · subst q
          by_cases q2 : j = 22
          · subst q2
            simp (disch := omega) only [z_ptS, upd_S]
          · simp (disch := omega) only [z_ptS, z_ptN, upd_N]
        · by_cases q2 : c = 100
          · subst q2
            simp (disch := omega) only [z_ptS, z_ptN]
          · simp (disch := omega) only [z_ptN]
      have e1 : s + 1 + m = s + (m + 1) := by omega
      show A (nI (s + 1 + m)) (z_up (z_pt (z_up (z_up h 100 s (z_byM l (nI k))) 82 22 (nI (s + 1))) 100 (fun j => if s + 1 ≤ j ∧ j < s + 1 + m then z_byM l (nI (k + 1 + (j - (s + 1)))) else (z_up (z_up h 100 s (z_byM l (nI k))) 82 22 (nI (s + 1))) 100 j)) 82 22 (nI (s + 1 + m)))
      rw [e, e1]
      exact hA
    · exact absurd ((nI_ltI (by omega) (by omega)).mpr (by omega)) g
theorem q_feed {h : zH} {a1 : Int32} {a2 : Int64} (R : zR h) : zP X (d + 1) 87 0 (z_ent [.ref 0, .int a1, .long a2] 5) [] z_S0 h (zI fun r h1 => zP X (d + 1) 148 0 (z_ent [.ref 82, .int a1, .long a2] 5) [] z_S0 h1 (zI fun r2 h2 => r = r2 ∧ zR h2)) := by
  obtain ⟨⟨s, hs, hx, hm, hb⟩, hT⟩ := R.g4
  refine b87 (c119 (zsw (fun g => ?_) (fun g => ?_)))
  · exact b148 (c128 1 8 (by decide) (by decide) (zsw (fun _ => ⟨rfl, R⟩) (fun q => absurd q g)))
  · obtain ⟨n, hn, rfl⟩ := z_inN 8 (by decide) ⟨fun q => g.1 (Int32.lt_trans q (by decide)), g.2⟩
    rw [hx, nI_add]
    have l160 : (160 : Int32) < nI (s + n) ↔ 160 < s + n := nI_ltI (a := 160) (by decide) (by omega)
    refine ⟨fun g2 => ?_, fun g2 => c87_loop (k := 0) hn n s h (by omega) hx ?_ ?_⟩
    · refine b148 (c128 1 8 (by decide) (by decide) (zsw (fun q => absurd g q) (fun _ => ?_)))
      rw [hm, nI_add]
      exact ⟨fun _ => ⟨rfl, R⟩, fun q => absurd g2 q⟩
    · rw [l160] at g2
      omega
    · have l' : s + n ≤ 160 := by rw [l160] at g2; omega
      refine b148 (c128 1 8 (by decide) (by decide) (zsw (fun q => absurd g q) (fun _ => ?_)))
      have hm' : z_up (z_pt h 19 (fun j => if s ≤ j ∧ j < s + n then z_byX a2 (nI (0 + (j - s))) else h 19 j)) 18 1 (nI (s + n)) 82 22 = nI s := hm
      rw [hm', nI_add]
      refine ⟨fun q => absurd q g2, fun _ => c148_loop (k := 0) hn n s _ (by omega) hm l' ⟨rfl, R.g0, R.g1, R.g2, R.g3, ⟨⟨s + n, l', rfl, rfl, ?_⟩, hT⟩, R.g5, R.g6, R.g7, R.g8, R.g9, R.g10, R.g11, R.g12, R.g13, R.g14⟩⟩
      intro i hi
      show ∃ b, b < 256 ∧ (if s ≤ i ∧ i < s + n then z_byX a2 (nI (0 + (i - s))) else h 19 i) = nI b ∧ (if s ≤ i ∧ i < s + n then z_byM a2 (nI (0 + (i - s))) else h 100 i) = (nI b).toInt8.toInt32
      by_cases q : s ≤ i
      · rw [if_pos ⟨q, hi⟩, if_pos ⟨q, hi⟩]
        exact z_byte a2 (by omega)
      · rw [if_neg (by omega), if_neg (by omega)]
        exact hb i (by omega)
end ZFE

/-! pairs of plain calls -/
theorem z_inN {a : Int32} (M : Nat) (hM : M < 2 ^ 31) (h : zin a 0 (nI M)) : ∃ j : Nat, j ≤ M ∧ a = nI j := nI_of2 (nI_toInt hM) h.1 (Int32.not_lt.mp h.2)
theorem z_ibz {a : Int32} (M N : Nat) (hM : M < N) (hN : N < 2 ^ 31) (h : zin a 0 (nI M)) : z_ib a N := by
  obtain ⟨j, hj, rfl⟩ := z_inN M (by omega) h
  exact vp_in_nI (by omega) hN
theorem zhasN {a : Int32} {N : Nat} (hN : N < 2 ^ 31) (h : zhas a N) : ∃ j : Nat, j < N ∧ a = nI j := by
  obtain ⟨j, hj, rfl⟩ := nI_of h.1
  exact ⟨j, (nI_ltI hj hN).mp h.2, rfl⟩
section ZPR
variable {X : Option (List Int32)} {d : Nat} {h : zH}
theorem p_stock {a1 : Int32} (hA : h 12 = h 95) : zP X (d + 1) 83 0 (z_ent [.ref 0, .int a1] 2) [] z_S0 h (zI fun r h1 => zP X (d + 1) 143 0 (z_ent [.ref 82, .int a1] 2) [] z_S0 h1 (zI fun r2 h2 => r = r2 ∧ h2 = h)) := by
  refine b83 (c119 (zsw (fun g => ?_) (fun g => ⟨z_ibz 5 6 (by decide) (by decide) g, ?_⟩)))
  · exact b143 (c128 0 5 (by decide) (by decide) (zsw (fun _ => ⟨rfl, rfl⟩) (fun q => absurd q g)))
  · exact b143 (c128 0 5 (by decide) (by decide) (zsw (fun q => absurd g q) (fun _ => ⟨z_ibz 5 6 (by decide) (by decide) g, by rw [hA], rfl⟩)))
def sp_cnt (v0 v1 v2 v3 v4 v5 v6 v7 v8 v9 v10 v11 v12 a : Int32) : Int32 := if a = 0 then v0 else if a = 1 then v1 else if a = 2 then v2 else if a = 3 then v3 else if a = 4 then v4 else if a = 5 then v5 else if a = 6 then v6 else if a = 7 then v7 else if a = 8 then v8 else if a = 9 then v9 else if a = 10 then v10 else if a = 11 then v11 else if a = 12 then v12 else -2
theorem c112 {A : Int32 → zH → Prop} {a1 : Int32} (k : A (sp_cnt (h 0 16) (h 1 10) (h 13 4) (h 20 4) (h 18 1) (h 20 5) (h 45 3) (h 49 8) (h 49 9) (h 0 15) (h 65 2) (h 68 4) (h 0 17) a1) h) : zP X d 112 0 (z_ent [.ref 0, .int a1] 2) [] z_S0 h (zI A) := by
  refine b112 ⟨?_, ?_, ?_, ?_, ?_, ?_, ?_, ?_, ?_, ?_, ?_, ?_, ?_, ?_⟩
  all_goals first
    | (intro g; subst g; exact k)
    | (rintro ⟨g0, g1, g2, g3, g4, g5, g6, g7, g8, g9, g10, g11, g12⟩
       simp only [sp_cnt, if_neg g0, if_neg g1, if_neg g2, if_neg g3, if_neg g4, if_neg g5, if_neg g6, if_neg g7, if_neg g8, if_neg g9, if_neg g10, if_neg g11, if_neg g12] at k
       exact k)
theorem c204 {A : Int32 → zH → Prop} {a1 : Int32} (k : A (sp_cnt (h 82 0) (h 82 3) (h 82 16) (h 82 23) (h 82 22) (h 82 40) (h 82 44) (h 82 48) (h 82 53) (h 82 59) (h 82 67) (h 82 72) (h 82 15) a1) h) : zP X d 204 0 (z_ent [.ref 82, .int a1] 2) [] z_S0 h (zI A) := by
  refine b204 ⟨?_, ?_, ?_, ?_, ?_, ?_, ?_, ?_, ?_, ?_, ?_, ?_, ?_, ?_⟩
  all_goals first
    | (intro g; subst g; exact k)
    | (rintro ⟨g0, g1, g2, g3, g4, g5, g6, g7, g8, g9, g10, g11, g12⟩
       simp only [sp_cnt, if_neg g0, if_neg g1, if_neg g2, if_neg g3, if_neg g4, if_neg g5, if_neg g6, if_neg g7, if_neg g8, if_neg g9, if_neg g10, if_neg g11, if_neg g12] at k
       exact k)
theorem p_count {a1 : Int32} (e0 : h 0 16 = h 82 0) (e1 : h 1 10 = h 82 3) (e2 : h 13 4 = h 82 16) (e3 : h 20 4 = h 82 23) (e4 : h 18 1 = h 82 22) (e5 : h 20 5 = h 82 40) (e6 : h 45 3 = h 82 44) (e7 : h 49 8 = h 82 48) (e8 : h 49 9 = h 82 53) (e9 : h 0 15 = h 82 59) (e10 : h 65 2 = h 82 67) (e11 : h 68 4 = h 82 72) (e12 : h 0 17 = h 82 15) : zP X d 112 0 (z_ent [.ref 0, .int a1] 2) [] z_S0 h (zI fun r h1 => zP X d 204 0 (z_ent [.ref 82, .int a1] 2) [] z_S0 h1 (zI fun r2 h2 => r = r2 ∧ h2 = h)) :=
  c112 (c204 ⟨by rw [e0, e1, e2, e3, e4, e5, e6, e7, e8, e9, e10, e11, e12], rfl⟩)
theorem p_stop {a1 a2 : Int32} {n : Nat} (hn : h 68 4 = nI n) (hm : h 82 72 = nI n) (hle : n ≤ 6) (hA : h 71 = h 135) (hb : ∀ j, h 71 j = 0 ∨ h 71 j = 1) : zP X (d + 1) 110 0 (z_ent [.ref 0, .int a1, .int a2] 4) [] z_S0 h (zI fun r h1 => zP X (d + 1) 200 0 (z_ent [.ref 82, .int a1, .int a2] 4) [] z_S0 h1 (zI fun r2 h2 => r = r2 ∧ (h2 = h ∨ ∃ j, (a2 = 0 ∨ a2 = 1) ∧ h2 = z_up (z_up h 71 j a2) 135 j a2))) := by
  have key : zin a1 0 (h 68 4 - 1) ↔ zhas a1 n := by rw [hn]; exact zhas_iff (by omega)
  refine b110 (c119 (zsw (fun g => ?_) (fun g => c119 (zsw (fun g2 => ?_) (fun g2 => ?_)))))
  · refine b200 ⟨fun _ => ⟨rfl, Or.inl rfl⟩, fun q => ⟨fun q2 => ?_, fun _ => ⟨rfl, Or.inl rfl⟩⟩⟩
    rw [hm] at q2
    exact absurd (key.mpr ⟨q, q2⟩) g
  · refine b200 ⟨fun _ => ⟨rfl, Or.inl rfl⟩, fun q => ⟨fun q2 => ?_, fun _ => ⟨rfl, Or.inl rfl⟩⟩⟩
    exact c128 0 1 (by decide) (by decide) (zsw (fun _ => ⟨rfl, Or.inl rfl⟩) (fun q => absurd q g2))
  · obtain ⟨j, hj, rfl⟩ := zhasN (by omega) (key.mp g)
    have ib : z_ib (nI j) 6 := vp_in_nI (by omega) (by decide)
    have cl : (nI j).toNatClampNeg = j := nI_clamp (by omega)
    have h01 : a2 = 0 ∨ a2 = 1 := by
      obtain ⟨i, hi, rfl⟩ := z_inN 1 (by decide) g2
      have : i = 0 ∨ i = 1 := by omega
      rcases this with rfl | rfl
      · exact Or.inl rfl
      · exact Or.inr rfl
    have last : ∀ w : Int32, w = h 71 j → zP X (d + 1) 110 46 [some (.ref 0), some (.int (nI j)), some (.int a2), none] [.int w] z_S0 h (zI fun r h1 => zP X (d + 1) 200 0 (z_ent [.ref 82, .int (nI j), .int a2] 4) [] z_S0 h1 (zI fun r2 h2 => r = r2 ∧ (h2 = h ∨ ∃ j, (a2 = 0 ∨ a2 = 1) ∧ h2 = z_up (z_up h 71 j a2) 135 j a2))) := by
      intro w hw
      have fin : ∀ v : Int32, v = a2 → zP X (d + 1) 200 0 (z_ent [.ref 82, .int (nI j), .int a2] 4) [] z_S0 (z_up h 71 j v) (zI fun r2 h2 => w = r2 ∧ (h2 = h ∨ ∃ j, (a2 = 0 ∨ a2 = 1) ∧ h2 = z_up (z_up h 71 j a2) 135 j a2)) := by
        intro v hv
        subst hv
        refine b200 ⟨fun q => absurd q (key.mp g).1, fun q => ⟨fun q2 => c128 0 1 (by decide) (by decide) (zsw (fun q => absurd g2 q) (fun _ => ⟨ib, ib, ?_⟩)), fun q2 => ?_⟩⟩
        · rw [cl]
          refine ⟨?_, Or.inr ⟨j, h01, rfl⟩⟩
          rw [hw, hA]
          rfl
        · exact absurd (by show nI j < h 82 72; rw [hm]; exact (key.mp g).2) q2
      refine b110_46 ⟨fun q => ⟨ib, ?_⟩, fun q => ⟨ib, ?_⟩⟩
      · rw [cl]; exact fin 1 q.symm
      · rw [cl]; exact fin 0 (h01.resolve_right q).symm
    refine ⟨ib, ?_⟩
    rw [cl]
    refine ⟨fun q => last 0 q.symm, fun q => last 1 ?_⟩
    exact ((hb j).resolve_left q).symm
theorem p_wins {a1 a2 a3 : Int32} (hA : h 61 = h 125) : zP X (d + 2) 105 0 (z_ent [.ref 0, .int a1, .int a2, .int a3] 4) [] z_S0 h (zI fun r h1 => zP X (d + 2) 191 0 (z_ent [.ref 82, .int a1, .int a2, .int a3] 5) [] z_S0 h1 (zI fun r2 h2 => r = r2 ∧ (h2 = h ∨ ∃ j, zin a3 0 999 ∧ j < 50 ∧ h2 = z_up (z_up h 61 j a3) 125 j a3))) := by
  refine b105 (c123 (zsw (fun g => ?_) (fun g => c121 (zsw (fun g2 => ?_) (fun g2 => c119 (zsw (fun g3 => ?_) (fun g3 => ?_)))))))
  · exact b191 (c128 0 9 (by decide) (by decide) (zsw (fun _ => ⟨rfl, Or.inl rfl⟩) (fun q => absurd q g)))
  · exact b191 (c128 0 9 (by decide) (by decide) (zsw (fun _ => ⟨rfl, Or.inl rfl⟩) (fun _ => c132 (zsw (fun _ => ⟨rfl, Or.inl rfl⟩) (fun q => absurd q g2)))))
  · exact b191 (c128 0 9 (by decide) (by decide) (zsw (fun _ => ⟨rfl, Or.inl rfl⟩) (fun _ => c132 (zsw (fun _ => ⟨rfl, Or.inl rfl⟩) (fun _ => c128 0 999 (by decide) (by decide) (zsw (fun _ => ⟨rfl, Or.inl rfl⟩) (fun q => absurd q g3)))))))
  · obtain ⟨i, hi, rfl⟩ := z_inN 9 (by decide) g
    obtain ⟨j, hj, rfl⟩ := z_inN 4 (by decide) g2
    have e5 : (nI i * 5 : Int32) + nI j = nI (i * 5 + j) := by
      rw [show (5 : Int32) = nI 5 from rfl, pk_mul, nI_add]
    have e6 : (5 * nI i : Int32) + nI j = nI (i * 5 + j) := by rw [Int32.mul_comm, e5]
    have ib : z_ib (nI (i * 5 + j)) 50 := vp_in_nI (by omega) (by decide)
    have cl : (nI (i * 5 + j)).toNatClampNeg = i * 5 + j := nI_clamp (by omega)
    refine b36 ?_
    rw [e5, cl]
    refine ⟨ib, ib, ?_⟩
    refine b191 (c128 0 9 (by decide) (by decide) (zsw (fun q => absurd g q) (fun _ => c132 (zsw (fun q => absurd g2 q) (fun _ => c128 0 999 (by decide) (by decide) (zsw (fun q => absurd g3 q) (fun _ => ?_)))))))
    rw [e6, cl]
    refine ⟨ib, ib, ?_, Or.inr ⟨i * 5 + j, g3, by omega, rfl⟩⟩
    rw [hA]
    rfl
theorem p_priceOf {a1 a2 a3 : Int32} {n : Nat} (hn : h 13 4 = nI n) (hm : h 82 16 = nI n) (hle : n ≤ 40) (hd : ∀ i, i < n → ¬ h 97 i < -1) (eD : h 0 16 = h 82 0) (e1 : h 14 = h 96) (e2 : h 15 = h 97) (e3 : h 16 = h 98) (e4 : h 17 = h 99) : zP X (d + 2) 86 0 (z_ent [.ref 0, .int a1, .int a2, .int a3] 4) [] z_S0 h (zI fun r h1 => zP X (d + 2) 147 0 (z_ent [.ref 82, .int a1, .int a2, .int a3] 4) [] z_S0 h1 (zI fun r2 h2 => r = r2 ∧ h2 = h)) := by
  refine b86 (c122 (zsw (fun g => ?_) (fun g => c125 (zsw (fun g2 => ?_) (fun g2 => c119 (zsw (fun g3 => ?_) (fun g3 => c41 hn hle ?_)))))))
  · exact b147 (c133 (zsw (fun _ => ⟨rfl, rfl⟩) (fun q => absurd q g)))
  · exact b147 (c133 (zsw (fun _ => ⟨rfl, rfl⟩) (fun _ => c130 (zsw (fun _ => ⟨rfl, rfl⟩) (fun q => absurd q g2)))))
  · rw [eD] at g3
    exact b147 (c133 (zsw (fun _ => ⟨rfl, rfl⟩) (fun _ => c130 (zsw (fun _ => ⟨rfl, rfl⟩) (fun _ => c128 0 (h 82 0) (by decide) rfl (zsw (fun _ => ⟨rfl, rfl⟩) (fun q => absurd q g3)))))))
  · rw [eD] at g3
    refine b147 (c133 (zsw (fun q => absurd g q) (fun _ => c130 (zsw (fun q => absurd g2 q) (fun _ => c128 0 (h 82 0) (by decide) rfl (zsw (fun q => absurd g3 q) (fun _ => c146 hm hle hd ?_)))))))
    exact ⟨by rw [e1, e2, e3, e4], rfl⟩
theorem p_contractOf {a1 a2 : Int32} {n : Nat} (hn : h 20 5 = nI n) (hm : h 82 40 = nI n) (hle : n ≤ 20) (hd : ∀ i, i < n → ¬ h 109 i < -1) (e1 : h 22 = h 108) (e2 : h 23 = h 109) (e3 : h 24 = h 110) : zP X (d + 2) 90 0 (z_ent [.ref 0, .int a1, .int a2] 3) [] z_S0 h (zI fun r h1 => zP X (d + 2) 172 0 (z_ent [.ref 82, .int a1, .int a2] 3) [] z_S0 h1 (zI fun r2 h2 => r = r2 ∧ h2 = h)) := by
  refine b90 (c120 (zsw (fun g => ?_) (fun g => c125 (zsw (fun g2 => ?_) (fun g2 => c24 hn hle ?_)))))
  · exact b172 (c131 (zsw (fun _ => ⟨rfl, rfl⟩) (fun q => absurd q g)))
  · exact b172 (c131 (zsw (fun _ => ⟨rfl, rfl⟩) (fun _ => c130 (zsw (fun _ => ⟨rfl, rfl⟩) (fun q => absurd q g2)))))
  · refine b172 (c131 (zsw (fun q => absurd g q) (fun _ => c130 (zsw (fun q => absurd g2 q) (fun _ => c171 hm hle hd ?_)))))
    exact ⟨by rw [e1, e2, e3], rfl⟩
theorem p_sell {a1 a2 : Int32} {n : Nat} (hn : h 13 4 = nI n) (hm : h 82 16 = nI n) (hle : n ≤ 40) (hd : ∀ i, i < n → ¬ h 97 i < -1) (eD : h 0 16 = h 82 0) (e1 : h 14 = h 96) (e2 : h 15 = h 97) (e3 : h 16 = h 98) (e4 : h 17 = h 99) (e5 : h 12 = h 95) (e6 : h 0 17 = h 82 15) : zP X (d + 2) 84 0 (z_ent [.ref 0, .int a1, .int a2] 4) [] z_S0 h (zI fun r h1 => zP X (d + 2) 144 0 (z_ent [.ref 82, .int a1, .int a2] 4) [] z_S0 h1 (zI fun r2 h2 => r = r2 ∧ (h2 = h ∨ ∃ j v w, j ≤ 3 ∧ (v = h 12 j - a2 ∧ ¬ h 12 j < a2 ∧ zin a2 1 99999) ∧ h2 = z_up (z_up (z_up (z_up h 12 j v) 0 17 w) 95 j v) 82 15 w))) := by
  refine b84 (c122 (zsw (fun g => ?_) (fun g => c119 (zsw (fun g2 => ?_) (fun g2 => ⟨z_ibz 3 6 (by decide) (by decide) g, ?_⟩)))))
  · exact b144 (c133 (zsw (fun _ => ⟨rfl, Or.inl rfl⟩) (fun q => absurd q g)))
  · exact b144 (c133 (zsw (fun _ => ⟨rfl, Or.inl rfl⟩) (fun _ => c128 1 99999 (by decide) (by decide) (zsw (fun _ => ⟨rfl, Or.inl rfl⟩) (fun q => absurd q g2)))))
  · obtain ⟨j, hj, rfl⟩ := z_inN 3 (by decide) g
    have ib : z_ib (nI j) 6 := vp_in_nI (by omega) (by decide)
    have cl : (nI j).toNatClampNeg = j := nI_clamp (by omega)
    rw [cl]
    refine ⟨fun g3 => ?_, fun g3 => c41 hn hle (c127 ⟨ib, ib, ?_⟩)⟩
    · refine b144 (c133 (zsw (fun q => absurd g q) (fun _ => c128 1 99999 (by decide) (by decide) (zsw (fun q => absurd g2 q) (fun _ => ⟨ib, ?_⟩)))))
      rw [cl]
      exact ⟨fun _ => ⟨rfl, Or.inl rfl⟩, fun q => absurd (by rw [← e5]; exact g3) q⟩
    · refine b144 (c133 (zsw (fun q => absurd g q) (fun _ => c128 1 99999 (by decide) (by decide) (zsw (fun q => absurd g2 q) (fun _ => ⟨ib, ?_⟩)))))
      rw [cl]
      refine ⟨fun q => ?_, fun _ => c146 (h := z_up (z_up h 12 j (h 12 j - a2)) 0 17 (h 0 17 + a2 * sp_known (h 14) (h 15) (h 16) (h 17) n (nI j) (h 0 16) (h 0 16) / 100)) hm hle hd ⟨ib, ib, ?_⟩⟩
      · exact absurd (by rw [e5]; exact q) g3
      · refine ⟨?_, Or.inr ⟨j, h 12 j - a2, h 0 17 + a2 * sp_known (h 14) (h 15) (h 16) (h 17) n (nI j) (h 0 16) (h 0 16) / 100, hj, ⟨rfl, g3, g2⟩, ?_⟩⟩
        · show _ = a2 * sp_known (h 96) (h 97) (h 98) (h 99) n (nI j) (h 82 0) (h 82 0) / 100
          rw [e1, e2, e3, e4, eD]
        · show z_up (z_up _ 95 j (h 95 j - a2)) 82 15 (h 82 15 + a2 * sp_known (h 96) (h 97) (h 98) (h 99) n (nI j) (h 82 0) (h 82 0) / 100) = _
          rw [← e1, ← e2, ← e3, ← e4, ← eD, ← e5, ← e6]
end ZPR

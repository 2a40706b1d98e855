/-! fire, lies, cart, cartTold, taken -/
def z_frs (hp si : Nat → Int32) (p hu : Int32) : Nat → Nat → Int32 → (Nat → Int32) → Int32 × (Nat → Int32)
  | 0, _, b, f => (b, f)
  | m + 1, k, b, f => if hp k = p ∧ si k = 0 then z_frs hp si p hu m (k + 1) (b + f k * hu / 100) (upd f k (f k - f k * hu / 100)) else z_frs hp si p hu m (k + 1) b f
def z_lie (hp si dr : Nat → Int32) (p : Int32) : Nat → Nat → Int32 → Int32
  | 0, _, b => b
  | m + 1, k, b => z_lie hp si dr p m (k + 1) (b + if hp k = p ∧ si k = 0 then dr k else 0)
section ZCD
variable {X : Option (List Int32)} {d : Nat} {A : Int32 → zH → Prop}
theorem c20_loop {n : Nat} {p hu : Int32} (hle : n ≤ 40) : ∀ (m k : Nat) (b : Int32) (h : zH), k + m = n → h 1 10 = nI n → A (z_frs (h 4) (h 11) p hu m k b (h 10)).1 (z_pt h 10 (z_frs (h 4) (h 11) p hu m k b (h 10)).2) → zP X (d + 1) 20 5 [some (.ref 1), some (.int p), some (.int hu), some (.int b), some (.int (nI k)), none] [] z_S0 h (zI A)
  | 0, k, b, h, hk, hn, hA => by
    refine b20_5 ⟨fun g => ?_, fun _ => ?_⟩
    · rw [hn, nI_ltI (by omega) (by omega)] at g
      omega
    · simp only [z_frs, z_pt_id] at hA
      exact hA
  | m + 1, k, b, h, hk, hn, hA => by
    have ib : z_ib (nI k) 40 := vp_in_nI (by omega) (by decide)
    have cl : (nI k).toNatClampNeg = k := nI_clamp (by omega)
    refine b20_5 ⟨fun _ => c14 (by omega) (zsw (fun g => b20_55 ?_) (fun g => ⟨ib, ib, ib, b20_55 ?_⟩)), fun g => ?_⟩
    · rw [nI_1]
      refine c20_loop hle m (k + 1) b h (by omega) hn ?_
      simp only [z_frs, if_neg g] at hA
      exact hA
    · rw [nI_1, cl]
      refine c20_loop hle m (k + 1) _ _ (by omega) hn ?_
      simp only [z_frs, if_pos g] at hA
      rw [z_up_pt, z_pt_pt]
      exact hA
    · rw [hn, nI_ltI (by omega) (by omega)] at g
      omega
theorem c141_loop {n : Nat} {p hu : Int32} (hle : n ≤ 40) : ∀ (m k : Nat) (b : Int32) (h : zH), k + m = n → h 82 3 = nI n → A (z_frs (h 87) (h 94) p hu m k b (h 92)).1 (z_up (z_pt h 92 (z_frs (h 87) (h 94) p hu m k b (h 92)).2) 95 5 (h 95 5 + (z_frs (h 87) (h 94) p hu m k b (h 92)).1)) → zP X (d + 1) 141 27 [some (.ref 82), some (.int p), some (.int hu), some (.int b), some (.int (nI k)), none] [] z_S0 h (zI A)
  | 0, k, b, h, hk, hn, hA => by
    refine b141_27 ⟨fun g => ?_, fun _ => ?_⟩
    · rw [hn, nI_ltI (by omega) (by omega)] at g
      omega
    · simp only [z_frs, z_pt_id] at hA
      exact hA
  | m + 1, k, b, h, hk, hn, hA => by
    have ib : z_ib (nI k) 40 := vp_in_nI (by omega) (by decide)
    have cl : (nI k).toNatClampNeg = k := nI_clamp (by omega)
    have skip : ¬ (h 87 k = p ∧ h 94 k = 0) → zP X (d + 1) 141 88 [some (.ref 82), some (.int p), some (.int hu), some (.int b), some (.int (nI k)), none] [] z_S0 h (zI A) := by
      intro g
      refine b141_88 ?_
      rw [nI_1]
      refine c141_loop hle m (k + 1) b h (by omega) hn ?_
      simp only [z_frs, if_neg g] at hA
      exact hA
    refine b141_27 ⟨fun _ => ⟨ib, ?_⟩, fun g => ?_⟩
    · rw [cl]
      refine ⟨fun g1 => ⟨ib, fun g2 => ⟨ib, ib, ib, b141_88 ?_⟩, fun g2 => skip (fun q => g2 q.2)⟩, fun g1 => skip (fun q => g1 q.1)⟩
      rw [nI_1]
      refine c141_loop hle m (k + 1) _ _ (by omega) hn ?_
      simp only [z_frs, if_pos (show h 87 k = p ∧ h 94 k = 0 from ⟨g1, g2⟩)] at hA
      rw [z_up_pt h, z_pt_pt]
      exact hA
    · rw [hn, nI_ltI (by omega) (by omega)] at g
      omega
theorem z_frs_ok {hp si : Nat → Int32} {p : Int32} {u : Nat} (hu : u ≤ 100) : ∀ (m k : Nat) (b : Int32) (f : Nat → Int32), (∀ i, ∃ q, q ≤ 9999 ∧ f i = nI q) → ∀ i, ∃ q, q ≤ 9999 ∧ (z_frs hp si p (nI u) m k b f).2 i = nI q
  | 0, k, b, f, hf => hf
  | m + 1, k, b, f, hf => by
    unfold z_frs
    split
    · refine z_frs_ok hu m (k + 1) _ _ (upd_all (P := fun x => ∃ q, q ≤ 9999 ∧ x = nI q) hf k _ ?_)
      obtain ⟨v, hv, ev⟩ := hf k
      have h3 : v * u ≤ v * 100 := Nat.mul_le_mul_left v hu
      rw [ev, pk_mul, show (100 : Int32) = nI 100 from rfl, pk_div (by omega) (by decide) (by decide)]
      refine ⟨v - v * u / 100, by omega, ?_⟩
      have : nI (v - v * u / 100) + nI (v * u / 100) = nI v := by rw [nI_add, Nat.sub_add_cancel (by omega)]
      rw [← this, Int32.add_sub_cancel]
    · exact z_frs_ok hu m (k + 1) _ _ hf
theorem c21_loop {n : Nat} {p : Int32} {h : zH} (hle : n ≤ 40) (hn : h 1 10 = nI n) : ∀ (m k : Nat) (b : Int32), k + m = n → A (z_lie (h 4) (h 11) (h 10) p m k b) h → zP X (d + 1) 21 4 [some (.ref 1), some (.int p), some (.int b), some (.int (nI k))] [] z_S0 h (zI A)
  | 0, k, b, hk, hA => by
    refine b21_4 ⟨fun g => ?_, fun _ => hA⟩
    rw [hn, nI_ltI (by omega) (by omega)] at g
    omega
  | m + 1, k, b, hk, hA => by
    have ib : z_ib (nI k) 40 := vp_in_nI (by omega) (by decide)
    have cl : (nI k).toNatClampNeg = k := nI_clamp (by omega)
    refine b21_4 ⟨fun _ => c14 (by omega) (zsw (fun g => b21_32 ?_) (fun g => ⟨ib, b21_32 ?_⟩)), fun g => ?_⟩
    · rw [nI_1]
      refine c21_loop hle hn m (k + 1) _ (by omega) ?_
      rw [z_lie, if_neg g] at hA
      exact hA
    · rw [nI_1, cl]
      refine c21_loop hle hn m (k + 1) _ (by omega) ?_
      rw [z_lie, if_pos g] at hA
      exact hA
    · rw [hn, nI_ltI (by omega) (by omega)] at g
      omega
theorem c142_loop {n : Nat} {p : Int32} {h : zH} (hle : n ≤ 40) (hn : h 82 3 = nI n) : ∀ (m k : Nat) (b : Int32), k + m = n → A (z_lie (h 87) (h 94) (h 92) p m k b) h → zP X (d + 1) 142 14 [some (.ref 82), some (.int p), some (.int b), some (.int (nI k))] [] z_S0 h (zI A)
  | 0, k, b, hk, hA => by
    refine b142_14 ⟨fun g => ?_, fun _ => hA⟩
    rw [hn, nI_ltI (by omega) (by omega)] at g
    omega
  | m + 1, k, b, hk, hA => by
    have ib : z_ib (nI k) 40 := vp_in_nI (by omega) (by decide)
    have cl : (nI k).toNatClampNeg = k := nI_clamp (by omega)
    have skip : ¬ (h 87 k = p ∧ h 94 k = 0) → zP X (d + 1) 142 51 [some (.ref 82), some (.int p), none, some (.int (nI k))] [.int b] z_S0 h (zI A) := by
      intro g
      refine b142_51 (b142_52 ?_)
      rw [nI_1]
      refine c142_loop hle hn m (k + 1) _ (by omega) ?_
      rw [z_lie, if_neg g] at hA
      exact hA
    refine b142_14 ⟨fun _ => ⟨ib, ?_⟩, fun g => ?_⟩
    · rw [cl]
      refine ⟨fun g1 => ⟨ib, fun g2 => ⟨ib, b142_52 ?_⟩, fun g2 => skip (fun q => g2 q.2)⟩, fun g1 => skip (fun q => g1 q.1)⟩
      rw [nI_1]
      refine c142_loop hle hn m (k + 1) _ (by omega) ?_
      rw [z_lie, if_pos ⟨g1, g2⟩] at hA
      exact hA
    · rw [hn, nI_ltI (by omega) (by omega)] at g
      omega
end ZCD
section ZCE
variable {X : Option (List Int32)} {d : Nat} {h : zH}
theorem q_fire {a1 a2 : Int32} (R : zR h) : zP X (d + 2) 81 0 (z_ent [.ref 0, .int a1, .int a2] 4) [] z_S0 h (zI fun r h1 => zP X (d + 2) 141 0 (z_ent [.ref 82, .int a1, .int a2] 6) [] z_S0 h1 (zI fun r2 h2 => r = r2 ∧ zR h2)) := by
  obtain ⟨⟨n, hle, hn, hm⟩, e2, e3, e4, e5, e6, e7, e8, e9, e10, e11, hkd, hsi, hdr⟩ := R.g1
  refine b81 (c121 (zsw (fun g => ?_) (fun g => c119 (zsw (fun g2 => ?_) (fun g2 => b20 (c20_loop hle n 0 _ h (by omega) hn ?_))))))
  · exact b141 (c132 (zsw (fun _ => ⟨rfl, R⟩) (fun q => absurd q g)))
  · exact b141 (c132 (zsw (fun _ => ⟨rfl, R⟩) (fun _ => c128 0 100 (by decide) (by decide) (zsw (fun _ => ⟨rfl, R⟩) (fun q => absurd q g2)))))
  · refine b141 (c132 (zsw (fun q => absurd g q) (fun _ => c128 0 100 (by decide) (by decide) (zsw (fun q => absurd g2 q) (fun _ => ?_)))))
    obtain ⟨u, hu, rfl⟩ := z_inN 100 (by decide) g2
    refine c141_loop hle n 0 _ _ (by omega) hm ?_
    have eq : z_frs (h 87) (h 94) a1 (nI u) n 0 0 (h 92) = z_frs (h 4) (h 11) a1 (nI u) n 0 0 (h 10) := by
      rw [e4, e10, e11]
    show _ = (z_frs (h 87) (h 94) a1 (nI u) n 0 0 (h 92)).1 ∧ zR (z_up (z_pt _ 92 (z_frs (h 87) (h 94) a1 (nI u) n 0 0 (h 92)).2) 95 5 (h 95 5 + (z_frs (h 87) (h 94) a1 (nI u) n 0 0 (h 92)).1))
    rw [eq]
    refine ⟨rfl, R.g0, ⟨⟨n, hle, hn, hm⟩, e2, e3, e4, e5, e6, e7, e8, e9, rfl, e11, hkd, hsi, z_frs_ok hu n 0 _ _ hdr⟩, ⟨?_, R.g2.2.1, R.g2.2.2⟩, R.g3, R.g4, R.g5, R.g6, R.g7, R.g8, R.g9, R.g10, R.g11, R.g12, R.g13, R.g14⟩
    show upd (h 12) 5 (h 12 5 + _) = upd (h 95) 5 (h 95 5 + _)
    rw [R.g2.1]
theorem q_lies {a1 : Int32} (R : zR h) : zP X (d + 2) 82 0 (z_ent [.ref 0, .int a1] 2) [] z_S0 h (zI fun r h1 => zP X (d + 2) 142 0 (z_ent [.ref 82, .int a1] 4) [] z_S0 h1 (zI fun r2 h2 => r = r2 ∧ zR h2)) := by
  obtain ⟨⟨n, hle, hn, hm⟩, e2, e3, e4, e5, e6, e7, e8, e9, e10, e11, hkd, hsi, hdr⟩ := R.g1
  refine b82 (c121 (zsw (fun g => ?_) (fun g => b21 (c21_loop hle hn n 0 _ (by omega) ?_))))
  · exact b142 (c132 (zsw (fun _ => ⟨rfl, R⟩) (fun q => absurd q g)))
  · refine b142 (c132 (zsw (fun q => absurd g q) (fun _ => c142_loop hle hm n 0 _ (by omega) ⟨?_, R⟩)))
    rw [e4, e10, e11]
theorem q_cart {a1 a2 a3 a4 a5 a6 : Int32} (R : zR h) : zP X (d + 2) 77 0 (z_ent [.ref 0, .int a1, .int a2, .int a3, .int a4, .int a5, .int a6] 8) [] z_S0 h (zI fun r h1 => zP X (d + 2) 135 0 (z_ent [.ref 82, .int a1, .int a2, .int a3, .int a4, .int a5, .int a6] 7) [] z_S0 h1 (zI fun r2 h2 => r = r2 ∧ zR h2)) := by
  obtain ⟨⟨n, hle, hn, hm⟩, e2, e3, e4, e5, e6, e7, e8, e9, e10, e11, hkd, hsi, hdr⟩ := R.g1
  refine b77 (c119 (zsw (fun g1 => ?_) (fun g1 => c120 (zsw (fun g2 => ?_) (fun g2 => c121 (zsw (fun g3 => ?_) (fun g3 => c119 (zsw (fun g4 => ?_) (fun g4 => c119 (zsw (fun g5 => ?_) (fun g5 => c119 (zsw (fun g6 => ?_) (fun g6 => ?_)))))))))))))
  · exact b135 (c128 0 5 (by decide) (by decide) (zsw (fun _ => ⟨rfl, R⟩) (fun q => absurd q g1)))
  · exact b135 (c128 0 5 (by decide) (by decide) (zsw (fun _ => ⟨rfl, R⟩) (fun _ => c131 (zsw (fun _ => ⟨rfl, R⟩) (fun q => absurd q g2)))))
  · exact b135 (c128 0 5 (by decide) (by decide) (zsw (fun _ => ⟨rfl, R⟩) (fun _ => c131 (zsw (fun _ => ⟨rfl, R⟩) (fun _ => c132 (zsw (fun _ => ⟨rfl, R⟩) (fun q => absurd q g3)))))))
  · exact b135 (c128 0 5 (by decide) (by decide) (zsw (fun _ => ⟨rfl, R⟩) (fun _ => c131 (zsw (fun _ => ⟨rfl, R⟩) (fun _ => c132 (zsw (fun _ => ⟨rfl, R⟩) (fun _ => c128 1 9999 (by decide) (by decide) (zsw (fun _ => ⟨rfl, R⟩) (fun q => absurd q g4)))))))))
  · exact b135 (c128 0 5 (by decide) (by decide) (zsw (fun _ => ⟨rfl, R⟩) (fun _ => c131 (zsw (fun _ => ⟨rfl, R⟩) (fun _ => c132 (zsw (fun _ => ⟨rfl, R⟩) (fun _ => c128 1 9999 (by decide) (by decide) (zsw (fun _ => ⟨rfl, R⟩) (fun _ => c128 0 90 (by decide) (by decide) (zsw (fun _ => ⟨rfl, R⟩) (fun q => absurd q g5)))))))))))
  · exact b135 (c128 0 5 (by decide) (by decide) (zsw (fun _ => ⟨rfl, R⟩) (fun _ => c131 (zsw (fun _ => ⟨rfl, R⟩) (fun _ => c132 (zsw (fun _ => ⟨rfl, R⟩) (fun _ => c128 1 9999 (by decide) (by decide) (zsw (fun _ => ⟨rfl, R⟩) (fun _ => c128 0 90 (by decide) (by decide) (zsw (fun _ => ⟨rfl, R⟩) (fun _ => c128 0 9999 (by decide) (by decide) (zsw (fun _ => ⟨rfl, R⟩) (fun q => absurd q g6)))))))))))))
  · have hmx : h 82 3 = nI n := hm
    have go : ∀ {h1 : zH} {B : Int32 → zH → Prop}, (((h1 82 3) = 40 → B (-4) h1) ∧ (¬ (h1 82 3) = 40 → (z_ib (h1 82 3) 40 ∧ (z_ib (h1 82 3) 40 ∧ (z_ib (h1 82 3) 40 ∧ (z_ib (h1 82 3) 40 ∧ (z_ib (h1 82 3) 40 ∧ (z_ib (h1 82 3) 40 ∧ (z_ib (h1 82 3) 40 ∧ (z_ib (h1 82 3) 40 ∧ (z_ib (h1 82 3) 40 ∧ (z_ib (h1 82 3) 40 ∧ B (((h1 82 3) + 1) - 1) (z_up (z_up (z_up (z_up (z_up (z_up (z_up (z_up (z_up (z_up h1 85 (Int32.toNatClampNeg (h1 82 3)) a1) 86 (Int32.toNatClampNeg (h1 82 3)) a2) 87 (Int32.toNatClampNeg (h1 82 3)) a3) 88 (Int32.toNatClampNeg (h1 82 3)) a4) 89 (Int32.toNatClampNeg (h1 82 3)) a5) 90 (Int32.toNatClampNeg (h1 82 3)) a6) 91 (Int32.toNatClampNeg (h1 82 3)) (h1 82 0)) 92 (Int32.toNatClampNeg (h1 82 3)) (a4 - ((a4 * a5) / 100))) 93 (Int32.toNatClampNeg (h1 82 3)) ((z_up (z_up (z_up (z_up (z_up (z_up (z_up (z_up h1 85 (Int32.toNatClampNeg (h1 82 3)) a1) 86 (Int32.toNatClampNeg (h1 82 3)) a2) 87 (Int32.toNatClampNeg (h1 82 3)) a3) 88 (Int32.toNatClampNeg (h1 82 3)) a4) 89 (Int32.toNatClampNeg (h1 82 3)) a5) 90 (Int32.toNatClampNeg (h1 82 3)) a6) 91 (Int32.toNatClampNeg (h1 82 3)) (h1 82 0)) 92 (Int32.toNatClampNeg (h1 82 3)) (a4 - ((a4 * a5) / 100))) 92 (Int32.toNatClampNeg (h1 82 3)))) 82 3 ((h1 82 3) + 1)))))))))))))) → zP X (d + 2) 135 0 (z_ent [.ref 82, .int a1, .int a2, .int a3, .int a4, .int a5, .int a6] 7) [] z_S0 h1 (zI B) := by
      intro h1 B k
      exact b135 (c128 0 5 (by decide) (by decide) (zsw (fun q => absurd g1 q) (fun _ => c131 (zsw (fun q => absurd g2 q) (fun _ => c132 (zsw (fun q => absurd g3 q) (fun _ => c128 1 9999 (by decide) (by decide) (zsw (fun q => absurd g4 q) (fun _ => c128 0 90 (by decide) (by decide) (zsw (fun q => absurd g5 q) (fun _ => c128 0 9999 (by decide) (by decide) (zsw (fun q => absurd g6 q) (fun _ => k)))))))))))))
    by_cases hlt : n < 40
    · have ib : z_ib (nI n) 40 := vp_in_nI hlt (by decide)
      have cl : (nI n).toNatClampNeg = n := nI_clamp (by omega)
      have hlI : h 1 10 < 40 := by rw [hn]; exact (nI_ltI (by omega) (by decide)).mpr hlt
      refine ⟨fun _ => b12 ?_, fun q => absurd hlI q⟩
      rw [hn, cl]
      refine ⟨ib, ib, ib, ib, b13 ?_⟩
      rw [cl]
      refine ⟨ib, ib, ib, ib, ib, ib, go ⟨fun q => ?_, fun _ => ?_⟩⟩
      · have q : h 82 3 = nI 40 := q
        rw [hm, nI_eq (by omega) (by decide)] at q
        omega
      · have ib2 : z_ib (h 82 3) 40 := by rw [hm]; exact ib
        refine ⟨ib2, ib2, ib2, ib2, ib2, ib2, ib2, ib2, ib2, ib2, ?_⟩
        have cl2 : Int32.toNatClampNeg (h 82 3) = n := by rw [hm, cl]
        refine ⟨?_, R.g0, ⟨⟨n + 1, by omega, ?_, ?_⟩, ?_, ?_, ?_, ?_, ?_, ?_, ?_, ?_, ?_, e11, ?_, hsi, ?_⟩, R.g2, R.g3, R.g4, R.g5, ?_, R.g7, R.g8, R.g9, R.g10, R.g11, R.g12, R.g13, R.g14⟩
        · show nI n = h 82 3 + 1 - 1
          rw [hm, nI_1, nI_pred]
        · show nI n + 1 = nI (n + 1)
          rw [nI_1]
        · show h 82 3 + 1 = nI (n + 1)
          rw [hm, nI_1]
        · show upd (h 2) n a1 = upd (h 85) (Int32.toNatClampNeg (h 82 3)) a1
          rw [cl2, e2]
        · show upd (h 3) n a2 = upd (h 86) (Int32.toNatClampNeg (h 82 3)) a2
          rw [cl2, e3]
        · show upd (h 4) n a3 = upd (h 87) (Int32.toNatClampNeg (h 82 3)) a3
          rw [cl2, e4]
        · show upd (h 5) n (h 0 16) = upd (h 91) (Int32.toNatClampNeg (h 82 3)) (h 82 0)
          rw [cl2, e5, show h 0 16 = h 82 0 from R.g13]
        · show upd (h 6) n a4 = upd (h 88) (Int32.toNatClampNeg (h 82 3)) a4
          rw [cl2, e6]
        · show upd (h 7) n a5 = upd (h 89) (Int32.toNatClampNeg (h 82 3)) a5
          rw [cl2, e7]
        · show upd (h 8) n a6 = upd (h 90) (Int32.toNatClampNeg (h 82 3)) a6
          rw [cl2, e8]
        · show upd (h 9) n (a4 - a4 * a5 / 100) = upd (h 93) (Int32.toNatClampNeg (h 82 3)) (upd (h 92) (Int32.toNatClampNeg (h 82 3)) (a4 - a4 * a5 / 100) (Int32.toNatClampNeg (h 82 3)))
          rw [cl2, e9, show upd (h 92) n (a4 - a4 * a5 / 100) n = a4 - a4 * a5 / 100 from if_pos rfl]
        · show upd (h 10) n (upd (h 9) n (a4 - a4 * a5 / 100) n) = upd (h 92) (Int32.toNatClampNeg (h 82 3)) (a4 - a4 * a5 / 100)
          rw [cl2, e10, show upd (h 9) n (a4 - a4 * a5 / 100) n = a4 - a4 * a5 / 100 from if_pos rfl]
        · exact upd_all (P := fun x => ∃ q, q ≤ 5 ∧ x = nI q) hkd n a1 (z_inN 5 (by decide) g1)
        · show ∀ i, ∃ q, q ≤ 9999 ∧ upd (h 10) n (upd (h 9) n (a4 - a4 * a5 / 100) n) i = nI q
          rw [show upd (h 9) n (a4 - a4 * a5 / 100) n = a4 - a4 * a5 / 100 from if_pos rfl]
          refine upd_all (P := fun x => ∃ q, q ≤ 9999 ∧ x = nI q) hdr n _ ?_
          obtain ⟨v, hv, rfl⟩ := z_inN 9999 (by decide) ⟨fun q => g4.1 (Int32.lt_trans q (by decide)), g4.2⟩
          obtain ⟨u, hu, rfl⟩ := z_inN 90 (by decide) g5
          have h3 : v * u ≤ v * 90 := Nat.mul_le_mul_left v hu
          rw [pk_mul, show (100 : Int32) = nI 100 from rfl, pk_div (by omega) (by decide) (by decide)]
          refine ⟨v - v * u / 100, by omega, ?_⟩
          have : nI (v - v * u / 100) + nI (v * u / 100) = nI v := by rw [nI_add, Nat.sub_add_cancel (by omega)]
          rw [← this, Int32.add_sub_cancel]
        · obtain ⟨m, h1, h2, h3, h4, h5, h6, h7⟩ := R.g6
          refine ⟨m, h1, h2, h3, h4, h5, h6, fun i hi => ?_⟩
          obtain ⟨c, c1, c2, c3⟩ := h7 i hi
          refine ⟨c, ?_, c2, c3⟩
          show nI c < nI n + 1
          rw [hn, nI_ltI (by omega) (by omega)] at c1
          rw [nI_1, nI_ltI (by omega) (by omega)]
          omega
    · have e : n = 40 := by omega
      subst e
      refine ⟨fun q => absurd q ?_, fun _ => go ⟨fun _ => ⟨rfl, R⟩, fun q => absurd hm q⟩⟩
      rw [hn]
      decide
end ZCE

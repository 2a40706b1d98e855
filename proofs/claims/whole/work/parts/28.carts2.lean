/-! carts: the calls -/
def z_sft (hp dr kd : Nat → Int32) (p : Int32) : Nat → Nat → Int32 → Int32 → (Nat → Int32) → (Nat → Int32) → Int32 × (Nat → Int32) × (Nat → Int32)
  | 0, _, _, c, f, g => (c, f, g)
  | m + 1, k, l, c, f, g => if hp k = p ∧ f k = 0 then (if l < dr k then (c, f, g) else z_sft hp dr kd p m (k + 1) (l - dr k) (c + 1) (upd f k 1) (z_br5 (z_kd (kd k)) (dr k) g)) else z_sft hp dr kd p m (k + 1) l c f g
section ZCB
variable {X : Option (List Int32)} {d : Nat} {A : Int32 → zH → Prop}
theorem c79_loop {n : Nat} {p : Int32} (hle : n ≤ 40) : ∀ (m k : Nat) (l c : Int32) (h : zH), k + m = n → h 1 10 = nI n → (∀ i, ∃ q, q ≤ 5 ∧ h 2 i = nI q) → A (z_sft (h 4) (h 10) (h 2) p m k l c (h 11) (h 12)).1 (z_pt (z_pt h 11 (z_sft (h 4) (h 10) (h 2) p m k l c (h 11) (h 12)).2.1) 12 (z_sft (h 4) (h 10) (h 2) p m k l c (h 11) (h 12)).2.2) → zP X (d + 3) 79 28 [some (.ref 0), some (.int p), none, some (.int l), some (.int c), some (.int (nI k))] [] z_S0 h (zI A)
  | 0, k, l, c, h, hk, hn, hkd, hA => by
    refine b79_28 ⟨fun g => ?_, fun _ => ?_⟩
    · rw [hn, nI_ltI (by omega) (by omega)] at g
      omega
    · simp only [z_sft, z_pt_id] at hA
      exact hA
  | m + 1, k, l, c, h, hk, hn, hkd, hA => by
    have ib : z_ib (nI k) 40 := vp_in_nI (by omega) (by decide)
    have cl : (nI k).toNatClampNeg = k := nI_clamp (by omega)
    refine b79_28 ⟨fun _ => c14 (by omega) (zsw (fun g => b79_95 ?_) (fun g => ⟨ib, ?_⟩)), fun g => ?_⟩
    · rw [nI_1]
      refine c79_loop hle m (k + 1) l c h (by omega) hn hkd ?_
      simp only [z_sft, if_neg g] at hA
      exact hA
    · rw [cl]
      refine ⟨fun g2 => ?_, fun g2 => ⟨ib, c80 _ (by omega) (z_kd_ok (hkd k)).1 (z_kd_ok (hkd k)).2 (b79_95 ?_)⟩⟩
      · simp only [z_sft, if_pos g, if_pos g2, z_pt_id] at hA
        exact hA
      · rw [nI_1]
        refine c79_loop hle m (k + 1) _ _ _ (by omega) hn hkd ?_
        simp only [z_sft, if_pos g, if_neg g2] at hA
        have e : ∀ (f f2 g g2 : Nat → Int32), z_pt (z_pt (z_pt (z_pt h 12 g) 11 f) 11 f2) 12 g2 = z_pt (z_pt h 11 f2) 12 g2 := by
          intro f f2 g g2
          rw [z_pt_pt, z_pt_cm _ (by decide), z_pt_pt, z_pt_cm _ (by decide)]
        rw [e]
        exact hA
    · rw [hn, nI_ltI (by omega) (by omega)] at g
      omega
theorem c140_98 {k : Nat} {h : zH} {p l c : Int32} (q : Nat) (hj : k < 40) (hq : q ≤ 5) (hk : h 85 k = nI q) (hG : zG0 h) (hA : zP X (d + 2) 140 153 [some (.ref 82), some (.int p), none, some (.int l), some (.int (c + 1)), some (.int (nI k)), none] [] z_S0 (z_pt h 95 (z_br5 q (h 92 k) (h 95))) (zI A)) : zP X (d + 2) 140 98 [some (.ref 82), some (.int p), none, some (.int l), some (.int c), some (.int (nI k)), some (.int 0)] [] z_S0 h (zI A) := by
  have ib : z_ib (nI k) 40 := vp_in_nI (by omega) (by decide)
  have cl : (nI k).toNatClampNeg = k := nI_clamp (by omega)
  refine b140_98 ⟨fun _ => ⟨by decide, ib, c136 0 q rfl (by omega) hj hq hk hG ⟨by decide, b140_98 ⟨fun _ => ⟨by decide, ib, c136 1 q rfl (by omega) hj hq hk hG ⟨by decide, b140_98 ⟨fun _ => ⟨by decide, ib, c136 2 q rfl (by omega) hj hq hk hG ⟨by decide, b140_98 ⟨fun _ => ⟨by decide, ib, c136 3 q rfl (by omega) hj hq hk hG ⟨by decide, b140_98 ⟨fun g => absurd g (by decide), fun _ => c137 q hj hq hk hG ?_⟩⟩⟩, fun g => absurd (by decide) g⟩⟩⟩, fun g => absurd (by decide) g⟩⟩⟩, fun g => absurd (by decide) g⟩⟩⟩, fun g => absurd (by decide) g⟩
  rw [cl]
  simp only [z_up_pt, z_pt_pt]
  exact hA
theorem c140_loop {n : Nat} {p : Int32} (hle : n ≤ 40) : ∀ (m k : Nat) (l c : Int32) (h : zH), k + m = n → h 82 3 = nI n → (∀ i, ∃ q, q ≤ 5 ∧ h 85 i = nI q) → zG0 h → A (z_sft (h 87) (h 92) (h 85) p m k l c (h 94) (h 95)).1 (z_pt (z_pt h 94 (z_sft (h 87) (h 92) (h 85) p m k l c (h 94) (h 95)).2.1) 95 (z_sft (h 87) (h 92) (h 85) p m k l c (h 94) (h 95)).2.2) → zP X (d + 2) 140 30 [some (.ref 82), some (.int p), none, some (.int l), some (.int c), some (.int (nI k)), none] [] z_S0 h (zI A)
  | 0, k, l, c, h, hk, hn, hkd, hG, hA => by
    refine b140_30 ⟨fun g => ?_, fun _ => ?_⟩
    · rw [hn, nI_ltI (by omega) (by omega)] at g
      omega
    · simp only [z_sft, z_pt_id] at hA
      exact hA
  | m + 1, k, l, c, h, hk, hn, hkd, hG, hA => by
    have ib : z_ib (nI k) 40 := vp_in_nI (by omega) (by decide)
    have cl : (nI k).toNatClampNeg = k := nI_clamp (by omega)
    have skip : ¬ (h 87 k = p ∧ h 94 k = 0) → zP X (d + 2) 140 153 [some (.ref 82), some (.int p), none, some (.int l), some (.int c), some (.int (nI k)), none] [] z_S0 h (zI A) := by
      intro g
      refine b140_153 ?_
      rw [nI_1]
      refine c140_loop hle m (k + 1) l c h (by omega) hn hkd hG ?_
      simp only [z_sft, if_neg g] at hA
      exact hA
    refine b140_30 ⟨fun _ => ⟨ib, ?_⟩, fun g => ?_⟩
    · rw [cl]
      refine ⟨fun g1 => ⟨ib, fun g2 => ⟨ib, fun g3 => ?_, fun g3 => ⟨ib, ib, ?_⟩⟩, fun g2 => skip (fun q => g2 q.2)⟩, fun g1 => skip (fun q => g1 q.1)⟩
      · simp only [z_sft, if_pos (show h 87 k = p ∧ h 94 k = 0 from ⟨g1, g2⟩), if_pos g3, z_pt_id] at hA
        exact hA
      · refine c140_98 _ (by omega) (z_kd_ok (hkd k)).1 (z_kd_ok (hkd k)).2 hG (b140_153 ?_)
        rw [nI_1]
        refine c140_loop hle m (k + 1) _ _ _ (by omega) hn hkd hG ?_
        simp only [z_sft, if_pos (show h 87 k = p ∧ h 94 k = 0 from ⟨g1, g2⟩), if_neg g3] at hA
        have e : ∀ (f f2 g g2 : Nat → Int32), z_pt (z_pt (z_pt (z_pt h 94 f) 95 g) 94 f2) 95 g2 = z_pt (z_pt h 94 f2) 95 g2 := by
          intro f f2 g g2
          rw [z_pt_cm (z_pt h 94 f) (by decide), z_pt_pt, z_pt_pt]
        rw [z_up_pt, e]
        exact hA
    · rw [hn, nI_ltI (by omega) (by omega)] at g
      omega
theorem z_cnt_ge (f : Nat → Int32) (k : Nat) (v : Int32) : ∀ N, N ≤ k → z_cnt (upd f k v) N = z_cnt f N
  | 0, _ => rfl
  | N + 1, hN => by
    show z_cnt (upd f k v) N + (if upd f k v N = 0 then 0 else 1) = z_cnt f N + (if f N = 0 then 0 else 1)
    have e : upd f k v N = f N := if_neg (by omega)
    rw [z_cnt_ge f k v N (by omega), e]
theorem z_cnt_up (f : Nat → Int32) (k : Nat) (h0 : f k = 0) : ∀ N, k < N → z_cnt (upd f k 1) N = z_cnt f N + 1
  | 0, hN => by omega
  | N + 1, hN => by
    show z_cnt (upd f k 1) N + (if upd f k 1 N = 0 then 0 else 1) = z_cnt f N + (if f N = 0 then 0 else 1) + 1
    by_cases q : N = k
    · subst q
      have e : upd f N 1 N = 1 := if_pos rfl
      rw [z_cnt_ge f N 1 N (by omega), e, h0, if_pos rfl, if_neg (by decide)]
    · have e : upd f k 1 N = f N := if_neg q
      rw [z_cnt_up f k h0 N (by omega), e]
      omega
theorem z_cnt_le (f : Nat → Int32) : ∀ N, z_cnt f N ≤ N
  | 0 => Nat.le_refl 0
  | N + 1 => by
    have := z_cnt_le f N
    show z_cnt f N + (if f N = 0 then 0 else 1) ≤ N + 1
    split <;> omega
theorem z_of_N {q s v : Nat} (hq : q ≤ 5) (hs : s ≤ 3) (hv : v ≤ 9999) : ∃ w, w ≤ 9999 ∧ z_of q s (nI v) = nI w := by
  obtain ⟨h1, h2⟩ := zHU_ok (q * 4 + s) (by omega)
  generalize (zHU (q * 4 + s)).toNatClampNeg = c at h1 h2
  unfold z_of
  have h3 : v * c ≤ 9999 * 80 := Nat.mul_le_mul hv h1
  rw [h2, pk_mul, show (100 : Int32) = nI 100 from rfl, pk_div (by omega) (by decide) (by decide)]
  exact ⟨v * c / 100, by omega, rfl⟩
theorem z_sft_ok {hp dr kd : Nat → Int32} {p : Int32} (hdr : ∀ i, ∃ q, q ≤ 9999 ∧ dr i = nI q) (hkd : ∀ i, ∃ q, q ≤ 5 ∧ kd i = nI q) : ∀ (m k : Nat) (l c : Int32) (f g : Nat → Int32), k + m ≤ 40 → (∀ i, f i = 0 ∨ f i = 1) → (∃ q, g 0 = nI q ∧ q ≤ 10000 * z_cnt f 40) → (∀ i, (z_sft hp dr kd p m k l c f g).2.1 i = 0 ∨ (z_sft hp dr kd p m k l c f g).2.1 i = 1) ∧ ∃ q, (z_sft hp dr kd p m k l c f g).2.2 0 = nI q ∧ q ≤ 10000 * z_cnt (z_sft hp dr kd p m k l c f g).2.1 40
  | 0, k, l, c, f, g, _, hf, hg => ⟨hf, hg⟩
  | m + 1, k, l, c, f, g, hk, hf, hg => by
    unfold z_sft
    split
    · next g1 =>
      split
      · exact ⟨hf, hg⟩
      · refine z_sft_ok hdr hkd m (k + 1) _ _ _ _ (by omega) (upd_all (P := fun x => x = 0 ∨ x = 1) hf k 1 (Or.inr rfl)) ?_
        obtain ⟨q, e, hq⟩ := hg
        obtain ⟨v, hv, ev⟩ := hdr k
        obtain ⟨w, hw, ew⟩ := z_of_N (s := 0) (z_kd_ok (hkd k)).1 (by omega) hv
        refine ⟨q + w, ?_, ?_⟩
        · show g 0 + z_of (z_kd (kd k)) 0 (dr k) = _
          rw [e, ev, ew, nI_add]
        · rw [z_cnt_up f k g1.2 40 (by omega)]
          omega
    · exact z_sft_ok hdr hkd m (k + 1) _ _ _ _ (by omega) hf hg
end ZCB
section ZCC
variable {X : Option (List Int32)} {d : Nat} {h : zH}
theorem q_sift {a1 a2 : Int32} (R : zR h) : zP X (d + 3) 79 0 (z_ent [.ref 0, .int a1, .int a2] 6) [] z_S0 h (zI fun r h1 => zP X (d + 3) 140 0 (z_ent [.ref 82, .int a1, .int a2] 7) [] z_S0 h1 (zI fun r2 h2 => r = r2 ∧ zR h2)) := by
  obtain ⟨⟨n, hle, hn, hm⟩, e2, e3, e4, e5, e6, e7, e8, e9, e10, e11, hkd, hsi, hdr⟩ := R.g1
  refine b79 (c121 (zsw (fun g => ?_) (fun g => c119 (zsw (fun g2 => ?_) (fun g2 => c79_loop hle n 0 _ _ h (by omega) hn hkd ?_)))))
  · exact b140 (c132 (zsw (fun _ => ⟨rfl, R⟩) (fun q => absurd q g)))
  · exact b140 (c132 (zsw (fun _ => ⟨rfl, R⟩) (fun _ => c128 0 99999 (by decide) (by decide) (zsw (fun _ => ⟨rfl, R⟩) (fun q => absurd q g2)))))
  · refine b140 (c132 (zsw (fun q => absurd g q) (fun _ => c128 0 99999 (by decide) (by decide) (zsw (fun q => absurd g2 q) (fun _ => ?_)))))
    have ok := z_sft_ok (hp := h 4) (dr := h 10) (kd := h 2) (p := a1) hdr hkd n 0 a2 0 (h 11) (h 12) (by omega) hsi R.g2.2.2
    refine c140_loop (d := d + 1) hle n 0 _ _ _ (by omega) hm (show ∀ i, ∃ q, q ≤ 5 ∧ h 85 i = nI q from by rw [← e2]; exact hkd) R.g0 ?_
    have eq : z_sft (h 87) (h 92) (h 85) a1 n 0 a2 0 (h 94) (h 95) = z_sft (h 4) (h 10) (h 2) a1 n 0 a2 0 (h 11) (h 12) := by
      rw [e4, e10, e2, e11, R.g2.1]
    show _ = (z_sft (h 87) (h 92) (h 85) a1 n 0 a2 0 (h 94) (h 95)).1 ∧ zR (z_pt (z_pt _ 94 (z_sft (h 87) (h 92) (h 85) a1 n 0 a2 0 (h 94) (h 95)).2.1) 95 (z_sft (h 87) (h 92) (h 85) a1 n 0 a2 0 (h 94) (h 95)).2.2)
    rw [eq]
    exact ⟨rfl, R.g0, ⟨⟨n, hle, hn, hm⟩, e2, e3, e4, e5, e6, e7, e8, e9, e10, rfl, hkd, ok.1, hdr⟩, ⟨rfl, R.g2.2.1, ok.2⟩, R.g3, R.g4, R.g5, R.g6, R.g7, R.g8, R.g9, R.g10, R.g11, R.g12, R.g13, R.g14⟩
theorem q_sell {a1 a2 : Int32} (R : zR h) : zP X (d + 2) 84 0 (z_ent [.ref 0, .int a1, .int a2] 4) [] z_S0 h (zI fun r h1 => zP X (d + 2) 144 0 (z_ent [.ref 82, .int a1, .int a2] 4) [] z_S0 h1 (zI fun r2 h2 => r = r2 ∧ zR h2)) := by
  obtain ⟨⟨n, hle, hn, hm⟩, e1, e2, e3, e4, e5⟩ := R.g3
  refine zpair (p_sell hn hm hle (fun i _ => e5 i) R.g13 e1 e2 e3 e4 R.g2.1 R.g2.2.1) ?_
  rintro r r2 h2 ⟨e, rfl | ⟨j, v, w, hj, ⟨hv, hlt, hz⟩, rfl⟩⟩
  · exact ⟨e, R⟩
  · refine ⟨e, R.g0, R.g1, ⟨?_, rfl, ?_⟩, R.g3, R.g4, R.g5, R.g6, R.g7, R.g8, R.g9, R.g10, R.g11, R.g12, R.g13, R.g14⟩
    · show upd (h 12) j v = upd (h 95) j v
      rw [R.g2.1]
    · obtain ⟨q, e0, hq⟩ := R.g2.2.2
      show ∃ q, upd (h 12) j v 0 = nI q ∧ q ≤ 10000 * z_cnt (h 11) 40
      unfold upd
      split
      · next g =>
        subst g
        have hc := z_cnt_le (h 11) 40
        obtain ⟨b, hb, rfl⟩ := z_inN 99999 (by decide) ⟨fun q => hz.1 (Int32.lt_trans q (by decide)), hz.2⟩
        rw [e0, nI_ltI (by omega) (by omega)] at hlt
        refine ⟨q - b, ?_, by omega⟩
        rw [hv, e0]
        have : nI (q - b) + nI b = nI q := by rw [nI_add, Nat.sub_add_cancel (by omega)]
        rw [← this, Int32.add_sub_cancel]
      · exact ⟨q, e0, hq⟩
end ZCC

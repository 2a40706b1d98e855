/-! the calls prices and miss -/
theorem z_prz_cg {it it' : Nat → Int32} {sz a : Nat} {s dy D : Int32} (E : ∀ i, i < sz → it i = it' i) : ∀ (m k : Nat) (st : z_pS), z_prz it sz a s dy D m k st = z_prz it' sz a s dy D m k st
  | 0, _, _ => rfl
  | m + 1, k, st => by
    unfold z_prz
    by_cases q : a + k < sz
    · rw [if_pos q, if_pos q, E _ q, z_prz_cg E m (k + 1)]
    · rw [if_neg q, if_neg q]
section ZPY
variable {X : Option (List Int32)} {d : Nat} {h : zH} {A : Int32 → zH → Prop}
theorem q_prices {a1 a2 a3 a4 a5 a6 : Int32} (R : zR h) : zP X (d + 4) 116 0 (z_ent [.ref 0, .int a1, .int a2, .int a3, .int a4, .int a5, .int a6] 8) [] z_S0 h (zI fun r h1 => zP X (d + 4) 210 0 (z_ent [.ref 82, .int a1, .int a2, .int a3, .int a4, .int a5, .int a6] 11) [] z_S0 h1 (zI fun r2 h2 => r = r2 ∧ zR h2)) := by
  refine b116 (c122 (zsw (fun g1 => ?_) (fun g1 => c125 (zsw (fun g2 => ?_) (fun g2 => c124 (zsw (fun g3 => ?_) (fun g3 => c119 (zsw (fun g4 => ?_) (fun g4 => c119 (zsw (fun g5 => ?_) (fun g5 => ?_)))))))))))
  · exact b210 (c133 (zsw (fun _ => ⟨rfl, R⟩) (fun q => absurd q g1)))
  · exact b210 (c133 (zsw (fun q => absurd g1 q) (fun _ => c130 (zsw (fun _ => ⟨rfl, R⟩) (fun q => absurd q g2)))))
  · exact b210 (c133 (zsw (fun q => absurd g1 q) (fun _ => c130 (zsw (fun q => absurd g2 q) (fun _ => c205 (zsw (fun _ => ⟨rfl, R⟩) (fun q => absurd q g3)))))))
  · exact b210 (c133 (zsw (fun q => absurd g1 q) (fun _ => c130 (zsw (fun q => absurd g2 q) (fun _ => c205 (zsw (fun q => absurd g3 q) (fun _ => c128 0 2 (by decide) (by decide) (zsw (fun _ => ⟨rfl, R⟩) (fun q => absurd q g4)))))))))
  · exact b210 (c133 (zsw (fun q => absurd g1 q) (fun _ => c130 (zsw (fun q => absurd g2 q) (fun _ => c205 (zsw (fun q => absurd g3 q) (fun _ => c128 0 2 (by decide) (by decide) (zsw (fun q => absurd g4 q) (fun _ => c128 0 40 (by decide) (by decide) (zsw (fun _ => ⟨rfl, R⟩) (fun q => absurd q g5)))))))))))
  · obtain ⟨s, hs3, rfl⟩ := z_inN 3 (by decide) g3
    obtain ⟨N, hN, rfl⟩ := z_inN 40 (by decide) g5
    have hs : s < 4 := by omega
    have cl : (nI s).toNatClampNeg = s := nI_clamp (by omega)
    have ib : z_ib (nI s) 4 := vp_in_nI (by omega) (by decide)
    obtain ⟨k1, k2, ⟨sz, hsz, k3⟩, k4, k5⟩ := zG12_all R.g12 s hs
    obtain ⟨⟨n, hle, hn, hm⟩, e1, e2, e3, e4, e5⟩ := R.g3
    have go : ∀ {h1 : zH} {B : Int32 → zH → Prop}, (z_ib (nI s) 4 ∧ (((h1 137 s) < 0 → zP X (d + 4) 210 73 [some (.ref 82), some (.int a1), some (.int a2), some (.int (nI s)), none, some (.int a5), some (.int (nI N)), none, none, none, none] [] z_S0 h1 (zI B)) ∧ (¬ (h1 137 s) < 0 → (z_ib (nI s) 4 ∧ (((h1 137 s) = a4 → zP X (d + 4) 210 73 [some (.ref 82), some (.int a1), some (.int a2), some (.int (nI s)), none, some (.int a5), some (.int (nI N)), none, none, none, none] [] z_S0 h1 (zI B)) ∧ (¬ (h1 137 s) = a4 → B (-13) h1)))))) → zP X (d + 4) 210 0 (z_ent [.ref 82, .int a1, .int a2, .int (nI s), .int a4, .int a5, .int (nI N)] 11) [] z_S0 h1 (zI B) := by
      intro h1 B k
      refine b210 (c133 (zsw (fun q => absurd g1 q) (fun _ => c130 (zsw (fun q => absurd g2 q) (fun _ => c205 (zsw (fun q => absurd g3 q) (fun _ => c128 0 2 (by decide) (by decide) (zsw (fun q => absurd g4 q) (fun _ => c128 0 40 (by decide) (by decide) (zsw (fun q => absurd g5 q) (fun _ => ?_)))))))))))
      rw [cl]
      exact k
    rw [cl, z_sh_eq s hs]
    have miss : h (74 + 2 * s) 1 = -1 → zP X (d + 4) 116 77 [some (.ref 0), some (.int a1), some (.int a2), none, none, some (.int a5), some (.int (nI N)), some (.ref (74 + 2 * s))] [] z_S0 h (zI fun r h1 => zP X (d + 4) 210 0 (z_ent [.ref 82, .int a1, .int a2, .int (nI s), .int a4, .int a5, .int (nI N)] 11) [] z_S0 h1 (zI fun r2 h2 => r = r2 ∧ zR h2)) := by
      intro g
      have g0 : h 137 s < 0 := by rw [k1]; exact (z_sm k2).mpr g
      refine b116_77 (z_sh_mem s hs) (c43 hs (zsw (fun q => absurd g q) (fun _ => go ⟨ib, fun _ => b210_73 ⟨ib, ?_⟩, fun q => absurd g0 q⟩)))
      rw [cl]
      exact ⟨fun _ => ⟨rfl, R⟩, fun q => absurd g0 q⟩
    refine ⟨ib, c43 hs (zsw (fun g6 => ⟨fun g7 => b116_77 (z_sh_mem s hs) (c43 hs (zsw (fun _ => b117 (z_sh_mem s hs) ?_) (fun q => absurd q g6))), fun g7 => ?_⟩) (fun g6 => miss g6))⟩
    · have gm : ¬ h 137 s < 0 := by rw [k1]; exact fun q => g6 ((z_sm k2).mp q)
      have ge : h 137 s = a4 := by rw [k1]; exact g7
      have goM : ∀ {h1 : zH} {B : Int32 → zH → Prop}, h1 137 = h 137 → zP X (d + 4) 210 91 [some (.ref 82), some (.int a1), some (.int a2), some (.int (nI s)), none, some (.int a5), some (.int (nI N)), some (.int 0), some (.int 0), none, none] [] z_S0 h1 (zI B) → zP X (d + 4) 210 0 (z_ent [.ref 82, .int a1, .int a2, .int (nI s), .int a4, .int a5, .int (nI N)] 11) [] z_S0 h1 (zI B) := by
        intro h1 B e k
        have k' : zP X (d + 4) 210 73 [some (.ref 82), some (.int a1), some (.int a2), some (.int (nI s)), none, some (.int a5), some (.int (nI N)), none, none, none, none] [] z_S0 h1 (zI B) := by
          refine b210_73 ⟨ib, ?_⟩
          rw [cl, e]
          exact ⟨fun q => absurd q gm, fun _ => k⟩
        refine go ?_
        rw [e]
        exact ⟨ib, fun q => absurd q gm, fun _ => ⟨ib, fun _ => k', fun q => absurd ge q⟩⟩
      by_cases hneg : a5 < 0
      · by_cases hN0 : N = 0
        · subst hN0
          refine b117_12 (z_sh_mem s hs) ⟨fun q => absurd q (by decide), fun _ => goM rfl (b210_91 ⟨fun q => absurd q (by decide), fun _ => ⟨?_, R⟩⟩)⟩
          rw [Int32.sub_self]
        · have h0N : (0 : Int32) < nI N := (nI_ltI (a := 0) (by decide) (by omega)).mpr (by omega)
          refine b117_12 (z_sh_mem s hs) ⟨fun _ => c119 (zsw (fun _ => goM rfl (b210_91 ⟨fun _ => ⟨fun _ => ⟨rfl, R⟩, fun q => absurd ?_ q⟩, fun q => absurd h0N q⟩)) (fun q => absurd hneg q.1)), fun q => absurd h0N q⟩
          rw [zcmp_lt]
          have : Int32.toInt64 a5 + Int32.toInt64 0 = Int32.toInt64 a5 := Int64.add_zero _
          rw [this, show (0 : Int64) = Int32.toInt64 0 from rfl, zlt64]
          exact hneg
      · obtain ⟨a, ha, rfl⟩ := nI_of hneg
        rw [hn]
        refine c117_loop (d := d) (k := 0) hs hN hsz ha N n h (by omega) hn hle k3 ?_
        intro b st e
        have hM : (z_hX h st) 82 16 = nI n := hm
        have ok := z_prz_ok (it := h (74 + 2 * s + 1)) (sz := sz) (a := a) (s := a1) (dy := a2) (D := h 0 16) N 0 (z_sX h n) hle (by rw [← e2] at e5; exact e5)
        rw [e] at ok
        refine goM rfl (c210_loop (d := d + 1) (k := 0) (c := 0) hs hN hsz ha N n _ (by omega) hM hle (Nat.le_refl 0) ?_ ?_)
        · show h 138 s = nI sz
          rw [k4, k3]
        · intro b' st' e'
          have es : z_sM (z_hX h st) n = z_sX h n := by
            show ((n, h 96, h 97, h 98, h 99) : z_pS) = (n, h 14, h 15, h 16, h 17)
            rw [e1, e2, e3, e4]
          have e'' : z_prz (fun i => h 139 (40 * s + i)) sz a a1 a2 (h 82 0) N 0 (z_sM (z_hX h st) n) = (b', st') := e'
          rw [es, z_prz_cg (it' := h (74 + 2 * s + 1)) (fun i hi => k5 i (by omega)), ← show h 0 16 = h 82 0 from R.g13, e] at e''
          have q1 : b = b' := congrArg Prod.fst e''
          have q2 : st = st' := congrArg Prod.snd e''
          subst q1
          subst q2
          refine ⟨?_, R.g0, R.g1, R.g2, ⟨⟨st.1, ok.1, rfl, rfl⟩, rfl, rfl, rfl, rfl, ok.2.1⟩, R.g4, R.g5, R.g6, R.g7, R.g8, R.g9, R.g10, R.g11, R.g12, R.g13, R.g14⟩
          cases b with
          | false => rfl
          | true =>
            show nI st.1 - nI n = nI (0 + (st.1 - n))
            have h3 : n ≤ st.1 := ok.2.2
            have : nI (st.1 - n) + nI n = nI st.1 := by rw [nI_add, Nat.sub_add_cancel h3]
            rw [← this, Int32.add_sub_cancel, Nat.zero_add]
    · refine go ⟨ib, fun q => ?_, fun _ => ⟨ib, fun q => ?_, fun _ => ⟨rfl, R⟩⟩⟩
      · rw [k1] at q
        exact absurd ((z_sm k2).mp q) g6
      · rw [k1] at q
        exact absurd q g7
def z_wm (md mi : Nat → Int32) (dr dy : Int32) : Nat → Nat → Prop
  | 0, _ => False
  | m + 1, k => (md k = dr ∧ mi k = dy) ∨ z_wm md mi dr dy m (k + 1)
theorem c27_loop {n : Nat} {dr dy : Int32} (hn : h 49 9 = nI n) (hle : n ≤ 60) : ∀ (m k : Nat), k + m = n → (z_wm (h 54) (h 55) dr dy m k → A 1 h) → (¬ z_wm (h 54) (h 55) dr dy m k → A 0 h) → zP X d 27 2 [some (.ref 49), some (.int dr), some (.int dy), some (.int (nI k))] [] z_S0 h (zI A)
  | 0, k, hk, h1, h0 => by
    refine b27_2 ⟨fun g => ?_, fun _ => h0 (fun q => q)⟩
    rw [hn, nI_ltI (by omega) (by omega)] at g
    omega
  | m + 1, k, hk, h1, h0 => by
    have ib : z_ib (nI k) 60 := vp_in_nI (by omega) (by decide)
    have cl : (nI k).toNatClampNeg = k := nI_clamp (by omega)
    have go : ¬ (h 54 k = dr ∧ h 55 k = dy) → zP X d 27 32 [some (.ref 49), some (.int dr), some (.int dy), some (.int (nI k))] [] z_S0 h (zI A) := by
      intro g
      refine b27_32 ?_
      rw [nI_1]
      exact c27_loop hn hle m (k + 1) (by omega) (fun q => h1 (Or.inr q)) (fun q => h0 (fun z => z.elim g q))
    refine b27_2 ⟨fun _ => ⟨ib, ?_⟩, fun g => ?_⟩
    · rw [cl]
      exact ⟨fun g1 => ⟨ib, fun g2 => h1 (Or.inl ⟨g1, g2⟩), fun g2 => go (fun q => g2 q.2)⟩, fun g1 => go (fun q => g1 q.1)⟩
    · rw [hn, nI_ltI (by omega) (by omega)] at g
      omega
theorem c183_loop {n : Nat} {dr : Int32} (hn : h 82 53 = nI n) (hle : n ≤ 60) : ∀ (m k : Nat) (w : Int32), k + m = n → (∀ w' : Int32, (w' = 0 ↔ (w = 0 ∧ ¬ z_wm (h 118) (h 119) dr (h 82 0) m k)) → zP X (d + 1) 183 39 [some (.ref 82), some (.int dr), some (.int w'), some (.int (nI n))] [] z_S0 h (zI A)) → zP X (d + 1) 183 39 [some (.ref 82), some (.int dr), some (.int w), some (.int (nI k))] [] z_S0 h (zI A)
  | 0, k, w, hk, h1 => by
    have e : k = n := by omega
    subst e
    exact h1 w ⟨fun q => ⟨q, fun z => z⟩, fun q => q.1⟩
  | m + 1, k, w, hk, h1 => by
    have ib : z_ib (nI k) 60 := vp_in_nI (by omega) (by decide)
    have cl : (nI k).toNatClampNeg = k := nI_clamp (by omega)
    have go : ∀ v : Int32, (v = 0 ↔ (w = 0 ∧ ¬ (h 118 k = dr ∧ h 119 k = h 82 0))) → zP X (d + 1) 183 79 [some (.ref 82), some (.int dr), none, some (.int (nI k))] [.int v] z_S0 h (zI A) := by
      intro v hv
      refine b183_79 ?_
      rw [nI_1]
      refine c183_loop hn hle m (k + 1) v (by omega) (fun w' hw' => h1 w' ?_)
      rw [hw', hv]
      exact ⟨fun q => ⟨q.1.1, fun z => z.elim q.1.2 q.2⟩, fun q => ⟨⟨q.1, fun z => q.2 (Or.inl z)⟩, fun z => q.2 (Or.inr z)⟩⟩
    refine b183_39 ⟨fun _ => ⟨fun g0 => ⟨ib, ?_⟩, fun g0 => b183_74 (go 1 ⟨fun q => absurd q (by decide), fun q => absurd q.1 g0⟩)⟩, fun g => ?_⟩
    · rw [cl]
      refine ⟨fun g1 => ⟨ib, fun g2 => b183_74 (go 1 ⟨fun q => absurd q (by decide), fun q => absurd ⟨g2, g1⟩ q.2⟩), fun g2 => b183_78 (go 0 ⟨fun _ => ⟨g0, fun q => g2 q.1⟩, fun _ => rfl⟩)⟩, fun g1 => b183_78 (go 0 ⟨fun _ => ⟨g0, fun q => g1 q.2⟩, fun _ => rfl⟩)⟩
    · rw [hn, nI_ltI (by omega) (by omega)] at g
      omega
def z_mo (pa md mi : Nat → Int32) (p dy : Int32) : Nat → Nat → Int32 → Int32
  | 0, _, a => a
  | m + 1, k, a => z_mo pa md mi p dy m (k + 1) (if mi k = dy ∧ pa (md k).toNatClampNeg = p then a + 1 else a)
theorem c29_loop {n : Nat} {p dy : Int32} (hn : h 49 9 = nI n) (hle : n ≤ 60) (hd : ∀ i, ∃ j, j < 12 ∧ h 54 i = nI j) : ∀ (m k : Nat) (a : Int32), k + m = n → A (z_mo (h 50) (h 54) (h 55) p dy m k a) h → zP X d 29 5 [some (.ref 49), some (.int p), some (.int dy), some (.int a), some (.int (nI k))] [] z_S0 h (zI A)
  | 0, k, a, hk, hA => by
    refine b29_5 ⟨fun g => ?_, fun _ => hA⟩
    rw [hn, nI_ltI (by omega) (by omega)] at g
    omega
  | m + 1, k, a, hk, hA => by
    have ib : z_ib (nI k) 60 := vp_in_nI (by omega) (by decide)
    have cl : (nI k).toNatClampNeg = k := nI_clamp (by omega)
    have ib2 : z_ib (h 54 k) 12 := by
      obtain ⟨j, hj, e⟩ := hd k
      rw [e]
      exact vp_in_nI hj (by decide)
    have go : ∀ v, (if h 55 k = dy ∧ h 50 (h 54 k).toNatClampNeg = p then a + 1 else a) = v → zP X d 29 44 [some (.ref 49), some (.int p), some (.int dy), some (.int v), some (.int (nI k))] [] z_S0 h (zI A) := by
      intro v hv
      refine b29_44 ?_
      rw [nI_1]
      refine c29_loop hn hle hd m (k + 1) v (by omega) ?_
      rw [z_mo, hv] at hA
      exact hA
    refine b29_5 ⟨fun _ => ⟨ib, ?_⟩, fun g => ?_⟩
    · rw [cl]
      exact ⟨fun g1 => ⟨ib, ib2, fun g2 => go _ (if_pos ⟨g1, g2⟩), fun g2 => go _ (if_neg fun q => g2 q.2)⟩, fun g1 => go _ (if_neg fun q => g1 q.1)⟩
    · rw [hn, nI_ltI (by omega) (by omega)] at g
      omega
theorem c182_loop {n : Nat} {p dy : Int32} (hn : h 82 53 = nI n) (hle : n ≤ 60) (hd : ∀ i, ∃ j, j < 12 ∧ h 118 i = nI j) : ∀ (m k : Nat) (a : Int32), k + m = n → A (z_mo (h 114) (h 118) (h 119) p dy m k a) h → zP X d 182 5 [some (.ref 82), some (.int p), some (.int dy), some (.int a), some (.int (nI k))] [] z_S0 h (zI A)
  | 0, k, a, hk, hA => by
    refine b182_5 ⟨fun g => ?_, fun _ => hA⟩
    rw [hn, nI_ltI (by omega) (by omega)] at g
    omega
  | m + 1, k, a, hk, hA => by
    have ib : z_ib (nI k) 60 := vp_in_nI (by omega) (by decide)
    have cl : (nI k).toNatClampNeg = k := nI_clamp (by omega)
    have ib2 : z_ib (h 118 k) 12 := by
      obtain ⟨j, hj, e⟩ := hd k
      rw [e]
      exact vp_in_nI hj (by decide)
    have go : ∀ w, (if h 119 k = dy ∧ h 114 (h 118 k).toNatClampNeg = p then a + 1 else a) = a + w → zP X d 182 47 [some (.ref 82), some (.int p), some (.int dy), none, some (.int (nI k))] [.int w, .int a] z_S0 h (zI A) := by
      intro w hv
      refine b182_47 ?_
      rw [nI_1]
      refine c182_loop hn hle hd m (k + 1) _ (by omega) ?_
      rw [z_mo, hv] at hA
      exact hA
    have no : ¬ (h 119 k = dy ∧ h 114 (h 118 k).toNatClampNeg = p) → zP X d 182 46 [some (.ref 82), some (.int p), some (.int dy), none, some (.int (nI k))] [.int a] z_S0 h (zI A) := fun g => b182_46 (go 0 (by rw [if_neg g, Int32.add_zero]))
    refine b182_5 ⟨fun _ => ⟨ib, ?_⟩, fun g => ?_⟩
    · rw [cl]
      exact ⟨fun g1 => ⟨ib, ib2, fun g2 => go 1 (if_pos ⟨g1, g2⟩), fun g2 => no fun q => g2 q.2⟩, fun g1 => no fun q => g1 q.1⟩
    · rw [hn, nI_ltI (by omega) (by omega)] at g
      omega
theorem c29 {n : Nat} {p dy : Int32} (hn : h 49 9 = nI n) (hle : n ≤ 60) (hd : ∀ i, ∃ j, j < 12 ∧ h 54 i = nI j) (k : A (z_mo (h 50) (h 54) (h 55) p dy n 0 0) h) : zP X d 29 0 (z_ent [.ref 49, .int p, .int dy] 5) [] z_S0 h (zI A) := b29 (c29_loop (k := 0) hn hle hd n 0 (by omega) k)
theorem c182 {n : Nat} {p dy : Int32} (hn : h 82 53 = nI n) (hle : n ≤ 60) (hd : ∀ i, ∃ j, j < 12 ∧ h 118 i = nI j) (k : A (z_mo (h 114) (h 118) (h 119) p dy n 0 0) h) : zP X d 182 0 (z_ent [.ref 82, .int p, .int dy] 5) [] z_S0 h (zI A) := b182 (c182_loop (k := 0) hn hle hd n 0 (by omega) k)
theorem q_miss {a1 : Int32} (R : zR h) : zP X (d + 2) 100 0 (z_ent [.ref 0, .int a1] 2) [] z_S0 h (zI fun r h1 => zP X (d + 2) 183 0 (z_ent [.ref 82, .int a1] 4) [] z_S0 h1 (zI fun r2 h2 => r = r2 ∧ zR h2)) := by
  obtain ⟨⟨N, hNl, hN, hN2, hp⟩, ⟨n, hle, hn, hm⟩, e1, e2, e3, e4, e5, e6, e7, e8⟩ := R.g7
  have key : zin a1 0 (h 49 8 - 1) ↔ zhas a1 N := by rw [hN]; exact zhas_iff (by omega)
  refine b100 (c119 (zsw (fun g => ?_) (fun g => ?_)))
  · refine b183 ⟨fun _ => ⟨rfl, R⟩, fun q => ⟨fun q2 => ?_, fun _ => ⟨rfl, R⟩⟩⟩
    rw [hN2] at q2
    exact absurd (key.mpr ⟨q, q2⟩) g
  · obtain ⟨j, hj, rfl⟩ := zhasN (by omega) (key.mp g)
    have ib : z_ib (nI j) 12 := vp_in_nI (by omega) (by decide)
    have cl : (nI j).toNatClampNeg = j := nI_clamp (by omega)
    have lt2 : nI j < h 82 48 := by rw [hN2]; exact (nI_ltI (by omega) (by omega)).mpr hj
    have start : ∀ {h1 : zH} {B : Int32 → zH → Prop}, h1 82 48 = h 82 48 → h1 82 0 = h 82 0 → h1 116 = h 116 → h1 82 53 = nI n → (∀ w' : Int32, (w' = 0 ↔ (h 116 j = h 82 0 - h 82 0 / 6 * 6 ∧ ¬ z_wm (h1 118) (h1 119) (nI j) (h 82 0) n 0)) → zP X (d + 2) 183 39 [some (.ref 82), some (.int (nI j)), some (.int w'), some (.int (nI n))] [] z_S0 h1 (zI B)) → zP X (d + 2) 183 0 (z_ent [.ref 82, .int (nI j)] 4) [] z_S0 h1 (zI B) := by
      intro h1 B f1 f2 f3 f4 k
      refine b183 ⟨fun q => absurd q (key.mp g).1, fun _ => ⟨fun _ => ⟨ib, ?_⟩, fun q => ?_⟩⟩
      · rw [cl, f3, f2]
        refine ⟨fun g1 => b183_36 (c183_loop (k := 0) f4 hle n 0 (by omega) (fun w' hw' => k w' ?_)), fun g1 => b183_36 (c183_loop (k := 0) f4 hle n 1 (by omega) (fun w' hw' => k w' ?_))⟩
        · rw [hw', f2]
          exact ⟨fun q => ⟨g1, q.2⟩, fun q => ⟨rfl, q.2⟩⟩
        · rw [hw']
          exact ⟨fun q => absurd q.1 (by decide), fun q => absurd q.1 g1⟩
      · rw [f1] at q
        exact absurd lt2 q
    have state : ¬ (h 116 j = h 82 0 - h 82 0 / 6 * 6 ∧ ¬ z_wm (h 118) (h 119) (nI j) (h 82 0) n 0) → zP X (d + 2) 183 0 (z_ent [.ref 82, .int (nI j)] 4) [] z_S0 h (zI fun r2 h2 => (-3 : Int32) = r2 ∧ zR h2) := by
      intro g1
      refine start rfl rfl rfl hm (fun w' hw' => b183_39 ⟨fun q => ?_, fun _ => ⟨fun q => absurd (hw'.mp q) g1, fun _ => ⟨rfl, R⟩⟩⟩)
      rw [hm, nI_ltI (by omega) (by omega)] at q
      omega
    have dy : h 0 16 = h 82 0 := R.g13
    refine ⟨ib, ?_⟩
    rw [cl, e3, dy]
    refine ⟨fun g1 => b27 (c27_loop (k := 0) hn hle n (by omega) (fun g2 => ⟨fun q => absurd q (by decide), fun _ => state ?_⟩) (fun g2 => ⟨fun _ => ⟨fun g3 => ?_, fun g3 => ?_⟩, fun q => absurd rfl q⟩)), fun g1 => state (fun q => g1 q.1)⟩
    · rw [e5, e6] at g2
      exact fun q => q.2 g2
    · rw [hn] at g3
      have hlt : n < 60 := (nI_ltI (b := 60) (by omega) (by decide)).mp g3
      have ibn : z_ib (nI n) 60 := vp_in_nI hlt (by decide)
      have cln : (nI n).toNatClampNeg = n := nI_clamp (by omega)
      refine b28 ?_
      rw [hn, cln, dy]
      refine ⟨ibn, ibn, ib, c29 (n := n + 1) ?_ (by omega) ?_ ?_⟩
      · show nI n + 1 = nI (n + 1)
        rw [nI_1]
      · exact upd_all (P := fun x => ∃ j, j < 12 ∧ x = nI j) e7 n (nI j) ⟨j, by omega, rfl⟩
      · rw [e5, e6] at g2
        refine start rfl rfl rfl hm (fun w' hw' => b183_39 ⟨fun q => ?_, fun _ => ⟨fun q => ⟨fun q2 => ?_, fun _ => ?_⟩, fun q => absurd (hw'.mpr ⟨g1, g2⟩) q⟩⟩)
        · have q : nI n < h 82 53 := q
          rw [hm, nI_ltI (by omega) (by omega)] at q
          omega
        · have q2 : h 82 53 = nI 60 := q2
          rw [hm, nI_eq (by omega) (by decide)] at q2
          omega
        · have ibm : z_ib (h 82 53) 60 := by rw [hm]; exact ibn
          have clm : Int32.toNatClampNeg (h 82 53) = n := by rw [hm, cln]
          refine ⟨ibm, ibm, ib, c182 (n := n + 1) ?_ (by omega) ?_ ?_⟩
          · show h 82 53 + 1 = nI (n + 1)
            rw [hm, nI_1]
          · show ∀ i, ∃ j', j' < 12 ∧ upd (h 118) (Int32.toNatClampNeg (h 82 53)) (nI j) i = nI j'
            rw [clm, ← e5]
            exact upd_all (P := fun x => ∃ j, j < 12 ∧ x = nI j) e7 n (nI j) ⟨j, by omega, rfl⟩
          · have cl' : Int32.toNatClampNeg (nI j) = j := cl
            refine ⟨?_, R.g0, R.g1, R.g2, R.g3, R.g4, R.g5, R.g6, ⟨⟨N, hNl, hN, hN2, hp⟩, ⟨n + 1, by omega, ?_, ?_⟩, e1, e2, e3, e4, ?_, ?_, ?_, e8⟩, R.g8, R.g9, R.g10, R.g11, R.g12, R.g13, R.g14⟩
            · show z_mo (h 50) (upd (h 54) n (nI j)) (upd (h 55) n (h 82 0)) (h 50 j) (h 0 16) (n + 1) 0 0 = z_mo (h 114) (upd (h 118) (Int32.toNatClampNeg (h 82 53)) (nI j)) (upd (h 119) (Int32.toNatClampNeg (h 82 53)) (h 82 0)) (h 114 (Int32.toNatClampNeg (nI j))) (h 82 0) (n + 1) 0 0
              rw [clm, cl', e1, e5, e6, dy]
            · show nI n + 1 = nI (n + 1)
              rw [nI_1]
            · show h 82 53 + 1 = nI (n + 1)
              rw [hm, nI_1]
            · show upd (h 54) n (nI j) = upd (h 118) (Int32.toNatClampNeg (h 82 53)) (nI j)
              rw [clm, e5]
            · show upd (h 55) n (h 82 0) = upd (h 119) (Int32.toNatClampNeg (h 82 53)) (h 82 0)
              rw [clm, e6]
            · exact upd_all (P := fun x => ∃ j, j < 12 ∧ x = nI j) e7 n (nI j) ⟨j, by omega, rfl⟩
    · have h60 : n = 60 := by
        rw [hn] at g3
        have : ¬ n < 60 := fun q => g3 ((nI_ltI (a := n) (b := 60) (by omega) (by decide)).mpr q)
        omega
      rw [e5, e6] at g2
      refine start rfl rfl rfl hm (fun w' hw' => b183_39 ⟨fun q => ?_, fun _ => ⟨fun q => ⟨fun q2 => ⟨rfl, R⟩, fun q2 => ?_⟩, fun q => absurd (hw'.mpr ⟨g1, g2⟩) q⟩⟩)
      · rw [hm, nI_ltI (by omega) (by omega)] at q
        omega
      · rw [hm, h60] at q2
        exact absurd rfl q2
end ZPY

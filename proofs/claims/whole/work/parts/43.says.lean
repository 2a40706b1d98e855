/-! says, owed, whose, finds -/
theorem z_txp {st en co cm : Nat → Int32} {t pt : Nat} (h : zTx st en co cm t) (hp : pt < 3) : ∃ (L : List Nat) (o : Nat), zW L ∧ o + L.length ≤ 160 ∧ (∀ j, j < L.length → st (o + j) = z_xc (L.getD j 0)) ∧ en pt = nI (o + L.length) ∧ ((pt = 0 ∧ o = 0) ∨ (0 < pt ∧ en (pt - 1) = nI o)) ∧ cm (3 * t + pt) = nI L.length ∧ (∀ j, j < L.length → co (160 * (3 * t + pt) + j) = z_mc (L.getD j 0)) := by
  obtain ⟨L0, L1, L2, w0, w1, w2, hl, s0, s1, s2, e0, e1, e2, m0, m1, m2, c0, c1, c2⟩ := h
  have hc : pt = 0 ∨ pt = 1 ∨ pt = 2 := by omega
  rcases hc with rfl | rfl | rfl
  · exact ⟨L0, 0, w0, by omega, fun j hj => by rw [Nat.zero_add]; exact s0 j hj, by rw [Nat.zero_add]; exact e0, Or.inl ⟨rfl, rfl⟩, m0, c0⟩
  · exact ⟨L1, L0.length, w1, by omega, s1, e1, Or.inr ⟨by decide, e0⟩, m1, c1⟩
  · exact ⟨L2, L0.length + L1.length, w2, by omega, s2, e2, Or.inr ⟨by decide, e1⟩, m2, c2⟩
theorem z_text {h : zH} (R : zR h) : ∃ T, h 20 4 = nI T ∧ 1 ≤ T ∧ T ≤ 6 ∧ ∀ t, t < T → zTx (h (z_tx t + 1)) (h (z_tx t + 2)) (h 101) (h 102) t := by
  obtain ⟨-, T, hT1, hT6, hTx, hTm, t0, t1, t2, t3, t4, t5⟩ := R.g4
  refine ⟨T, hTx, hT1, hT6, fun t ht => ?_⟩
  match t, ht with
  | 0, ht => exact t0 ht
  | 1, ht => exact t1 ht
  | 2, ht => exact t2 ht
  | 3, ht => exact t3 ht
  | 4, ht => exact t4 ht
  | 5, ht => exact t5 ht
  | t + 6, ht => omega
theorem z_forceT {pa fr ch : Nat → Int32} {n T : Nat} {p dy : Int32} (hT : 1 ≤ T) (P : ∀ i, ∃ t, t < T ∧ ch i = nI t) : ∃ t, t < T ∧ sp_force pa fr ch n p dy = nI t := by
  unfold sp_force
  cases z_it (fo_st pa fr p dy) n 0 none with
  | none => exact ⟨0, by omega, rfl⟩
  | some j => exact P j
theorem zE_pt {h g : zH} {k : Nat} {f : Nat → Int32} (hk : ∀ i, zScr k i = true) (E : ∀ c i, zScr c i = false → g c i = h c i) : ∀ c i, zScr c i = false → (z_pt g k f) c i = h c i := fun c i q => by
  by_cases e : c = k
  · subst e
    rw [hk] at q
    cases q
  · rw [z_ptN _ _ e]
    exact E c i q
theorem zE_up {h g : zH} {k j : Nat} {v : Int32} (hk : ∀ i, zScr k i = true) (E : ∀ c i, zScr c i = false → g c i = h c i) : ∀ c i, zScr c i = false → (z_up g k j v) c i = h c i := zE_pt hk E
theorem z_txS {t : Nat} (ht : t < 6) (i : Nat) : zScr (z_tx t + 1) i = false ∧ zScr (z_tx t + 2) i = false := by
  match t, ht with
  | 0, _ => exact ⟨rfl, rfl⟩
  | 1, _ => exact ⟨rfl, rfl⟩
  | 2, _ => exact ⟨rfl, rfl⟩
  | 3, _ => exact ⟨rfl, rfl⟩
  | 4, _ => exact ⟨rfl, rfl⟩
  | 5, _ => exact ⟨rfl, rfl⟩
  | t + 6, h => omega
theorem z_txM : ∀ t, t < 6 → z_tx t ∈ ([25, 28, 31, 34, 37, 40] : List Nat) := by decide
section ZVB
variable {X : Option (List Int32)} {d : Nat} {A : Int32 → zH → Prop} {J : Int64 → zH → Prop}
theorem c72 {h : zH} {t pt o : Nat} {L : List Nat} {nm : Nat → Int32} (ht : t ∈ ([25, 28, 31, 34, 37, 40] : List Nat)) (hpt : pt < 3) (hnm : ∀ c, c < 6 → h 43 c = nm c) (hw : zW L) (ho : o + L.length ≤ 160) (hco : ∀ j, j < L.length → h (t + 1) (o + j) = z_xc (L.getD j 0)) (hen : h (t + 2) pt = nI (o + L.length)) (hst : (pt = 0 ∧ o = 0) ∨ (0 < pt ∧ h (t + 2) (pt - 1) = nI o)) (hA : ∀ f, A ((ev_run nm L []).headD 0) (z_pt h 44 f)) : zP X (d + 2) 72 0 (z_ent [.ref t, .int (nI pt), .ref 43, .ref 44] 7) [] z_S0 h (zI A) := by
  have key : zP X (d + 2) 72 19 [some (.ref t), some (.int (nI pt)), some (.ref 43), some (.ref 44), some (.int 0), none, none] [.int (nI o)] z_S0 h (zI A) := by
    refine b72_19 ht ?_
    have := c72_21 (X := X) (d := d) (A := A) (f := h 44) ht hpt hnm L o [] hw.1 ho (Nat.zero_le _) (hw.2 0) hco hen trivial hA
    rw [z_pt_id] at this
    exact this
  refine b72 ht ⟨fun g => ?_, fun g => ?_⟩
  · have p0 : pt = 0 := (nI_eq (b := 0) (by omega) (by decide)).mp g
    rcases hst with ⟨-, o0⟩ | ⟨q, -⟩
    · rw [o0] at key
      exact key
    · omega
  · have p0 : ¬ pt = 0 := fun q => g (by rw [q]; rfl)
    have e1 : nI pt - 1 = nI (pt - 1) := z_sbm (m := 1) (by omega)
    rw [e1, nI_clamp (show pt - 1 < 2 ^ 31 by omega)]
    refine ⟨vp_in_nI (by omega) (by decide), ?_⟩
    rcases hst with ⟨q, -⟩ | ⟨-, q⟩
    · omega
    · rw [q]
      exact key
theorem c72v {h H : zH} {t pt : Nat} {L : List Nat} {o : Nat} {nm : Nat → Int32} (E : ∀ c i, zScr c i = false → H c i = h c i) (ht : t < 6) (hpt : pt < 3) (hnm : ∀ c, c < 6 → H 43 c = nm c) (hw : zW L) (ho : o + L.length ≤ 160) (hco : ∀ j, j < L.length → h (z_tx t + 1) (o + j) = z_xc (L.getD j 0)) (hen : h (z_tx t + 2) pt = nI (o + L.length)) (hst : (pt = 0 ∧ o = 0) ∨ (0 < pt ∧ h (z_tx t + 2) (pt - 1) = nI o)) (hA : ∀ g', (∀ c i, zScr c i = false → g' c i = h c i) → A ((ev_run nm L []).headD 0) g') : zP X (d + 2) 72 0 (z_ent [.ref (z_tx t), .int (nI pt), .ref 43, .ref 44] 7) [] z_S0 H (zI A) := by
  refine c72 (L := L) (o := o) (z_txM t ht) hpt hnm hw ho (fun j hj => ?_) ?_ ?_ (fun f => hA _ (zE_pt (fun _ => rfl) E))
  · rw [E _ _ (z_txS ht _).1]
    exact hco j hj
  · rw [E _ _ (z_txS ht _).2]
    exact hen
  · rw [E _ _ (z_txS ht _).2]
    exact hst
theorem z_value {h : zH} (R : zR h) {N j pt : Nat} (hN : h 1 10 = nI N) (hNl : N ≤ 40) (hj : j < N) (hpt : pt < 3) : ∃ v : Int32, ∀ (X : Option (List Int32)) (d : Nat) (A : Int32 → zH → Prop) (g : zH), (∀ c i, zScr c i = false → g c i = h c i) → (∀ g', (∀ c i, zScr c i = false → g' c i = h c i) → A v g') → zP X (d + 3) 92 0 (z_ent [.ref 0, .int (nI j), .int (nI pt)] 5) [] z_S0 g (zI A) ∧ zP X (d + 3) 168 0 (z_ent [.ref 82, .int (nI pt), .int (nI j)] 7) [] z_S0 g (zI A) := by
  obtain ⟨-, e2, e3, e4, e5, e6, e7, -⟩ := R.g1
  obtain ⟨⟨n3, hle3, hn3, hm3⟩, e14, e15, e16, e17, hd3⟩ := R.g3
  obtain ⟨⟨n5, hle5, hn5, hm5⟩, e22, e23, e24, hd5, hch⟩ := R.g5
  obtain ⟨-, ⟨n8, hle8, hn8, hm8⟩, e50, e51, e52, e53, e54, e55, hd8, -⟩ := R.g7
  obtain ⟨T, hT, hT1, hT6, htx⟩ := z_text R
  obtain ⟨t, ht, et⟩ := z_forceT (pa := h 22) (fr := h 23) (ch := h 24) (n := n5) (p := h 3 j) (dy := h 5 j) hT1 (fun i => by
    obtain ⟨t, t1, t2, t3⟩ := hch i
    rw [hT, nI_ltI (by omega) (by omega)] at t1
    exact ⟨t, t1, t3⟩)
  obtain ⟨L, o, hw, ho, hco, hen, hst, hcm, hcd⟩ := z_txp (htx t ht) hpt
  have et2 : sp_force (h 108) (h 109) (h 110) n5 (h 86 j) (h 91 j) = nI t := by
    rw [← e22, ← e23, ← e24, ← e3, ← e5]
    exact et
  have e13 : h 0 16 = h 82 0 := R.g13
  obtain ⟨nm, hnm⟩ : ∃ nm : Nat → Int32, nm = fun c => match c with
    | 0 => h 6 j
    | 1 => h 5 j
    | 2 => h 7 j
    | 3 => h 2 j
    | 4 => z_mo (h 50) (h 54) (h 55) (h 3 j) (h 5 j) n8 0 0
    | _ => sp_known (h 14) (h 15) (h 16) (h 17) n3 0 (h 5 j) (h 0 16) := ⟨_, rfl⟩
  refine ⟨(ev_run nm L []).headD 0, fun X d A g E hA => ?_⟩
  have eg := z_mix_eq E
  have E' : ∀ c i, zScr c i = false → z_mix zScr h g c i = h c i := by
    rw [← eg]
    exact E
  have ib : z_ib (nI j) 40 := vp_in_nI (by omega) (by decide)
  have cl : (nI j).toNatClampNeg = j := nI_clamp (by omega)
  rw [eg]
  constructor
  · refine b92 ?_
    rw [cl]
    refine ⟨ib, ib, ib, ib, ib, c29 (n := n8) hn8 hle8 hd8 (c41 (n := n3) hn3 hle3 (c24 (n := n5) hn5 hle5 ?_))⟩
    change z_ib (sp_force (h 22) (h 23) (h 24) n5 (h 3 j) (h 5 j)) 6 ∧ zP X (d + 2) 72 0 (z_ent [.ref (z_tx (Int32.toNatClampNeg (sp_force (h 22) (h 23) (h 24) n5 (h 3 j) (h 5 j)))), .int (nI pt), .ref 43, .ref 44] 7) [] z_S0 _ (zI A)
    rw [et, nI_clamp (show t < 2 ^ 31 by omega)]
    refine ⟨vp_in_nI (by omega) (by decide), ?_⟩
    refine c72v (nm := nm) (zE_up (fun _ => rfl) (zE_up (fun _ => rfl) (zE_up (fun _ => rfl) (zE_up (fun _ => rfl) (zE_up (fun _ => rfl) (zE_up (fun _ => rfl) E')))))) (by omega) hpt ?_ hw ho hco hen hst hA
    intro c hc
    rw [hnm]
    match c, hc with
    | 0, _ => rfl
    | 1, _ => rfl
    | 2, _ => rfl
    | 3, _ => rfl
    | 4, _ => rfl
    | 5, _ => rfl
    | c + 6, q => omega
  · refine b168 ?_
    rw [cl]
    refine ⟨ib, ib, c171 (n := n5) hm5 hle5 (fun i _ => hd5 i) ?_⟩
    change zP X (d + 3) 168 27 [some (.ref 82), none, some (.int (nI j)), some (.int ((3 * sp_force (h 108) (h 109) (h 110) n5 (h 86 j) (h 91 j)) + nI pt)), some (.int 0), some (.int 0), none] [] z_S0 (z_mix zScr h g) (zI A)
    rw [et2, show (3 : Int32) = nI 3 from rfl, pk_mul, nI_add]
    have hnm2 : ∀ c, c < 6 → ∀ (f : Nat → Int32) (B : Int32 → zH → Prop), B (nm c) (z_pt (z_mix zScr h g) 107 f) → zP X (d + 2) 166 0 (z_ent [.ref 82, .int (nI c), .int (nI j)] 3) [] z_S0 (z_pt (z_mix zScr h g) 107 f) (zI B) := by
      intro c hc f B hB
      have f88 : (z_pt (z_mix zScr h g) 107 f) 88 = h 6 := by show h 88 = h 6; rw [e6]
      have f91 : (z_pt (z_mix zScr h g) 107 f) 91 = h 5 := by show h 91 = h 5; rw [e5]
      have f89 : (z_pt (z_mix zScr h g) 107 f) 89 = h 7 := by show h 89 = h 7; rw [e7]
      have f85 : (z_pt (z_mix zScr h g) 107 f) 85 = h 2 := by show h 85 = h 2; rw [e2]
      have f86 : (z_pt (z_mix zScr h g) 107 f) 86 = h 3 := by show h 86 = h 3; rw [e3]
      have f114 : (z_pt (z_mix zScr h g) 107 f) 114 = h 50 := by show h 114 = h 50; rw [e50]
      have f118 : (z_pt (z_mix zScr h g) 107 f) 118 = h 54 := by show h 118 = h 54; rw [e54]
      have f119 : (z_pt (z_mix zScr h g) 107 f) 119 = h 55 := by show h 119 = h 55; rw [e55]
      have f96 : (z_pt (z_mix zScr h g) 107 f) 96 = h 14 := by show h 96 = h 14; rw [e14]
      have f97 : (z_pt (z_mix zScr h g) 107 f) 97 = h 15 := by show h 97 = h 15; rw [e15]
      have f98 : (z_pt (z_mix zScr h g) 107 f) 98 = h 16 := by show h 98 = h 16; rw [e16]
      have f99 : (z_pt (z_mix zScr h g) 107 f) 99 = h 17 := by show h 99 = h 17; rw [e17]
      have f0 : (z_pt (z_mix zScr h g) 107 f) 82 0 = h 0 16 := by show h 82 0 = h 0 16; rw [e13]
      rw [hnm] at hB
      refine b166 ?_
      rw [cl, f88, f91, f89, f85, f86, f0]
      match c, hc, hB with
      | 0, _, hB => exact ⟨fun _ => ⟨ib, hB⟩, fun e => absurd e (by decide), fun e => absurd e (by decide), fun e => absurd e (by decide), fun e => absurd e (by decide), fun e => absurd rfl e.1⟩
      | 1, _, hB => exact ⟨fun e => absurd e (by decide), fun _ => ⟨ib, hB⟩, fun e => absurd e (by decide), fun e => absurd e (by decide), fun e => absurd e (by decide), fun e => absurd rfl e.2.1⟩
      | 2, _, hB => exact ⟨fun e => absurd e (by decide), fun e => absurd e (by decide), fun _ => ⟨ib, hB⟩, fun e => absurd e (by decide), fun e => absurd e (by decide), fun e => absurd rfl e.2.2.1⟩
      | 3, _, hB => exact ⟨fun e => absurd e (by decide), fun e => absurd e (by decide), fun e => absurd e (by decide), fun _ => ⟨ib, hB⟩, fun e => absurd e (by decide), fun e => absurd rfl e.2.2.2.1⟩
      | 4, _, hB =>
        refine ⟨fun e => absurd e (by decide), fun e => absurd e (by decide), fun e => absurd e (by decide), fun e => absurd e (by decide), fun _ => ⟨ib, ib, c182 (n := n8) hm8 hle8 (by rw [f118]; exact hd8) ?_⟩, fun e => absurd rfl e.2.2.2.2⟩
        rw [f114, f118, f119]
        exact hB
      | 5, _, hB =>
        refine ⟨fun e => absurd e (by decide), fun e => absurd e (by decide), fun e => absurd e (by decide), fun e => absurd e (by decide), fun e => absurd e (by decide), fun _ => ⟨ib, c146 (n := n3) hm3 hle3 (fun i _ => hd3 i) ?_⟩⟩
        rw [f96, f97, f98, f99]
        exact hB
      | c + 6, q, _ => omega
    have := c168_27 (X := X) (d := d + 1) (A := A) (h := z_mix zScr h g) (row := 3 * t + pt) (f := (z_mix zScr h g) 107) (by omega) hnm2 L 0 [] hw.1 (by omega) (Nat.le_refl _) (hw.2 0) (fun i hi => by rw [Nat.zero_add]; exact hcd i hi) (by rw [Nat.zero_add]; exact hcm) trivial (fun f => hA _ (zE_pt (fun _ => rfl) E'))
    rw [z_pt_id] at this
    exact this
theorem z_values {h : zH} (R : zR h) {N : Nat} (hN : h 1 10 = nI N) (hNl : N ≤ 40) : ∃ V : Nat → Nat → Int32, ∀ j pt, j < N → pt < 3 → ∀ (X : Option (List Int32)) (d : Nat) (A : Int32 → zH → Prop) (g : zH), (∀ c i, zScr c i = false → g c i = h c i) → (∀ g', (∀ c i, zScr c i = false → g' c i = h c i) → A (V j pt) g') → zP X (d + 3) 92 0 (z_ent [.ref 0, .int (nI j), .int (nI pt)] 5) [] z_S0 g (zI A) ∧ zP X (d + 3) 168 0 (z_ent [.ref 82, .int (nI pt), .int (nI j)] 7) [] z_S0 g (zI A) := by
  refine ⟨fun j pt => if q : j < N ∧ pt < 3 then Classical.choose (z_value R hN hNl q.1 q.2) else 0, fun j pt h1 h2 => ?_⟩
  have := Classical.choose_spec (z_value R hN hNl h1 h2)
  dsimp only
  rw [dif_pos ⟨h1, h2⟩]
  exact this
theorem q_says {h : zH} {a1 a2 : Int32} (R : zR h) : zP X (d + 4) 91 0 (z_ent [.ref 0, .int a1, .int a2] 3) [] z_S0 h (zJ fun r h1 => zP X (d + 4) 173 0 (z_ent [.ref 82, .int a1, .int a2] 3) [] z_S0 h1 (zJ fun r2 h2 => r = r2 ∧ zR h2)) := by
  obtain ⟨⟨N, hNl, hN, hm⟩, -⟩ := R.g1
  refine b91 (c11 hN (by omega) (zsw (fun g => ?_) (fun g => c119 (zsw (fun g2 => ?_) (fun g2 => ?_)))))
  · exact b173 (c134 hm (zsw (fun _ => ⟨rfl, R⟩) (fun q => absurd q g)))
  · exact b173 (c134 hm (zsw (fun q => absurd g q) (fun _ => c128 0 2 (by decide) (by decide) (zsw (fun _ => ⟨rfl, R⟩) (fun q => absurd q g2)))))
  · obtain ⟨j, hj, rfl⟩ := zhasN (by omega) g
    obtain ⟨pt, hp, rfl⟩ := z_inN 2 (by decide) g2
    obtain ⟨v, hv⟩ := z_value R hN hNl hj (show pt < 3 by omega)
    refine (hv X d _ h (fun _ _ _ => rfl) (fun g' E' => ?_)).1
    exact b173 (c134 (by rw [E' 82 3 rfl]; exact hm) (zsw (fun q => absurd g q) (fun _ => c128 0 2 (by decide) (by decide) (zsw (fun q => absurd g2 q) (fun _ => (hv X d _ g' E' (fun g2 E2 => ⟨rfl, zR_scr R E2⟩)).2)))))
def z_owe (V : Nat → Nat → Int32) (pa da : Nat → Int32) (p f t : Int32) : Nat → Nat → Int64 → Int64
  | 0, _, a => a
  | m + 1, k, a => z_owe V pa da p f t m (k + 1) (if z_cin pa da p f t k then (a + (V k 0).toInt64) - (if 0 < V k 1 then V k 1 else 0).toInt64 else a)
theorem c93_25 {h : zH} {V : Nat → Nat → Int32} {n : Nat} {p f t : Int32} (hn : h 1 10 = nI n) (hle : n ≤ 40) (hV : ∀ j pt, j < n → pt < 3 → ∀ (X : Option (List Int32)) (d : Nat) (A : Int32 → zH → Prop) (g : zH), (∀ c i, zScr c i = false → g c i = h c i) → (∀ g', (∀ c i, zScr c i = false → g' c i = h c i) → A (V j pt) g') → zP X (d + 3) 92 0 (z_ent [.ref 0, .int (nI j), .int (nI pt)] 5) [] z_S0 g (zI A) ∧ zP X (d + 3) 168 0 (z_ent [.ref 82, .int (nI pt), .int (nI j)] 7) [] z_S0 g (zI A)) : ∀ (m k : Nat) (a : Int64) (g : zH), k + m = n → (∀ c i, zScr c i = false → g c i = h c i) → (∀ g', (∀ c i, zScr c i = false → g' c i = h c i) → J (z_owe V (h 3) (h 5) p f t m k a) g') → zP X (d + 4) 93 25 [some (.ref 0), some (.int p), some (.int f), some (.int t), some (.long a), none, some (.int (nI k))] [] z_S0 g (zJ J)
  | 0, k, a, g, hk, E, hA => by
    refine b93_25 ⟨fun q => ?_, fun _ => hA g E⟩
    rw [E 1 10 rfl, hn, nI_ltI (by omega) (by omega)] at q
    omega
  | m + 1, k, a, g, hk, E, hA => by
    have g3 : g 3 = h 3 := funext fun i => E 3 i rfl
    have g5 : g 5 = h 5 := funext fun i => E 5 i rfl
    refine b93_25 ⟨fun _ => c15 (by omega) (zsw (fun q => b93_82 ?_) (fun q => (hV k 0 (by omega) (by decide) X d _ g E (fun g1 E1 => (hV k 1 (by omega) (by decide) X d _ g1 E1 (fun g2 E2 => c214 (b93_82 ?_))).1)).1)), fun q => ?_⟩
    · rw [g3, g5] at q
      rw [nI_1]
      refine c93_25 hn hle hV m (k + 1) _ g (by omega) E (fun g' E' => ?_)
      have := hA g' E'
      rw [z_owe, if_neg q] at this
      exact this
    · rw [g3, g5] at q
      rw [nI_1]
      refine c93_25 hn hle hV m (k + 1) _ g2 (by omega) E2 (fun g' E' => ?_)
      have := hA g' E'
      rw [z_owe, if_pos q] at this
      exact this
    · rw [E 1 10 rfl, hn, nI_ltI (by omega) (by omega)] at q
      omega
theorem c176_25 {h : zH} {V : Nat → Nat → Int32} {n : Nat} {p f t : Int32} (hn : h 82 3 = nI n) (hle : n ≤ 40) (hV : ∀ j pt, j < n → pt < 3 → ∀ (X : Option (List Int32)) (d : Nat) (A : Int32 → zH → Prop) (g : zH), (∀ c i, zScr c i = false → g c i = h c i) → (∀ g', (∀ c i, zScr c i = false → g' c i = h c i) → A (V j pt) g') → zP X (d + 3) 92 0 (z_ent [.ref 0, .int (nI j), .int (nI pt)] 5) [] z_S0 g (zI A) ∧ zP X (d + 3) 168 0 (z_ent [.ref 82, .int (nI pt), .int (nI j)] 7) [] z_S0 g (zI A)) : ∀ (m k : Nat) (a : Int64) (g : zH), k + m = n → (∀ c i, zScr c i = false → g c i = h c i) → (∀ g', (∀ c i, zScr c i = false → g' c i = h c i) → J (z_owe V (h 86) (h 91) p f t m k a) g') → zP X (d + 4) 176 25 [some (.ref 82), some (.int p), some (.int f), some (.int t), some (.long a), none, some (.int (nI k))] [] z_S0 g (zJ J)
  | 0, k, a, g, hk, E, hA => by
    refine b176_25 ⟨fun q => ?_, fun _ => hA g E⟩
    rw [E 82 3 rfl, hn, nI_ltI (by omega) (by omega)] at q
    omega
  | m + 1, k, a, g, hk, E, hA => by
    have g3 : g 86 = h 86 := funext fun i => E 86 i rfl
    have g5 : g 91 = h 91 := funext fun i => E 91 i rfl
    refine b176_25 ⟨fun _ => c175 (by omega) (zsw (fun q => b176_76 ?_) (fun q => (hV k 0 (by omega) (by decide) X d _ g E (fun g1 E1 => (hV k 1 (by omega) (by decide) X d _ g1 E1 (fun g2 E2 => c214 (b176_76 ?_))).2)).2)), fun q => ?_⟩
    · rw [g3, g5] at q
      rw [nI_1]
      refine c176_25 hn hle hV m (k + 1) _ g (by omega) E (fun g' E' => ?_)
      have := hA g' E'
      rw [z_owe, if_neg q] at this
      exact this
    · rw [g3, g5] at q
      rw [nI_1]
      refine c176_25 hn hle hV m (k + 1) _ g2 (by omega) E2 (fun g' E' => ?_)
      have := hA g' E'
      rw [z_owe, if_pos q] at this
      exact this
    · rw [E 82 3 rfl, hn, nI_ltI (by omega) (by omega)] at q
      omega
theorem q_owed {h : zH} {a1 a2 a3 : Int32} (R : zR h) : zP X (d + 4) 93 0 (z_ent [.ref 0, .int a1, .int a2, .int a3] 7) [] z_S0 h (zJ fun r h1 => zP X (d + 4) 176 0 (z_ent [.ref 82, .int a1, .int a2, .int a3] 7) [] z_S0 h1 (zJ fun r2 h2 => r = r2 ∧ zR h2)) := by
  obtain ⟨⟨N, hNl, hN, hm⟩, e2, e3, e4, e5, -⟩ := R.g1
  obtain ⟨V, hV⟩ := z_values R hN hNl
  refine b93 (c120 (zsw (fun g => ?_) (fun g => c126 (zsw (fun g2 => ?_) (fun g2 => ?_)))))
  · exact b176 (c131 (zsw (fun _ => ⟨rfl, R⟩) (fun q => absurd q g)))
  · exact b176 (c131 (zsw (fun q => absurd g q) (fun _ => c174 (zsw (fun _ => ⟨rfl, R⟩) (fun q => absurd q g2)))))
  · refine c93_25 hN hNl hV N 0 0 h (by omega) (fun _ _ _ => rfl) (fun g' E' => ?_)
    refine b176 (c131 (zsw (fun q => absurd g q) (fun _ => c174 (zsw (fun q => absurd g2 q) (fun _ => ?_)))))
    refine c176_25 hm hNl hV N 0 0 g' (by omega) E' (fun g3 E3 => ⟨?_, zR_scr R E3⟩)
    rw [e3, e5]
def z_fm (x : Int32) : Int32 := if (x ^^^ 3) < 0 then (if x - x / 3 * 3 = 0 then x - x / 3 * 3 else (x - x / 3 * 3) + 3) else x - x / 3 * 3
theorem c213 {h : zH} {x : Int32} (k : A (z_fm x) h) : zP X d 213 0 (z_ent [.int x, .int 3] 3) [] z_S0 h (zI A) := by
  unfold z_fm at k
  refine b213 ⟨by decide, fun g => ⟨fun g2 => ?_, fun g2 => ?_⟩, fun g => ?_⟩
  · rw [if_pos g, if_pos g2] at k; exact k
  · rw [if_pos g, if_neg g2] at k; exact k
  · rw [if_neg g] at k; exact k
theorem q_whose {h : zH} {a1 : Int32} (R : zR h) : zP X (d + 5) 95 0 (z_ent [.ref 0, .int a1] 2) [] z_S0 h (zI fun r h1 => zP X (d + 5) 179 0 (z_ent [.ref 82, .int a1] 2) [] z_S0 h1 (zI fun r2 h2 => r = r2 ∧ zR h2)) := by
  obtain ⟨⟨N, hNl, hN, hm⟩, -⟩ := R.g1
  obtain ⟨n, hle, hn, hn2, f1, f2, f3, hc⟩ := R.g6
  have lm : zin a1 0 (nI n - 1) ↔ zhas a1 n := zhas_iff (by omega)
  refine b95 ?_
  rw [hn]
  refine c119 (zsw (fun g => ?_) (fun g => ?_))
  · refine b179 ⟨fun _ => ⟨rfl, R⟩, fun q1 => ⟨fun q2 => ?_, fun _ => ⟨rfl, R⟩⟩⟩
    rw [hn2] at q2
    exact absurd (lm.mpr ⟨q1, q2⟩) g
  · have g := lm.mp g
    obtain ⟨f, hf, rfl⟩ := zhasN (by omega) g
    obtain ⟨c, c1, c2, c3⟩ := hc f hf
    rw [hN, nI_ltI (by omega) (by omega)] at c1
    obtain ⟨v, hv⟩ := z_value R hN hNl c1 (show 2 < 3 by decide)
    have ib : z_ib (nI f) 20 := vp_in_nI (by omega) (by decide)
    have cl : (nI f).toNatClampNeg = f := nI_clamp (by omega)
    refine b96 ⟨ib, ?_⟩
    rw [cl, c3]
    refine (hv X d _ h (fun _ _ _ => rfl) (fun g' E' => c213 ?_)).1
    refine b179 ⟨fun q => absurd q g.1, fun _ => ⟨fun _ => b178 ⟨ib, ?_⟩, fun q => ?_⟩⟩
    · rw [cl, E' 111 f rfl, ← f1, c3]
      exact (hv X d _ g' E' (fun g2 E2 => c213 ⟨rfl, zR_scr R E2⟩)).2
    · rw [E' 82 44 rfl, hn2] at q
      exact absurd g.2 q
abbrev z_hold (o ha pa : Int32) : Int32 := if o = 0 then ha else if o = 1 then 10 else 11 + pa
def z_fs (O : Nat → Int32) (ha pa wo : Nat → Int32) (who : Int32) : Nat → Nat → Int64 → Int64
  | 0, _, a => a
  | m + 1, k, a => z_fs O ha pa wo who m (k + 1) (if z_hold (O k) (ha k) (pa k) = who then a + (wo k).toInt64 else a)
theorem q_finds {h : zH} {a1 : Int32} (R : zR h) : zP X (d + 6) 97 0 (z_ent [.ref 0, .int a1] 5) [] z_S0 h (zJ fun r h1 => zP X (d + 6) 180 0 (z_ent [.ref 82, .int a1] 7) [] z_S0 h1 (zJ fun r2 h2 => r = r2 ∧ zR h2)) := by
  obtain ⟨⟨N, hNl, hN, hm⟩, e2, e3, -⟩ := R.g1
  obtain ⟨n, hle, hn, hn2, f1, f2, f3, hc⟩ := R.g6
  obtain ⟨V, hV⟩ := z_values R hN hNl
  have hcc : ∀ i, i < n → ∃ c, c < N ∧ h 46 i = nI c := by
    intro i hi
    obtain ⟨c, c1, c2, c3⟩ := hc i hi
    rw [hN, nI_ltI (by omega) (by omega)] at c1
    exact ⟨c, c1, c3⟩
  have own : ∀ i, i < n → ∀ (X : Option (List Int32)) (d : Nat) (A : Int32 → zH → Prop) (g : zH), (∀ c i, zScr c i = false → g c i = h c i) → (∀ g', (∀ c i, zScr c i = false → g' c i = h c i) → A (z_fm (V (h 46 i).toNatClampNeg 2)) g') → zP X (d + 4) 96 0 (z_ent [.ref 0, .int (nI i)] 2) [] z_S0 g (zI A) ∧ zP X (d + 4) 178 0 (z_ent [.ref 82, .int (nI i)] 2) [] z_S0 g (zI A) := by
    intro i hi X d A g E hA
    obtain ⟨c, c1, c3⟩ := hcc i hi
    rw [c3, nI_clamp (show c < 2 ^ 31 by omega)] at hA
    have ib : z_ib (nI i) 20 := vp_in_nI (by omega) (by decide)
    have cl : (nI i).toNatClampNeg = i := nI_clamp (by omega)
    constructor
    · refine b96 ⟨ib, ?_⟩
      rw [cl, E 46 i rfl, c3]
      exact (hV c 2 c1 (by decide) X d _ g E (fun g' E' => c213 (hA g' E'))).1
    · refine b178 ⟨ib, ?_⟩
      rw [cl, E 111 i rfl, ← f1, c3]
      exact (hV c 2 c1 (by decide) X d _ g E (fun g' E' => c213 (hA g' E'))).2
  obtain ⟨O, hO⟩ : ∃ O : Nat → Int32, O = fun i => z_fm (V (h 46 i).toNatClampNeg 2) := ⟨_, rfl⟩
  have lx : ∀ (m k : Nat) (a : Int64) (g : zH) (J : Int64 → zH → Prop), k + m = n → (∀ c i, zScr c i = false → g c i = h c i) → (∀ g', (∀ c i, zScr c i = false → g' c i = h c i) → J (z_fs O (h 47) (fun i => h 3 (h 46 i).toNatClampNeg) (h 48) a1 m k a) g') → zP X (d + 6) 97 19 [some (.ref 0), some (.int a1), some (.long a), none, some (.int (nI k))] [] z_S0 g (zJ J) := by
    intro m
    induction m with
    | zero =>
      intro k a g J hk E hA
      refine b97_19 ⟨fun q => ?_, fun _ => hA g E⟩
      rw [E 45 3 rfl, hn, nI_ltI (by omega) (by omega)] at q
      omega
    | succ m ih =>
      intro k a g J hk E hA
      have ib : z_ib (nI k) 20 := vp_in_nI (by omega) (by decide)
      have cl : (nI k).toNatClampNeg = k := nI_clamp (by omega)
      obtain ⟨c, c1, c3⟩ := hcc k (by omega)
      have go : ∀ (w : Int32) (g1 : zH), (∀ c i, zScr c i = false → g1 c i = h c i) → w = z_hold (O k) (h 47 k) (h 3 (h 46 k).toNatClampNeg) → ((w = a1 → (z_ib (nI k) 20 ∧ zP X (d + 6) 97 55 [some (.ref 0), some (.int a1), some (.long (a + (Int32.toInt64 (g1 48 k)))), none, some (.int (nI k))] [] z_S0 g1 (zJ J))) ∧ (¬ w = a1 → zP X (d + 6) 97 55 [some (.ref 0), some (.int a1), some (.long a), none, some (.int (nI k))] [] z_S0 g1 (zJ J))) := by
        intro w g1 E1 hw
        refine ⟨fun q => ⟨ib, b97_55 ?_⟩, fun q => b97_55 ?_⟩
        · rw [E1 48 k rfl, nI_1]
          refine ih (k + 1) _ g1 J (by omega) E1 (fun g' E' => ?_)
          have := hA g' E'
          rw [z_fs, if_pos (by rw [← hw]; exact q)] at this
          exact this
        · rw [nI_1]
          refine ih (k + 1) _ g1 J (by omega) E1 (fun g' E' => ?_)
          have := hA g' E'
          rw [z_fs, if_neg (by rw [← hw]; exact q)] at this
          exact this
      refine b97_19 ⟨fun _ => b98 ((own k (by omega) X d _ g E (fun g1 E1 => ?_)).1), fun q => ?_⟩
      · rw [← show O k = z_fm (V (h 46 k).toNatClampNeg 2) from by rw [hO]]
        rw [cl, E1 46 k rfl, E1 47 k rfl]
        refine ⟨fun q => ⟨ib, go _ g1 E1 ?_⟩, fun q => ⟨fun q2 => go _ g1 E1 ?_, fun q2 => ⟨ib, ?_, go _ g1 E1 ?_⟩⟩⟩
        · unfold z_hold
          rw [if_pos q]
        · unfold z_hold
          rw [if_neg q, if_pos q2]
        · rw [c3]
          exact vp_in_nI (by omega) (by decide)
        · unfold z_hold
          rw [if_neg q, if_neg q2, E1 3 _ rfl]
      · rw [E 45 3 rfl, hn, nI_ltI (by omega) (by omega)] at q
        omega
  have lm : ∀ (m k : Nat) (a : Int64) (g : zH) (J : Int64 → zH → Prop), k + m = n → (∀ c i, zScr c i = false → g c i = h c i) → (∀ g', (∀ c i, zScr c i = false → g' c i = h c i) → J (z_fs O (h 47) (fun i => h 3 (h 46 i).toNatClampNeg) (h 48) a1 m k a) g') → zP X (d + 6) 180 21 [some (.ref 82), some (.int a1), some (.long a), none, some (.int (nI k)), none, none] [] z_S0 g (zJ J) := by
    intro m
    induction m with
    | zero =>
      intro k a g J hk E hA
      refine b180_21 ⟨fun q => ?_, fun _ => hA g E⟩
      rw [E 82 44 rfl, hn2, nI_ltI (by omega) (by omega)] at q
      omega
    | succ m ih =>
      intro k a g J hk E hA
      have ib : z_ib (nI k) 20 := vp_in_nI (by omega) (by decide)
      have cl : (nI k).toNatClampNeg = k := nI_clamp (by omega)
      obtain ⟨c, c1, c3⟩ := hcc k (by omega)
      have yes : ∀ (g1 : zH), (∀ c i, zScr c i = false → g1 c i = h c i) → a1 = z_hold (O k) (h 47 k) (h 3 (h 46 k).toNatClampNeg) → zP X (d + 6) 180 106 [some (.ref 82), some (.int a1), some (.long a), none, some (.int (nI k)), none, none] [.int 1] z_S0 g1 (zJ J) := by
        intro g1 E1 hw
        refine b180_106 ⟨fun q => absurd q (by decide), fun _ => ⟨ib, b180_126 ?_⟩⟩
        rw [cl, E1 113 k rfl, nI_1, ← f3]
        refine ih (k + 1) _ g1 J (by omega) E1 (fun g' E' => ?_)
        have := hA g' E'
        rw [z_fs, if_pos hw.symm] at this
        exact this
      have no : ∀ (g1 : zH), (∀ c i, zScr c i = false → g1 c i = h c i) → ¬ a1 = z_hold (O k) (h 47 k) (h 3 (h 46 k).toNatClampNeg) → zP X (d + 6) 180 106 [some (.ref 82), some (.int a1), some (.long a), none, some (.int (nI k)), none, none] [.int 0] z_S0 g1 (zJ J) := by
        intro g1 E1 hw
        refine b180_106 ⟨fun _ => b180_126 ?_, fun q => absurd rfl q⟩
        rw [Int64.add_zero, nI_1]
        refine ih (k + 1) _ g1 J (by omega) E1 (fun g' E' => ?_)
        have := hA g' E'
        rw [z_fs, if_neg (fun z => hw z.symm)] at this
        exact this
      refine b180_21 ⟨fun _ => (own k (by omega) X (d + 1) _ g E (fun g1 E1 => ?_)).2, fun q => ?_⟩
      · rw [← show O k = z_fm (V (h 46 k).toNatClampNeg 2) from by rw [hO]]
        rw [cl, E1 111 k rfl, E1 112 k rfl, ← f1, ← f2]
        refine ⟨fun q => ⟨ib, fun w => yes g1 E1 ?_, fun w => no g1 E1 ?_⟩, fun q => ⟨fun q2 => ⟨fun w => yes g1 E1 ?_, fun w => no g1 E1 ?_⟩, fun q2 => ⟨ib, ?_, fun w => yes g1 E1 ?_, fun w => no g1 E1 ?_⟩⟩⟩
        · unfold z_hold
          rw [if_pos q]
          exact w
        · unfold z_hold
          rw [if_pos q]
          exact w
        · unfold z_hold
          rw [if_neg q, if_pos q2]
          exact w
        · unfold z_hold
          rw [if_neg q, if_pos q2]
          exact w
        · rw [c3]
          exact vp_in_nI (by omega) (by decide)
        · unfold z_hold
          rw [if_neg q, if_neg q2]
          rw [E1 86 _ rfl, ← e3] at w
          exact w
        · unfold z_hold
          rw [if_neg q, if_neg q2]
          rw [E1 86 _ rfl, ← e3] at w
          exact w
      · rw [E 82 44 rfl, hn2, nI_ltI (by omega) (by omega)] at q
        omega
  refine b97 (c119 (zsw (fun g => ?_) (fun g => ?_)))
  · exact b180 (c128 0 16 (by decide) (by decide) (zsw (fun _ => ⟨rfl, R⟩) (fun q => absurd q g)))
  · refine lx n 0 0 h _ (by omega) (fun _ _ _ => rfl) (fun g' E' => ?_)
    exact b180 (c128 0 16 (by decide) (by decide) (zsw (fun q => absurd g q) (fun _ => lm n 0 0 g' _ (by omega) E' (fun g3 E3 => ⟨rfl, zR_scr R E3⟩))))
end ZVB

/-! prices, miss, feed -/
abbrev z_pS : Type := Nat × (Nat → Int32) × (Nat → Int32) × (Nat → Int32) × (Nat → Int32)
def z_pr1 (st : z_pS) (s dy p D : Int32) : z_pS := if zin s 0 3 ∧ zin dy 0 399 ∧ zin p 0 999 ∧ st.1 < 40 then (st.1 + 1, upd st.2.1 st.1 s, upd st.2.2.1 st.1 dy, upd st.2.2.2.1 st.1 p, upd st.2.2.2.2 st.1 D) else st
def z_prz (it : Nat → Int32) (sz a : Nat) (s dy D : Int32) : Nat → Nat → z_pS → Bool × z_pS
  | 0, _, st => (true, st)
  | m + 1, k, st => if a + k < sz then z_prz it sz a s dy D m (k + 1) (z_pr1 st s (dy + nI k) (it (a + k)) D) else (false, st)
def z_hX (h : zH) (st : z_pS) : zH := z_pt (z_pt (z_pt (z_pt (z_up h 13 4 (nI st.1)) 14 st.2.1) 15 st.2.2.1) 16 st.2.2.2.1) 17 st.2.2.2.2
def z_hM (h : zH) (st : z_pS) : zH := z_pt (z_pt (z_pt (z_pt (z_up h 82 16 (nI st.1)) 96 st.2.1) 97 st.2.2.1) 98 st.2.2.2.1) 99 st.2.2.2.2
theorem z_hX_c {h g : zH} (st : z_pS) (E : ∀ c, ¬ c = 13 → ¬ c = 14 → ¬ c = 15 → ¬ c = 16 → ¬ c = 17 → g c = h c) (E2 : ∀ j, ¬ j = 4 → g 13 j = h 13 j) : z_hX g st = z_hX h st := by
  funext c j
  by_cases q5 : c = 17
  · subst q5; rfl
  by_cases q4 : c = 16
  · subst q4; rfl
  by_cases q3 : c = 15
  · subst q3; rfl
  by_cases q2 : c = 14
  · subst q2; rfl
  unfold z_hX
  rw [z_ptN _ _ q5, z_ptN _ _ q4, z_ptN _ _ q3, z_ptN _ _ q2, z_ptN _ _ q5, z_ptN _ _ q4, z_ptN _ _ q3, z_ptN _ _ q2, z_up_pt, z_up_pt]
  by_cases q1 : c = 13
  · subst q1
    rw [z_ptS, z_ptS]
    by_cases q : j = 4
    · subst q; rw [upd_S, upd_S]
    · rw [upd_N _ _ q, upd_N _ _ q]; exact E2 j q
  · rw [z_ptN _ _ q1, z_ptN _ _ q1, E c q1 q2 q3 q4 q5]
theorem z_hM_c {h g : zH} (st : z_pS) (E : ∀ c, ¬ c = 82 → ¬ c = 96 → ¬ c = 97 → ¬ c = 98 → ¬ c = 99 → g c = h c) (E2 : ∀ j, ¬ j = 16 → g 82 j = h 82 j) : z_hM g st = z_hM h st := by
  funext c j
  by_cases q5 : c = 99
  · subst q5; rfl
  by_cases q4 : c = 98
  · subst q4; rfl
  by_cases q3 : c = 97
  · subst q3; rfl
  by_cases q2 : c = 96
  · subst q2; rfl
  unfold z_hM
  rw [z_ptN _ _ q5, z_ptN _ _ q4, z_ptN _ _ q3, z_ptN _ _ q2, z_ptN _ _ q5, z_ptN _ _ q4, z_ptN _ _ q3, z_ptN _ _ q2, z_up_pt, z_up_pt]
  by_cases q1 : c = 82
  · subst q1
    rw [z_ptS, z_ptS]
    by_cases q : j = 16
    · subst q; rw [upd_S, upd_S]
    · rw [upd_N _ _ q, upd_N _ _ q]; exact E2 j q
  · rw [z_ptN _ _ q1, z_ptN _ _ q1, E c q1 q2 q3 q4 q5]
def z_sX (h : zH) (n : Nat) : z_pS := (n, h 14, h 15, h 16, h 17)
def z_sM (h : zH) (n : Nat) : z_pS := (n, h 96, h 97, h 98, h 99)
theorem z_hX_id {h : zH} {n : Nat} (hn : h 13 4 = nI n) : z_hX h (z_sX h n) = h := by
  have e : z_up h 13 4 (nI n) = h := by rw [← hn]; exact z_up_id h 13 4
  unfold z_hX z_sX
  dsimp only
  rw [e, z_pt_id, z_pt_id, z_pt_id, z_pt_id]
theorem z_hM_id {h : zH} {n : Nat} (hn : h 82 16 = nI n) : z_hM h (z_sM h n) = h := by
  have e : z_up h 82 16 (nI n) = h := by rw [← hn]; exact z_up_id h 82 16
  unfold z_hM z_sM
  dsimp only
  rw [e, z_pt_id, z_pt_id, z_pt_id, z_pt_id]
theorem z_pr1_no {st : z_pS} {s dy p D : Int32} (q : ¬ (zin s 0 3 ∧ zin dy 0 399 ∧ zin p 0 999 ∧ st.1 < 40)) : z_pr1 st s dy p D = st := if_neg q
theorem z_pr1_le {st : z_pS} {s dy p D : Int32} (q : st.1 ≤ 40) : (z_pr1 st s dy p D).1 ≤ 40 := by
  unfold z_pr1
  split
  · next h => exact h.2.2.2
  · exact q
theorem z_pr1_da {st : z_pS} {s dy p D : Int32} (q : ∀ i, ¬ st.2.2.1 i < -1) : ∀ i, ¬ (z_pr1 st s dy p D).2.2.1 i < -1 := by
  unfold z_pr1
  split
  · next h => exact upd_all (P := fun x => ¬ x < -1) q st.1 dy (fun z => h.2.1.1 (Int32.lt_trans z (by decide)))
  · exact q
theorem z_prz_ok {it : Nat → Int32} {sz a : Nat} {s dy D : Int32} : ∀ (m k : Nat) (st : z_pS), st.1 ≤ 40 → (∀ i, ¬ st.2.2.1 i < -1) → (z_prz it sz a s dy D m k st).2.1 ≤ 40 ∧ (∀ i, ¬ (z_prz it sz a s dy D m k st).2.2.2.1 i < -1) ∧ st.1 ≤ (z_prz it sz a s dy D m k st).2.1
  | 0, k, st, h1, h2 => ⟨h1, h2, Nat.le_refl _⟩
  | m + 1, k, st, h1, h2 => by
    unfold z_prz
    split
    · have := z_prz_ok (it := it) (sz := sz) (a := a) (s := s) (dy := dy) (D := D) m (k + 1) (z_pr1 st s (dy + nI k) (it (a + k)) D) (z_pr1_le h1) (z_pr1_da h2)
      refine ⟨this.1, this.2.1, Nat.le_trans ?_ this.2.2⟩
      unfold z_pr1
      split
      · exact Nat.le_succ _
      · exact Nat.le_refl _
    · exact ⟨h1, h2, Nat.le_refl _⟩
section ZPX
variable {X : Option (List Int32)} {d : Nat} {A : Int32 → zH → Prop}
theorem c85s {h : zH} {a1 a2 a3 : Int32} {n : Nat} (hn : h 13 4 = nI n) (hle : n ≤ 40) (k : ∀ r, A r (z_hX h (z_pr1 (z_sX h n) a1 a2 a3 (h 0 16)))) : zP X (d + 2) 85 0 (z_ent [.ref 0, .int a1, .int a2, .int a3] 4) [] z_S0 h (zI A) := by
  refine c85 (D := h 0 16) rfl hn hle (fun q => ?_) (fun q q2 => ?_) (fun q q2 => ?_)
  · have := k (-2)
    rw [z_pr1_no (fun z => q ⟨z.1, z.2.1, z.2.2.1⟩), z_hX_id hn] at this
    exact this
  · have := k (-4)
    rw [z_pr1_no (fun z => q2 z.2.2.2), z_hX_id hn] at this
    exact this
  · have := k (nI (n + 1))
    have e : z_pr1 (z_sX h n) a1 a2 a3 (h 0 16) = (n + 1, upd (h 14) n a1, upd (h 15) n a2, upd (h 16) n a3, upd (h 17) n (h 0 16)) := if_pos ⟨q.1, q.2.1, q.2.2, q2⟩
    rw [e] at this
    have e2 : z_up (z_up (z_up (z_up (z_up h 14 n a1) 15 n a2) 16 n a3) 17 n (h 0 16)) 13 4 (nI (n + 1)) = z_hX h (n + 1, upd (h 14) n a1, upd (h 15) n a2, upd (h 16) n a3, upd (h 17) n (h 0 16)) := by
      unfold z_hX
      simp only [z_up_pt]
      rw [z_pt_cm _ (by decide), z_pt_cm _ (show ¬ 16 = 13 by decide), z_pt_cm _ (show ¬ 15 = 13 by decide), z_pt_cm _ (show ¬ 14 = 13 by decide)]
      rfl
    rw [e2]
    exact this
theorem c145s {h : zH} {a1 a2 a3 : Int32} {n : Nat} (hn : h 82 16 = nI n) (hle : n ≤ 40) (k : ∀ r, (r < 0 ↔ (z_pr1 (z_sM h n) a1 a2 a3 (h 82 0)).1 = n) → (¬ r < 0 ↔ (z_pr1 (z_sM h n) a1 a2 a3 (h 82 0)).1 = n + 1) → A r (z_hM h (z_pr1 (z_sM h n) a1 a2 a3 (h 82 0)))) : zP X (d + 2) 145 0 (z_ent [.ref 82, .int a1, .int a2, .int a3] 4) [] z_S0 h (zI A) := by
  have no : ∀ r : Int32, r < 0 → z_pr1 (z_sM h n) a1 a2 a3 (h 82 0) = z_sM h n → A r h := by
    intro r hr e
    have := k r ⟨fun _ => by rw [e]; rfl, fun _ => hr⟩ ⟨fun q => absurd hr q, fun q => by
      rw [e] at q
      have : n = n + 1 := q
      omega⟩
    rw [e, z_hM_id hn] at this
    exact this
  refine c145 (D := h 82 0) rfl hn hle (fun q => ?_) (fun q q2 => ?_) (fun q q2 => ?_)
  · exact no (-2) (by decide) (z_pr1_no (fun z => q ⟨z.1, z.2.1, z.2.2.1⟩))
  · exact no (-4) (by decide) (z_pr1_no (fun z => q2 z.2.2.2))
  · have e : z_pr1 (z_sM h n) a1 a2 a3 (h 82 0) = (n + 1, upd (h 96) n a1, upd (h 97) n a2, upd (h 98) n a3, upd (h 99) n (h 82 0)) := if_pos ⟨q.1, q.2.1, q.2.2, q2⟩
    have hp : ¬ nI (n + 1) < 0 := nI_pos (by omega)
    have := k (nI (n + 1)) ⟨fun z => absurd z hp, fun z => by
      rw [e] at z
      have : n + 1 = n := z
      omega⟩ ⟨fun _ => by rw [e], fun _ => hp⟩
    rw [e] at this
    have e2 : z_up (z_up (z_up (z_up (z_up h 96 n a1) 97 n a2) 98 n a3) 99 n (h 82 0)) 82 16 (nI (n + 1)) = z_hM h (n + 1, upd (h 96) n a1, upd (h 97) n a2, upd (h 98) n a3, upd (h 99) n (h 82 0)) := by
      unfold z_hM
      simp only [z_up_pt]
      rw [z_pt_cm _ (by decide), z_pt_cm _ (show ¬ 98 = 82 by decide), z_pt_cm _ (show ¬ 97 = 82 by decide), z_pt_cm _ (show ¬ 96 = 82 by decide)]
      rfl
    rw [e2]
    exact this
theorem z_sX_hX (h : zH) (st : z_pS) : z_sX (z_hX h st) st.1 = st := rfl
theorem z_sM_hM (h : zH) (st : z_pS) : z_sM (z_hM h st) st.1 = st := rfl
theorem c117_loop {s0 : Nat} {a1 a2 n0 : Int32} {sz a N : Nat} (hs : s0 < 4) (hN : N ≤ 40) (hsz : sz ≤ 40) (ha : a < 2 ^ 31) : ∀ (m k : Nat) (n : Nat) (h : zH), k + m = N → h 13 4 = nI n → n ≤ 40 → h (74 + 2 * s0) 2 = nI sz → (∀ b st, z_prz (h (74 + 2 * s0 + 1)) sz a a1 a2 (h 0 16) m k (z_sX h n) = (b, st) → A (if b then nI st.1 - n0 else -12) (z_hX h st)) → zP X (d + 3) 117 12 [some (.ref 0), some (.int a1), some (.int a2), some (.ref (74 + 2 * s0)), some (.int (nI a)), some (.int (nI N)), some (.int n0), some (.int (nI k))] [] z_S0 h (zI A)
  | 0, k, n, h, hk, hn, hle, hz, hA => by
    refine b117_12 (z_sh_mem s0 hs) ⟨fun g => ?_, fun _ => ?_⟩
    · have := (nI_ltI (by omega) (by omega)).mp g
      omega
    · have := hA true (z_sX h n) rfl
      rw [z_hX_id hn] at this
      rw [hn]
      exact this
  | m + 1, k, n, h, hk, hn, hle, hz, hA => by
    have lt : zin (nI a) 0 (h (74 + 2 * s0) 2 - 1 - nI k) ↔ a + k < sz := by
      rw [hz]
      have e : (nI sz - 1 - nI k : Int32).toInt = (sz : Int) - 1 - k := by
        rw [Int32.toInt_sub, show (nI sz - 1 : Int32).toInt = (sz : Int) - 1 from z_subI (b := 1) (by omega) (by decide), nI_toInt (by omega)]
        exact Int.bmod_eq_of_le (by omega) (by omega)
      unfold zin
      rw [Int32.lt_iff_toInt_lt, Int32.lt_iff_toInt_lt, e, nI_toInt ha, show (0 : Int32).toInt = 0 from rfl]
      omega
    refine b117_12 (z_sh_mem s0 hs) ⟨fun _ => c119 (zsw (fun g => ?_) (fun g => ?_)), fun g => ?_⟩
    · have := hA false (z_sX h n) (by unfold z_prz; rw [if_neg (fun q => g (lt.mpr q))])
      rw [z_hX_id hn] at this
      exact this
    · have q := lt.mp g
      rw [nI_add, nI_clamp (by omega)]
      refine ⟨vp_in_nI (by omega) (by decide), c85s hn hle (fun r => ?_)⟩
      rw [nI_1]
      have c1 : z_hX h (z_pr1 (z_sX h n) a1 (a2 + nI k) (h (74 + 2 * s0 + 1) (a + k)) (h 0 16)) (74 + 2 * s0) = h (74 + 2 * s0) := by
        unfold z_hX
        rw [z_up_pt]
        simp (disch := omega) only [z_ptN]
      have c2 : z_hX h (z_pr1 (z_sX h n) a1 (a2 + nI k) (h (74 + 2 * s0 + 1) (a + k)) (h 0 16)) (74 + 2 * s0 + 1) = h (74 + 2 * s0 + 1) := by
        unfold z_hX
        rw [z_up_pt]
        simp (disch := omega) only [z_ptN]
      refine c117_loop hs hN hsz ha m (k + 1) (z_pr1 (z_sX h n) a1 (a2 + nI k) (h (74 + 2 * s0 + 1) (a + k)) (h 0 16)).1 _ (by omega) rfl (z_pr1_le hle) (by rw [c1]; exact hz) ?_
      intro b st e
      rw [z_sX_hX, c2] at e
      have := hA b st (by unfold z_prz; rw [if_pos q]; exact e)
      rw [z_hX_c st (h := h)]
      · exact this
      · intro c q1 q2 q3 q4 q5
        unfold z_hX
        rw [z_up_pt]
        simp (disch := omega) only [z_ptN]
      · intro j q1
        unfold z_hX
        rw [z_up_pt]
        simp (disch := omega) only [z_ptN, z_ptS, upd_N]
    · exact absurd ((nI_ltI (by omega) (by omega)).mpr (by omega)) g
theorem z_l64 {a b : Nat} (ha : a < 2 ^ 31) (hb : b < 2 ^ 31) : Int32.toInt64 (nI a) + Int32.toInt64 (nI b) = lN (a + b) := by
  refine Int64.toInt_inj.mp ?_
  rw [Int64.toInt_add, Int32.toInt_toInt64, Int32.toInt_toInt64, nI_toInt ha, nI_toInt hb, pk_lT (by omega)]
  have : ((a : Int) + b).bmod (2 ^ 64) = (a : Int) + b := Int.bmod_eq_of_le (by omega) (by omega)
  rw [this]
  omega
theorem c210_loop {s0 : Nat} {a1 a2 : Int32} {sz a N : Nat} (hs : s0 < 4) (hN : N ≤ 40) (hsz : sz ≤ 40) (ha : a < 2 ^ 31) : ∀ (m k : Nat) (n c : Nat) (h : zH), k + m = N → h 82 16 = nI n → n ≤ 40 → c ≤ k → h 138 s0 = nI sz → (∀ b st, z_prz (fun i => h 139 (40 * s0 + i)) sz a a1 a2 (h 82 0) m k (z_sM h n) = (b, st) → A (if b then nI (c + (st.1 - n)) else -12) (z_hM h st)) → zP X (d + 3) 210 91 [some (.ref 82), some (.int a1), some (.int a2), some (.int (nI s0)), none, some (.int (nI a)), some (.int (nI N)), some (.int (nI c)), some (.int (nI k)), none, none] [] z_S0 h (zI A)
  | 0, k, n, c, h, hk, hn, hle, hc, hz, hA => by
    refine b210_91 ⟨fun g => ?_, fun _ => ?_⟩
    · have := (nI_ltI (by omega) (by omega)).mp g
      omega
    · have := hA true (z_sM h n) rfl
      rw [z_hM_id hn] at this
      have e : c + ((z_sM h n).1 - n) = c := by
        show c + (n - n) = c
        omega
      rw [if_pos rfl, e] at this
      exact this
  | m + 1, k, n, c, h, hk, hn, hle, hc, hz, hA => by
    have cls : (nI s0).toNatClampNeg = s0 := nI_clamp (by omega)
    have ibs : z_ib (nI s0) 4 := vp_in_nI (by omega) (by decide)
    have l0 : ¬ lg_cmp (Int32.toInt64 (nI a) + Int32.toInt64 (nI k)) 0 < 0 := by
      rw [zcmp_lt, z_l64 ha (by omega)]
      intro q
      have := (pk_lLT (b := 0) (by omega) (by decide)).mp q
      omega
    have l1 : lg_cmp (Int32.toInt64 (nI a) + Int32.toInt64 (nI k)) (Int32.toInt64 (h 138 s0)) < 0 ↔ a + k < sz := by
      rw [zcmp_lt, z_l64 ha (by omega), hz, nI_l (by omega)]
      exact pk_lLT (by omega) (by omega)
    refine b210_91 ⟨fun _ => ⟨fun q => absurd q l0, fun _ => ⟨ibs, ?_⟩⟩, fun g => ?_⟩
    · rw [cls]
      refine ⟨fun g => ?_, fun g => ?_⟩
      · have q := l1.mp g
        have e1 : Int64.toInt32 (Int32.toInt64 (nI a) + Int32.toInt64 (nI k)) = nI (a + k) := by
          rw [z_l64 ha (by omega), ← nI_l (by omega)]
          exact Int32.toInt32_toInt64 _
        have e2 : (40 * nI s0 : Int32) + nI (a + k) = nI (40 * s0 + (a + k)) := by rw [show (40 : Int32) = nI 40 from rfl, pk_mul, nI_add]
        rw [e1, e2, nI_clamp (by omega)]
        refine ⟨vp_in_nI (by omega) (by decide), c145s hn hle (fun r r1 r2 => ?_)⟩
        have go : ∀ c' : Nat, c' = c + ((z_pr1 (z_sM h n) a1 (a2 + nI k) (h 139 (40 * s0 + (a + k))) (h 82 0)).1 - n) → n ≤ (z_pr1 (z_sM h n) a1 (a2 + nI k) (h 139 (40 * s0 + (a + k))) (h 82 0)).1 → c' ≤ k + 1 → zP X (d + 3) 210 91 [some (.ref 82), some (.int a1), some (.int a2), some (.int (nI s0)), none, some (.int (nI a)), some (.int (nI N)), some (.int (nI c')), some (.int (nI (k + 1))), none, none] [] z_S0 (z_hM h (z_pr1 (z_sM h n) a1 (a2 + nI k) (h 139 (40 * s0 + (a + k))) (h 82 0))) (zI A) := by
          intro c' ec hn' hc'
          refine c210_loop hs hN hsz ha m (k + 1) (z_pr1 (z_sM h n) a1 (a2 + nI k) (h 139 (40 * s0 + (a + k))) (h 82 0)).1 c' _ (by omega) rfl (z_pr1_le hle) hc' hz ?_
          intro b st e
          rw [z_sM_hM] at e
          have e' : z_prz (fun i => h 139 (40 * s0 + i)) sz a a1 a2 (h 82 0) m (k + 1) (z_pr1 (z_sM h n) a1 (a2 + nI k) (h 139 (40 * s0 + (a + k))) (h 82 0)) = (b, st) := e
          have := hA b st (by unfold z_prz; rw [if_pos q]; exact e')
          rw [z_hM_c st (h := h)]
          · have mono : (z_pr1 (z_sM h n) a1 (a2 + nI k) (h 139 (40 * s0 + (a + k))) (h 82 0)).1 ≤ st.1 := by
              have hh : ∀ (m k : Nat) (s1 : z_pS), s1.1 ≤ (z_prz (fun i => h 139 (40 * s0 + i)) sz a a1 a2 (h 82 0) m k s1).2.1 := by
                intro m
                induction m with
                | zero => intro k s1; exact Nat.le_refl _
                | succ m ih =>
                  intro k s1
                  unfold z_prz
                  split
                  · refine Nat.le_trans ?_ (ih (k + 1) _)
                    unfold z_pr1
                    split
                    · exact Nat.le_succ _
                    · exact Nat.le_refl _
                  · exact Nat.le_refl _
              have := hh m (k + 1) (z_pr1 (z_sM h n) a1 (a2 + nI k) (h 139 (40 * s0 + (a + k))) (h 82 0))
              rw [e'] at this
              exact this
            have ee : c' + (st.1 - (z_pr1 (z_sM h n) a1 (a2 + nI k) (h 139 (40 * s0 + (a + k))) (h 82 0)).1) = c + (st.1 - n) := by omega
            rw [ee]
            exact this
          · intro c q1 q2 q3 q4 q5
            unfold z_hM
            rw [z_up_pt]
            simp (disch := omega) only [z_ptN]
          · intro j q1
            unfold z_hM
            rw [z_up_pt]
            simp (disch := omega) only [z_ptN, z_ptS, upd_N]
        refine ⟨fun g0 => b210_162 ?_, fun g0 => b210_162 ?_⟩
        · rw [nI_1, show (0 : Int32) = nI 0 from rfl, nI_add]
          have := r1.mp g0
          exact go (c + 0) (by omega) (by omega) (by omega)
        · rw [nI_1, nI_1]
          have := r2.mp g0
          exact go (c + 1) (by omega) (by omega) (by omega)
      · have := hA false (z_sM h n) (by unfold z_prz; rw [if_neg (fun q => g (l1.mpr q))])
        rw [z_hM_id hn] at this
        exact this
    · exact absurd ((nI_ltI (by omega) (by omega)).mpr (by omega)) g
end ZPX

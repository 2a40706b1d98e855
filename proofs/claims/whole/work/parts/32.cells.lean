/-! cell, copy, prices -/
def z_cut (s v : Int32) : Int32 := if s = 0 then (Int32.toInt8 v).toInt32 else if s = 1 then (Int32.toInt16 v).toInt32 else v
section ZCL
variable {X : Option (List Int32)} {d : Nat} {h : zH} {A : Int32 → zH → Prop} {B : zH → Prop}
theorem c43 {s : Nat} (hs : s < 4) (k : A (zb (h (74 + 2 * s) 1 = -1)) h) : zP X d 43 0 (z_ent [.ref (74 + 2 * s)] 1) [] z_S0 h (zI A) := by
  refine b43 (z_sh_mem s hs) ⟨fun g => ?_, fun g => ?_⟩
  · rw [zb_t g] at k; exact k
  · rw [zb_f g] at k; exact k
theorem c45 {s : Nat} {a1 a2 : Int32} (hs : s < 4) (ib : z_ib a1 40) (k : B (z_up h (74 + 2 * s + 1) a1.toNatClampNeg (z_cut (h (74 + 2 * s) 1) a2))) : zP X d 45 0 (z_ent [.ref (74 + 2 * s), .int a1, .int a2] 3) [] z_S0 h (zV B) := by
  refine b45 (z_sh_mem s hs) ⟨fun g => ⟨ib, ?_⟩, fun g => ⟨fun g2 => ⟨ib, ?_⟩, fun g2 => ⟨ib, ?_⟩⟩⟩
  · rw [z_cut, if_pos g] at k; exact k
  · rw [z_cut, if_neg g, if_pos g2] at k; exact k
  · rw [z_cut, if_neg g, if_neg g2] at k; exact k
theorem c207 {a1 a2 : Int32} (k : A (z_cut a1 a2) h) : zP X d 207 0 (z_ent [.int a1, .int a2] 2) [] z_S0 h (zI A) := by
  refine b207 ⟨fun g => ?_, fun g => ⟨fun g2 => ?_, fun g2 => ?_⟩⟩
  · rw [z_cut, if_pos g] at k; exact k
  · rw [z_cut, if_neg g, if_pos g2] at k; exact k
  · rw [z_cut, if_neg g, if_neg g2] at k; exact k
theorem z_sm {a : Int32} (q : a = -1 ∨ a = 0 ∨ a = 1 ∨ a = 2) : a < 0 ↔ a = -1 := by
  rcases q with rfl | rfl | rfl | rfl <;> decide
theorem q_cell {a1 a2 a3 : Int32} (R : zR h) : zP X (d + 2) 114 0 (z_ent [.ref 0, .int a1, .int a2, .int a3] 5) [] z_S0 h (zI fun r h1 => zP X (d + 2) 208 0 (z_ent [.ref 82, .int a1, .int a2, .int a3] 4) [] z_S0 h1 (zI fun r2 h2 => r = r2 ∧ zR h2)) := by
  refine b114 (c124 (zsw (fun g => ?_) (fun g => ?_)))
  · exact b208 (c205 (zsw (fun _ => ⟨rfl, R⟩) (fun q => absurd q g)))
  · obtain ⟨s, hs3, rfl⟩ := z_inN 3 (by decide) g
    have hs : s < 4 := by omega
    have cl : (nI s).toNatClampNeg = s := nI_clamp (by omega)
    have ib : z_ib (nI s) 4 := vp_in_nI (by omega) (by decide)
    obtain ⟨k1, k2, ⟨n, hn, k3⟩, k4, k5⟩ := zG12_all R.g12 s hs
    rw [cl, z_sh_eq s hs]
    refine ⟨ib, c43 hs (zsw (fun g2 => c119 (zsw (fun g3 => ?_) (fun g3 => c45 hs ?_ ?_))) (fun g2 => ?_))⟩
    · refine b208 (c205 (zsw (fun q => absurd g q) (fun _ => ⟨ib, ?_⟩)))
      rw [cl, k1]
      refine ⟨fun q => absurd ((z_sm k2).mp q) g2, fun _ => ⟨ib, c128 0 (h 138 s - 1) (by decide) rfl (zsw (fun _ => ⟨rfl, R⟩) (fun q => ?_))⟩⟩
      rw [k4] at q
      exact absurd q g3
    · rw [k3] at g3
      obtain ⟨i, hi, rfl⟩ := zhasN (by omega) ((zhas_iff (by omega)).mp g3)
      exact vp_in_nI (by omega) (by decide)
    · rw [k3] at g3
      obtain ⟨i, hi, rfl⟩ := zhasN (by omega) ((zhas_iff (by omega)).mp g3)
      have e : (40 * nI s : Int32) + nI i = nI (40 * s + i) := by rw [show (40 : Int32) = nI 40 from rfl, pk_mul, nI_add]
      have hi40 : i < 40 := by omega
      refine b208 (c205 (zsw (fun q => absurd g q) (fun _ => ⟨ib, ?_⟩)))
      rw [cl, nI_clamp (show i < 2 ^ 31 by omega)]
      have e137 : z_up h (74 + 2 * s + 1) i (z_cut (h (74 + 2 * s) 1) a3) 137 = h 137 := by rw [z_up_pt, z_ptN _ _ (by omega)]
      have e138 : z_up h (74 + 2 * s + 1) i (z_cut (h (74 + 2 * s) 1) a3) 138 = h 138 := by rw [z_up_pt, z_ptN _ _ (by omega)]
      rw [e137, k1]
      refine ⟨fun q => absurd ((z_sm k2).mp q) g2, fun _ => ⟨ib, c128 0 (h 138 s - 1) (by decide) (by rw [e138]) (zsw (fun q => ?_) (fun _ => ⟨ib, ?_⟩))⟩⟩
      · rw [k4, k3] at q
        exact absurd g3 q
      · rw [e137, k1]
        refine c207 ?_
        rw [e, nI_clamp (show 40 * s + i < 2 ^ 31 by omega)]
        refine ⟨vp_in_nI (by omega) (by decide), rfl, ?_⟩
        simp only [z_up_pt]
        refine zR_sh R ?_ (zG12_of ?_)
        · intro c j hc
          have e1 := zShm_f hc
          simp (disch := omega) only [z_ptN]
        · intro s' hs'
          obtain ⟨l1, l2, l3, l4, l5⟩ := zG12_all R.g12 s' hs'
          by_cases q : s' = s
          · subst q
            refine ⟨?_, ?_, ⟨n, hn, ?_⟩, ?_, ?_⟩
            · simp (disch := omega) only [z_ptN, z_ptS, upd_S, upd_N]; exact l1
            · simp (disch := omega) only [z_ptN, z_ptS, upd_S, upd_N]; exact l2
            · simp (disch := omega) only [z_ptN, z_ptS, upd_S, upd_N]; exact k3
            · simp (disch := omega) only [z_ptN, z_ptS, upd_S, upd_N]; exact l4
            · intro i' hi'
              simp (disch := omega) only [z_ptN, z_ptS]
              by_cases q2 : i' = i
              · subst q2
                rw [upd_S, upd_S]
              · rw [upd_N _ _ (by omega), upd_N _ _ q2]
                exact l5 i' hi'
          · refine ⟨?_, ?_, ?_, ?_, ?_⟩
            · simp (disch := omega) only [z_ptN, z_ptS, upd_S, upd_N]; exact l1
            · simp (disch := omega) only [z_ptN, z_ptS, upd_S, upd_N]; exact l2
            · simp (disch := omega) only [z_ptN, z_ptS, upd_S, upd_N]; exact l3
            · simp (disch := omega) only [z_ptN, z_ptS, upd_S, upd_N]; exact l4
            · intro i' hi'
              simp (disch := omega) only [z_ptN, z_ptS, upd_N]
              exact l5 i' hi'
    · refine b208 (c205 (zsw (fun q => absurd g q) (fun _ => ⟨ib, ?_⟩)))
      rw [cl, k1]
      exact ⟨fun _ => ⟨rfl, R⟩, fun q => absurd ((z_sm k2).mpr g2) q⟩
abbrev z_hld (a n : Int32) (sz : Int32) : Prop := ¬ a < 0 ∧ ¬ n < 0 ∧ ¬ sz - n < a
theorem c46 {s : Nat} {a1 a2 : Int32} (hs : s < 4) (k : A (zb (z_hld a1 a2 (h (74 + 2 * s) 2))) h) : zP X d 46 0 (z_ent [.ref (74 + 2 * s), .int a1, .int a2] 3) [] z_S0 h (zI A) := by
  refine b46 (z_sh_mem s hs) ⟨fun g => ?_, fun g => ⟨fun g2 => ?_, fun g2 => ⟨fun g3 => ?_, fun g3 => ?_⟩⟩⟩
  · rw [zb_f (fun q => q.1 g)] at k; exact k
  · rw [zb_f (fun q => q.2.1 g2)] at k; exact k
  · rw [zb_f (fun q => q.2.2 g3)] at k; exact k
  · rw [zb_t ⟨g, g2, g3⟩] at k; exact k
theorem z_hldN {a n : Int32} {m : Nat} (hm : m ≤ 40) (q : z_hld a n (nI m)) : ∃ i k : Nat, i + k ≤ m ∧ a = nI i ∧ n = nI k := by
  obtain ⟨i, hi, rfl⟩ := nI_of q.1
  obtain ⟨k, hk, rfl⟩ := nI_of q.2.1
  refine ⟨i, k, ?_, rfl, rfl⟩
  have := q.2.2
  rw [Int32.lt_iff_toInt_lt, z_subI (by omega) hk, nI_toInt hi] at this
  omega
theorem z_hld_sw {a n : Int32} {m : Nat} (hm : m ≤ 40) (ha : ¬ a < 0) (hn : ¬ n < 0) : ¬ nI m - n < a ↔ ¬ nI m - a < n := by
  obtain ⟨i, hi, rfl⟩ := nI_of ha
  obtain ⟨k, hk, rfl⟩ := nI_of hn
  rw [Int32.lt_iff_toInt_lt, Int32.lt_iff_toInt_lt, z_subI (by omega) hk, z_subI (by omega) hi, nI_toInt hi, nI_toInt hk]
  omega
theorem c209_140 {o j n : Nat} (ho : o < 4) (hj : j + n ≤ 40) : ∀ (m k : Nat) (h : zH), k + m = n → A (nI n) (z_pt h 139 (fun i => if 40 * o + j + k ≤ i ∧ i < 40 * o + j + n then h 140 (i - (40 * o + j)) else h 139 i)) → zP X (d + 1) 209 140 [some (.ref 82), none, none, some (.int (nI o)), some (.int (nI j)), some (.int (nI n)), some (.int (nI k))] [] z_S0 h (zI A)
  | 0, k, h, hk, hB => by
    refine b209_140 ⟨fun g => ?_, fun _ => ?_⟩
    · have := (nI_ltI (by omega) (by omega)).mp g
      omega
    · have e : (fun i => if 40 * o + j + k ≤ i ∧ i < 40 * o + j + n then h 140 (i - (40 * o + j)) else h 139 i) = h 139 := funext fun i => if_neg (by omega)
      rw [e, z_pt_id] at hB
      exact hB
  | m + 1, k, h, hk, hB => by
    have e : (40 * nI o : Int32) + nI j + nI k = nI (40 * o + j + k) := by rw [show (40 : Int32) = nI 40 from rfl, pk_mul, nI_add, nI_add]
    refine b209_140 ⟨fun _ => ⟨vp_in_nI (by omega) (by decide), ?_⟩, fun g => ?_⟩
    · rw [e, nI_1, nI_clamp (by omega), nI_clamp (by omega)]
      refine ⟨vp_in_nI (by omega) (by decide), c209_140 ho hj m (k + 1) _ (by omega) ?_⟩
      rw [z_up_pt, z_pt_pt, z_ptS, z_ptN _ _ (by decide)]
      have e2 : (fun i => if 40 * o + j + (k + 1) ≤ i ∧ i < 40 * o + j + n then h 140 (i - (40 * o + j)) else upd (h 139) (40 * o + j + k) (h 140 k) i) = (fun i => if 40 * o + j + k ≤ i ∧ i < 40 * o + j + n then h 140 (i - (40 * o + j)) else h 139 i) := by
        funext i
        by_cases q : i = 40 * o + j + k
        · subst q
          rw [if_neg (by omega), if_pos ⟨by omega, by omega⟩, upd_S]
          congr 1
          omega
        · rw [upd_N _ _ q]
          by_cases q2 : 40 * o + j + k ≤ i ∧ i < 40 * o + j + n
          · rw [if_pos q2, if_pos ⟨by omega, q2.2⟩]
          · rw [if_neg q2, if_neg (by omega)]
      rw [e2]
      exact hB
    · exact absurd ((nI_ltI (by omega) (by omega)).mpr (by omega)) g
theorem c209_103 {s o i j n : Nat} (hs : s < 4) (ho : o < 4) (hi : i + n ≤ 40) (hj : j + n ≤ 40) : ∀ (m k : Nat) (h : zH), k + m = n → A (nI n) (z_pt (z_pt h 140 (fun q => if k ≤ q ∧ q < n then h 139 (40 * s + i + q) else h 140 q)) 139 (fun q => if 40 * o + j ≤ q ∧ q < 40 * o + j + n then (if k ≤ q - (40 * o + j) ∧ q - (40 * o + j) < n then h 139 (40 * s + i + (q - (40 * o + j))) else h 140 (q - (40 * o + j))) else h 139 q)) → zP X (d + 1) 209 103 [some (.ref 82), some (.int (nI s)), some (.int (nI i)), some (.int (nI o)), some (.int (nI j)), some (.int (nI n)), some (.int (nI k))] [] z_S0 h (zI A)
  | 0, k, h, hk, hB => by
    refine b209_103 ⟨fun g => ?_, fun _ => ?_⟩
    · have := (nI_ltI (by omega) (by omega)).mp g
      omega
    · refine c209_140 (k := 0) ho hj n h (by omega) ?_
      have e : (fun q => if k ≤ q ∧ q < n then h 139 (40 * s + i + q) else h 140 q) = h 140 := funext fun i => if_neg (by omega)
      rw [e, z_pt_id] at hB
      have e2 : (fun q => if 40 * o + j ≤ q ∧ q < 40 * o + j + n then (if k ≤ q - (40 * o + j) ∧ q - (40 * o + j) < n then h 139 (40 * s + i + (q - (40 * o + j))) else h 140 (q - (40 * o + j))) else h 139 q) = (fun i => if 40 * o + j + 0 ≤ i ∧ i < 40 * o + j + n then h 140 (i - (40 * o + j)) else h 139 i) := by
        funext q
        rw [if_neg (show ¬ (k ≤ q - (40 * o + j) ∧ q - (40 * o + j) < n) by omega)]
        rfl
      rw [e2] at hB
      exact hB
  | m + 1, k, h, hk, hB => by
    have e : (40 * nI s : Int32) + nI i + nI k = nI (40 * s + i + k) := by rw [show (40 : Int32) = nI 40 from rfl, pk_mul, nI_add, nI_add]
    refine b209_103 ⟨fun _ => ?_, fun g => ?_⟩
    · rw [e, nI_1, nI_clamp (by omega), nI_clamp (by omega)]
      refine ⟨vp_in_nI (by omega) (by decide), vp_in_nI (by omega) (by decide), c209_103 hs ho hi hj m (k + 1) _ (by omega) ?_⟩
      rw [z_up_pt, z_pt_pt, z_ptS, z_ptN _ _ (by decide)]
      have e2 : ∀ q, (if k + 1 ≤ q ∧ q < n then h 139 (40 * s + i + q) else upd (h 140) k (h 139 (40 * s + i + k)) q) = (if k ≤ q ∧ q < n then h 139 (40 * s + i + q) else h 140 q) := by
        intro q
        by_cases q1 : q = k
        · subst q1
          rw [if_neg (by omega), if_pos ⟨by omega, by omega⟩, upd_S]
        · rw [upd_N _ _ q1]
          by_cases q2 : k ≤ q ∧ q < n
          · rw [if_pos q2, if_pos ⟨by omega, q2.2⟩]
          · rw [if_neg q2, if_neg (by omega)]
      simp only [e2]
      exact hB
    · exact absurd ((nI_ltI (by omega) (by omega)).mpr (by omega)) g
theorem q_copy {a1 a2 a3 a4 a5 : Int32} (R : zR h) : zP X (d + 2) 115 0 (z_ent [.ref 0, .int a1, .int a2, .int a3, .int a4, .int a5] 8) [] z_S0 h (zI fun r h1 => zP X (d + 2) 209 0 (z_ent [.ref 82, .int a1, .int a2, .int a3, .int a4, .int a5] 7) [] z_S0 h1 (zI fun r2 h2 => r = r2 ∧ zR h2)) := by
  refine b115 (c124 (zsw (fun g => ?_) (fun g => c124 (zsw (fun g2 => ?_) (fun g2 => ?_)))))
  · exact b209 (c205 (zsw (fun _ => ⟨rfl, R⟩) (fun q => absurd q g)))
  · exact b209 (c205 (zsw (fun q => absurd g q) (fun _ => c205 (zsw (fun _ => ⟨rfl, R⟩) (fun q => absurd q g2)))))
  · obtain ⟨s, hs3, rfl⟩ := z_inN 3 (by decide) g
    obtain ⟨o, ho3, rfl⟩ := z_inN 3 (by decide) g2
    have hs : s < 4 := by omega
    have ho : o < 4 := by omega
    have cl : (nI s).toNatClampNeg = s := nI_clamp (by omega)
    have ib : z_ib (nI s) 4 := vp_in_nI (by omega) (by decide)
    have cl2 : (nI o).toNatClampNeg = o := nI_clamp (by omega)
    have ib2 : z_ib (nI o) 4 := vp_in_nI (by omega) (by decide)
    obtain ⟨k1, k2, ⟨n, hn, k3⟩, k4, k5⟩ := zG12_all R.g12 s hs
    obtain ⟨l1, l2, ⟨m, hm, l3⟩, l4, l5⟩ := zG12_all R.g12 o ho
    rw [cl, z_sh_eq s hs, cl2, z_sh_eq o ho]
    refine ⟨ib, ib2, c43 hs (zsw (fun g3 => c43 ho (zsw (fun g4 => ⟨fun g5 => c46 hs (zsw (fun g6 => ?_) (fun g6 => c46 ho (zsw (fun g7 => ?_) (fun g7 => ⟨?_, ?_⟩)))), fun g5 => ?_⟩) (fun g4 => ?_))) (fun g3 => ?_))⟩
    · refine b209 (c205 (zsw (fun q => absurd g q) (fun _ => c205 (zsw (fun q => absurd g2 q) (fun _ => ⟨ib, ?_⟩)))))
      rw [cl, cl2, k1, l1, k4, l4]
      refine ⟨fun q => absurd ((z_sm k2).mp q) g3, fun _ => ⟨ib2, fun q => absurd ((z_sm l2).mp q) g4, fun _ => ⟨ib, ib2, fun _ => ⟨fun _ => ⟨rfl, R⟩, fun w1 => ⟨fun _ => ⟨rfl, R⟩, fun w2 => ⟨fun _ => ⟨rfl, R⟩, fun w3 => ⟨ib, fun _ => ⟨rfl, R⟩, fun w4 => ?_⟩⟩⟩⟩, fun q => absurd g5 q⟩⟩⟩
      rw [k3] at g6 w4
      exact absurd ⟨w2, w1, (z_hld_sw hn w2 w1).mpr w4⟩ g6
    · refine b209 (c205 (zsw (fun q => absurd g q) (fun _ => c205 (zsw (fun q => absurd g2 q) (fun _ => ⟨ib, ?_⟩)))))
      rw [cl, cl2, k1, l1, k4, l4]
      refine ⟨fun q => absurd ((z_sm k2).mp q) g3, fun _ => ⟨ib2, fun q => absurd ((z_sm l2).mp q) g4, fun _ => ⟨ib, ib2, fun _ => ⟨fun _ => ⟨rfl, R⟩, fun w1 => ⟨fun _ => ⟨rfl, R⟩, fun w2 => ⟨fun _ => ⟨rfl, R⟩, fun w3 => ⟨ib, fun _ => ⟨rfl, R⟩, fun w4 => ⟨ib2, fun _ => ⟨rfl, R⟩, fun w5 => ?_⟩⟩⟩⟩⟩, fun q => absurd g5 q⟩⟩⟩
      rw [l3] at g7 w5
      exact absurd ⟨w3, w1, (z_hld_sw hm w3 w1).mpr w5⟩ g7
    · rw [k3] at g6
      rw [l3] at g7
      obtain ⟨i, w, hiw, rfl, rfl⟩ := z_hldN hn g6
      obtain ⟨j, w', hjw, rfl, hw'⟩ := z_hldN hm g7
      rw [nI_clamp (show i < 2 ^ 31 by omega), nI_clamp (show j < 2 ^ 31 by omega), nI_clamp (show w < 2 ^ 31 by omega)]
      refine ⟨g6.1, g7.1, g6.2.1, by omega, ?_⟩
      by_cases hlt : w' < 2 ^ 31
      · have := (nI_eq (show w < 2 ^ 31 by omega) hlt).mp hw'
        omega
      · omega
    · rw [k3] at g6
      rw [l3] at g7
      obtain ⟨i, w, hiw, rfl, rfl⟩ := z_hldN hn g6
      obtain ⟨j, w', hjw, rfl, hw'⟩ := z_hldN hm g7
      have e' := (nI_eq (show w < 2 ^ 31 by omega) (show w' < 2 ^ 31 by omega)).mp hw'
      subst e'
      rw [nI_clamp (show i < 2 ^ 31 by omega), nI_clamp (show j < 2 ^ 31 by omega), nI_clamp (show w < 2 ^ 31 by omega)]
      have eX : z_cpy h (74 + 2 * s + 1) (74 + 2 * o + 1) i j w = z_pt h (74 + 2 * o + 1) (va_cpy (h (74 + 2 * s + 1)) (h (74 + 2 * o + 1)) i j w) := rfl
      rw [eX]
      refine b209 (c205 (zsw (fun q => absurd g q) (fun _ => c205 (zsw (fun q => absurd g2 q) (fun _ => ⟨ib, ?_⟩)))))
      simp (disch := omega) only [z_ptN]
      rw [cl, cl2, k1, l1, k4, l4, k3, l3]
      refine ⟨fun q => absurd ((z_sm k2).mp q) g3, fun _ => ⟨ib2, fun q => absurd ((z_sm l2).mp q) g4, fun _ => ⟨ib, ib2, fun _ => ⟨fun q => absurd q g6.2.1, fun w1 => ⟨fun q => absurd q g6.1, fun w2 => ⟨fun q => absurd q g7.1, fun w3 => ⟨ib, fun q => absurd q ((z_hld_sw hn w2 w1).mp g6.2.2), fun w4 => ⟨ib2, fun q => absurd q ((z_hld_sw hm w3 w1).mp g7.2.2), fun w5 => ?_⟩⟩⟩⟩⟩, fun q => absurd g5 q⟩⟩⟩
      refine c209_103 (k := 0) hs ho (by omega) (by omega) w _ (by omega) ⟨rfl, ?_⟩
      refine zR_sh R ?_ (zG12_of ?_)
      · intro c j hc
        have e1 := zShm_f hc
        simp (disch := omega) only [z_ptN]
      · intro s' hs'
        obtain ⟨r1, r2, r3, r4, r5⟩ := zG12_all R.g12 s' hs'
        refine ⟨?_, ?_, ?_, ?_, ?_⟩
        · simp (disch := omega) only [z_ptN, z_ptS]; exact r1
        · simp (disch := omega) only [z_ptN, z_ptS]; exact r2
        · simp (disch := omega) only [z_ptN, z_ptS]; exact r3
        · simp (disch := omega) only [z_ptN, z_ptS]; exact r4
        · intro q hq
          by_cases e : s' = o
          · subst e
            simp (disch := omega) only [z_ptN, z_ptS]
            unfold va_cpy
            by_cases q2 : j ≤ q ∧ q < j + w
            · have e3 : 40 * s' + q - (40 * s' + j) = q - j := by omega
              rw [if_pos q2, if_pos ⟨by omega, by omega⟩, e3, if_pos ⟨by omega, by omega⟩]
              have := k5 (i + (q - j)) (by omega)
              rw [← this]
              congr 1
              omega
            · rw [if_neg q2, if_neg (by omega)]
              exact r5 q hq
          · simp (disch := omega) only [z_ptN, z_ptS]
            rw [if_neg (by omega)]
            exact r5 q hq
    · refine b209 (c205 (zsw (fun q => absurd g q) (fun _ => c205 (zsw (fun q => absurd g2 q) (fun _ => ⟨ib, ?_⟩)))))
      rw [cl, cl2, k1, l1]
      exact ⟨fun q => absurd ((z_sm k2).mp q) g3, fun _ => ⟨ib2, fun q => absurd ((z_sm l2).mp q) g4, fun _ => ⟨ib, ib2, fun q => absurd q g5, fun _ => ⟨rfl, R⟩⟩⟩⟩
    · refine b209 (c205 (zsw (fun q => absurd g q) (fun _ => c205 (zsw (fun q => absurd g2 q) (fun _ => ⟨ib, ?_⟩)))))
      rw [cl, cl2, k1, l1]
      exact ⟨fun q => absurd ((z_sm k2).mp q) g3, fun _ => ⟨ib2, fun _ => ⟨rfl, R⟩, fun q => absurd ((z_sm l2).mpr g4) q⟩⟩
    · refine b209 (c205 (zsw (fun q => absurd g q) (fun _ => c205 (zsw (fun q => absurd g2 q) (fun _ => ⟨ib, ?_⟩)))))
      rw [cl, cl2, k1, l1]
      exact ⟨fun _ => ⟨rfl, R⟩, fun q => absurd ((z_sm k2).mpr g3) q⟩
end ZCL

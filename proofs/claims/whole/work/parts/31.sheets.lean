/-! what calls may leave in cells that nobody asks; sheets -/
def z_mix (b : Nat → Nat → Bool) (h g : zH) : zH := fun c j => if b c j = true then g c j else h c j
theorem z_mix_eq {b : Nat → Nat → Bool} {h g : zH} (E : ∀ c j, b c j = false → g c j = h c j) : g = z_mix b h g := by
  funext c j
  unfold z_mix
  cases q : b c j with
  | true => rw [if_pos rfl]
  | false => rw [if_neg (by decide)]; exact E c j q
def zScr (c j : Nat) : Bool := Nat.beq c 43 || Nat.beq c 44 || Nat.beq c 56 || Nat.beq c 57 || Nat.beq c 62 || Nat.beq c 72 || Nat.beq c 105 || Nat.beq c 106 || Nat.beq c 107 || Nat.beq c 120 || Nat.beq c 121 || Nat.beq c 122 || Nat.beq c 126 || Nat.beq c 136 || Nat.beq c 140 || (Nat.beq c 131 && Nat.ble 1 j) || (Nat.beq c 132 && Nat.ble 1 j) || (Nat.beq c 60 && Nat.ble 4 j) || (Nat.beq c 18 && Nat.ble 2 j) || (Nat.beq c 82 && (Nat.beq j 26 || Nat.beq j 27 || Nat.beq j 28 || Nat.beq j 29 || Nat.beq j 33 || Nat.beq j 34 || Nat.beq j 35 || Nat.beq j 37 || Nat.beq j 38 || Nat.beq j 66))
def zShm (c _j : Nat) : Bool := (Nat.ble 74 c && Nat.ble c 81) || (Nat.ble 137 c && Nat.ble c 140)
theorem zR_scr {h g : zH} (R : zR h) (E : ∀ c j, zScr c j = false → g c j = h c j) : zR g := by
  have e := z_mix_eq E
  have k : zR (z_mix zScr h g) := ⟨R.g0, R.g1, R.g2, R.g3, R.g4, R.g5, R.g6, R.g7, R.g8, R.g9, R.g10, R.g11, R.g12, R.g13, R.g14⟩
  rw [e]
  exact k
theorem zR_sh {h g : zH} (R : zR h) (E : ∀ c j, zShm c j = false → g c j = h c j) (G : zG12 g) : zR g := by
  have e := z_mix_eq E
  have G2 : zG12 (z_mix zShm h g) := by rw [← e]; exact G
  have k : zR (z_mix zShm h g) := ⟨R.g0, R.g1, R.g2, R.g3, R.g4, R.g5, R.g6, R.g7, R.g8, R.g9, R.g10, R.g11, G2, R.g13, R.g14⟩
  rw [e]
  exact k
theorem zShm_f {c j : Nat} (hc : zShm c j = false) : ¬ (74 ≤ c ∧ c ≤ 81) ∧ ¬ (137 ≤ c ∧ c ≤ 140) := by
  have q := Bool.or_eq_false_iff.mp hc
  constructor
  · rintro ⟨p1, p2⟩
    have := q.1
    rw [Nat.ble_eq_true_of_le p1, Nat.ble_eq_true_of_le p2] at this
    cases this
  · rintro ⟨p1, p2⟩
    have := q.2
    rw [Nat.ble_eq_true_of_le p1, Nat.ble_eq_true_of_le p2] at this
    cases this
theorem z_sh4 {s : Nat} (hs : s < 4) : s = 0 ∨ s = 1 ∨ s = 2 ∨ s = 3 := by omega
theorem zG12_all {h : zH} (G : zG12 h) : ∀ s, s < 4 → zSh (h (74 + 2 * s) 1) (h (74 + 2 * s) 2) (h (74 + 2 * s + 1)) (h 137) (h 138) (h 139) s := by
  intro s hs
  rcases z_sh4 hs with rfl | rfl | rfl | rfl
  · exact G.1
  · exact G.2.1
  · exact G.2.2.1
  · exact G.2.2.2
theorem zG12_of {h : zH} (G : ∀ s, s < 4 → zSh (h (74 + 2 * s) 1) (h (74 + 2 * s) 2) (h (74 + 2 * s + 1)) (h 137) (h 138) (h 139) s) : zG12 h := ⟨G 0 (by decide), G 1 (by decide), G 2 (by decide), G 3 (by decide)⟩
theorem z_sh_mem : ∀ s, s < 4 → 74 + 2 * s ∈ ([74, 76, 78, 80] : List Nat) := by decide
theorem z_sh_eq : ∀ s, s < 4 → z_sh s = 74 + 2 * s := by decide
theorem z_ptS (h : zH) (k : Nat) (f : Nat → Int32) : z_pt h k f k = f := if_pos rfl
theorem z_ptN (h : zH) {k a : Nat} (f : Nat → Int32) (q : ¬ a = k) : z_pt h k f a = h a := if_neg q
theorem upd_S (f : Nat → Int32) (k : Nat) (v : Int32) : upd f k v k = v := if_pos rfl
theorem upd_N (f : Nat → Int32) {k j : Nat} (v : Int32) (q : ¬ j = k) : upd f k v j = f j := if_neg q
theorem z_fil {h : zH} {c k N : Nat} {v : Int32} (hk : k < N) : z_pt (z_up h c k v) c (fun i => if k + 1 ≤ i ∧ i < N then v else z_up h c k v c i) = z_pt h c (fun i => if k ≤ i ∧ i < N then v else h c i) := by
  rw [z_up_pt, z_pt_pt, z_ptS]
  congr 1
  funext i
  by_cases q : i = k
  · subst q
    rw [if_neg (by omega), if_pos ⟨Nat.le_refl _, hk⟩, upd_S]
  · rw [upd_N _ _ q]
    by_cases q2 : k ≤ i ∧ i < N
    · rw [if_pos q2, if_pos ⟨by omega, q2.2⟩]
    · rw [if_neg q2, if_neg (by omega)]
theorem z_fil0 {h : zH} {c k N : Nat} {v : Int32} (hk : N ≤ k) : z_pt h c (fun i => if k ≤ i ∧ i < N then v else h c i) = h := by
  have : (fun i => if k ≤ i ∧ i < N then v else h c i) = h c := funext fun i => if_neg (by omega)
  rw [this, z_pt_id]
theorem z_mn1 {a m : Int32} (g : zin a (-1) m) : a < 0 ↔ a = -1 := by
  constructor
  · intro q
    have t1 := Int32.lt_iff_toInt_lt.mp q
    have t2 : ¬ a.toInt < (-1 : Int32).toInt := fun z => g.1 (Int32.lt_iff_toInt_lt.mpr z)
    have z1 : (0 : Int32).toInt = 0 := rfl
    have z2 : (-1 : Int32).toInt = -1 := rfl
    rw [z1] at t1
    rw [z2] at t2
    refine Int32.toInt_inj.mp ?_
    rw [z2]
    omega
  · rintro rfl
    decide
theorem z_subI {a b : Nat} (ha : a < 2 ^ 31) (hb : b < 2 ^ 31) : (nI a - nI b).toInt = (a : Int) - b := by
  rw [Int32.toInt_sub, nI_toInt ha, nI_toInt hb]
  exact Int.bmod_eq_of_le (by omega) (by omega)
theorem z_so {a : Int32} (g : zin a (-1) 2) : a = -1 ∨ a = 0 ∨ a = 1 ∨ a = 2 := by
  by_cases q : a < 0
  · exact Or.inl ((z_mn1 g).mp q)
  · obtain ⟨i, hi, rfl⟩ := z_inN 2 (by decide) ⟨q, g.2⟩
    have : i = 0 ∨ i = 1 ∨ i = 2 := by omega
    rcases this with rfl | rfl | rfl <;> decide
section ZSH
variable {X : Option (List Int32)} {d : Nat} {A : Int32 → zH → Prop} {B : zH → Prop}
theorem c222t_loop {t : Nat} {v : Int32} (ht : t ∈ ([74, 76, 78, 80] : List Nat)) : ∀ (m k : Nat) (h : zH), k + m = 40 → B (z_pt h (t + 1) (fun i => if k ≤ i ∧ i < 40 then v else h (t + 1) i)) → zP X d 222 5 [some (.ref (t + 1)), some (.int v), some (.int (nI k)), some (.int (Int32.ofNat 40))] [] z_S0 h (zV B)
  | 0, k, h, hk, hB => by
    refine b222t_5 ht ⟨fun g => ?_, fun _ => ?_⟩
    · have := (nI_ltI (b := 40) (by omega) (by decide)).mp g
      omega
    · rw [z_fil0 (by omega)] at hB
      exact hB
  | m + 1, k, h, hk, hB => by
    refine b222t_5 ht ⟨fun _ => ⟨vp_in_nI (by omega) (by decide), ?_⟩, fun g => ?_⟩
    · rw [nI_1, nI_clamp (by omega)]
      refine c222t_loop ht m (k + 1) _ (by omega) ?_
      rw [z_fil (by omega)]
      exact hB
    · exact absurd ((nI_ltI (b := 40) (by omega) (by decide)).mpr (by omega)) g
theorem c44 {s : Nat} {a n : Int32} {h : zH} (hs : s < 4) (hB : B (z_pt (z_up (z_up h (74 + 2 * s) 1 a) (74 + 2 * s) 2 n) (74 + 2 * s + 1) (fun i => if i < 40 then 0 else h (74 + 2 * s + 1) i))) : zP X (d + 1) 44 0 (z_ent [.ref (74 + 2 * s), .int a, .int n] 3) [] z_S0 h (zV B) := by
  refine b44 (z_sh_mem s hs) (b222t (z_sh_mem s hs) (c222t_loop (z_sh_mem s hs) 40 0 _ (by omega) ?_))
  have e : (fun i => if 0 ≤ i ∧ i < 40 then (0 : Int32) else z_up (z_up h (74 + 2 * s) 1 a) (74 + 2 * s) 2 n (74 + 2 * s + 1) i) = (fun i => if i < 40 then 0 else h (74 + 2 * s + 1) i) := by
    funext i
    rw [z_up_pt, z_up_pt, z_pt_pt, z_ptN _ _ (by omega)]
    by_cases q : i < 40
    · rw [if_pos q, if_pos ⟨Nat.zero_le _, q⟩]
    · rw [if_neg q, if_neg (by omega)]
  rw [e]
  exact hB
theorem c206_70 {s : Nat} (hs : s < 4) : ∀ (m k : Nat) (h : zH), k + m = 40 → A 1 (z_pt h 139 (fun i => if 40 * s + k ≤ i ∧ i < 40 * s + 40 then 0 else h 139 i)) → zP X (d + 1) 206 70 [some (.ref 82), some (.int (nI s)), none, none, some (.int (nI k))] [] z_S0 h (zI A)
  | 0, k, h, hk, hB => by
    refine b206_70 ⟨fun g => ?_, fun _ => ?_⟩
    · have := (nI_ltI (b := 40) (by omega) (by decide)).mp g
      omega
    · rw [z_fil0 (by omega)] at hB
      exact hB
  | m + 1, k, h, hk, hB => by
    have e : (40 * nI s : Int32) + nI k = nI (40 * s + k) := by rw [show (40 : Int32) = nI 40 from rfl, pk_mul, nI_add]
    refine b206_70 ⟨fun _ => ?_, fun g => ?_⟩
    · rw [e, nI_1, nI_clamp (by omega)]
      refine ⟨vp_in_nI (by omega) (by decide), c206_70 hs m (k + 1) _ (by omega) ?_⟩
      rw [← Nat.add_assoc, z_fil (by omega)]
      exact hB
    · exact absurd ((nI_ltI (b := 40) (by omega) (by decide)).mpr (by omega)) g
variable {h : zH}
theorem c206_66 {s m : Nat} {a : Int32} (R : zR h) (hs : s < 4) (ha : zin a (-1) 2) (hm : m ≤ 40) : zP X (d + 1) 206 66 [some (.ref 82), some (.int (nI s)), none, none, none] [.int (nI m), .int (nI s), .ref 138] z_S0 (z_up (z_pt (z_up (z_up h (74 + 2 * s) 1 a) (74 + 2 * s) 2 (nI m)) (74 + 2 * s + 1) (fun i => if i < 40 then 0 else h (74 + 2 * s + 1) i)) 137 s a) (zI fun r2 h2 => 1 = r2 ∧ zR h2) := by
  have cl : (nI s).toNatClampNeg = s := nI_clamp (by omega)
  refine b206_66 ⟨vp_in_nI hs (by decide), ?_⟩
  rw [cl]
  refine c206_70 hs 40 0 _ (by omega) ⟨rfl, ?_⟩
  simp only [z_up_pt, z_pt_pt]
  refine zR_sh R ?_ (zG12_of ?_)
  · intro c j hc
    have e1 := zShm_f hc
    simp (disch := omega) only [z_ptN, z_ptS, upd_S, upd_N]
  · intro s' hs'
    obtain ⟨k1, k2, k3, k4, k5⟩ := zG12_all R.g12 s' hs'
    by_cases q : s' = s
    · subst q
      refine ⟨?_, ?_, ⟨m, hm, ?_⟩, ?_, ?_⟩
      · simp (disch := omega) only [z_ptN, z_ptS, upd_S, upd_N]
      · simp (disch := omega) only [z_ptN, z_ptS, upd_S, upd_N]
        exact z_so ha
      · simp (disch := omega) only [z_ptN, z_ptS, upd_S, upd_N]
      · simp (disch := omega) only [z_ptN, z_ptS, upd_S, upd_N]
      · intro i hi
        simp (disch := omega) only [z_ptN, z_ptS, upd_S, upd_N]
        rw [if_pos ⟨by omega, by omega⟩, if_pos hi]
    · refine ⟨?_, ?_, ?_, ?_, ?_⟩
      · simp (disch := omega) only [z_ptN, z_ptS, upd_S, upd_N]
        exact k1
      · simp (disch := omega) only [z_ptN, z_ptS, upd_S, upd_N]
        exact k2
      · simp (disch := omega) only [z_ptN, z_ptS, upd_S, upd_N]
        exact k3
      · simp (disch := omega) only [z_ptN, z_ptS, upd_S, upd_N]
        exact k4
      · intro i hi
        simp (disch := omega) only [z_ptN, z_ptS, upd_S, upd_N]
        rw [if_neg (by omega)]
        exact k5 i hi
theorem q_sheet {a1 a2 a3 : Int32} (R : zR h) : zP X (d + 2) 113 0 (z_ent [.ref 0, .int a1, .int a2, .int a3] 4) [] z_S0 h (zI fun r h1 => zP X (d + 2) 206 0 (z_ent [.ref 82, .int a1, .int a2, .int a3] 5) [] z_S0 h1 (zI fun r2 h2 => r = r2 ∧ zR h2)) := by
  refine b113 (c124 (zsw (fun g => ?_) (fun g => c119 (zsw (fun g2 => ?_) (fun g2 => ?_)))))
  · exact b206 (c205 (zsw (fun _ => ⟨rfl, R⟩) (fun q => absurd q g)))
  · exact b206 (c205 (zsw (fun q => absurd g q) (fun _ => c128 (-1) 2 (by decide) (by decide) (zsw (fun _ => ⟨rfl, R⟩) (fun q => absurd q g2)))))
  · obtain ⟨s, hs, rfl⟩ := z_inN 3 (by decide) g
    have cl : (nI s).toNatClampNeg = s := nI_clamp (by omega)
    have ib : z_ib (nI s) 4 := vp_in_nI (by omega) (by decide)
    rw [cl, z_sh_eq s (by omega)]
    refine ⟨fun g3 => ⟨ib, c44 (by omega) ?_⟩, fun g3 => ⟨fun g4 => ?_, fun g4 => ⟨fun g5 => ?_, fun g5 => ⟨ib, c44 (by omega) ?_⟩⟩⟩⟩
    · have g0 : a2 < 0 := (z_mn1 g2).mpr g3
      refine b206 (c205 (zsw (fun q => absurd g q) (fun _ => c128 (-1) 2 (by decide) (by decide) (zsw (fun q => absurd g2 q) (fun _ => ⟨fun _ => b206_34 ⟨fun _ => b206_45 ⟨ib, fun _ => ?_, fun q => absurd g0 q⟩, fun q => absurd g0 q⟩, fun q => absurd g0 q⟩)))))
      rw [cl, ← g3]
      exact c206_66 (m := 0) R (by omega) g2 (by omega)
    · have g0 : ¬ a2 < 0 := fun q => g3 ((z_mn1 g2).mp q)
      exact b206 (c205 (zsw (fun q => absurd g q) (fun _ => c128 (-1) 2 (by decide) (by decide) (zsw (fun q => absurd g2 q) (fun _ => ⟨fun q => absurd q g0, fun _ => ⟨fun _ => ⟨rfl, R⟩, fun q => absurd g4 q⟩⟩)))))
    · have g0 : ¬ a2 < 0 := fun q => g3 ((z_mn1 g2).mp q)
      exact b206 (c205 (zsw (fun q => absurd g q) (fun _ => c128 (-1) 2 (by decide) (by decide) (zsw (fun q => absurd g2 q) (fun _ => ⟨fun q => absurd q g0, fun _ => ⟨fun q => absurd q g4, fun _ => b206_34 ⟨fun q => absurd q g0, fun _ => ⟨fun _ => ⟨rfl, R⟩, fun q => absurd g5 q⟩⟩⟩⟩)))))
    · have g0 : ¬ a2 < 0 := fun q => g3 ((z_mn1 g2).mp q)
      obtain ⟨m, hm, rfl⟩ := z_inN 40 (by decide) ⟨g5, g4⟩
      refine b206 (c205 (zsw (fun q => absurd g q) (fun _ => c128 (-1) 2 (by decide) (by decide) (zsw (fun q => absurd g2 q) (fun _ => ⟨fun q => absurd q g0, fun _ => ⟨fun q => absurd q g4, fun _ => b206_34 ⟨fun q => absurd q g0, fun _ => ⟨fun q => absurd q g5, fun _ => b206_45 ⟨ib, fun q => absurd q g0, fun _ => ?_⟩⟩⟩⟩⟩)))))
      rw [cl]
      exact c206_66 R (by omega) g2 (by omega)
end ZSH

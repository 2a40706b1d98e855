/-! rounds: doors of a weekday -/
theorem nI_and (a b : Nat) : nI a &&& nI b = nI (a &&& b) := by
  apply Int32.toBitVec_inj.mp
  show BitVec.ofNat 32 a &&& BitVec.ofNat 32 b = BitVec.ofNat 32 (a &&& b)
  rw [BitVec.ofNat_and]
theorem nI_or (a b : Nat) : nI a ||| nI b = nI (a ||| b) := by
  apply Int32.toBitVec_inj.mp
  show BitVec.ofNat 32 a ||| BitVec.ofNat 32 b = BitVec.ofNat 32 (a ||| b)
  rw [BitVec.ofNat_or]
theorem nI_xor (a b : Nat) : nI a ^^^ nI b = nI (a ^^^ b) := by
  apply Int32.toBitVec_inj.mp
  show BitVec.ofNat 32 a ^^^ BitVec.ofNat 32 b = BitVec.ofNat 32 (a ^^^ b)
  rw [BitVec.ofNat_xor]
theorem z_bt_tb (s k : Nat) : z_bt s k ↔ s.testBit k = true := by
  rw [Nat.testBit_eq_decide_div_mod_eq]
  unfold z_bt
  exact ⟨fun h => decide_eq_true h, fun h => of_decide_eq_true h⟩
theorem z_low1 : ∀ s, s < 256 → ∀ l, l < 8 → (s.testBit l = true ∧ (∀ j, j < l → s.testBit j = false) → s &&& (s - 1) = s ^^^ 2 ^ l) := by decide +kernel
theorem z_low2 : ∀ s, s < 256 → (nI s &&& -(nI s)) = nI (s ^^^ (s &&& (s - 1))) := by decide +kernel
theorem z_low3 : ∀ s, s < 256 → s = 0 ∨ ∃ l, l < 8 ∧ s.testBit l = true ∧ s ^^^ (s &&& (s - 1)) = 2 ^ l ∧ ∀ j, j < l → s.testBit j = false := by decide +kernel
theorem z_andnot {s t : Nat} (h : t &&& s = t) (hs : s < 2 ^ 32) : nI s &&& (nI t ^^^ (-1)) = nI (s ^^^ t) := by
  rw [show (-1 : Int32) = nI (2 ^ 32 - 1) from by decide, nI_xor, nI_and]
  congr 1
  apply Nat.eq_of_testBit_eq
  intro j
  have hb := z_sb_bit h j
  rw [Nat.testBit_and, Nat.testBit_xor, Nat.testBit_xor, Nat.testBit_two_pow_sub_one]
  by_cases q : j < 32
  · cases q1 : t.testBit j with
    | false => simp [q]
    | true => rw [hb q1]; simp [q]
  · have : s.testBit j = false := Nat.testBit_lt_two_pow (Nat.lt_of_lt_of_le hs (Nat.pow_le_pow_right (by decide) (by omega)))
    cases q1 : t.testBit j with
    | false => simp [this]
    | true => rw [hb q1] at this; cases this
/-- parts of a set, downwards: none is passed over -/
theorem z_subs : ∀ (k m s t : Nat), s < 2 ^ k → s &&& m = s → t &&& m = t → t < s → t ≤ (s - 1) &&& m
  | 0, m, s, t, hk, hs, ht, h => by
    have : 2 ^ 0 = 1 := rfl
    omega
  | k + 1, m, s, t, hk, hs, ht, h => by
    have d1 : s / 2 &&& m / 2 = s / 2 := by rw [← Nat.and_div_two, hs]
    have d2 : t / 2 &&& m / 2 = t / 2 := by rw [← Nat.and_div_two, ht]
    have e : (s - 1) &&& m = 2 * (((s - 1) &&& m) / 2) + ((s - 1) &&& m) % 2 := by omega
    have e2 : ((s - 1) &&& m) / 2 = (s - 1) / 2 &&& m / 2 := Nat.and_div_two
    have md : ∀ a b : Nat, (a &&& b) % 2 = if a % 2 = 1 ∧ b % 2 = 1 then 1 else 0 := by
      intro a b
      have := Nat.and_mod_two_pow (a := a) (b := b) (n := 1)
      rw [show 2 ^ 1 = 2 from rfl] at this
      rw [this]
      have ha : a % 2 = 0 ∨ a % 2 = 1 := by omega
      have hb : b % 2 = 0 ∨ b % 2 = 1 := by omega
      rcases ha with ha | ha <;> rcases hb with hb | hb <;> rw [ha, hb] <;> rfl
    have p2 : 2 ^ (k + 1) = 2 * 2 ^ k := by rw [Nat.pow_succ]; omega
    by_cases q : s % 2 = 1
    · have e3 : (s - 1) / 2 = s / 2 := by omega
      rw [e, e2, e3, d1]
      omega
    · have hs1 : (s - 1) / 2 = s / 2 - 1 := by omega
      have hodd : (s - 1) % 2 = 1 := by omega
      have tm : t % 2 = 1 → m % 2 = 1 := by
        intro q1
        have := md t m
        rw [ht] at this
        by_cases q2 : m % 2 = 1
        · exact q2
        · rw [if_neg (fun z => q2 z.2)] at this
          omega
      have em := md (s - 1) m
      by_cases q3 : t / 2 < s / 2
      · have ih := z_subs k (m / 2) (s / 2) (t / 2) (by omega) d1 d2 q3
        rw [e, e2, hs1]
        by_cases q4 : m % 2 = 1
        · rw [if_pos ⟨hodd, q4⟩] at em
          omega
        · rw [if_neg (fun z => q4 z.2)] at em
          have : ¬ t % 2 = 1 := fun z => q4 (tm z)
          omega
      · omega
def z_nc (wd : Nat → Int32) (a : Int32) : Nat → Nat
  | 0 => 0
  | k + 1 => z_nc wd a k + (if wd k = a then 1 else 0)
def z_ca (wd : Nat → Int32) (a : Int32) : Nat → Nat → Nat
  | 0 => fun _ => 0
  | k + 1 => if wd k = a then (fun j => if j = z_nc wd a k then k else z_ca wd a k j) else z_ca wd a k
theorem z_nc_mono (wd : Nat → Int32) (a : Int32) {x : Nat} : ∀ y, x ≤ y → z_nc wd a x ≤ z_nc wd a y
  | 0, h => by
    have : x = 0 := by omega
    subst this
    exact Nat.le_refl _
  | y + 1, h => by
    by_cases q : x = y + 1
    · rw [q]; exact Nat.le_refl _
    · have := z_nc_mono wd a (x := x) y (by omega)
      rw [z_nc]
      omega
theorem z_ca_1 (wd : Nat → Int32) (a : Int32) : ∀ k j, j < z_nc wd a k → z_ca wd a k j < k ∧ wd (z_ca wd a k j) = a
  | 0, j, h => absurd h (Nat.not_lt_zero j)
  | k + 1, j, h => by
    rw [z_nc] at h
    rw [z_ca]
    by_cases q : wd k = a
    · rw [if_pos q] at h
      rw [if_pos q]
      by_cases q2 : j = z_nc wd a k
      · rw [if_pos q2]
        exact ⟨by omega, q⟩
      · rw [if_neg q2]
        have := z_ca_1 wd a k j (by omega)
        exact ⟨by omega, this.2⟩
    · rw [if_neg q] at h
      rw [if_neg q]
      have := z_ca_1 wd a k j (by omega)
      exact ⟨by omega, this.2⟩
theorem z_ca_2 (wd : Nat → Int32) (a : Int32) : ∀ k x, x < k → wd x = a → ∃ j, j < z_nc wd a k ∧ z_ca wd a k j = x
  | 0, x, h, _ => absurd h (Nat.not_lt_zero x)
  | k + 1, x, h, hx => by
    rw [z_nc, z_ca]
    by_cases q : wd k = a
    · rw [if_pos q, if_pos q]
      by_cases q2 : x = k
      · subst q2
        exact ⟨z_nc wd a x, by omega, if_pos rfl⟩
      · obtain ⟨j, h1, h2⟩ := z_ca_2 wd a k x (by omega) hx
        refine ⟨j, by omega, ?_⟩
        rw [if_neg (by omega)]
        exact h2
    · rw [if_neg q, if_neg q]
      have : x ≠ k := fun z => q (by rw [← z]; exact hx)
      obtain ⟨j, h1, h2⟩ := z_ca_2 wd a k x (by omega) hx
      exact ⟨j, by omega, h2⟩
abbrev z_okd (po ya : Nat → Int32) (mo my : Int32) (x : Nat) : Prop := ¬ mo < po x ∧ ¬ my < 2 * ya x
section ZRO
variable {X : Option (List Int32)} {d : Nat} {A : Int32 → zH → Prop} {B : zH → Prop}
theorem c30_9 {N : Nat} {a mo my : Int32} (hN : N ≤ 12) : ∀ (m k : Nat) (w : Int32) (h : zH), k + m = N → h 49 8 = nI N → z_nc (h 52) a k ≤ 8 → (w = 0 ↔ ¬ ∀ x, x < k → h 52 x = a → z_okd (h 51) (h 53) mo my x) → (∀ j, j < z_nc (h 52) a k → h 56 j = h 51 (z_ca (h 52) a k j)) → (8 < z_nc (h 52) a N → ∀ f, A (-3) (z_pt h 56 f)) → (z_nc (h 52) a N ≤ 8 → ∀ f w', (w' = 0 ↔ ¬ ∀ x, x < N → h 52 x = a → z_okd (h 51) (h 53) mo my x) → (∀ j, j < z_nc (h 52) a N → f j = h 51 (z_ca (h 52) a N j)) → zP X (d + 1) 30 9 [some (.ref 49), some (.int a), some (.int mo), some (.int my), some (.int (nI (z_nc (h 52) a N))), some (.int w'), some (.int (nI N))] [] z_S0 (z_pt h 56 f) (zI A)) → zP X (d + 1) 30 9 [some (.ref 49), some (.int a), some (.int mo), some (.int my), some (.int (nI (z_nc (h 52) a k))), some (.int w), some (.int (nI k))] [] z_S0 h (zI A)
  | 0, k, w, h, hk, hn, h8, hw, hf, k1, k2 => by
    have e : k = N := by omega
    subst e
    have := k2 h8 (h 56) w hw hf
    rw [z_pt_id] at this
    exact this
  | m + 1, k, w, h, hk, hn, h8, hw, hf, k1, k2 => by
    have ib : z_ib (nI k) 12 := vp_in_nI (by omega) (by decide)
    have cl : (nI k).toNatClampNeg = k := nI_clamp (by omega)
    have en : z_nc (h 52) a (k + 1) = z_nc (h 52) a k + (if h 52 k = a then 1 else 0) := rfl
    have ec : z_ca (h 52) a (k + 1) = if h 52 k = a then (fun j => if j = z_nc (h 52) a k then k else z_ca (h 52) a k j) else z_ca (h 52) a k := rfl
    have hmo := z_nc_mono (h 52) a (x := k + 1) N (by omega)
    refine b30_9 ⟨fun _ => ⟨ib, ?_⟩, fun g => ?_⟩
    · rw [cl]
      refine ⟨fun g => ⟨fun g2 => ⟨ib, ?_⟩, fun g2 => ?_⟩, fun g => b30_95 ?_⟩
      · rw [if_pos g] at en ec
        have g2 : z_nc (h 52) a k < 8 := (nI_ltI (b := 8) (by omega) (by decide)).mp g2
        have ib8 : z_ib (nI (z_nc (h 52) a k)) 8 := vp_in_nI g2 (by decide)
        rw [nI_clamp (show z_nc (h 52) a k < 2 ^ 31 by omega), nI_1]
        have go : ∀ w' : Int32, (w' = 0 ↔ (w = 0 ∨ ¬ z_okd (h 51) (h 53) mo my k)) → zP X (d + 1) 30 93 [some (.ref 49), some (.int a), some (.int mo), some (.int my), some (.int (nI (z_nc (h 52) a k + 1))), none, some (.int (nI k))] [.int w'] z_S0 (z_up h 56 (z_nc (h 52) a k) (h 51 k)) (zI A) := by
          intro w' hw'
          refine b30_93 (b30_95 ?_)
          rw [nI_1, ← en]
          refine c30_9 hN m (k + 1) w' (z_up h 56 (z_nc (h 52) a k) (h 51 k)) (by omega) hn (by show z_nc (h 52) a (k + 1) ≤ 8; omega) ?_ ?_ (fun q f => ?_) (fun q f w2 h1 h2 => ?_)
          · show w' = 0 ↔ ¬ ∀ x, x < k + 1 → h 52 x = a → z_okd (h 51) (h 53) mo my x
            rw [hw', hw]
            constructor
            · rintro (q | q) z
              · exact q (fun x hx => z x (by omega))
              · exact q (z k (by omega) g)
            · intro q
              by_cases q2 : z_okd (h 51) (h 53) mo my k
              · refine Or.inl fun z => q fun x hx hx2 => ?_
                by_cases q3 : x = k
                · rw [q3]; exact q2
                · exact z x (by omega) hx2
              · exact Or.inr q2
          · show ∀ j, j < z_nc (h 52) a (k + 1) → upd (h 56) (z_nc (h 52) a k) (h 51 k) j = h 51 (z_ca (h 52) a (k + 1) j)
            intro j hj
            rw [ec]
            dsimp only
            by_cases q : j = z_nc (h 52) a k
            · rw [if_pos q, q, upd_S]
            · rw [if_neg q, upd_N _ _ q]
              exact hf j (by omega)
          · rw [z_up_pt, z_pt_pt]
            exact k1 q f
          · rw [z_up_pt, z_pt_pt]
            exact k2 q f w2 h1 h2
        refine ⟨ib8, fun g3 => b30_92 (go 0 ⟨fun _ => Or.inl g3, fun _ => rfl⟩), fun g3 => ⟨ib, fun g4 => b30_92 (go 0 ⟨fun _ => Or.inr (fun z => z.1 g4), fun _ => rfl⟩), fun g4 => ⟨ib, fun g5 => b30_92 (go 0 ⟨fun _ => Or.inr (fun z => z.2 g5), fun _ => rfl⟩), fun g5 => go 1 ⟨fun q => absurd q (by decide), fun q => q.elim (fun z => absurd z g3) (fun z => absurd ⟨g4, g5⟩ z)⟩⟩⟩⟩
      · rw [if_pos g] at en
        have g2 : ¬ z_nc (h 52) a k < 8 := fun q => g2 ((nI_ltI (b := 8) (by omega) (by decide)).mpr q)
        have := k1 (by omega) (h 56)
        rw [z_pt_id] at this
        exact this
      · rw [if_neg g] at en ec
        rw [nI_1, ← show z_nc (h 52) a (k + 1) = z_nc (h 52) a k from en]
        refine c30_9 hN m (k + 1) w h (by omega) hn (by omega) ?_ ?_ k1 k2
        · rw [hw]
          constructor
          · exact fun q z => q (fun x hx => z x (by omega))
          · refine fun q z => q (fun x hx hx2 => ?_)
            by_cases q3 : x = k
            · rw [q3] at hx2; exact absurd hx2 g
            · exact z x (by omega) hx2
        · intro j hj
          rw [ec]
          exact hf j (by omega)
    · rw [hn, nI_ltI (by omega) (by omega)] at g
      omega
theorem c184_4 {N : Nat} {a : Int32} (hN : N ≤ 12) : ∀ (m k : Nat) (h : zH), k + m = N → h 82 48 = nI N → z_nc (h 116) a k ≤ 8 → (∀ j, j < z_nc (h 116) a k → h 120 j = nI (z_ca (h 116) a k j)) → (8 < z_nc (h 116) a N → ∀ f, A 9 (z_pt h 120 f)) → (z_nc (h 116) a N ≤ 8 → ∀ f, (∀ j, j < z_nc (h 116) a N → f j = nI (z_ca (h 116) a N j)) → A (nI (z_nc (h 116) a N)) (z_pt h 120 f)) → zP X d 184 4 [some (.ref 82), some (.int a), some (.int (nI (z_nc (h 116) a k))), some (.int (nI k))] [] z_S0 h (zI A)
  | 0, k, h, hk, hn, h8, hf, k1, k2 => by
    have e : k = N := by omega
    subst e
    refine b184_4 ⟨fun g => ?_, fun _ => ?_⟩
    · rw [hn, nI_ltI (by omega) (by omega)] at g
      omega
    · have := k2 h8 (h 120) hf
      rw [z_pt_id] at this
      exact this
  | m + 1, k, h, hk, hn, h8, hf, k1, k2 => by
    have ib : z_ib (nI k) 12 := vp_in_nI (by omega) (by decide)
    have cl : (nI k).toNatClampNeg = k := nI_clamp (by omega)
    have en : z_nc (h 116) a (k + 1) = z_nc (h 116) a k + (if h 116 k = a then 1 else 0) := rfl
    have ec : z_ca (h 116) a (k + 1) = if h 116 k = a then (fun j => if j = z_nc (h 116) a k then k else z_ca (h 116) a k j) else z_ca (h 116) a k := rfl
    have hmo := z_nc_mono (h 116) a (x := k + 1) N (by omega)
    refine b184_4 ⟨fun _ => ⟨ib, ?_⟩, fun g => ?_⟩
    · rw [cl]
      refine ⟨fun g => ⟨fun g2 => ?_, fun g2 => ⟨?_, b184_41 ?_⟩⟩, fun g => b184_41 ?_⟩
      · rw [if_pos g] at en
        have g2 : z_nc (h 116) a k = 8 := (nI_eq (b := 8) (by omega) (by decide)).mp g2
        have := k1 (by omega) (h 120)
        rw [z_pt_id] at this
        exact this
      · have g2 : ¬ z_nc (h 116) a k = 8 := fun q => g2 ((nI_eq (b := 8) (by omega) (by decide)).mpr q)
        exact vp_in_nI (by omega) (by decide)
      · rw [if_pos g] at en ec
        have g2 : ¬ z_nc (h 116) a k = 8 := fun q => g2 ((nI_eq (b := 8) (by omega) (by decide)).mpr q)
        rw [nI_1, nI_1, nI_clamp (show z_nc (h 116) a k < 2 ^ 31 by omega), ← en]
        refine c184_4 hN m (k + 1) (z_up h 120 (z_nc (h 116) a k) (nI k)) (by omega) hn (by show z_nc (h 116) a (k + 1) ≤ 8; omega) ?_ (fun q f => ?_) (fun q f h1 => ?_)
        · show ∀ j, j < z_nc (h 116) a (k + 1) → upd (h 120) (z_nc (h 116) a k) (nI k) j = nI (z_ca (h 116) a (k + 1) j)
          intro j hj
          rw [ec]
          dsimp only
          by_cases q : j = z_nc (h 116) a k
          · rw [if_pos q, q, upd_S]
          · rw [if_neg q, upd_N _ _ q]
            exact hf j (by omega)
        · rw [z_up_pt, z_pt_pt]
          exact k1 q f
        · rw [z_up_pt, z_pt_pt]
          exact k2 q f h1
      · rw [if_neg g] at en ec
        rw [nI_1, ← show z_nc (h 116) a (k + 1) = z_nc (h 116) a k from en]
        refine c184_4 hN m (k + 1) h (by omega) hn (by omega) ?_ k1 k2
        intro j hj
        rw [ec]
        exact hf j (by omega)
    · rw [hn, nI_ltI (by omega) (by omega)] at g
      omega
theorem c32 {h : zH} {c q mo : Nat} (hc : c < 2 ^ 29) (hq : q ≤ 9999) (hmo : mo ≤ 9999) (k : A (nI (z_lod mo c q)) h) : zP X d 32 0 (z_ent [.int (nI c), .int (nI q), .int (nI mo)] 4) [] z_S0 h (zI A) := by
  have e : nI c - nI c / 10000 * 10000 = nI (c % 10000) := pk_rem (d := 10000) (by omega) (by decide) (by decide)
  have hm : c % 10000 < 10000 := Nat.mod_lt _ (by decide)
  have hm2 : c % 10000 ≤ c := Nat.mod_le _ _
  refine b32 ?_
  rw [e, nI_add, nI_ltI (by omega) (by omega), z_sbm hm2, nI_add, show (10000 : Int32) = nI 10000 from rfl, nI_add, nI_add]
  unfold z_lod at k
  refine ⟨fun g => ?_, fun g => ?_⟩
  · rw [if_neg (by omega)] at k
    exact k
  · rw [if_pos (by omega)] at k
    exact k
theorem z_lod_lt {mo c q k : Nat} (hmo : mo ≤ 9999) (hq : q ≤ 999) (hc : c < 10000 * (k + 1)) : z_lod mo c q < 10000 * (k + 2) := by
  unfold z_lod
  split <;> omega
theorem z_p8_le : ∀ s, s < 256 → z_pc s 8 ≤ 8 := by decide +kernel
theorem z_p8_x : ∀ s, s < 256 → ∀ i, i < 8 → s.testBit i = true → z_pc s 8 = z_pc (s ^^^ 2 ^ i) 8 + 1 := by decide +kernel
theorem c31_27 {n S mo : Nat} {G p : Nat → Nat} {h : zH} (hn : n ≤ 8) (hS0 : 0 < S) (hS : S < 2 ^ n) (hmo : mo ≤ 9999) (hp : ∀ i, i < n → p i ≤ 999 ∧ h 56 i = nI (p i)) (hG : ∀ t, t < S → h 57 t = nI (G t) ∧ G t < 10000 * (z_pc t 8 + 1)) : ∀ (m k b : Nat), k + m = n → b ≤ 90000 → (∀ i, i < k → S.testBit i = true → b ≤ z_lod mo (G (S ^^^ 2 ^ i)) (p i)) → (b = 90000 ∨ ∃ i, i < k ∧ S.testBit i = true ∧ b = z_lod mo (G (S ^^^ 2 ^ i)) (p i)) → (∀ b, b < 10000 * (z_pc S 8 + 1) → (∀ i, i < n → S.testBit i = true → b ≤ z_lod mo (G (S ^^^ 2 ^ i)) (p i)) → (∃ i, i < n ∧ S.testBit i = true ∧ b = z_lod mo (G (S ^^^ 2 ^ i)) (p i)) → zP X (d + 1) 31 14 [some (.ref 49), some (.int (nI n)), some (.int (nI mo)), some (.int (nI (2 ^ n))), some (.int (nI (S + 1))), none, none] [] z_S0 (z_up h 57 S (nI b)) (zI A)) → zP X (d + 1) 31 27 [some (.ref 49), some (.int (nI n)), some (.int (nI mo)), some (.int (nI (2 ^ n))), some (.int (nI S)), some (.int (nI b)), some (.int (nI k))] [] z_S0 h (zI A)
  | 0, k, b, hk, hb, h1, h2, hA => by
    have h8 := z_pow8 hn
    have e : k = n := by omega
    subst e
    refine b31_27 ⟨fun g => ?_, fun _ => ?_⟩
    · rw [nI_ltI (by omega) (by omega)] at g
      omega
    · rw [nI_clamp (show S < 2 ^ 31 by omega), nI_1]
      refine ⟨vp_in_nI (by omega) (by decide), ?_⟩
      obtain ⟨i, hi⟩ := Nat.exists_testBit_of_ne_zero (x := S) (by omega)
      have hik := z_bit_lt hi hS
      have lt := z_xor_lt (z_bit_sub hi) (Nat.two_pow_pos i)
      have b1 := h1 i hik hi
      have b2 := z_lod_lt hmo (hp i hik).1 (hG (S ^^^ 2 ^ i) lt).2
      have b3 := z_p8_x S (by omega) i (by omega) hi
      have b4 := z_p8_le S (by omega)
      refine hA b (by omega) h1 (h2.resolve_left (by omega))
  | m + 1, k, b, hk, hb, h1, h2, hA => by
    have h8 := z_pow8 hn
    have ibk : z_ib (nI k) 8 := vp_in_nI (by omega) (by decide)
    have clk : (nI k).toNatClampNeg = k := nI_clamp (by omega)
    refine b31_27 ⟨fun _ => ⟨fun g => ?_, fun g => b31_74 ?_⟩, fun g => ?_⟩
    · rw [z_bit (by omega) (by omega), z_bt_tb] at g
      have lt := z_xor_lt (z_bit_sub g) (Nat.two_pow_pos k)
      have hg := hG _ lt
      have hp2 := hp k (by omega)
      have bl := z_lod_lt hmo hp2.1 hg.2
      have b3 := z_p8_x S (by omega) k (by omega) g
      have b4 := z_p8_le S (by omega)
      rw [z_shl1 (by omega), nI_xor, nI_clamp (show S ^^^ 2 ^ k < 2 ^ 31 by omega), clk, hg.1, hp2.2]
      refine ⟨vp_in_nI (by omega) (by decide), ibk, c32 (by omega) (by omega) hmo (c215N (by omega) (by omega) (b31_74 ?_))⟩
      rw [nI_1]
      refine c31_27 hn hS0 hS hmo hp hG m (k + 1) _ (by omega) (by omega) ?_ ?_ hA
      · intro i hi hb
        by_cases q : i = k
        · subst q
          exact Nat.min_le_right _ _
        · exact Nat.le_trans (Nat.min_le_left _ _) (h1 i (by omega) hb)
      · by_cases q : z_lod mo (G (S ^^^ 2 ^ k)) (p k) ≤ b
        · rw [Nat.min_eq_right q]
          exact Or.inr ⟨k, by omega, g, rfl⟩
        · rw [Nat.min_eq_left (by omega)]
          rcases h2 with h2 | ⟨i, x1, x2, x3⟩
          · exact Or.inl h2
          · exact Or.inr ⟨i, by omega, x2, x3⟩
    · rw [z_bit (by omega) (by omega), z_bt_tb] at g
      rw [nI_1]
      refine c31_27 hn hS0 hS hmo hp hG m (k + 1) b (by omega) hb ?_ ?_ hA
      · intro i hi hb
        by_cases q : i = k
        · subst q
          exact absurd hb g
        · exact h1 i (by omega) hb
      · rcases h2 with h2 | ⟨i, x1, x2, x3⟩
        · exact Or.inl h2
        · exact Or.inr ⟨i, by omega, x2, x3⟩
    · exact absurd ((nI_ltI (by omega) (by omega)).mpr (by omega)) g
theorem c31_14 {n mo : Nat} {p : Nat → Nat} (hn : n ≤ 8) (hmo : mo ≤ 9999) : ∀ (m S : Nat) (G : Nat → Nat) (h : zH), S + m = 2 ^ n → 0 < S → (∀ i, i < n → p i ≤ 999 ∧ h 56 i = nI (p i)) → G 0 = 0 → (∀ t, t < S → h 57 t = nI (G t) ∧ G t < 10000 * (z_pc t 8 + 1)) → (∀ s, 0 < s → s < S → (∃ i, i < n ∧ s.testBit i = true ∧ G s = z_lod mo (G (s ^^^ 2 ^ i)) (p i)) ∧ ∀ i, i < n → s.testBit i = true → G s ≤ z_lod mo (G (s ^^^ 2 ^ i)) (p i)) → (∀ G f, z_gP G p n mo → G (2 ^ n - 1) < 2 ^ 31 → A (nI (G (2 ^ n - 1))) (z_pt h 57 f)) → zP X (d + 1) 31 14 [some (.ref 49), some (.int (nI n)), some (.int (nI mo)), some (.int (nI (2 ^ n))), some (.int (nI S)), none, none] [] z_S0 h (zI A)
  | 0, S, G, h, hS, hS0, hp, hG0, hG, hP, hA => by
    have h8 := z_pow8 hn
    have e : S = 2 ^ n := by omega
    subst e
    refine b31_14 ⟨fun g => ?_, fun _ => ?_⟩
    · rw [nI_ltI (by omega) (by omega)] at g
      omega
    · have e1 : nI (2 ^ n) - 1 = nI (2 ^ n - 1) := z_sbm (m := 1) (by omega)
      have hg := hG (2 ^ n - 1) (by omega)
      rw [e1, nI_clamp (show 2 ^ n - 1 < 2 ^ 31 by omega), hg.1]
      refine ⟨vp_in_nI (by omega) (by decide), ?_⟩
      have b4 := z_p8_le (2 ^ n - 1) (by omega)
      have := hA G (h 57) ⟨hG0, hP⟩ (by omega)
      rw [z_pt_id] at this
      exact this
  | m + 1, S, G, h, hS, hS0, hp, hG0, hG, hP, hA => by
    have h8 := z_pow8 hn
    refine b31_14 ⟨fun _ => ?_, fun g => ?_⟩
    · refine c31_27 (k := 0) (b := 90000) hn hS0 (by omega) hmo hp hG n (by omega) (by omega) (fun i hi => absurd hi (Nat.not_lt_zero i)) (Or.inl rfl) ?_
      intro b hb h1 h2
      refine c31_14 hn hmo m (S + 1) (fun t => if t = S then b else G t) _ (by omega) (by omega) hp ?_ ?_ ?_ ?_
      · show (if (0 : Nat) = S then b else G 0) = 0
        rw [if_neg (by omega)]
        exact hG0
      · intro t ht
        show upd (h 57) S (nI b) t = nI (if t = S then b else G t) ∧ (if t = S then b else G t) < 10000 * (z_pc t 8 + 1)
        by_cases q : t = S
        · subst q
          rw [upd_S, if_pos rfl]
          exact ⟨rfl, hb⟩
        · rw [upd_N _ _ q, if_neg q]
          exact hG t (by omega)
      · intro s hs0 hs
        have ne : ∀ i, s.testBit i = true → ¬ s ^^^ 2 ^ i = S := by
          intro i hi
          have := z_xor_lt (z_bit_sub hi) (Nat.two_pow_pos i)
          omega
        by_cases q : s = S
        · subst q
          rw [if_pos rfl]
          refine ⟨?_, fun i hi hb => ?_⟩
          · obtain ⟨i, x1, x2, x3⟩ := h2
            refine ⟨i, x1, x2, ?_⟩
            rw [if_neg (ne i x2)]
            exact x3
          · rw [if_neg (ne i hb)]
            exact h1 i hi hb
        · rw [if_neg q]
          obtain ⟨⟨i, x1, x2, x3⟩, x4⟩ := hP s hs0 (by omega)
          refine ⟨⟨i, x1, x2, ?_⟩, fun i hi hb => ?_⟩
          · rw [if_neg (ne i x2)]
            exact x3
          · rw [if_neg (ne i hb)]
            exact x4 i hi hb
      · intro G' f hg hl
        rw [z_up_pt, z_pt_pt]
        exact hA G' f hg hl
    · exact absurd ((nI_ltI (by omega) (by omega)).mpr (by omega)) g
theorem c31 {n mo : Nat} {p : Nat → Nat} {h : zH} (hn : n ≤ 8) (hmo : mo ≤ 9999) (hp : ∀ i, i < n → p i ≤ 999 ∧ h 56 i = nI (p i)) (hA : ∀ G f, z_gP G p n mo → G (2 ^ n - 1) < 2 ^ 31 → A (nI (G (2 ^ n - 1))) (z_pt h 57 f)) : zP X (d + 1) 31 0 (z_ent [.ref 49, .int (nI n), .int (nI mo)] 7) [] z_S0 h (zI A) := by
  have hpos : 0 < 2 ^ n := Nat.two_pow_pos n
  refine b31 ?_
  rw [z_shl1 (by omega)]
  refine c31_14 (S := 1) hn hmo (2 ^ n - 1) (fun _ => 0) _ (by omega) (by omega) hp rfl ?_ (fun s h1 h2 => by omega) ?_
  · intro t ht
    have : t = 0 := by omega
    subst this
    exact ⟨rfl, Nat.mul_pos (by decide) (Nat.succ_pos _)⟩
  · intro G f hg hl
    rw [z_up_pt, z_pt_pt]
    exact hA G f hg hl
end ZRO

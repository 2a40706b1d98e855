/-! rounds: the reference's way, and both together -/
theorem z_part {S l t : Nat} (hb : S.testBit l = true) (ht : t &&& (S ^^^ 2 ^ l) = t) : (t ||| 2 ^ l) &&& S = t ||| 2 ^ l ∧ (t ||| 2 ^ l).testBit l = true := by
  refine ⟨?_, ?_⟩
  · apply Nat.eq_of_testBit_eq
    intro j
    have h1 := z_sb_bit ht j
    rw [Nat.testBit_xor, Nat.testBit_two_pow] at h1
    rw [Nat.testBit_and, Nat.testBit_or, Nat.testBit_two_pow]
    by_cases q : l = j
    · subst q
      rw [hb]
      simp
    · cases q1 : t.testBit j with
      | false => simp [q]
      | true =>
        have := h1 q1
        simp [q] at this
        simp [this]
  · rw [Nat.testBit_or, Nat.testBit_two_pow]
    simp
theorem z_part2 {S l sub : Nat} (hs : sub &&& S = sub) (hl : sub.testBit l = true) : (sub ^^^ 2 ^ l) &&& (S ^^^ 2 ^ l) = sub ^^^ 2 ^ l ∧ (sub ^^^ 2 ^ l) ||| 2 ^ l = sub := by
  refine ⟨?_, ?_⟩
  · apply Nat.eq_of_testBit_eq
    intro j
    have h1 := z_sb_bit hs j
    have h2 := z_sb_bit hs l hl
    rw [Nat.testBit_and, Nat.testBit_xor, Nat.testBit_xor, Nat.testBit_two_pow]
    by_cases q : l = j
    · subst q
      rw [h2, hl]
      simp
    · cases q1 : sub.testBit j with
      | false => simp [q]
      | true => rw [h1 q1]; simp [q]
  · apply Nat.eq_of_testBit_eq
    intro j
    rw [Nat.testBit_or, Nat.testBit_xor, Nat.testBit_two_pow]
    by_cases q : l = j
    · subst q
      rw [hl]
      simp
    · simp [q]
theorem z_low {S : Nat} (h0 : 0 < S) (h8 : S < 256) : ∃ l, l < 8 ∧ S.testBit l = true ∧ (∀ j, j < l → S.testBit j = false) ∧ S &&& (S - 1) = S ^^^ 2 ^ l ∧ S ^^^ (S &&& (S - 1)) = 2 ^ l := by
  rcases z_low3 S h8 with q | ⟨l, h1, h2, h3, h4⟩
  · omega
  · exact ⟨l, h1, h2, h4, z_low1 S h8 l h1 ⟨h2, h4⟩, h3⟩
section ZRP
variable {X : Option (List Int32)} {d : Nat} {A : Int32 → zH → Prop} {B : zH → Prop}
theorem c185_11 {n S l : Nat} {ca : Nat → Nat} {h : zH} (hn : n ≤ 8) (hS : S < 2 ^ n) (hb : S.testBit l = true) (hlow : ∀ j, j < l → S.testBit j = false) (e : S &&& (S - 1) = S ^^^ 2 ^ l) (hc : ∀ j, j < n → ca j < 12 ∧ h 120 j = nI (ca j)) (K : zP X d 185 2 [some (.ref 82), some (.int (nI n)), some (.int (nI (S + 1))), none] [] z_S0 (z_up h 121 S (h 121 (S ^^^ 2 ^ l) + h 115 (ca l))) (zV B)) : ∀ (m k : Nat), k + m = l → zP X d 185 11 [some (.ref 82), some (.int (nI n)), some (.int (nI S)), some (.int (nI k))] [] z_S0 h (zV B)
  | 0, k, hk => by
    have h8 := z_pow8 hn
    have ek : k = l := by omega
    subst ek
    have hl := z_bit_lt hb hS
    have h0 : 0 < S := by
      refine Nat.pos_of_ne_zero fun q => ?_
      rw [q, Nat.zero_testBit] at hb
      cases hb
    have lt := z_xor_lt (z_bit_sub hb) (Nat.two_pow_pos k)
    have hck := hc k hl
    refine b185_11 ⟨fun g => ?_, fun _ => ?_⟩
    · rw [z_bit0 (by omega) (by omega), z_bt_tb] at g
      exact absurd hb g
    · have e1 : nI S - 1 = nI (S - 1) := z_sbm (m := 1) (by omega)
      rw [e1, nI_and, e, nI_clamp (show k < 2 ^ 31 by omega), hck.2, nI_clamp (show ca k < 2 ^ 31 by omega), nI_clamp (show S ^^^ 2 ^ k < 2 ^ 31 by omega), nI_clamp (show S < 2 ^ 31 by omega), nI_1]
      exact ⟨vp_in_nI (by omega) (by decide), vp_in_nI (by omega) (by decide), vp_in_nI hck.1 (by decide), vp_in_nI (by omega) (by decide), K⟩
  | m + 1, k, hk => by
    have h8 := z_pow8 hn
    have hl := z_bit_lt hb hS
    refine b185_11 ⟨fun _ => ?_, fun g => ?_⟩
    · rw [nI_1]
      exact c185_11 hn hS hb hlow e hc K m (k + 1) (by omega)
    · refine absurd ?_ g
      rw [z_bit0 (by omega) (by omega), z_bt_tb, hlow k (by omega)]
      decide
theorem c185_2 {n : Nat} {ca p : Nat → Nat} (hn : n ≤ 8) : ∀ (m S : Nat) (h : zH), S + m = 2 ^ n → 0 < S → (∀ j, j < n → ca j < 12 ∧ h 120 j = nI (ca j)) → (∀ j, j < n → h 115 (ca j) = nI (p j)) → (∀ t, t < S → h 121 t = nI (z_pw p t n)) → (∀ f, (∀ t, t < 2 ^ n → f t = nI (z_pw p t n)) → B (z_pt h 121 f)) → zP X d 185 2 [some (.ref 82), some (.int (nI n)), some (.int (nI S)), none] [] z_S0 h (zV B)
  | 0, S, h, hS, h0, hc, hp, hf, hB => by
    have h8 := z_pow8 hn
    refine b185_2 ⟨fun g => ?_, fun _ => ?_⟩
    · rw [z_shl1 (by omega), nI_ltI (by omega) (by omega)] at g
      omega
    · have := hB (h 121) (fun t ht => hf t (by omega))
      rw [z_pt_id] at this
      exact this
  | m + 1, S, h, hS, h0, hc, hp, hf, hB => by
    have h8 := z_pow8 hn
    obtain ⟨l, l1, l2, l3, l4, l5⟩ := z_low h0 (by omega)
    have hl := z_bit_lt l2 (show S < 2 ^ n by omega)
    have lt := z_xor_lt (z_bit_sub l2) (Nat.two_pow_pos l)
    refine b185_2 ⟨fun _ => ?_, fun g => ?_⟩
    · refine c185_11 (k := 0) hn (by omega) l2 l3 l4 hc ?_ l (by omega)
      refine c185_2 hn m (S + 1) _ (by omega) (by omega) hc hp ?_ ?_
      · intro t ht
        show upd (h 121) S (h 121 (S ^^^ 2 ^ l) + h 115 (ca l)) t = nI (z_pw p t n)
        by_cases q : t = S
        · subst q
          have sp := z_pw_split p (z_bit_sub l2) n
          rw [z_pw_bit, if_pos hl] at sp
          rw [upd_S, hf _ lt, hp l hl, nI_add, sp, Nat.add_comm]
        · rw [upd_N _ _ q]
          exact hf t (by omega)
      · intro f hf2
        rw [z_up_pt, z_pt_pt]
        exact hB f hf2
    · refine absurd ?_ g
      rw [z_shl1 (by omega), nI_ltI (by omega) (by omega)]
      omega
theorem c186_54 {n S l mo : Nat} {p F : Nat → Nat} (hn : n ≤ 8) (hS0 : 0 < S) (hS : S < 2 ^ n) (hmo : mo ≤ 9999) (hb : S.testBit l = true) (hpw : ∀ t, t < 2 ^ n → z_pw p t n < 2 ^ 31)
    (hF9 : ∀ t, t < S → F t ≤ 9) : ∀ (m t b : Nat) (h : zH), t ≤ m → t &&& (S ^^^ 2 ^ l) = t → b ≤ 9 → (∀ t, t < 2 ^ n → h 121 t = nI (z_pw p t n)) → (∀ t, t < S → h 122 t = nI (F t)) → h 122 S = nI b → (b = 9 ∨ ∃ sub, sub &&& S = sub ∧ sub.testBit l = true ∧ z_pw p sub n ≤ mo ∧ b = F (S ^^^ sub) + 1) → (∀ sub, sub &&& S = sub → sub.testBit l = true → z_pw p sub n ≤ mo → t < sub ^^^ 2 ^ l → b ≤ F (S ^^^ sub) + 1) →
    (∀ b f, b ≤ 9 → (∀ t, ¬ t = S → f t = h 122 t) → f S = nI b → (b = 9 ∨ ∃ sub, sub &&& S = sub ∧ sub.testBit l = true ∧ z_pw p sub n ≤ mo ∧ b = F (S ^^^ sub) + 1) → (∀ sub, sub &&& S = sub → sub.testBit l = true → z_pw p sub n ≤ mo → b ≤ F (S ^^^ sub) + 1) → zP X (d + 1) 186 21 [some (.ref 82), some (.int (nI n)), some (.int (nI mo)), some (.int (nI (S + 1))), none, none, none, none, none] [] z_S0 (z_pt h 122 f) (zI A)) →
    zP X (d + 1) 186 54 [some (.ref 82), some (.int (nI n)), some (.int (nI mo)), some (.int (nI S)), some (.int (nI (2 ^ l))), some (.int (nI (S ^^^ 2 ^ l))), some (.int (nI t)), none, none] [] z_S0 h (zI A) := by
  intro m
  induction m with
  | zero =>
    intro t b h hm ht hb9 hw hf hfS h1 h2 K
    have h8 := z_pow8 hn
    have e0 : t = 0 := by omega
    subst e0
    obtain ⟨p1, p2⟩ := z_part hb ht
    have p3 := z_sub_le p1
    have pos : 0 < 0 ||| 2 ^ l := by
      refine Nat.pos_of_ne_zero fun q => ?_
      rw [q, Nat.zero_testBit] at p2
      cases p2
    have p4 := z_xor_lt p1 pos
    have ibS : z_ib (nI S) 256 := vp_in_nI (by omega) (by decide)
    have clS : (nI S).toNatClampNeg = S := nI_clamp (by omega)
    have fin : ∀ b', b' ≤ 9 → (b' = 9 ∨ ∃ sub, sub &&& S = sub ∧ sub.testBit l = true ∧ z_pw p sub n ≤ mo ∧ b' = F (S ^^^ sub) + 1) → (∀ sub, sub &&& S = sub → sub.testBit l = true → z_pw p sub n ≤ mo → b' ≤ F (S ^^^ sub) + 1) → zP X (d + 1) 186 138 [some (.ref 82), some (.int (nI n)), some (.int (nI mo)), some (.int (nI S)), some (.int (nI (2 ^ l))), some (.int (nI (S ^^^ 2 ^ l))), some (.int (nI 0)), none, none] [.int (nI b'), .int (nI S), .ref 122] z_S0 h (zI A) := by
      intro b' x1 x2 x3
      refine b186_138 ⟨ibS, fun _ => b186_155 (b186_54 ⟨fun _ => ?_, fun g => absurd (by decide) g⟩), fun g => absurd rfl g⟩
      rw [clS, nI_1, z_up_pt]
      exact K b' _ x1 (fun t q => upd_N _ _ q) (upd_S _ _ _) x2 x3
    have all : ∀ sub, sub &&& S = sub → sub.testBit l = true → sub = 0 ||| 2 ^ l ∨ 0 < sub ^^^ 2 ^ l := by
      intro sub y1 y2
      by_cases q : sub ^^^ 2 ^ l = 0
      · have := (z_part2 y1 y2).2
        rw [q] at this
        exact Or.inl this.symm
      · exact Or.inr (by omega)
    refine b186_54 ⟨fun g => absurd g (by decide), fun _ => ?_⟩
    rw [nI_or, nI_clamp (show 0 ||| 2 ^ l < 2 ^ 31 by omega), hw _ (by omega), z_andnot p1 (by omega), nI_clamp (show S ^^^ (0 ||| 2 ^ l) < 2 ^ 31 by omega), hf _ p4, clS, hfS, nI_1]
    have l9 := hF9 _ p4
    have lpw := hpw (0 ||| 2 ^ l) (by omega)
    have skip : (z_pw p (0 ||| 2 ^ l) n ≤ mo → b ≤ F (S ^^^ (0 ||| 2 ^ l)) + 1) → zP X (d + 1) 186 103 [some (.ref 82), some (.int (nI n)), some (.int (nI mo)), some (.int (nI S)), some (.int (nI (2 ^ l))), some (.int (nI (S ^^^ 2 ^ l))), some (.int (nI 0)), some (.int (nI (0 ||| 2 ^ l))), none] [] z_S0 h (zI A) := by
      intro y
      refine b186_103 (b186_104 ⟨fun _ => ⟨ibS, ?_⟩, fun g => absurd rfl g⟩)
      rw [clS, hfS]
      refine fin b hb9 h1 (fun sub y1 y2 y3 => ?_)
      rcases all sub y1 y2 with q | q
      · rw [q] at y3 ⊢
        exact y y3
      · exact h2 sub y1 y2 y3 q
    refine ⟨vp_in_nI (by omega) (by decide), fun g => skip (fun y => ?_), fun g => ⟨vp_in_nI (by omega) (by decide), ibS, fun g2 => ?_, fun g2 => skip (fun y => ?_)⟩⟩
    · rw [nI_ltI (by omega) lpw] at g
      omega
    · rw [nI_ltI (by omega) lpw] at g
      rw [nI_ltI (by omega) (by omega)] at g2
      refine b186_104 ⟨fun g => absurd g (by decide), fun _ => ?_⟩
      rw [z_andnot p1 (by omega), nI_clamp (show S ^^^ (0 ||| 2 ^ l) < 2 ^ 31 by omega), hf _ p4, nI_1]
      refine ⟨vp_in_nI (by omega) (by decide), fin _ (by omega) (Or.inr ⟨_, p1, p2, by omega, rfl⟩) (fun sub y1 y2 y3 => ?_)⟩
      rcases all sub y1 y2 with q | q
      · rw [q]
        exact Nat.le_refl _
      · have := h2 sub y1 y2 y3 q
        omega
    · rw [nI_ltI (by omega) (by omega)] at g2
      omega
  | succ m ih =>
    intro t b h hm ht hb9 hw hf hfS h1 h2 K
    by_cases t0 : t = 0
    · exact ih t b h (by omega) ht hb9 hw hf hfS h1 h2 K
    have h8 := z_pow8 hn
    obtain ⟨p1, p2⟩ := z_part hb ht
    have p3 := z_sub_le p1
    have pos : 0 < t ||| 2 ^ l := by
      refine Nat.pos_of_ne_zero fun q => ?_
      rw [q, Nat.zero_testBit] at p2
      cases p2
    have p4 := z_xor_lt p1 pos
    have tle : t ≤ S := by
      have := z_sub_le ht
      have := z_sub_le (z_xor_sub (z_bit_sub hb))
      omega
    have ibS : z_ib (nI S) 256 := vp_in_nI (by omega) (by decide)
    have clS : (nI S).toNatClampNeg = S := nI_clamp (by omega)
    have nle : (t - 1) &&& (S ^^^ 2 ^ l) ≤ t - 1 := Nat.and_le_left
    have nsub : ((t - 1) &&& (S ^^^ 2 ^ l)) &&& (S ^^^ 2 ^ l) = (t - 1) &&& (S ^^^ 2 ^ l) := by rw [Nat.and_assoc, Nat.and_self]
    have fin : ∀ b', b' ≤ 9 → (b' = 9 ∨ ∃ sub, sub &&& S = sub ∧ sub.testBit l = true ∧ z_pw p sub n ≤ mo ∧ b' = F (S ^^^ sub) + 1) → (∀ sub, sub &&& S = sub → sub.testBit l = true → z_pw p sub n ≤ mo → t ≤ sub ^^^ 2 ^ l → b' ≤ F (S ^^^ sub) + 1) → zP X (d + 1) 186 138 [some (.ref 82), some (.int (nI n)), some (.int (nI mo)), some (.int (nI S)), some (.int (nI (2 ^ l))), some (.int (nI (S ^^^ 2 ^ l))), some (.int (nI t)), none, none] [.int (nI b'), .int (nI S), .ref 122] z_S0 h (zI A) := by
      intro b' x1 x2 x3
      refine b186_138 ⟨ibS, fun g => absurd g (nI_ne0 (by omega) (by omega)), fun _ => b186_155 ?_⟩
      have e1 : nI t - 1 = nI (t - 1) := z_sbm (m := 1) (by omega)
      rw [clS, e1, nI_and]
      refine ih _ b' (z_up h 122 S (nI b')) (by omega) nsub x1 hw ?_ (upd_S _ _ _) x2 ?_ ?_
      · intro t' ht'
        show upd (h 122) S (nI b') t' = nI (F t')
        rw [upd_N _ _ (by omega)]
        exact hf t' ht'
      · intro sub y1 y2 y3 y4
        refine x3 sub y1 y2 y3 (Nat.le_of_not_lt fun q => ?_)
        have := z_subs n (S ^^^ 2 ^ l) t (sub ^^^ 2 ^ l) (by omega) ht (z_part2 y1 y2).1 q
        omega
      · intro b2 f z1 z2 z3 z4 z5
        rw [z_up_pt, z_pt_pt]
        refine K b2 f z1 (fun t' q => ?_) z3 z4 z5
        rw [z2 t' q]
        exact upd_N _ _ q
    have all : ∀ sub, sub &&& S = sub → sub.testBit l = true → t ≤ sub ^^^ 2 ^ l → sub = t ||| 2 ^ l ∨ t < sub ^^^ 2 ^ l := by
      intro sub y1 y2 y3
      by_cases q : sub ^^^ 2 ^ l = t
      · have := (z_part2 y1 y2).2
        rw [q] at this
        exact Or.inl this.symm
      · exact Or.inr (by omega)
    refine b186_54 ⟨fun g => absurd g (nI_pos (by omega)), fun _ => ?_⟩
    rw [nI_or, nI_clamp (show t ||| 2 ^ l < 2 ^ 31 by omega), hw _ (by omega), z_andnot p1 (by omega), nI_clamp (show S ^^^ (t ||| 2 ^ l) < 2 ^ 31 by omega), hf _ p4, clS, hfS, nI_1]
    have l9 := hF9 _ p4
    have lpw := hpw (t ||| 2 ^ l) (by omega)
    have skip : (z_pw p (t ||| 2 ^ l) n ≤ mo → b ≤ F (S ^^^ (t ||| 2 ^ l)) + 1) → zP X (d + 1) 186 103 [some (.ref 82), some (.int (nI n)), some (.int (nI mo)), some (.int (nI S)), some (.int (nI (2 ^ l))), some (.int (nI (S ^^^ 2 ^ l))), some (.int (nI t)), some (.int (nI (t ||| 2 ^ l))), none] [] z_S0 h (zI A) := by
      intro y
      refine b186_103 (b186_104 ⟨fun _ => ⟨ibS, ?_⟩, fun g => absurd rfl g⟩)
      rw [clS, hfS]
      refine fin b hb9 h1 (fun sub y1 y2 y3 y4 => ?_)
      rcases all sub y1 y2 y4 with q | q
      · rw [q] at y3 ⊢
        exact y y3
      · exact h2 sub y1 y2 y3 q
    refine ⟨vp_in_nI (by omega) (by decide), fun g => skip (fun y => ?_), fun g => ⟨vp_in_nI (by omega) (by decide), ibS, fun g2 => ?_, fun g2 => skip (fun y => ?_)⟩⟩
    · rw [nI_ltI (by omega) lpw] at g
      omega
    · rw [nI_ltI (by omega) lpw] at g
      rw [nI_ltI (by omega) (by omega)] at g2
      refine b186_104 ⟨fun g => absurd g (by decide), fun _ => ?_⟩
      rw [z_andnot p1 (by omega), nI_clamp (show S ^^^ (t ||| 2 ^ l) < 2 ^ 31 by omega), hf _ p4, nI_1]
      refine ⟨vp_in_nI (by omega) (by decide), fin _ (by omega) (Or.inr ⟨_, p1, p2, by omega, rfl⟩) (fun sub y1 y2 y3 y4 => ?_)⟩
      rcases all sub y1 y2 y4 with q | q
      · rw [q]
        exact Nat.le_refl _
      · have := h2 sub y1 y2 y3 q
        omega
    · rw [nI_ltI (by omega) (by omega)] at g2
      omega
theorem c186_21 {n mo : Nat} {p : Nat → Nat} (hn : n ≤ 8) (hmo : mo ≤ 9999) (hpw : ∀ t, t < 2 ^ n → z_pw p t n < 2 ^ 31) : ∀ (m S : Nat) (F : Nat → Nat) (h : zH), S + m = 2 ^ n → 0 < S → (∀ t, t < 2 ^ n → h 121 t = nI (z_pw p t n)) → F 0 = 0 → (∀ t, t < S → h 122 t = nI (F t) ∧ F t ≤ 9) → (∀ s, 0 < s → s < S → ∃ i, s.testBit i = true ∧ (F s = 9 ∨ ∃ sub, sub &&& s = sub ∧ sub.testBit i = true ∧ z_pw p sub n ≤ mo ∧ F s = F (s ^^^ sub) + 1) ∧ ∀ sub, sub &&& s = sub → sub.testBit i = true → z_pw p sub n ≤ mo → F s ≤ F (s ^^^ sub) + 1) → (∀ F f, z_fP F p n mo → A (nI (F (2 ^ n - 1))) (z_pt h 122 f)) → zP X (d + 1) 186 21 [some (.ref 82), some (.int (nI n)), some (.int (nI mo)), some (.int (nI S)), none, none, none, none, none] [] z_S0 h (zI A)
  | 0, S, F, h, hS, hS0, hw, hF0, hF, hP, hA => by
    have h8 := z_pow8 hn
    have e : S = 2 ^ n := by omega
    subst e
    refine b186_21 ⟨fun g => ?_, fun _ => ?_⟩
    · rw [z_shl1 (by omega), nI_ltI (by omega) (by omega)] at g
      omega
    · have e1 : nI (2 ^ n) - 1 = nI (2 ^ n - 1) := z_sbm (m := 1) (by omega)
      have hg := hF (2 ^ n - 1) (by omega)
      rw [z_shl1 (by omega), e1, nI_clamp (show 2 ^ n - 1 < 2 ^ 31 by omega), hg.1]
      refine ⟨vp_in_nI (by omega) (by decide), ?_⟩
      have := hA F (h 122) ⟨hF0, hP⟩
      rw [z_pt_id] at this
      exact this
  | m + 1, S, F, h, hS, hS0, hw, hF0, hF, hP, hA => by
    have h8 := z_pow8 hn
    obtain ⟨l, l1, l2, l3, l4, l5⟩ := z_low hS0 (by omega)
    have lt := z_xor_lt (z_bit_sub l2) (Nat.two_pow_pos l)
    refine b186_21 ⟨fun _ => ⟨vp_in_nI (by omega) (by decide), ?_⟩, fun g => ?_⟩
    · rw [z_low2 S (by omega), l5, z_andnot (z_bit_sub l2) (by omega), nI_clamp (show S < 2 ^ 31 by omega)]
      refine c186_54 (F := F) hn hS0 (by omega) hmo l2 hpw (fun t ht => (hF t ht).2) (S ^^^ 2 ^ l) (S ^^^ 2 ^ l) 9 _ (Nat.le_refl _) (Nat.and_self _) (Nat.le_refl _) hw ?_ (upd_S _ _ _) (Or.inl rfl) ?_ ?_
      · intro t ht
        show upd (h 122) S 9 t = nI (F t)
        rw [upd_N _ _ (by omega)]
        exact (hF t ht).1
      · intro sub y1 y2 _ y4
        have := z_sub_le (z_part2 y1 y2).1
        omega
      · intro b f z1 z2 z3 z4 z5
        rw [z_up_pt, z_pt_pt]
        have z2 : ∀ t, ¬ t = S → f t = h 122 t := fun t q => by rw [z2 t q]; exact upd_N _ _ q
        have ne : ∀ s sub, s ≤ S → 0 < sub → sub &&& s = sub → ¬ s ^^^ sub = S := by
          intro s sub y1 y2 y3
          have := z_xor_lt y3 y2
          omega
        have pos : ∀ sub i, sub.testBit i = true → 0 < sub := by
          intro sub i y
          refine Nat.pos_of_ne_zero fun q => ?_
          rw [q, Nat.zero_testBit] at y
          cases y
        refine c186_21 hn hmo hpw m (S + 1) (fun t => if t = S then b else F t) _ (by omega) (by omega) hw ?_ ?_ ?_ ?_
        · show (if (0 : Nat) = S then b else F 0) = 0
          rw [if_neg (by omega)]
          exact hF0
        · intro t ht
          show f t = nI (if t = S then b else F t) ∧ (if t = S then b else F t) ≤ 9
          by_cases q : t = S
          · subst q
            rw [if_pos rfl]
            exact ⟨z3, z1⟩
          · rw [if_neg q, z2 t q]
            exact hF t (by omega)
        · intro s s0 s1
          by_cases q : s = S
          · subst q
            refine ⟨l, l2, ?_, ?_⟩
            · rcases z4 with z4 | ⟨sub, y1, y2, y3, y4⟩
              · exact Or.inl (by rw [if_pos rfl]; exact z4)
              · refine Or.inr ⟨sub, y1, y2, y3, ?_⟩
                rw [if_pos rfl, if_neg (ne s sub (Nat.le_refl _) (pos _ _ y2) y1)]
                exact y4
            · intro sub y1 y2 y3
              rw [if_pos rfl, if_neg (ne s sub (Nat.le_refl _) (pos _ _ y2) y1)]
              exact z5 sub y1 y2 y3
          · obtain ⟨i, x1, x2, x3⟩ := hP s s0 (by omega)
            refine ⟨i, x1, ?_, ?_⟩
            · rcases x2 with x2 | ⟨sub, y1, y2, y3, y4⟩
              · exact Or.inl (by rw [if_neg q]; exact x2)
              · refine Or.inr ⟨sub, y1, y2, y3, ?_⟩
                rw [if_neg q, if_neg (ne s sub (by omega) (pos _ _ y2) y1)]
                exact y4
            · intro sub y1 y2 y3
              rw [if_neg q, if_neg (ne s sub (by omega) (pos _ _ y2) y1)]
              exact x3 sub y1 y2 y3
        · intro F' f' hf'
          rw [z_pt_pt]
          exact hA F' f' hf'
    · refine absurd ?_ g
      rw [z_shl1 (by omega), nI_ltI (by omega) (by omega)]
      omega
theorem z_pw_le {p : Nat → Nat} (hp : ∀ i, p i ≤ 999) (t : Nat) : ∀ n, z_pw p t n ≤ 999 * n
  | 0 => Nat.le_refl _
  | n + 1 => by
    have := z_pw_le hp t n
    have := hp n
    rw [z_pw]
    split <;> omega
theorem c186 {n mo : Nat} {ca p : Nat → Nat} {h : zH} (hn : n ≤ 8) (hmo : mo ≤ 9999) (hpb : ∀ i, p i ≤ 999) (hc : ∀ j, j < n → ca j < 12 ∧ h 120 j = nI (ca j)) (hp : ∀ j, j < n → h 115 (ca j) = nI (p j)) (hA : ∀ F f g, z_fP F p n mo → A (nI (F (2 ^ n - 1))) (z_pt (z_pt h 121 f) 122 g)) : zP X (d + 1) 186 0 (z_ent [.ref 82, .int (nI n), .int (nI mo)] 9) [] z_S0 h (zI A) := by
  have h8 := z_pow8 hn
  have hpos : 0 < 2 ^ n := Nat.two_pow_pos n
  refine b186 (b185 (c185_2 (S := 1) (p := p) (ca := ca) hn (2 ^ n - 1) _ (by omega) (by omega) hc hp ?_ ?_))
  · intro t ht
    have : t = 0 := by omega
    subst this
    show (0 : Int32) = nI (z_pw p 0 n)
    rw [z_pw_0]
    rfl
  · intro f hf
    rw [z_up_pt h 121 0 0, z_pt_pt, z_up_pt]
    refine c186_21 (S := 1) hn hmo (fun t _ => ?_) (2 ^ n - 1) (fun _ => 0) _ (by omega) (by omega) hf rfl ?_ (fun s h1 h2 => by omega) ?_
    · have := z_pw_le hpb t n
      omega
    · intro t ht
      have : t = 0 := by omega
      subst this
      exact ⟨rfl, Nat.zero_le _⟩
    · intro F g hF
      rw [z_pt_pt]
      exact hA F f g hF
theorem c187_59 {n : Nat} {mo my : Int32} {ca : Nat → Nat} {h : zH} (hn : n ≤ 8) (hc : ∀ j, j < n → ca j < 12 ∧ h 120 j = nI (ca j)) (k1 : (∃ j, j < n ∧ ¬ z_okd (h 115) (h 117) mo my (ca j)) → A (-1) h) (k2 : (∀ j, j < n → z_okd (h 115) (h 117) mo my (ca j)) → zP X d 186 0 (z_ent [.ref 82, .int (nI n), .int mo] 9) [] z_S0 h (zI A)) : ∀ (m k : Nat), k + m = n → (∀ j, j < k → z_okd (h 115) (h 117) mo my (ca j)) → zP X (d + 1) 187 59 [some (.ref 82), none, some (.int mo), some (.int my), some (.int (nI n)), some (.int (nI k))] [] z_S0 h (zI A)
  | 0, k, hk, ho => by
    have e : k = n := by omega
    subst e
    refine b187_59 ⟨fun g => ?_, fun _ => k2 ho⟩
    rw [nI_ltI (by omega) (by omega)] at g
    omega
  | m + 1, k, hk, ho => by
    have hck := hc k (by omega)
    have ib : z_ib (nI k) 8 := vp_in_nI (by omega) (by decide)
    have cl : (nI k).toNatClampNeg = k := nI_clamp (by omega)
    refine b187_59 ⟨fun _ => ?_, fun g => ?_⟩
    · rw [cl, hck.2, nI_clamp (show ca k < 2 ^ 31 by omega)]
      have ib2 : z_ib (nI (ca k)) 12 := vp_in_nI hck.1 (by decide)
      refine ⟨ib, ib2, fun g => k1 ⟨k, by omega, fun q => q.1 g⟩, fun g => ⟨ib, ib2, fun g2 => k1 ⟨k, by omega, fun q => q.2 g2⟩, fun g2 => ?_⟩⟩
      rw [nI_1]
      refine c187_59 hn hc k1 k2 m (k + 1) (by omega) (fun j hj => ?_)
      by_cases q : j = k
      · rw [q]
        exact ⟨g, g2⟩
      · exact ho j (by omega)
    · exact absurd ((nI_ltI (by omega) (by omega)).mpr (by omega)) g
theorem zR_ro {h g : zH} (R : zR h) (E : ∀ c, ¬ c = 56 → ¬ c = 57 → ¬ c = 120 → ¬ c = 121 → ¬ c = 122 → g c = h c) : zR g := zR_scr R (fun c j hc => by
  by_cases q1 : c = 56
  · subst q1; cases hc
  by_cases q2 : c = 57
  · subst q2; cases hc
  by_cases q3 : c = 120
  · subst q3; cases hc
  by_cases q4 : c = 121
  · subst q4; cases hc
  by_cases q5 : c = 122
  · subst q5; cases hc
  rw [E c q1 q2 q3 q4 q5])
theorem q_rounds {h : zH} {a1 a2 a3 : Int32} (R : zR h) : zP X (d + 4) 101 0 (z_ent [.ref 0, .int a1, .int a2, .int a3] 4) [] z_S0 h (zI fun r h1 => zP X (d + 4) 187 0 (z_ent [.ref 82, .int a1, .int a2, .int a3] 6) [] z_S0 h1 (zI fun r2 h2 => r = r2 ∧ zR h2)) := by
  have bad : ¬ (zin a1 0 5 ∧ zin a2 1 9999 ∧ zin a3 0 99999) → zP X (d + 4) 187 0 (z_ent [.ref 82, .int a1, .int a2, .int a3] 6) [] z_S0 h (zI fun r2 h2 => (-2 : Int32) = r2 ∧ zR h2) := by
    intro g
    refine b187 (c128 0 5 (by decide) (by decide) (zsw (fun _ => ⟨rfl, R⟩) (fun g1 => c128 1 9999 (by decide) (by decide) (zsw (fun _ => ⟨rfl, R⟩) (fun g2 => c128 0 99999 (by decide) (by decide) (zsw (fun _ => ⟨rfl, R⟩) (fun g3 => absurd ⟨g1, g2, g3⟩ g)))))))
  refine b101 (c119 (zsw (fun g => bad (fun q => g q.1)) (fun g1 => c119 (zsw (fun g => bad (fun q => g q.2.1)) (fun g2 => c119 (zsw (fun g => bad (fun q => g q.2.2)) (fun g3 => b30 ?_)))))))
  clear bad
  obtain ⟨⟨N, hN, hn1, hn2, hq⟩, -, e50, e51, e52, e53, -⟩ := R.g7
  obtain ⟨mo, hmo, rfl⟩ := z_inN 9999 (by decide) (show zin a2 0 (nI 9999) from ⟨fun q => g2.1 (Int32.lt_trans q (by decide)), g2.2⟩)
  -- the reference from its doors on
  have ref : ∀ (g : zH) (r : Int32), (∀ c, ¬ c = 56 → ¬ c = 57 → g c = h c) → (8 < z_nc (h 52) a1 N → r = -3) → (z_nc (h 52) a1 N ≤ 8 → (∃ j, j < z_nc (h 52) a1 N ∧ ¬ z_okd (h 51) (h 53) (nI mo) a3 (z_ca (h 52) a1 N j)) → r = -1) → (z_nc (h 52) a1 N ≤ 8 → (∀ j, j < z_nc (h 52) a1 N → z_okd (h 51) (h 53) (nI mo) a3 (z_ca (h 52) a1 N j)) → ∀ F, z_fP F (fun j => if j < z_nc (h 52) a1 N then (h 51 (z_ca (h 52) a1 N j)).toNatClampNeg else 0) (z_nc (h 52) a1 N) mo → r = nI (F (2 ^ z_nc (h 52) a1 N - 1))) → zP X (d + 4) 187 0 (z_ent [.ref 82, .int a1, .int (nI mo), .int a3] 6) [] z_S0 g (zI fun r2 h2 => r = r2 ∧ zR h2) := by
    intro g r E k1 k2 k3
    have f115 : g 115 = h 51 := by rw [E 115 (by decide) (by decide), e51]
    have f116 : g 116 = h 52 := by rw [E 116 (by decide) (by decide), e52]
    have f117 : g 117 = h 53 := by rw [E 117 (by decide) (by decide), e53]
    refine b187 (c128 0 5 (by decide) (by decide) (zsw (fun q => absurd g1 q) (fun _ => c128 1 9999 (by decide) (by decide) (zsw (fun q => absurd g2 q) (fun _ => c128 0 99999 (by decide) (by decide) (zsw (fun q => absurd g3 q) (fun _ => b184 ?_)))))))
    have z0 : z_nc (g 116) a1 0 = 0 := rfl
    refine c184_4 (k := 0) (N := N) hN N g (by omega) (by rw [E 82 (by decide) (by decide)]; exact hn2) (by omega) (fun j hj => absurd hj (Nat.not_lt_zero j)) (fun q f => ?_) (fun q f hf => ?_)
    · rw [f116] at q
      refine ⟨fun _ => ⟨k1 q, zR_ro R (fun c h1 h2 h3 h4 h5 => ?_)⟩, fun z => absurd (by decide) z⟩
      show (if c = 120 then f else g c) = h c
      rw [if_neg h3]
      exact E c h1 h2
    · rw [f116] at q hf ⊢
      have Rg : zR (z_pt g 120 f) := zR_ro R (fun c h1 h2 h3 h4 h5 => by
        show (if c = 120 then f else g c) = h c
        rw [if_neg h3]
        exact E c h1 h2)
      refine ⟨fun z => ?_, fun _ => ?_⟩
      · rw [show (8 : Int32) = nI 8 from rfl, nI_ltI (by decide) (by omega)] at z
        omega
      · have hc : ∀ j, j < z_nc (h 52) a1 N → z_ca (h 52) a1 N j < 12 ∧ (z_pt g 120 f) 120 j = nI (z_ca (h 52) a1 N j) := fun j hj => ⟨by have := (z_ca_1 (h 52) a1 N j hj).1; omega, hf j hj⟩
        have p115 : (z_pt g 120 f) 115 = h 51 := f115
        have p117 : (z_pt g 120 f) 117 = h 53 := f117
        refine c187_59 (k := 0) (ca := z_ca (h 52) a1 N) q hc ?_ ?_ _ (Nat.zero_add _) (fun j hj => absurd hj (Nat.not_lt_zero j))
        · rw [p115, p117]
          exact fun z => ⟨k2 q z, Rg⟩
        · rw [p115, p117]
          intro z
          refine c186 (p := fun j => if j < z_nc (h 52) a1 N then (h 51 (z_ca (h 52) a1 N j)).toNatClampNeg else 0) (ca := z_ca (h 52) a1 N) q hmo ?_ hc ?_ ?_
          · intro i
            show (if i < z_nc (h 52) a1 N then (h 51 (z_ca (h 52) a1 N i)).toNatClampNeg else 0) ≤ 999
            split
            · next hi =>
              obtain ⟨x, x1, x2, x3⟩ := hq _ (z_ca_1 (h 52) a1 N i hi).1
              rw [x3, nI_clamp (by omega)]
              exact x2
            · omega
          · intro j hj
            rw [p115, if_pos hj]
            obtain ⟨x, x1, x2, x3⟩ := hq _ (z_ca_1 (h 52) a1 N j hj).1
            rw [x3, nI_clamp (by omega)]
          · intro F f1 f2 hF
            refine ⟨k3 q z F hF, zR_ro Rg (fun c h1 h2 h3 h4 h5 => ?_)⟩
            show (if c = 122 then f2 else if c = 121 then f1 else z_pt g 120 f c) = z_pt g 120 f c
            rw [if_neg h5, if_neg h4]
  have hok : (¬ ∀ x, x < N → h 52 x = a1 → z_okd (h 51) (h 53) (nI mo) a3 x) ↔ ∃ j, j < z_nc (h 52) a1 N ∧ ¬ z_okd (h 51) (h 53) (nI mo) a3 (z_ca (h 52) a1 N j) := by
    constructor
    · intro q
      refine Classical.byContradiction fun z => q fun x hx hx2 => ?_
      obtain ⟨j, j1, j2⟩ := z_ca_2 (h 52) a1 N x hx hx2
      refine Classical.byContradiction fun w => z ⟨j, j1, ?_⟩
      rw [j2]
      exact w
    · rintro ⟨j, j1, j2⟩ q
      have := z_ca_1 (h 52) a1 N j j1
      exact j2 (q _ this.1 this.2)
  refine c30_9 (k := 0) (N := N) hN N 1 h (by omega) hn1 (Nat.zero_le _) ⟨fun q => absurd q (by decide), fun q => absurd (fun x hx => absurd hx (Nat.not_lt_zero x)) q⟩ (fun j hj => absurd hj (Nat.not_lt_zero j)) (fun q f => ?_) (fun q f w hw hf => ?_)
  · refine ref _ _ (fun c h1 h2 => ?_) (fun _ => rfl) (fun q2 => by omega) (fun q2 => by omega)
    exact if_neg h1
  · refine b30_9 ⟨fun z => ?_, fun _ => ⟨fun z => ?_, fun z => ⟨fun z2 => ?_, fun z2 => ?_⟩⟩⟩
    · have : (z_pt h 56 f) 49 8 = nI N := hn1
      rw [this, nI_ltI (by omega) (by omega)] at z
      omega
    · refine ref _ _ (fun c h1 h2 => if_neg h1) (fun q2 => by omega) (fun _ _ => rfl) (fun _ q2 => ?_)
      obtain ⟨j, j1, j2⟩ := hok.mp (hw.mp z)
      exact absurd (q2 j j1) j2
    · have n0 : z_nc (h 52) a1 N = 0 := (nI_eq (b := 0) (by omega) (by decide)).mp z2
      refine ref _ _ (fun c h1 h2 => if_neg h1) (fun q2 => by omega) (fun _ q2 => ?_) (fun _ _ F hF => ?_)
      · obtain ⟨j, j1, -⟩ := q2
        omega
      · rw [n0]
        have := hF.1
        show (0 : Int32) = nI (F (2 ^ 0 - 1))
        rw [show 2 ^ 0 - 1 = 0 from rfl, this]
        rfl
    · have n0 : ¬ z_nc (h 52) a1 N = 0 := fun y => z2 (by rw [y]; rfl)
      have okx : ∀ j, j < z_nc (h 52) a1 N → z_okd (h 51) (h 53) (nI mo) a3 (z_ca (h 52) a1 N j) := by
        intro j hj
        refine Classical.byContradiction fun y => z (hw.mpr (hok.mpr ⟨j, hj, y⟩))
      have pq : ∀ j, j < z_nc (h 52) a1 N → ∃ x, x ≤ 999 ∧ x ≤ mo ∧ h 51 (z_ca (h 52) a1 N j) = nI x := by
        intro j hj
        obtain ⟨x, x1, x2, x3⟩ := hq _ (z_ca_1 (h 52) a1 N j hj).1
        have y := (okx j hj).1
        rw [x3, nI_ltI (by omega) (by omega)] at y
        exact ⟨x, x2, by omega, x3⟩
      refine c31 (p := fun j => if j < z_nc (h 52) a1 N then (h 51 (z_ca (h 52) a1 N j)).toNatClampNeg else 0) q hmo ?_ ?_
      · intro i hi
        obtain ⟨x, x1, x2, x3⟩ := pq i hi
        show (if i < z_nc (h 52) a1 N then (h 51 (z_ca (h 52) a1 N i)).toNatClampNeg else 0) ≤ 999 ∧ f i = nI (if i < z_nc (h 52) a1 N then (h 51 (z_ca (h 52) a1 N i)).toNatClampNeg else 0)
        rw [if_pos hi, hf i hi, x3, nI_clamp (by omega)]
        exact ⟨x1, rfl⟩
      · intro G f2 hG hGl
        have h8 := z_pow8 q
        have hpos : 2 ≤ 2 ^ z_nc (h 52) a1 N := Nat.le_self_pow n0 2
        refine ref _ _ (fun c h1 h2 => ?_) (fun q2 => by omega) (fun _ q2 => ?_) (fun _ _ F hF => ?_)
        · show (if c = 57 then f2 else if c = 56 then f else h c) = h c
          rw [if_neg h2, if_neg h1]
        · obtain ⟨j, j1, j2⟩ := q2
          exact absurd (okx j j1) j2
        · have := z_pk hG hF q hmo (fun i hi => ?_) (s := 2 ^ z_nc (h 52) a1 N - 1) (by omega) (by omega)
          · rw [this, show (10000 : Int32) = nI 10000 from rfl, pk_div hGl (by decide) (by decide), nI_1]
          · obtain ⟨x, x1, x2, x3⟩ := pq i hi
            show (if i < z_nc (h 52) a1 N then (h 51 (z_ca (h 52) a1 N i)).toNatClampNeg else 0) ≤ mo
            rw [if_pos hi, x3, nI_clamp (by omega)]
            exact x2
end ZRP

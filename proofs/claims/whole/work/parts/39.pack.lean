/-! the fewest carts: two ways to reckon them come to the same -/
def z_pw (p : Nat → Nat) (s : Nat) : Nat → Nat
  | 0 => 0
  | k + 1 => z_pw p s k + (if s.testBit k = true then p k else 0)
def z_lod (mo c q : Nat) : Nat := if c % 10000 + q ≤ mo then c + q else c - c % 10000 + 10000 + q
theorem z_sb_bit {t s : Nat} (h : t &&& s = t) (k : Nat) (q : t.testBit k = true) : s.testBit k = true := by
  have := congrArg (fun x => x.testBit k) h
  simp only [Nat.testBit_and] at this
  rw [q] at this
  simpa using this
theorem z_pw_0 (p : Nat → Nat) : ∀ n, z_pw p 0 n = 0
  | 0 => rfl
  | n + 1 => by rw [z_pw, z_pw_0 p n, Nat.zero_testBit]; rfl
theorem z_pw_split (p : Nat → Nat) {t s : Nat} (h : t &&& s = t) : ∀ n, z_pw p s n = z_pw p t n + z_pw p (s ^^^ t) n
  | 0 => rfl
  | n + 1 => by
    have hb := z_sb_bit h n
    rw [z_pw, z_pw, z_pw, z_pw_split p h n, Nat.testBit_xor]
    cases h1 : t.testBit n with
    | false =>
      cases h2 : s.testBit n with
      | false => simp
      | true => simp; omega
    | true =>
      rw [hb h1]
      simp
      omega
theorem z_pw_bit (p : Nat → Nat) (i : Nat) : ∀ n, z_pw p (2 ^ i) n = if i < n then p i else 0
  | 0 => by simp [z_pw]
  | n + 1 => by
    rw [z_pw, z_pw_bit p i n, Nat.testBit_two_pow]
    by_cases q : i = n
    · subst q; simp
    · by_cases q2 : i < n
      · have : i < n + 1 := by omega
        simp [q, q2, this]
      · have : ¬ i < n + 1 := by omega
        simp [q, q2, this]
theorem z_bit_sub {i s : Nat} (h : s.testBit i = true) : 2 ^ i &&& s = 2 ^ i := by
  apply Nat.eq_of_testBit_eq
  intro j
  rw [Nat.testBit_and, Nat.testBit_two_pow]
  by_cases q : i = j
  · subst q; simp [h]
  · simp [q]
theorem z_sub_le {t s : Nat} (h : t &&& s = t) : t ≤ s := by
  rw [← h]
  exact Nat.and_le_right
theorem z_xor_sub {t s : Nat} (h : t &&& s = t) : (s ^^^ t) &&& s = s ^^^ t := by
  apply Nat.eq_of_testBit_eq
  intro j
  have hb := z_sb_bit h j
  rw [Nat.testBit_and, Nat.testBit_xor]
  cases q : t.testBit j with
  | false => simp
  | true => rw [hb q]; rfl
theorem z_xor_lt {t s : Nat} (h : t &&& s = t) (h0 : 0 < t) : s ^^^ t < s := by
  have h1 := z_sub_le (z_xor_sub h)
  have h2 : s ^^^ t ≠ s := by
    intro q
    obtain ⟨j, hj⟩ := Nat.exists_testBit_of_ne_zero (x := t) (by omega)
    have := congrArg (fun x => x.testBit j) q
    simp only [Nat.testBit_xor, hj, z_sb_bit h j hj] at this
    cases this
  omega
theorem z_bit_lt {i s n : Nat} (h : s.testBit i = true) (hs : s < 2 ^ n) : i < n := by
  refine Nat.lt_of_not_le fun q => ?_
  have : s < 2 ^ i := Nat.lt_of_lt_of_le hs (Nat.pow_le_pow_right (by decide) q)
  rw [Nat.testBit_lt_two_pow this] at h
  cases h
theorem z_ld_mono {mo c c' q K l : Nat} (hmo : mo ≤ 9999) (hc : c = K * 10000 + l) (hl : l + q ≤ mo) (h : c' ≤ c) : z_lod mo c' q ≤ c + q := by
  unfold z_lod
  split
  · omega
  · next g => omega
section ZPK
variable {G : Nat → Nat} {p : Nat → Nat} {n mo : Nat}
def z_gP (G p : Nat → Nat) (n mo : Nat) : Prop := G 0 = 0 ∧ ∀ s, 0 < s → s < 2 ^ n → (∃ i, i < n ∧ s.testBit i = true ∧ G s = z_lod mo (G (s ^^^ 2 ^ i)) (p i)) ∧ ∀ i, i < n → s.testBit i = true → G s ≤ z_lod mo (G (s ^^^ 2 ^ i)) (p i)
def z_lB (G : Nat → Nat) (s : Nat) : Nat := if s = 0 then 0 else G s / 10000 + 1
theorem z_ld_new {mo c q : Nat} (hmo : mo ≤ 9999) (hq : q ≤ mo) (B : Nat) (hB : c < B * 10000 ∨ (c = 0 ∧ B = 0)) : z_lod mo c q ≤ B * 10000 + q := by
  unfold z_lod
  split
  · omega
  · omega
theorem z_lB_lt (G : Nat → Nat) {s : Nat} (h0 : G 0 = 0) : G s < z_lB G s * 10000 ∨ (G s = 0 ∧ z_lB G s = 0) := by
  unfold z_lB
  by_cases q : s = 0
  · subst q
    right
    exact ⟨h0, if_pos rfl⟩
  · rw [if_neg q]
    left
    omega
/-- a cart more -/
theorem z_pk_P (hG : z_gP G p n mo) (hmo : mo ≤ 9999) (hp : ∀ i, i < n → p i ≤ mo) (A : Nat) (hA : A < 2 ^ n) : ∀ (m sub : Nat), sub ≤ m → 0 < sub → sub < 2 ^ n → A &&& sub = 0 → z_pw p sub n ≤ mo → G (A ^^^ sub) ≤ z_lB G A * 10000 + z_pw p sub n
  | 0, sub, h1, h2, _, _, _ => by omega
  | m + 1, sub, h1, h2, h3, hd, hw => by
    obtain ⟨i, hi⟩ := Nat.exists_testBit_of_ne_zero (x := sub) (by omega)
    have hin := z_bit_lt hi h3
    have hsub := z_bit_sub hi
    have hpos : 0 < 2 ^ i := Nat.two_pow_pos i
    have hAi : A.testBit i = false := by
      have := congrArg (fun x => x.testBit i) hd
      simp only [Nat.testBit_and, hi, Nat.zero_testBit, Bool.and_true] at this
      exact this
    have hui : (A ^^^ sub).testBit i = true := by rw [Nat.testBit_xor, hAi, hi]; rfl
    have hu2 : A ^^^ sub < 2 ^ n := Nat.xor_lt_two_pow hA h3
    have hu0 : 0 < A ^^^ sub := by
      refine Nat.pos_of_ne_zero fun q => ?_
      rw [q, Nat.zero_testBit] at hui
      cases hui
    have step := (hG.2 (A ^^^ sub) hu0 hu2).2 i hin hui
    have ex : A ^^^ sub ^^^ 2 ^ i = A ^^^ (sub ^^^ 2 ^ i) := Nat.xor_assoc _ _ _
    rw [ex] at step
    have sp := z_pw_split p hsub n
    rw [z_pw_bit, if_pos hin] at sp
    by_cases q0 : sub ^^^ 2 ^ i = 0
    · rw [q0, Nat.xor_zero] at step
      rw [q0, z_pw_0] at sp
      refine Nat.le_trans step ?_
      rw [sp]
      exact z_ld_new hmo (hp i hin) _ (z_lB_lt G hG.1)
    · have lt := z_xor_lt hsub hpos
      have hd2 : A &&& (sub ^^^ 2 ^ i) = 0 := by
        apply Nat.eq_of_testBit_eq
        intro j
        have := congrArg (fun x => x.testBit j) hd
        simp only [Nat.testBit_and, Nat.zero_testBit] at this
        rw [Nat.testBit_and, Nat.testBit_xor, Nat.zero_testBit, Nat.testBit_two_pow]
        by_cases q : i = j
        · subst q
          rw [hAi]
          rfl
        · simpa [q] using this
      have ih := z_pk_P hG hmo hp A hA m (sub ^^^ 2 ^ i) (by omega) (by omega) (by omega) hd2 (by omega)
      refine Nat.le_trans step ?_
      have := z_ld_mono (q := p i) hmo rfl (by omega) ih
      rw [sp, Nat.add_comm (p i), ← Nat.add_assoc]
      exact this
theorem z_pk_small (hG : z_gP G p n mo) (hmo : mo ≤ 9999) (hp : ∀ i, i < n → p i ≤ mo) : ∀ k s, k ≤ n → s < 2 ^ k → z_lB G s ≤ k
  | 0, s, _, hs => by
    have : s = 0 := by
      have : 2 ^ 0 = 1 := rfl
      omega
    rw [this, z_lB, if_pos rfl]
    exact Nat.le_refl 0
  | k + 1, s, hk, hs => by
    by_cases q : s < 2 ^ k
    · have := z_pk_small hG hmo hp k s (by omega) q
      omega
    · have h2 : 2 ^ (k + 1) = 2 ^ k + 2 ^ k := by rw [Nat.pow_succ]; omega
      have hpos : 0 < 2 ^ k := Nat.two_pow_pos k
      have hbit : s.testBit k = true := by
        rw [Nat.testBit_eq_decide_div_mod_eq]
        have : s / 2 ^ k = 1 := by
          have a1 : s / 2 ^ k < 2 := Nat.div_lt_of_lt_mul (by omega)
          have a2 : 1 ≤ s / 2 ^ k := (Nat.le_div_iff_mul_le hpos).mpr (by omega)
          omega
        rw [this]
        rfl
      have hn : s < 2 ^ n := Nat.lt_of_lt_of_le hs (Nat.pow_le_pow_right (by decide) hk)
      have step := (hG.2 s (by omega) hn).2 k (by omega) hbit
      have lt2 : s ^^^ 2 ^ k < 2 ^ k := by
        refine Nat.lt_pow_two_of_testBit _ fun i hi => ?_
        rw [Nat.testBit_xor, Nat.testBit_two_pow]
        by_cases q2 : k = i
        · subst q2
          rw [hbit]
          simp
        · have : s < 2 ^ i := Nat.lt_of_lt_of_le hs (Nat.pow_le_pow_right (by decide) (by omega))
          rw [Nat.testBit_lt_two_pow this]
          simp [q2]
      have ih := z_pk_small hG hmo hp k _ (by omega) lt2
      have hz := z_ld_new (c := G (s ^^^ 2 ^ k)) hmo (hp k (by omega)) _ (z_lB_lt G hG.1)
      have h9 := hp k (by omega)
      unfold z_lB
      rw [if_neg (by omega)]
      have hm : z_lB G (s ^^^ 2 ^ k) * 10000 ≤ k * 10000 := Nat.mul_le_mul_right _ ih
      omega
def z_fP (F p : Nat → Nat) (n mo : Nat) : Prop := F 0 = 0 ∧ ∀ s, 0 < s → s < 2 ^ n → ∃ i, s.testBit i = true ∧ (F s = 9 ∨ ∃ sub, sub &&& s = sub ∧ sub.testBit i = true ∧ z_pw p sub n ≤ mo ∧ F s = F (s ^^^ sub) + 1) ∧ ∀ sub, sub &&& s = sub → sub.testBit i = true → z_pw p sub n ≤ mo → F s ≤ F (s ^^^ sub) + 1
theorem z_pk_I {F : Nat → Nat} (hG : z_gP G p n mo) (hF : z_fP F p n mo) (hn : n ≤ 8) (hmo : mo ≤ 9999) (hp : ∀ i, i < n → p i ≤ mo) : ∀ m s, s ≤ m → s < 2 ^ n → z_lB G s ≤ F s
  | 0, s, h, _ => by
    have : s = 0 := by omega
    subst this
    exact Nat.zero_le _
  | m + 1, s, h, hs => by
    by_cases q : s = 0
    · subst q
      exact Nat.zero_le _
    · obtain ⟨i, hi, h1, h2⟩ := hF.2 s (by omega) hs
      rcases h1 with h9 | ⟨sub, k1, k2, k3, k4⟩
      · have := z_pk_small hG hmo hp n s (Nat.le_refl n) hs
        omega
      · have hpos : 0 < sub := by
          refine Nat.pos_of_ne_zero fun q => ?_
          rw [q, Nat.zero_testBit] at k2
          cases k2
        have lt := z_xor_lt k1 hpos
        have ih := z_pk_I hG hF hn hmo hp m (s ^^^ sub) (by omega) (by omega)
        have hdis : (s ^^^ sub) &&& sub = 0 := by
          apply Nat.eq_of_testBit_eq
          intro j
          have hb := z_sb_bit k1 j
          rw [Nat.testBit_and, Nat.testBit_xor, Nat.zero_testBit]
          cases q : sub.testBit j with
          | false => simp
          | true => rw [hb q]; rfl
        have hle := z_sub_le k1
        have P := z_pk_P hG hmo hp (s ^^^ sub) (by omega) sub sub (Nat.le_refl _) hpos (by omega) hdis k3
        rw [Nat.xor_assoc, Nat.xor_self, Nat.xor_zero] at P
        have : z_lB G s ≤ z_lB G (s ^^^ sub) + 1 := by
          rw [z_lB, if_neg q]
          omega
        omega
def z_prt (p : Nat → Nat) (n mo : Nat) : Nat → Nat → Prop
  | 0, s => s = 0
  | k + 1, s => ∃ sub, sub &&& s = sub ∧ z_pw p sub n ≤ mo ∧ z_prt p n mo k (s ^^^ sub)
theorem z_pk_Q1 (hG : z_gP G p n mo) (hmo : mo ≤ 9999) (hp : ∀ i, i < n → p i ≤ mo) : ∀ m s, s ≤ m → 0 < s → s < 2 ^ n → ∃ last, last &&& s = last ∧ z_pw p last n = G s % 10000 ∧ G s % 10000 ≤ mo ∧ z_prt p n mo (G s / 10000) (s ^^^ last)
  | 0, s, h, h0, _ => by omega
  | m + 1, s, h, h0, hs => by
    obtain ⟨⟨i, hi, hb, e⟩, -⟩ := hG.2 s h0 hs
    have hsub := z_bit_sub hb
    have hpos : 0 < 2 ^ i := Nat.two_pow_pos i
    have lt := z_xor_lt hsub hpos
    have hpi := hp i hi
    have wb : z_pw p (2 ^ i) n = p i := by rw [z_pw_bit, if_pos hi]
    by_cases q : s ^^^ 2 ^ i = 0
    · rw [q, hG.1] at e
      have e2 : G s = p i := by
        rw [e]
        unfold z_lod
        rw [if_pos (by omega)]
        omega
      refine ⟨2 ^ i, hsub, ?_, ?_, ?_⟩
      · rw [wb, e2]
        omega
      · omega
      · have : G s / 10000 = 0 := by omega
        rw [this, q]
        rfl
    · obtain ⟨last, l1, l2, l3, l4⟩ := z_pk_Q1 hG hmo hp m (s ^^^ 2 ^ i) (by omega) (by omega) (by omega)
      by_cases g : G (s ^^^ 2 ^ i) % 10000 + p i ≤ mo
      · have e2 : G s = G (s ^^^ 2 ^ i) + p i := by
          rw [e]
          unfold z_lod
          rw [if_pos g]
        have hli : last.testBit i = false := by
          cases q2 : last.testBit i with
          | false => rfl
          | true =>
            have := z_sb_bit l1 i q2
            rw [Nat.testBit_xor, hb, Nat.testBit_two_pow] at this
            simp at this
        have s1 : (last ^^^ 2 ^ i) &&& s = last ^^^ 2 ^ i := by
          apply Nat.eq_of_testBit_eq
          intro j
          have hb1 := z_sb_bit l1 j
          rw [Nat.testBit_and, Nat.testBit_xor, Nat.testBit_two_pow]
          rw [Nat.testBit_xor, Nat.testBit_two_pow] at hb1
          by_cases q3 : i = j
          · subst q3
            rw [hli, hb]
            simp
          · cases q4 : last.testBit j with
            | false => simp [q3]
            | true =>
              have := hb1 q4
              simp [q3] at this
              simp [q3, this]
        have s2 : s ^^^ (last ^^^ 2 ^ i) = s ^^^ 2 ^ i ^^^ last := by
          rw [Nat.xor_assoc, Nat.xor_comm last]
        have s3 : z_pw p (last ^^^ 2 ^ i) n = p i + z_pw p last n := by
          have hb2 : (last ^^^ 2 ^ i).testBit i = true := by
            rw [Nat.testBit_xor, hli, Nat.testBit_two_pow]
            simp
          have := z_pw_split p (z_bit_sub hb2) n
          rw [wb, Nat.xor_assoc, Nat.xor_self, Nat.xor_zero] at this
          exact this
        refine ⟨last ^^^ 2 ^ i, s1, ?_, ?_, ?_⟩
        · rw [s3, l2, e2]
          omega
        · omega
        · rw [s2]
          have : G s / 10000 = G (s ^^^ 2 ^ i) / 10000 := by omega
          rw [this]
          exact l4
      · have e2 : G s = G (s ^^^ 2 ^ i) - G (s ^^^ 2 ^ i) % 10000 + 10000 + p i := by
          rw [e]
          unfold z_lod
          rw [if_neg g]
        refine ⟨2 ^ i, hsub, ?_, ?_, ?_⟩
        · rw [wb, e2]
          omega
        · omega
        · have : G s / 10000 = G (s ^^^ 2 ^ i) / 10000 + 1 := by omega
          rw [this]
          exact ⟨last, l1, by omega, l4⟩
theorem z_prt_pull {i : Nat} : ∀ k s, z_prt p n mo k s → s.testBit i = true → ∃ sub k', k = k' + 1 ∧ sub &&& s = sub ∧ sub.testBit i = true ∧ z_pw p sub n ≤ mo ∧ z_prt p n mo k' (s ^^^ sub)
  | 0, s, h, hi => by
    rw [show s = 0 from h, Nat.zero_testBit] at hi
    cases hi
  | k + 1, s, ⟨sub, h1, h2, h3⟩, hi => by
    cases q : sub.testBit i with
    | true => exact ⟨sub, k, rfl, h1, q, h2, h3⟩
    | false =>
      have hi2 : (s ^^^ sub).testBit i = true := by rw [Nat.testBit_xor, hi, q]; rfl
      obtain ⟨sub1, k', e, g1, g2, g3, g4⟩ := z_prt_pull k (s ^^^ sub) h3 hi2
      subst e
      refine ⟨sub1, k' + 1, rfl, ?_, g2, g3, sub, ?_, h2, ?_⟩
      · apply Nat.eq_of_testBit_eq
        intro j
        have a1 := z_sb_bit g1 j
        have a2 := z_sb_bit h1 j
        rw [Nat.testBit_xor] at a1
        rw [Nat.testBit_and]
        cases q1 : sub1.testBit j with
        | false => rfl
        | true =>
          have := a1 q1
          cases q2 : s.testBit j with
          | true => rfl
          | false =>
            cases q3 : sub.testBit j with
            | false => rw [q2, q3] at this; cases this
            | true => rw [a2 q3] at q2; cases q2
      · apply Nat.eq_of_testBit_eq
        intro j
        have a1 := z_sb_bit g1 j
        have a2 := z_sb_bit h1 j
        rw [Nat.testBit_xor] at a1
        rw [Nat.testBit_and, Nat.testBit_xor]
        cases q1 : sub.testBit j with
        | false => rfl
        | true =>
          rw [a2 q1]
          cases q2 : sub1.testBit j with
          | false => rfl
          | true =>
            have := a1 q2
            rw [a2 q1, q1] at this
            cases this
      · rw [Nat.xor_assoc, Nat.xor_comm sub1, ← Nat.xor_assoc]
        exact g4
theorem z_pk_II {F : Nat → Nat} (hF : z_fP F p n mo) : ∀ k s, z_prt p n mo k s → s < 2 ^ n → F s ≤ k
  | 0, s, h, _ => by
    rw [show s = 0 from h, hF.1]
    exact Nat.le_refl 0
  | k + 1, s, h, hs => by
    by_cases q : s = 0
    · rw [q, hF.1]
      exact Nat.zero_le _
    · obtain ⟨i, hi, -, h2⟩ := hF.2 s (by omega) hs
      obtain ⟨sub, k', e, g1, g2, g3, g4⟩ := z_prt_pull _ _ h hi
      have e : k' = k := by omega
      subst e
      have ih := z_pk_II hF k' (s ^^^ sub) g4 (Nat.lt_of_le_of_lt (z_sub_le (z_xor_sub g1)) hs)
      have := h2 sub g1 g2 g3
      omega
theorem z_pk {F : Nat → Nat} (hG : z_gP G p n mo) (hF : z_fP F p n mo) (hn : n ≤ 8) (hmo : mo ≤ 9999) (hp : ∀ i, i < n → p i ≤ mo) {s : Nat} (hs : s < 2 ^ n) (h0 : 0 < s) : F s = G s / 10000 + 1 := by
  have a := z_pk_I hG hF hn hmo hp s s (Nat.le_refl s) hs
  rw [z_lB, if_neg (by omega)] at a
  obtain ⟨last, l1, l2, l3, l4⟩ := z_pk_Q1 hG hmo hp s s (Nat.le_refl s) h0 hs
  have b := z_pk_II hF (G s / 10000 + 1) s ⟨last, l1, by omega, l4⟩ hs
  omega
end ZPK

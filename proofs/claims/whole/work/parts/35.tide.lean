/-! bits, and the barges of a tide -/
theorem z_s31 : ∀ k, k < 31 → ((nI k &&& 31).toBitVec.smod 32).toNat = k := by decide +kernel
theorem z_shl1 {k : Nat} (hk : k < 31) : (1 : Int32) <<< (nI k &&& 31) = nI (2 ^ k) := by
  have h2 : 2 ^ k ≤ 2 ^ 30 := Nat.pow_le_pow_right (by decide) (by omega)
  have := pk_shlN (n := 1) (nI k &&& 31) k (z_s31 k hk) (by omega)
  rw [Nat.one_mul] at this
  exact this
theorem z_shl2 {k : Nat} (hk : k < 30) : (2 : Int32) <<< (nI k &&& 31) = nI (2 ^ (k + 1)) := by
  have h2 : 2 ^ k ≤ 2 ^ 29 := Nat.pow_le_pow_right (by decide) (by omega)
  have := pk_shlN (n := 2) (nI k &&& 31) k (z_s31 k (by omega)) (by omega)
  rw [Nat.mul_comm, ← Nat.pow_succ] at this
  exact this
theorem z_shr {s k : Nat} (hs : s < 2 ^ 31) (hk : k < 31) : nI s >>> (nI k &&& 31) = nI (s / 2 ^ k) := pk_shrN hs _ k (z_s31 k hk)
abbrev z_bt (s k : Nat) : Prop := s / 2 ^ k % 2 = 1
theorem z_bit {s k : Nat} (hs : s < 2 ^ 31) (hk : k < 31) : ((nI s >>> (nI k &&& 31)) &&& 1) = 1 ↔ z_bt s k := by
  have h1 : s / 2 ^ k ≤ s := Nat.div_le_self _ _
  rw [z_shr hs hk, pk_andN (by omega) 1 (by decide), show (1 : Int32) = nI 1 from rfl, nI_eq (by omega) (by decide)]
theorem z_bit0 {s k : Nat} (hs : s < 2 ^ 31) (hk : k < 31) : ((nI s >>> (nI k &&& 31)) &&& 1) = 0 ↔ ¬ z_bt s k := by
  have h1 : s / 2 ^ k ≤ s := Nat.div_le_self _ _
  rw [z_shr hs hk, pk_andN (by omega) 1 (by decide), show (0 : Int32) = nI 0 from rfl, nI_eq (by omega) (by decide)]
  unfold z_bt
  omega
def z_tg (e : Nat → Int32) (s : Nat) : Nat → Int32
  | 0 => 0
  | k + 1 => z_tg e s k + (if z_bt s k then e k else 0)
theorem z_tg_0 (e : Nat → Int32) : ∀ n, z_tg e 0 n = 0
  | 0 => rfl
  | n + 1 => by
    have : ¬ z_bt 0 n := by unfold z_bt; rw [Nat.zero_div]; decide
    rw [z_tg, z_tg_0 e n, if_neg this]
    rfl
theorem z_tg_low (e : Nat → Int32) {s b : Nat} : ∀ k, k ≤ b → z_tg e (s + 2 ^ b) k = z_tg e s k
  | 0, _ => rfl
  | k + 1, hk => by
    have e1 : (s + 2 ^ b) / 2 ^ k % 2 = s / 2 ^ k % 2 := by
      obtain ⟨c, rfl⟩ : ∃ c, b = k + 1 + c := ⟨b - (k + 1), by omega⟩
      have e2 : 2 ^ (k + 1 + c) = 2 ^ k * (2 * 2 ^ c) := by rw [Nat.pow_add, Nat.pow_succ, Nat.mul_assoc]
      rw [e2, Nat.add_mul_div_left _ _ (Nat.two_pow_pos k)]
      omega
    rw [z_tg, z_tg, z_tg_low e k (by omega)]
    unfold z_bt
    rw [e1]
theorem z_tg_hi (e : Nat → Int32) {s b : Nat} (hs : s < 2 ^ b) : z_tg e s (b + 1) = z_tg e s b := by
  have : ¬ z_bt s b := by unfold z_bt; rw [Nat.div_eq_of_lt hs]; decide
  rw [z_tg, if_neg this, Int32.add_zero]
theorem z_tg_top (e : Nat → Int32) {s b : Nat} (hs : s < 2 ^ b) : z_tg e (s + 2 ^ b) (b + 1) = z_tg e s (b + 1) + e b := by
  have : z_bt (s + 2 ^ b) b := by
    unfold z_bt
    rw [Nat.add_div_right _ (Nat.two_pow_pos b), Nat.div_eq_of_lt hs]
  rw [z_tg_hi e hs, z_tg, if_pos this, z_tg_low e b (Nat.le_refl b)]
theorem z_pow8 {n : Nat} (hn : n ≤ 8) : 2 ^ n ≤ 256 := Nat.pow_le_pow_right (n := 2) (by decide) hn
def z_ts (W F : Nat → Int32) (mo : Int32) : Nat → Nat → Nat → Nat
  | 0, _, b => b
  | m + 1, k, b => z_ts W F mo m (k + 1) (if ¬ mo < W k ∧ (F b < F k ∨ (F k = F b ∧ W k < W b)) then k else b)
theorem z_ts_le (W F : Nat → Int32) (mo : Int32) (N : Nat) : ∀ m k b, k + m ≤ N → b < N → z_ts W F mo m k b < N
  | 0, k, b, _, hb => hb
  | m + 1, k, b, hk, hb => by
    unfold z_ts
    refine z_ts_le W F mo N m (k + 1) _ (by omega) ?_
    split <;> omega
section ZTD
variable {X : Option (List Int32)} {d : Nat} {A : Int32 → zH → Prop} {h : zH}
theorem c4f_loop {n s : Nat} (hn : h 65 2 = nI n) (hle : n ≤ 8) (hs : s < 2 ^ 31) : ∀ (m k : Nat), k + m = n → A (z_tg (h 67) s n) h → zP X d 4 5 [some (.ref 65), some (.ref 67), some (.int (nI s)), some (.int (z_tg (h 67) s k)), some (.int (nI k))] [] z_S0 h (zI A)
  | 0, k, hk, hA => by
    have e : k = n := by omega
    subst e
    refine b4f_5 ⟨fun g => ?_, fun _ => hA⟩
    rw [hn, nI_ltI (by omega) (by omega)] at g
    omega
  | m + 1, k, hk, hA => by
    have ib : z_ib (nI k) 8 := vp_in_nI (by omega) (by decide)
    have cl : (nI k).toNatClampNeg = k := nI_clamp (by omega)
    have ih := c4f_loop hn hle hs m (k + 1) (by omega) hA
    refine b4f_5 ⟨fun _ => ⟨fun g => ⟨ib, b4f_33 ?_⟩, fun g => b4f_33 ?_⟩, fun g => ?_⟩
    · rw [z_bit hs (by omega)] at g
      rw [z_tg, if_pos g] at ih
      rw [nI_1, cl]
      exact ih
    · rw [z_bit hs (by omega)] at g
      rw [z_tg, if_neg g] at ih
      rw [nI_1]
      exact ih
    · rw [hn, nI_ltI (by omega) (by omega)] at g
      omega
theorem c4f {n s : Nat} (hn : h 65 2 = nI n) (hle : n ≤ 8) (hs : s < 2 ^ 31) (k : A (z_tg (h 67) s n) h) : zP X d 4 0 (z_ent [.ref 65, .ref 67, .int (nI s)] 5) [] z_S0 h (zI A) := b4f (c4f_loop (k := 0) hn hle hs n (by omega) k)
theorem c4w_loop {n s : Nat} (hn : h 65 2 = nI n) (hle : n ≤ 8) (hs : s < 2 ^ 31) : ∀ (m k : Nat), k + m = n → A (z_tg (h 66) s n) h → zP X d 4 5 [some (.ref 65), some (.ref 66), some (.int (nI s)), some (.int (z_tg (h 66) s k)), some (.int (nI k))] [] z_S0 h (zI A)
  | 0, k, hk, hA => by
    have e : k = n := by omega
    subst e
    refine b4w_5 ⟨fun g => ?_, fun _ => hA⟩
    rw [hn, nI_ltI (by omega) (by omega)] at g
    omega
  | m + 1, k, hk, hA => by
    have ib : z_ib (nI k) 8 := vp_in_nI (by omega) (by decide)
    have cl : (nI k).toNatClampNeg = k := nI_clamp (by omega)
    have ih := c4w_loop hn hle hs m (k + 1) (by omega) hA
    refine b4w_5 ⟨fun _ => ⟨fun g => ⟨ib, b4w_33 ?_⟩, fun g => b4w_33 ?_⟩, fun g => ?_⟩
    · rw [z_bit hs (by omega)] at g
      rw [z_tg, if_pos g] at ih
      rw [nI_1, cl]
      exact ih
    · rw [z_bit hs (by omega)] at g
      rw [z_tg, if_neg g] at ih
      rw [nI_1]
      exact ih
    · rw [hn, nI_ltI (by omega) (by omega)] at g
      omega
theorem c4w {n s : Nat} (hn : h 65 2 = nI n) (hle : n ≤ 8) (hs : s < 2 ^ 31) (k : A (z_tg (h 66) s n) h) : zP X d 4 0 (z_ent [.ref 65, .ref 66, .int (nI s)] 5) [] z_S0 h (zI A) := b4w (c4w_loop (k := 0) hn hle hs n (by omega) k)
theorem c196_loop {n s : Nat} (hn : h 82 67 = nI n) (hle : n ≤ 8) (hs : s < 2 ^ 31) : ∀ (m k : Nat), k + m = n → A (z_tg (h 130) s n) h → zP X d 196 5 [some (.ref 82), some (.ref 130), some (.int (nI s)), some (.int (z_tg (h 130) s k)), some (.int (nI k))] [] z_S0 h (zI A)
  | 0, k, hk, hA => by
    have e : k = n := by omega
    subst e
    refine b196_5 ⟨fun g => ?_, fun _ => hA⟩
    rw [hn, nI_ltI (by omega) (by omega)] at g
    omega
  | m + 1, k, hk, hA => by
    have ib : z_ib (nI k) 8 := vp_in_nI (by omega) (by decide)
    have cl : (nI k).toNatClampNeg = k := nI_clamp (by omega)
    have ih := c196_loop hn hle hs m (k + 1) (by omega) hA
    refine b196_5 ⟨fun _ => ⟨fun g => ⟨ib, b196_33 ?_⟩, fun g => b196_33 ?_⟩, fun g => ?_⟩
    · rw [z_bit hs (by omega)] at g
      rw [z_tg, if_pos g] at ih
      rw [nI_1, cl]
      exact ih
    · rw [z_bit hs (by omega)] at g
      rw [z_tg, if_neg g] at ih
      rw [nI_1]
      exact ih
    · rw [hn, nI_ltI (by omega) (by omega)] at g
      omega
theorem c196 {n s : Nat} (hn : h 82 67 = nI n) (hle : n ≤ 8) (hs : s < 2 ^ 31) (k : A (z_tg (h 130) s n) h) : zP X d 196 0 (z_ent [.ref 82, .ref 130, .int (nI s)] 5) [] z_S0 h (zI A) := b196 (c196_loop (k := 0) hn hle hs n (by omega) k)
theorem c3_loop {n : Nat} {mo : Int32} (hn : h 65 2 = nI n) (hle : n ≤ 8) : ∀ (m k b : Nat), k + m = 2 ^ n → b < 2 ^ n → A (nI (z_ts (fun s => z_tg (h 66) s n) (fun s => z_tg (h 67) s n) mo m k b)) h → zP X (d + 1) 3 10 [some (.ref 65), some (.int mo), some (.int (nI b)), some (.int (z_tg (h 66) b n)), some (.int (z_tg (h 67) b n)), some (.int (nI k)), none, none] [] z_S0 h (zI A)
  | 0, k, b, hk, hb, hA => by
    have h8 := z_pow8 hle
    refine b3_10 ⟨fun g => ?_, fun _ => hA⟩
    rw [hn, z_shl1 (by omega), nI_ltI (by omega) (by omega)] at g
    omega
  | m + 1, k, b, hk, hb, hA => by
    have h8 := z_pow8 hle
    have no : ¬ (¬ mo < z_tg (h 66) k n ∧ (z_tg (h 67) b n < z_tg (h 67) k n ∨ (z_tg (h 67) k n = z_tg (h 67) b n ∧ z_tg (h 66) k n < z_tg (h 66) b n))) → zP X (d + 1) 3 81 [some (.ref 65), some (.int mo), some (.int (nI b)), some (.int (z_tg (h 66) b n)), some (.int (z_tg (h 67) b n)), some (.int (nI k)), none, none] [] z_S0 h (zI A) := by
      intro g
      refine b3_81 ?_
      rw [nI_1]
      refine c3_loop hn hle m (k + 1) b (by omega) hb ?_
      rw [z_ts, if_neg g] at hA
      exact hA
    have yes : (¬ mo < z_tg (h 66) k n ∧ (z_tg (h 67) b n < z_tg (h 67) k n ∨ (z_tg (h 67) k n = z_tg (h 67) b n ∧ z_tg (h 66) k n < z_tg (h 66) b n))) → zP X (d + 1) 3 71 [some (.ref 65), some (.int mo), none, none, none, some (.int (nI k)), some (.int (z_tg (h 66) k n)), some (.int (z_tg (h 67) k n))] [] z_S0 h (zI A) := by
      intro g
      refine b3_71 (b3_81 ?_)
      rw [nI_1]
      refine c3_loop hn hle m (k + 1) k (by omega) (by omega) ?_
      rw [z_ts, if_pos g] at hA
      exact hA
    refine b3_10 ⟨fun _ => c4w hn hle (by omega) (c4f hn hle (by omega) ⟨fun g1 => no (fun q => q.1 g1), fun g1 => ⟨fun g2 => yes ⟨g1, Or.inl g2⟩, fun g2 => ⟨fun g3 => ⟨fun g4 => yes ⟨g1, Or.inr ⟨g3, g4⟩⟩, fun g4 => no (fun q => q.2.elim g2 (fun z => g4 z.2))⟩, fun g3 => no (fun q => q.2.elim g2 (fun z => g3 z.1))⟩⟩⟩), fun g => ?_⟩
    rw [hn, z_shl1 (by omega), nI_ltI (by omega) (by omega)] at g
    omega
theorem c197_17 {n b : Nat} {mo : Int32} (hb : b < n) (hle : n ≤ 8) : ∀ (m k : Nat) (h : zH), k + m = 2 ^ (b + 1) → 2 ^ b ≤ k → (∀ t, t < k → h 131 t = z_tg (h 129) t (b + 1) ∧ h 132 t = z_tg (h 130) t (b + 1)) → (∀ g : zH, (∀ c, ¬ c = 131 → ¬ c = 132 → g c = h c) → (∀ t, t < 2 ^ (b + 1) → g 131 t = z_tg (h 129) t (b + 1) ∧ g 132 t = z_tg (h 130) t (b + 1)) → zP X d 197 4 [some (.ref 82), some (.int mo), some (.int 0), some (.int (nI (b + 1))), none] [] z_S0 g (zI A)) → zP X d 197 17 [some (.ref 82), some (.int mo), some (.int 0), some (.int (nI b)), some (.int (nI k))] [] z_S0 h (zI A)
  | 0, k, h, hk, hl, hI, hA => by
    have h8 := z_pow8 (show b + 1 ≤ 8 by omega)
    refine b197_17 ⟨fun g => ?_, fun _ => ?_⟩
    · rw [z_shl2 (by omega), nI_ltI (by omega) (by omega)] at g
      omega
    · rw [nI_1]
      exact hA h (fun _ _ _ => rfl) (fun t ht => hI t (by omega))
  | m + 1, k, h, hk, hl, hI, hA => by
    have h8 := z_pow8 (show b + 1 ≤ 8 by omega)
    have h9 : 2 ^ (b + 1) = 2 ^ b + 2 ^ b := by rw [Nat.pow_succ]; omega
    have clk : (nI k).toNatClampNeg = k := nI_clamp (by omega)
    have clb : (nI b).toNatClampNeg = b := nI_clamp (by omega)
    have ibk : z_ib (nI k) 256 := vp_in_nI (by omega) (by decide)
    have ibb : z_ib (nI b) 8 := vp_in_nI (by omega) (by decide)
    have e : nI k - nI (2 ^ b) = nI (k - 2 ^ b) := by
      have : nI (k - 2 ^ b) + nI (2 ^ b) = nI k := by rw [nI_add, Nat.sub_add_cancel hl]
      rw [← this, Int32.add_sub_cancel]
    refine b197_17 ⟨fun _ => ?_, fun g => ?_⟩
    · rw [z_shl1 (by omega), e, nI_1, clk, clb, nI_clamp (show k - 2 ^ b < 2 ^ 31 by omega)]
      have ibs : z_ib (nI (k - 2 ^ b)) 256 := vp_in_nI (by omega) (by decide)
      refine ⟨ibs, ibb, ibk, ibs, ibb, ibk, ?_⟩
      have hv := hI (k - 2 ^ b) (by omega)
      have ek : k = (k - 2 ^ b) + 2 ^ b := by omega
      refine c197_17 hb hle m (k + 1) _ (by omega) (by omega) ?_ ?_
      · intro t ht
        show upd (h 131) k (h 131 (k - 2 ^ b) + h 129 b) t = z_tg (h 129) t (b + 1) ∧ upd (h 132) k (h 132 (k - 2 ^ b) + h 130 b) t = z_tg (h 130) t (b + 1)
        by_cases q : t = k
        · subst q
          rw [upd_S, upd_S, hv.1, hv.2]
          rw [ek, z_tg_top _ (by omega), z_tg_top _ (by omega), ← ek]
          exact ⟨rfl, rfl⟩
        · rw [upd_N _ _ q, upd_N _ _ q]
          exact hI t (by omega)
      · intro g E G
        refine hA g (fun c q1 q2 => ?_) G
        rw [E c q1 q2, z_up_pt, z_up_pt, z_ptN _ _ q2, z_ptN _ _ q1]
    · rw [z_shl2 (by omega), nI_ltI (by omega) (by omega)] at g
      omega
theorem c197_4 {n : Nat} {mo : Int32} (hle : n ≤ 8) : ∀ (m b : Nat) (h : zH), b + m = n → h 82 67 = nI n → (∀ t, t < 2 ^ b → h 131 t = z_tg (h 129) t b ∧ h 132 t = z_tg (h 130) t b) → (∀ g : zH, (∀ c, ¬ c = 131 → ¬ c = 132 → g c = h c) → (∀ t, t < 2 ^ n → g 131 t = z_tg (h 129) t n ∧ g 132 t = z_tg (h 130) t n) → zP X d 197 89 [some (.ref 82), some (.int mo), some (.int 0), some (.int 1), none] [] z_S0 g (zI A)) → zP X d 197 4 [some (.ref 82), some (.int mo), some (.int 0), some (.int (nI b)), none] [] z_S0 h (zI A)
  | 0, b, h, hb, hn, hI, hA => by
    have e : b = n := by omega
    subst e
    refine b197_4 ⟨fun g => ?_, fun _ => hA h (fun _ _ _ => rfl) hI⟩
    rw [hn, nI_ltI (by omega) (by omega)] at g
    omega
  | m + 1, b, h, hb, hn, hI, hA => by
    have h9 : 2 ^ (b + 1) = 2 ^ b + 2 ^ b := by rw [Nat.pow_succ]; omega
    refine b197_4 ⟨fun _ => ?_, fun g => ?_⟩
    · rw [z_shl1 (by omega)]
      refine c197_17 (n := n) (by omega) hle (2 ^ b) (2 ^ b) h (by omega) (Nat.le_refl _) ?_ ?_
      · intro t ht
        rw [z_tg_hi _ ht, z_tg_hi _ ht]
        exact hI t ht
      · intro g E G
        refine c197_4 hle m (b + 1) g (by omega) (by rw [E 82 (by decide) (by decide)]; exact hn) ?_ ?_
        · rw [E 129 (by decide) (by decide), E 130 (by decide) (by decide)]
          exact G
        · intro g2 E2 G2
          refine hA g2 (fun c q1 q2 => (E2 c q1 q2).trans (E c q1 q2)) ?_
          rw [E 129 (by decide) (by decide), E 130 (by decide) (by decide)] at G2
          exact G2
    · rw [hn, nI_ltI (by omega) (by omega)] at g
      omega
theorem c197_89 {n : Nat} {mo : Int32} {W F : Nat → Int32} (hn : h 82 67 = nI n) (hle : n ≤ 8) (hW : ∀ t, t < 2 ^ n → h 131 t = W t ∧ h 132 t = F t) : ∀ (m k b : Nat), k + m = 2 ^ n → b < 2 ^ n → A (nI (z_ts W F mo m k b)) h → zP X d 197 89 [some (.ref 82), some (.int mo), some (.int (nI b)), some (.int (nI k)), none] [] z_S0 h (zI A)
  | 0, k, b, hk, hb, hA => by
    have h8 := z_pow8 hle
    refine b197_89 ⟨fun g => ?_, fun _ => hA⟩
    rw [hn, z_shl1 (by omega), nI_ltI (by omega) (by omega)] at g
    omega
  | m + 1, k, b, hk, hb, hA => by
    have h8 := z_pow8 hle
    have clk : (nI k).toNatClampNeg = k := nI_clamp (by omega)
    have clb : (nI b).toNatClampNeg = b := nI_clamp (by omega)
    have ibk : z_ib (nI k) 256 := vp_in_nI (by omega) (by decide)
    have ibb : z_ib (nI b) 256 := vp_in_nI (by omega) (by decide)
    have wk := hW k (by omega)
    have wb := hW b hb
    have go : ∀ b', b' < 2 ^ n → (if ¬ mo < W k ∧ (F b < F k ∨ (F k = F b ∧ W k < W b)) then k else b) = b' → zP X d 197 171 [some (.ref 82), some (.int mo), none, some (.int (nI k)), none] [.int (nI b')] z_S0 h (zI A) := by
      intro b' hb' e
      refine b197_171 ?_
      rw [nI_1]
      refine c197_89 hn hle hW m (k + 1) b' (by omega) hb' ?_
      rw [z_ts, e] at hA
      exact hA
    have at149 : ∀ w : Int32, (w = 0 ↔ ¬ (F b < F k ∨ (F k = F b ∧ W k < W b))) → zP X d 197 149 [some (.ref 82), some (.int mo), some (.int (nI b)), some (.int (nI k)), none] [.int w] z_S0 h (zI A) := by
      intro w hw
      refine b197_149 ⟨ibk, ?_⟩
      rw [clk, wk.1]
      exact ⟨fun g => b197_170 (go b hb (if_neg fun q => q.1 g)), fun g => ⟨fun g2 => b197_170 (go b hb (if_neg fun q => hw.mp g2 q.2)), fun g2 => go k (by omega) (if_pos ⟨g, Decidable.of_not_not fun q => g2 (hw.mpr q)⟩)⟩⟩
    have yes : (F b < F k ∨ (F k = F b ∧ W k < W b)) → zP X d 197 144 [some (.ref 82), some (.int mo), some (.int (nI b)), some (.int (nI k)), none] [] z_S0 h (zI A) := fun g => b197_144 (at149 1 ⟨fun q => absurd q (by decide), fun q => absurd g q⟩)
    have no : ¬ (F b < F k ∨ (F k = F b ∧ W k < W b)) → zP X d 197 148 [some (.ref 82), some (.int mo), some (.int (nI b)), some (.int (nI k)), none] [] z_S0 h (zI A) := fun g => b197_148 (at149 0 ⟨fun _ => g, fun _ => rfl⟩)
    refine b197_89 ⟨fun _ => ⟨ibk, ibb, ?_⟩, fun g => ?_⟩
    · rw [clk, clb, wk.1, wk.2, wb.1, wb.2]
      exact ⟨fun g1 => yes (Or.inl g1), fun g1 => ⟨ibk, ibb, fun g2 => ⟨ibk, ibb, fun g3 => yes (Or.inr ⟨g2, g3⟩), fun g3 => no (fun q => q.elim g1 (fun z => g3 z.2))⟩, fun g2 => no (fun q => q.elim g1 (fun z => g2 z.1))⟩⟩
    · rw [hn, z_shl1 (by omega), nI_ltI (by omega) (by omega)] at g
      omega
theorem q_tide {a1 a2 : Int32} (R : zR h) : zP X (d + 2) 108 0 (z_ent [.ref 0, .int a1, .int a2] 4) [] z_S0 h (zI fun r h1 => zP X (d + 2) 198 0 (z_ent [.ref 82, .int a1, .int a2] 4) [] z_S0 h1 (zI fun r2 h2 => r = r2 ∧ zR h2)) := by
  obtain ⟨⟨n, hle, hn, hm⟩, e1, e2, e3, e4⟩ := R.g10
  have h8 := z_pow8 hle
  have hp : 0 < 2 ^ n := Nat.two_pow_pos n
  refine b108 (c119 (zsw (fun g => ?_) (fun g => c119 (zsw (fun g2 => ?_) (fun g2 => b3 ?_)))))
  · exact b198 (c128 0 99999 (by decide) (by decide) (zsw (fun _ => ⟨rfl, R⟩) (fun q => absurd q g)))
  · exact b198 (c128 0 99999 (by decide) (by decide) (zsw (fun q => absurd g q) (fun _ => c128 0 1 (by decide) (by decide) (zsw (fun _ => ⟨rfl, R⟩) (fun q => absurd q g2)))))
  · have goal : ∀ w : Int32, w = (if a2 = 0 then nI (z_ts (fun s => z_tg (h 66) s n) (fun s => z_tg (h 67) s n) a1 (2 ^ n - 1) 1 0) else z_tg (h 67) (z_ts (fun s => z_tg (h 66) s n) (fun s => z_tg (h 67) s n) a1 (2 ^ n - 1) 1 0) n) → zP X (d + 2) 198 0 (z_ent [.ref 82, .int a1, .int a2] 4) [] z_S0 h (zI fun r2 h2 => w = r2 ∧ zR h2) := by
      intro w hw
      refine b198 (c128 0 99999 (by decide) (by decide) (zsw (fun q => absurd g q) (fun _ => c128 0 1 (by decide) (by decide) (zsw (fun q => absurd g2 q) (fun _ => b197 (c197_4 (b := 0) hle n h (by omega) hm ?_ ?_))))))
      · intro t ht
        have : t = 0 := by
          have : 2 ^ 0 = 1 := rfl
          omega
        subst this
        exact ⟨e3, e4⟩
      · intro g' E G
        have hm' : g' 82 67 = nI n := by rw [E 82 (by decide) (by decide)]; exact hm
        have R' : zR g' := by
          refine zR_scr R ?_
          intro c j hc
          by_cases q1 : c = 131
          · subst q1
            have : j = 0 := by
              cases j with
              | zero => rfl
              | succ j => cases hc
            subst this
            rw [(G 0 hp).1, z_tg_0, e3]
          · by_cases q2 : c = 132
            · subst q2
              have : j = 0 := by
                cases j with
                | zero => rfl
                | succ j => cases hc
              subst this
              rw [(G 0 hp).2, z_tg_0, e4]
            · rw [E c q1 q2]
        refine c197_89 (W := fun s => z_tg (h 129) s n) (F := fun s => z_tg (h 130) s n) hm' hle G (2 ^ n - 1) 1 0 (by omega) hp ⟨fun q => ?_, fun q => ?_⟩
        · rw [if_pos q, e1, e2] at hw
          exact ⟨hw, R'⟩
        · have hlt := z_ts_le (fun s => z_tg (h 129) s n) (fun s => z_tg (h 130) s n) a1 (2 ^ n) (2 ^ n - 1) 1 0 (by omega) hp
          refine c196 hm' hle (by omega) ⟨?_, R'⟩
          rw [if_neg q, e1, e2] at hw
          rw [E 130 (by decide) (by decide)]
          exact hw
    have hlt := z_ts_le (fun s => z_tg (h 66) s n) (fun s => z_tg (h 67) s n) a1 (2 ^ n) (2 ^ n - 1) 1 0 (by omega) hp
    have st := c3_loop (X := X) (d := d) (A := fun v5 h6 => ((a2 = 0 → zP X (d + 2) 198 0 (z_ent [.ref 82, .int a1, .int a2] 4) [] z_S0 h6 (zI fun r2 h2 => v5 = r2 ∧ zR h2)) ∧ (¬ a2 = 0 → zP X (d + 1) 4 0 (z_ent [.ref 65, .ref 67, .int v5] 5) [] z_S0 h6 (zI fun v7 h8 => zP X (d + 2) 198 0 (z_ent [.ref 82, .int a1, .int a2] 4) [] z_S0 h8 (zI fun r2 h2 => v7 = r2 ∧ zR h2))))) (mo := a1) hn hle (2 ^ n - 1) 1 0 (by omega) hp ⟨fun q => goal _ (by rw [if_pos q]), fun q => c4f hn hle (by omega) (goal _ (by rw [if_neg q]))⟩
    rw [z_tg_0, z_tg_0] at st
    exact st
end ZTD

/-! loops over rows: what is known of prices, which contract is in force -/
def z_it {α : Type} (f : Nat → α → α) : Nat → Nat → α → α
  | 0, _, a => a
  | m + 1, k, a => z_it f m (k + 1) (f k a)
def oI (o : Option Nat) : Int32 := match o with
  | none => -1
  | some j => nI j
def kn_st (so da tl : Nat → Int32) (s dy kn : Int32) (k : Nat) (o : Option Nat) : Option Nat :=
  if so k = s then (if dy < da k then o else if kn < tl k then o else (match o with
    | none => some k
    | some j => if da k < da j then o else some k)) else o
def kn_d (da : Nat → Int32) (o : Option Nat) : Int32 := match o with
  | none => -1
  | some j => da j
def kn_v (pe : Nat → Int32) (o : Option Nat) : Int32 := match o with
  | none => 0
  | some j => pe j
def sp_known (so da pe tl : Nat → Int32) (n : Nat) (s dy kn : Int32) : Int32 := kn_v pe (z_it (kn_st so da tl s dy kn) n 0 none)
theorem nI_m1 {j : Nat} (hj : j < 2 ^ 31) : ¬ nI j = -1 := by
  intro q
  have := congrArg Int32.toInt q
  rw [nI_toInt hj] at this
  have h2 : (-1 : Int32).toInt = -1 := rfl
  omega
section ZKN
variable {X : Option (List Int32)} {d : Nat} {h : zH} {A : Int32 → zH → Prop}
theorem c41_loop {n : Nat} {s dy kn : Int32} (hn : h 13 4 = nI n) (hle : n ≤ 40) : ∀ (m k : Nat) (o : Option Nat), k + m = n → (∀ j, o = some j → j < k) → A (kn_v (h 16) (z_it (kn_st (h 14) (h 15) (h 17) s dy kn) m k o)) h → zP X d 41 6 [some (.ref 13), some (.int s), some (.int dy), some (.int kn), some (.int (oI o)), some (.int (nI k))] [] z_S0 h (zI A)
  | 0, k, o, hk, ho, hA => by
    refine b41_6 ⟨fun g => ?_, fun _ => ?_⟩
    · rw [hn, nI_ltI (by omega) (by omega)] at g
      omega
    · cases o with
      | none => exact ⟨fun _ => hA, fun g => absurd rfl g⟩
      | some j =>
        have hj := ho j rfl
        refine ⟨fun g => absurd g (nI_m1 (by omega)), fun _ => ⟨vp_in_nI (by omega) (by decide), ?_⟩⟩
        show A (h 16 (nI j).toNatClampNeg) h
        rw [nI_clamp (by omega)]
        exact hA
  | m + 1, k, o, hk, ho, hA => by
    have ib : z_ib (nI k) 40 := vp_in_nI (by omega) (by decide)
    have cl : (nI k).toNatClampNeg = k := nI_clamp (by omega)
    have go : ∀ o', (∀ j, o' = some j → j < k + 1) → kn_st (h 14) (h 15) (h 17) s dy kn k o = o' → zP X d 41 78 [some (.ref 13), some (.int s), some (.int dy), some (.int kn), some (.int (oI o')), some (.int (nI k))] [] z_S0 h (zI A) := by
      intro o' h1 h2
      refine b41_78 ?_
      rw [nI_1]
      refine c41_loop hn hle m (k + 1) o' (by omega) h1 ?_
      rw [z_it, h2] at hA
      exact hA
    have same : kn_st (h 14) (h 15) (h 17) s dy kn k o = o → zP X d 41 78 [some (.ref 13), some (.int s), some (.int dy), some (.int kn), some (.int (oI o)), some (.int (nI k))] [] z_S0 h (zI A) := fun q => go o (fun j hj => Nat.lt_succ_of_lt (ho j hj)) q
    have take : kn_st (h 14) (h 15) (h 17) s dy kn k o = some k → zP X d 41 74 [some (.ref 13), some (.int s), some (.int dy), some (.int kn), none, some (.int (nI k))] [] z_S0 h (zI A) := fun q => b41_74 (go (some k) (fun j hj => by cases hj; omega) q)
    refine b41_6 ⟨fun _ => ?_, fun g => ?_⟩
    · refine ⟨ib, ?_⟩
      rw [cl]
      refine ⟨fun g1 => ⟨ib, ⟨fun g2 => same ?_, fun g2 => ⟨ib, ⟨fun g3 => same ?_, fun g3 => ⟨fun g4 => take ?_, fun g4 => ⟨ib, ?_⟩⟩⟩⟩⟩⟩, fun g1 => same ?_⟩
      · unfold kn_st; rw [if_pos g1, if_pos g2]
      · unfold kn_st; rw [if_pos g1, if_neg g2, if_pos g3]
      · unfold kn_st; rw [if_pos g1, if_neg g2, if_neg g3]
        cases o with
        | none => rfl
        | some j => exact absurd g4 (nI_m1 (by have := ho j rfl; omega))
      · cases o with
        | none => exact absurd rfl g4
        | some j =>
          have hj := ho j rfl
          refine ⟨vp_in_nI (by omega) (by decide), ?_⟩
          show (_ < h 15 (nI j).toNatClampNeg → _) ∧ (¬ _ < h 15 (nI j).toNatClampNeg → _)
          rw [nI_clamp (show j < 2 ^ 31 by omega)]
          refine ⟨fun g5 => same ?_, fun g5 => take ?_⟩
          · unfold kn_st; rw [if_pos g1, if_neg g2, if_neg g3]; dsimp only; rw [if_pos g5]
          · unfold kn_st; rw [if_pos g1, if_neg g2, if_neg g3]; dsimp only; rw [if_neg g5]
      · unfold kn_st; rw [if_neg g1]
    · rw [hn, nI_ltI (by omega) (by omega)] at g
      omega
theorem c41 {n : Nat} {s dy kn : Int32} (hn : h 13 4 = nI n) (hle : n ≤ 40) (k : A (sp_known (h 14) (h 15) (h 16) (h 17) n s dy kn) h) : zP X d 41 0 (z_ent [.ref 13, .int s, .int dy, .int kn] 6) [] z_S0 h (zI A) :=
  b41 (c41_loop hn hle n 0 none (by omega) (fun j hj => by cases hj) k)
/-- the reference keeps the nearest day and what it says -/
theorem c146_loop {n : Nat} {s dy kn : Int32} (hn : h 82 16 = nI n) (hle : n ≤ 40) (hd : ∀ i, i < n → ¬ h 97 i < -1) : ∀ (m k : Nat) (o : Option Nat), k + m = n → (∀ j, o = some j → j < k) → A (kn_v (h 98) (z_it (kn_st (h 96) (h 97) (h 99) s dy kn) m k o)) h → zP X d 146 9 [some (.ref 82), some (.int s), some (.int dy), some (.int kn), some (.int (kn_d (h 97) o)), some (.int (kn_v (h 98) o)), some (.int (nI k)), none] [] z_S0 h (zI A)
  | 0, k, o, hk, ho, hA => by
    refine b146_9 ⟨fun g => ?_, fun _ => hA⟩
    rw [hn, nI_ltI (by omega) (by omega)] at g
    omega
  | m + 1, k, o, hk, ho, hA => by
    have ib : z_ib (nI k) 40 := vp_in_nI (by omega) (by decide)
    have cl : (nI k).toNatClampNeg = k := nI_clamp (by omega)
    have go : ∀ o', (∀ j, o' = some j → j < k + 1) → kn_st (h 96) (h 97) (h 99) s dy kn k o = o' → zP X d 146 93 [some (.ref 82), some (.int s), some (.int dy), some (.int kn), some (.int (kn_d (h 97) o')), some (.int (kn_v (h 98) o')), some (.int (nI k)), none] [] z_S0 h (zI A) := by
      intro o' h1 h2
      refine b146_93 ?_
      rw [nI_1]
      refine c146_loop hn hle hd m (k + 1) o' (by omega) h1 ?_
      rw [z_it, h2] at hA
      exact hA
    have same : kn_st (h 96) (h 97) (h 99) s dy kn k o = o → zP X d 146 67 [some (.ref 82), some (.int s), some (.int dy), some (.int kn), some (.int (kn_d (h 97) o)), some (.int (kn_v (h 98) o)), some (.int (nI k)), none] [] z_S0 h (zI A) := fun q =>
      b146_67 (b146_68 ⟨fun _ => go o (fun j hj => Nat.lt_succ_of_lt (ho j hj)) q, fun g => absurd rfl g⟩)
    have take : kn_st (h 96) (h 97) (h 99) s dy kn k o = some k → zP X d 146 68 [some (.ref 82), some (.int s), some (.int dy), some (.int kn), some (.int (kn_d (h 97) o)), some (.int (kn_v (h 98) o)), some (.int (nI k)), none] [.int 1] z_S0 h (zI A) := fun q => by
      refine b146_68 ⟨fun g => absurd g (by decide), fun _ => ⟨ib, ib, ?_⟩⟩
      rw [cl]
      exact go (some k) (fun j hj => by cases hj; omega) q
    refine b146_9 ⟨fun _ => ?_, fun g => ?_⟩
    · refine ⟨ib, ?_⟩
      rw [cl]
      refine ⟨fun g1 => ⟨ib, ⟨fun g2 => same ?_, fun g2 => ⟨ib, ⟨fun g3 => same ?_, fun g3 => ⟨ib, ⟨fun g4 => same ?_, fun g4 => take ?_⟩⟩⟩⟩⟩⟩, fun g1 => same ?_⟩
      · unfold kn_st; rw [if_pos g1]
        by_cases g3 : dy < h 97 k
        · rw [if_pos g3]
        · rw [if_neg g3, if_pos g2]
      · unfold kn_st; rw [if_pos g1, if_pos g3]
      · unfold kn_st; rw [if_pos g1, if_neg g3, if_neg g2]
        cases o with
        | none => exact absurd g4 (hd k (by omega))
        | some j =>
          have g4 : h 97 k < h 97 j := g4
          dsimp only; rw [if_pos g4]
      · unfold kn_st; rw [if_pos g1, if_neg g3, if_neg g2]
        cases o with
        | none => rfl
        | some j =>
          have g4 : ¬ h 97 k < h 97 j := g4
          dsimp only; rw [if_neg g4]
      · unfold kn_st; rw [if_neg g1]
    · rw [hn, nI_ltI (by omega) (by omega)] at g
      omega
theorem c146 {n : Nat} {s dy kn : Int32} (hn : h 82 16 = nI n) (hle : n ≤ 40) (hd : ∀ i, i < n → ¬ h 97 i < -1) (k : A (sp_known (h 96) (h 97) (h 98) (h 99) n s dy kn) h) : zP X d 146 0 (z_ent [.ref 82, .int s, .int dy, .int kn] 8) [] z_S0 h (zI A) :=
  b146 (c146_loop hn hle hd n 0 none (by omega) (fun j hj => by cases hj) k)
/-! contracts in force -/
def fo_st (pa fr : Nat → Int32) (p dy : Int32) (k : Nat) (o : Option Nat) : Option Nat :=
  if pa k = p then (if dy < fr k then o else (match o with
    | none => some k
    | some j => if fr k < fr j then o else some k)) else o
def sp_force (pa fr ch : Nat → Int32) (n : Nat) (p dy : Int32) : Int32 := kn_v ch (z_it (fo_st pa fr p dy) n 0 none)
theorem c24_loop {n : Nat} {s dy : Int32} (hn : h 20 5 = nI n) (hle : n ≤ 20) : ∀ (m k : Nat) (o : Option Nat), k + m = n → (∀ j, o = some j → j < k) → A (kn_v (h 24) (z_it (fo_st (h 22) (h 23) s dy) m k o)) h → zP X d 24 5 [some (.ref 20), some (.int s), some (.int dy), some (.int (oI o)), some (.int (nI k))] [] z_S0 h (zI A)
  | 0, k, o, hk, ho, hA => by
    refine b24_5 ⟨fun g => ?_, fun _ => ?_⟩
    · rw [hn, nI_ltI (by omega) (by omega)] at g
      omega
    · cases o with
      | none => exact ⟨fun _ => hA, fun g => absurd rfl g⟩
      | some j =>
        have hj := ho j rfl
        refine ⟨fun g => absurd g (nI_m1 (by omega)), fun _ => ⟨vp_in_nI (by omega) (by decide), ?_⟩⟩
        show A (h 24 (nI j).toNatClampNeg) h
        rw [nI_clamp (by omega)]
        exact hA
  | m + 1, k, o, hk, ho, hA => by
    have ib : z_ib (nI k) 20 := vp_in_nI (by omega) (by decide)
    have cl : (nI k).toNatClampNeg = k := nI_clamp (by omega)
    have go : ∀ o', (∀ j, o' = some j → j < k + 1) → fo_st (h 22) (h 23) s dy k o = o' → zP X d 24 63 [some (.ref 20), some (.int s), some (.int dy), some (.int (oI o')), some (.int (nI k))] [] z_S0 h (zI A) := by
      intro o' h1 h2
      refine b24_63 ?_
      rw [nI_1]
      refine c24_loop hn hle m (k + 1) o' (by omega) h1 ?_
      rw [z_it, h2] at hA
      exact hA
    have same : fo_st (h 22) (h 23) s dy k o = o → zP X d 24 63 [some (.ref 20), some (.int s), some (.int dy), some (.int (oI o)), some (.int (nI k))] [] z_S0 h (zI A) := fun q => go o (fun j hj => Nat.lt_succ_of_lt (ho j hj)) q
    have take : fo_st (h 22) (h 23) s dy k o = some k → zP X d 24 60 [some (.ref 20), some (.int s), some (.int dy), none, some (.int (nI k))] [] z_S0 h (zI A) := fun q => b24_60 (go (some k) (fun j hj => by cases hj; omega) q)
    refine b24_5 ⟨fun _ => ?_, fun g => ?_⟩
    · refine ⟨ib, ?_⟩
      rw [cl]
      refine ⟨fun g1 => ⟨ib, ⟨fun g2 => same ?_, fun g2 => ⟨fun g4 => take ?_, fun g4 => ⟨ib, ?_⟩⟩⟩⟩, fun g1 => same ?_⟩
      · unfold fo_st; rw [if_pos g1, if_pos g2]
      · unfold fo_st; rw [if_pos g1, if_neg g2]
        cases o with
        | none => rfl
        | some j => exact absurd g4 (nI_m1 (by have := ho j rfl; omega))
      · cases o with
        | none => exact absurd rfl g4
        | some j =>
          have hj := ho j rfl
          refine ⟨vp_in_nI (by omega) (by decide), ?_⟩
          show (_ < h 23 (nI j).toNatClampNeg → _) ∧ (¬ _ < h 23 (nI j).toNatClampNeg → _)
          rw [nI_clamp (show j < 2 ^ 31 by omega)]
          refine ⟨fun g5 => same ?_, fun g5 => take ?_⟩
          · unfold fo_st; rw [if_pos g1, if_neg g2]; dsimp only; rw [if_pos g5]
          · unfold fo_st; rw [if_pos g1, if_neg g2]; dsimp only; rw [if_neg g5]
      · unfold fo_st; rw [if_neg g1]
    · rw [hn, nI_ltI (by omega) (by omega)] at g
      omega
theorem c24 {n : Nat} {s dy : Int32} (hn : h 20 5 = nI n) (hle : n ≤ 20) (k : A (sp_force (h 22) (h 23) (h 24) n s dy) h) : zP X d 24 0 (z_ent [.ref 20, .int s, .int dy] 5) [] z_S0 h (zI A) :=
  b24 (c24_loop hn hle n 0 none (by omega) (fun j hj => by cases hj) k)
theorem c171_loop {n : Nat} {s dy : Int32} (hn : h 82 40 = nI n) (hle : n ≤ 20) (hd : ∀ i, i < n → ¬ h 109 i < -1) : ∀ (m k : Nat) (o : Option Nat), k + m = n → (∀ j, o = some j → j < k) → A (kn_v (h 110) (z_it (fo_st (h 108) (h 109) s dy) m k o)) h → zP X d 171 8 [some (.ref 82), some (.int s), some (.int dy), some (.int (kn_d (h 109) o)), some (.int (kn_v (h 110) o)), some (.int (nI k))] [] z_S0 h (zI A)
  | 0, k, o, hk, ho, hA => by
    refine b171_8 ⟨fun g => ?_, fun _ => hA⟩
    rw [hn, nI_ltI (by omega) (by omega)] at g
    omega
  | m + 1, k, o, hk, ho, hA => by
    have ib : z_ib (nI k) 20 := vp_in_nI (by omega) (by decide)
    have cl : (nI k).toNatClampNeg = k := nI_clamp (by omega)
    have go : ∀ o', (∀ j, o' = some j → j < k + 1) → fo_st (h 108) (h 109) s dy k o = o' → zP X d 171 67 [some (.ref 82), some (.int s), some (.int dy), some (.int (kn_d (h 109) o')), some (.int (kn_v (h 110) o')), some (.int (nI k))] [] z_S0 h (zI A) := by
      intro o' h1 h2
      refine b171_67 ?_
      rw [nI_1]
      refine c171_loop hn hle hd m (k + 1) o' (by omega) h1 ?_
      rw [z_it, h2] at hA
      exact hA
    have same : fo_st (h 108) (h 109) s dy k o = o → zP X d 171 67 [some (.ref 82), some (.int s), some (.int dy), some (.int (kn_d (h 109) o)), some (.int (kn_v (h 110) o)), some (.int (nI k))] [] z_S0 h (zI A) := fun q => go o (fun j hj => Nat.lt_succ_of_lt (ho j hj)) q
    refine b171_8 ⟨fun _ => ?_, fun g => ?_⟩
    · refine ⟨ib, ?_⟩
      rw [cl]
      refine ⟨fun g1 => ⟨ib, ⟨fun g2 => same ?_, fun g2 => ⟨ib, ⟨fun g4 => same ?_, fun g4 => ⟨ib, ib, ?_⟩⟩⟩⟩⟩, fun g1 => same ?_⟩
      · unfold fo_st; rw [if_pos g1, if_pos g2]
      · unfold fo_st; rw [if_pos g1, if_neg g2]
        cases o with
        | none => exact absurd g4 (hd k (by omega))
        | some j =>
          have g4 : h 109 k < h 109 j := g4
          dsimp only; rw [if_pos g4]
      · refine go (some k) (fun j hj => by cases hj; omega) ?_
        unfold fo_st; rw [if_pos g1, if_neg g2]
        cases o with
        | none => rfl
        | some j =>
          have g4 : ¬ h 109 k < h 109 j := g4
          dsimp only; rw [if_neg g4]
      · unfold fo_st; rw [if_neg g1]
    · rw [hn, nI_ltI (by omega) (by omega)] at g
      omega
theorem c171 {n : Nat} {s dy : Int32} (hn : h 82 40 = nI n) (hle : n ≤ 20) (hd : ∀ i, i < n → ¬ h 109 i < -1) (k : A (sp_force (h 108) (h 109) (h 110) n s dy) h) : zP X d 171 0 (z_ent [.ref 82, .int s, .int dy] 6) [] z_S0 h (zI A) :=
  b171 (c171_loop hn hle hd n 0 none (by omega) (fun j hj => by cases hj) k)
end ZKN

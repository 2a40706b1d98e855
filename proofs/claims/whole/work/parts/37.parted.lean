/-! buyers and what each has -/
def z_dst (sp pe g : Nat → Int32) (b : Nat) (o : Option Nat) : Option Nat := if sp b = 0 ∧ g b = -1 then (match o with
  | none => some b
  | some j => if pe j < pe b then some b else some j) else o
theorem z_dst_ok {sp pe g : Nat → Int32} {n : Nat} : ∀ m k o, k + m ≤ n → (∀ b, o = some b → b < n ∧ g b = -1) → ∀ b, z_it (z_dst sp pe g) m k o = some b → b < n ∧ g b = -1
  | 0, k, o, _, ho => ho
  | m + 1, k, o, hk, ho => by
    rw [z_it]
    refine z_dst_ok m (k + 1) _ (by omega) ?_
    intro b hb
    unfold z_dst at hb
    split at hb
    · next q =>
      cases o with
      | none =>
        cases hb
        exact ⟨by omega, q.2⟩
      | some j =>
        dsimp only at hb
        split at hb
        · cases hb
          exact ⟨by omega, q.2⟩
        · exact ho b hb
    · exact ho b hb
def z_un (g : Nat → Int32) : Nat → Nat
  | 0 => 0
  | k + 1 => z_un g k + (if g k = -1 then 1 else 0)
theorem z_un_ge (g : Nat → Int32) (k : Nat) (v : Int32) : ∀ N, N ≤ k → z_un (upd g k v) N = z_un g N
  | 0, _ => rfl
  | N + 1, hN => by
    show z_un (upd g k v) N + (if upd g k v N = -1 then 1 else 0) = z_un g N + (if g N = -1 then 1 else 0)
    rw [z_un_ge g k v N (by omega), upd_N _ _ (by omega)]
theorem z_un_up (g : Nat → Int32) (k : Nat) {v : Int32} (h0 : g k = -1) (hv : ¬ v = -1) : ∀ N, k < N → z_un (upd g k v) N + 1 = z_un g N
  | 0, hN => by omega
  | N + 1, hN => by
    show z_un (upd g k v) N + (if upd g k v N = -1 then 1 else 0) + 1 = z_un g N + (if g N = -1 then 1 else 0)
    by_cases q : N = k
    · subst q
      rw [z_un_ge g N v N (by omega), upd_S, h0, if_pos rfl, if_neg hv]
    · have := z_un_up g k h0 hv N (by omega)
      rw [upd_N _ _ q]
      omega
theorem z_un_0 {g : Nat → Int32} : ∀ N, z_un g N = 0 → ∀ b, b < N → ¬ g b = -1
  | 0, _, b, hb => by omega
  | N + 1, h, b, hb => by
    have h : z_un g N + (if g N = -1 then 1 else 0) = 0 := h
    by_cases q : b = N
    · subst q
      intro z
      rw [if_pos z] at h
      omega
    · exact z_un_0 N (by omega) b (by omega)
theorem z_dst_no {sp pe g : Nat → Int32} {n : Nat} (hg : ∀ b, b < n → ¬ g b = -1) : ∀ m k, k + m ≤ n → z_it (z_dst sp pe g) m k none = none
  | 0, _, _ => rfl
  | m + 1, k, hk => by
    have : z_dst sp pe g k none = none := if_neg fun q => hg k (by omega) q.2
    rw [z_it, this]
    exact z_dst_no hg m (k + 1) (by omega)
def z_dea (sp pe g : Nat → Int32) (n : Nat) : Option Nat := z_it (z_dst sp pe g) n 0 none
def z_ptd (sp pe : Nat → Int32) (nq : Nat → Nat) (n : Nat) : Nat → Nat → (Nat → Int32) → Nat → Int32
  | 0, _, g => g
  | m + 1, l, g => match z_dea sp pe g n with
    | none => g
    | some b => z_ptd sp pe nq n m (l - min l (nq b)) (upd g b (nI (min l (nq b))))
def z_shr0 (x : Int32) : Int32 := if x = -1 then 0 else x
theorem z_or64a : ∀ u, u < 64 → ∀ b, b < 6 → (z_bt u b ∨ nI u ||| ((1 : Int32) <<< (nI b &&& 31)) = nI (u + 2 ^ b)) := by decide +kernel
theorem z_or64b : ∀ u, u < 64 → ∀ b, b < 6 → (z_bt u b ∨ u + 2 ^ b < 64) := by decide +kernel
theorem z_or64c : ∀ u, u < 64 → ∀ b, b < 6 → ∀ c, c < 6 → (z_bt u b ∨ (z_bt (u + 2 ^ b) c ↔ (z_bt u c ∨ c = b))) := by decide +kernel
theorem z_or64 {u b : Nat} (hu : u < 64) (hb : b < 6) (q : ¬ z_bt u b) : nI u ||| ((1 : Int32) <<< (nI b &&& 31)) = nI (u + 2 ^ b) ∧ u + 2 ^ b < 64 ∧ ∀ c, c < 6 → (z_bt (u + 2 ^ b) c ↔ (z_bt u c ∨ c = b)) := ⟨(z_or64a u hu b hb).resolve_left q, (z_or64b u hu b hb).resolve_left q, fun c hc => (z_or64c u hu b hb c hc).resolve_left q⟩
section ZPT
variable {X : Option (List Int32)} {d : Nat} {A : Int32 → zH → Prop} {B : zH → Prop}
theorem c8_loop {h : zH} {n u : Nat} {g : Nat → Int32} (hn : h 68 4 = nI n) (hle : n ≤ 6) (hu : u < 64) (hb : ∀ b, b < n → (z_bt u b ↔ ¬ g b = -1)) : ∀ (m k : Nat) (o : Option Nat), k + m = n → (∀ j, o = some j → j < k) → A (oI (z_it (z_dst (h 71) (h 70) g) m k o)) h → zP X d 8 4 [some (.ref 68), some (.int (nI u)), some (.int (oI o)), some (.int (nI k)), none] [] z_S0 h (zI A)
  | 0, k, o, hk, ho, hA => by
    refine b8_4 ⟨fun q => ?_, fun _ => hA⟩
    rw [hn, nI_ltI (by omega) (by omega)] at q
    omega
  | m + 1, k, o, hk, ho, hA => by
    have ib : z_ib (nI k) 6 := vp_in_nI (by omega) (by decide)
    have cl : (nI k).toNatClampNeg = k := nI_clamp (by omega)
    have go : ∀ o', (∀ j, o' = some j → j < k + 1) → z_dst (h 71) (h 70) g k o = o' → zP X d 8 63 [some (.ref 68), some (.int (nI u)), some (.int (oI o')), some (.int (nI k)), none] [] z_S0 h (zI A) := by
      intro o' h1 h2
      refine b8_63 ?_
      rw [nI_1]
      refine c8_loop hn hle hu hb m (k + 1) o' (by omega) h1 ?_
      rw [z_it, h2] at hA
      exact hA
    have no : ¬ (h 71 k = 0 ∧ g k = -1) → zP X d 8 34 [some (.ref 68), some (.int (nI u)), some (.int (oI o)), some (.int (nI k)), none] [.int 0] z_S0 h (zI A) := fun q => b8_34 ⟨fun _ => go o (fun j hj => Nat.lt_succ_of_lt (ho j hj)) (if_neg q), fun q => absurd rfl q⟩
    refine b8_4 ⟨fun _ => ⟨ib, ?_⟩, fun q => ?_⟩
    · rw [cl]
      refine ⟨fun g1 => ⟨fun g2 => ?_, fun g2 => b8_33 (no ?_)⟩, fun g1 => b8_33 (no fun q => g1 q.1)⟩
      · rw [z_bit0 (by omega) (by omega), hb k (by omega)] at g2
        have g2 : g k = -1 := Decidable.of_not_not g2
        refine b8_34 ⟨fun q => absurd q (by decide), fun _ => ?_⟩
        cases o with
        | none =>
          refine ⟨fun _ => b8_61 (go (some k) (fun j hj => by cases hj; omega) ?_), fun q => absurd rfl q⟩
          unfold z_dst
          rw [if_pos ⟨g1, g2⟩]
        | some j =>
          have hj := ho j rfl
          have ibj : z_ib (nI j) 6 := vp_in_nI (by omega) (by decide)
          have clj : (nI j).toNatClampNeg = j := nI_clamp (by omega)
          refine ⟨fun q => absurd q (nI_m1 (by omega)), fun _ => ⟨ib, ibj, ?_⟩⟩
          show ((h 70 (nI j).toNatClampNeg) < (h 70 (nI k).toNatClampNeg) → _) ∧ (¬ (h 70 (nI j).toNatClampNeg) < (h 70 (nI k).toNatClampNeg) → _)
          rw [clj, cl]
          refine ⟨fun g3 => b8_61 (go (some k) (fun j hj => by cases hj; omega) ?_), fun g3 => go (some j) (fun j' hj' => by cases hj'; omega) ?_⟩
          · unfold z_dst
            rw [if_pos ⟨g1, g2⟩]
            dsimp only
            rw [if_pos g3]
          · unfold z_dst
            rw [if_pos ⟨g1, g2⟩]
            dsimp only
            rw [if_neg g3]
      · rw [z_bit0 (by omega) (by omega), hb k (by omega)] at g2
        exact fun q => g2 (fun z => z q.2)
    · rw [hn, nI_ltI (by omega) (by omega)] at q
      omega
theorem c8 {h : zH} {n u : Nat} {g : Nat → Int32} (hn : h 68 4 = nI n) (hle : n ≤ 6) (hu : u < 64) (hb : ∀ b, b < n → (z_bt u b ↔ ¬ g b = -1)) (k : A (oI (z_dea (h 71) (h 70) g n)) h) : zP X d 8 0 (z_ent [.ref 68, .int (nI u)] 5) [] z_S0 h (zI A) := b8 (c8_loop (k := 0) hn hle hu hb n none (by omega) (fun j hj => by cases hj) k)
theorem c201_loop {h : zH} {n : Nat} {g : Nat → Int32} (hn : h 82 72 = nI n) (hle : n ≤ 6) (hb : ∀ b, b < n → h 136 b = g b) : ∀ (m k : Nat) (o : Option Nat), k + m = n → (∀ j, o = some j → j < k) → A (oI (z_it (z_dst (h 135) (h 134) g) m k o)) h → zP X d 201 4 [some (.ref 82), some (.int (oI o)), some (.int (nI k))] [] z_S0 h (zI A)
  | 0, k, o, hk, ho, hA => by
    refine b201_4 ⟨fun q => ?_, fun _ => hA⟩
    rw [hn, nI_ltI (by omega) (by omega)] at q
    omega
  | m + 1, k, o, hk, ho, hA => by
    have ib : z_ib (nI k) 6 := vp_in_nI (by omega) (by decide)
    have cl : (nI k).toNatClampNeg = k := nI_clamp (by omega)
    have go : ∀ o', (∀ j, o' = some j → j < k + 1) → z_dst (h 135) (h 134) g k o = o' → zP X d 201 56 [some (.ref 82), none, some (.int (nI k))] [.int (oI o')] z_S0 h (zI A) := by
      intro o' h1 h2
      refine b201_56 ?_
      rw [nI_1]
      refine c201_loop hn hle hb m (k + 1) o' (by omega) h1 ?_
      rw [z_it, h2] at hA
      exact hA
    have no : z_dst (h 135) (h 134) g k o = o → zP X d 201 55 [some (.ref 82), some (.int (oI o)), some (.int (nI k))] [] z_S0 h (zI A) := fun q => b201_55 (go o (fun j hj => Nat.lt_succ_of_lt (ho j hj)) q)
    have yes : z_dst (h 135) (h 134) g k o = some k → zP X d 201 51 [some (.ref 82), none, some (.int (nI k))] [] z_S0 h (zI A) := fun q => b201_51 (go (some k) (fun j hj => by cases hj; omega) q)
    refine b201_4 ⟨fun _ => ⟨ib, ?_⟩, fun q => ?_⟩
    · rw [cl, hb k (by omega)]
      refine ⟨fun g1 => ⟨ib, fun g2 => ?_, fun g2 => no (if_neg fun q => g2 q.2)⟩, fun g1 => no (if_neg fun q => g1 q.1)⟩
      cases o with
      | none =>
        refine ⟨fun _ => yes ?_, fun q => absurd rfl q⟩
        unfold z_dst
        rw [if_pos ⟨g1, g2⟩]
      | some j =>
        have hj := ho j rfl
        have ibj : z_ib (nI j) 6 := vp_in_nI (by omega) (by decide)
        have clj : (nI j).toNatClampNeg = j := nI_clamp (by omega)
        refine ⟨fun q => absurd q (nI_m1 (by omega)), fun _ => ⟨ib, ibj, ?_⟩⟩
        show ((h 134 (nI j).toNatClampNeg) < (h 134 k) → _) ∧ (¬ (h 134 (nI j).toNatClampNeg) < (h 134 k) → _)
        rw [clj]
        refine ⟨fun g3 => yes ?_, fun g3 => no ?_⟩
        · unfold z_dst
          rw [if_pos ⟨g1, g2⟩]
          dsimp only
          rw [if_pos g3]
        · unfold z_dst
          rw [if_pos ⟨g1, g2⟩]
          dsimp only
          rw [if_neg g3]
    · rw [hn, nI_ltI (by omega) (by omega)] at q
      omega
theorem c201 {h : zH} {n : Nat} {g : Nat → Int32} (hn : h 82 72 = nI n) (hle : n ≤ 6) (hb : ∀ b, b < n → h 136 b = g b) (k : A (oI (z_dea (h 135) (h 134) g n)) h) : zP X d 201 0 (z_ent [.ref 82] 3) [] z_S0 h (zI A) := b201 (c201_loop (k := 0) hn hle hb n none (by omega) (fun j hj => by cases hj) k)
theorem c215N {h : zH} {l q : Nat} (hl : l < 2 ^ 31) (hq : q < 2 ^ 31) (k : A (nI (min l q)) h) : zP X d 215 0 (z_ent [.int (nI l), .int (nI q)] 2) [] z_S0 h (zI A) := by
  refine c215 ?_
  by_cases g : q < l
  · rw [if_pos ((nI_ltI hq hl).mpr g)]
    rw [Nat.min_eq_right (by omega)] at k
    exact k
  · rw [if_neg (fun z => g ((nI_ltI hq hl).mp z))]
    rw [Nat.min_eq_left (by omega)] at k
    exact k
theorem z_sbm {l m : Nat} (h : m ≤ l) : nI l - nI m = nI (l - m) := by
  have : nI (l - m) + nI m = nI l := by rw [nI_add, Nat.sub_add_cancel h]
  rw [← this, Int32.add_sub_cancel]
theorem c7_15 {n : Nat} {sp pe ne : Nat → Int32} {nq : Nat → Nat} (hle : n ≤ 6) (hne : ∀ i, nq i ≤ 9999 ∧ ne i = nI (nq i)) : ∀ (m k l u : Nat) (g : Nat → Int32) (h : zH), k + m = n → l < 2 ^ 31 → u < 64 → h 68 4 = nI n → h 71 = sp → h 70 = pe → h 69 = ne → (∀ b, b < n → (z_bt u b ↔ ¬ g b = -1)) → (∀ b, b < n → h 72 b = z_shr0 (g b)) → (∀ f : Nat → Int32, (∀ b, b < n → f b = z_shr0 (z_ptd sp pe nq n m l g b)) → B (z_pt h 72 f)) → zP X (d + 1) 7 15 [some (.ref 68), none, some (.int (nI l)), some (.int (nI u)), some (.int (nI k)), none] [] z_S0 h (zV B)
  | 0, k, l, u, g, h, hk, hl, hu, hn, e1, e2, e3, hb, hs, hB => by
    refine b7_15 ⟨fun q => ?_, fun _ => ?_⟩
    · rw [hn, nI_ltI (by omega) (by omega)] at q
      omega
    · have := hB (h 72) hs
      rw [z_pt_id] at this
      exact this
  | m + 1, k, l, u, g, h, hk, hl, hu, hn, e1, e2, e3, hb, hs, hB => by
    refine b7_15 ⟨fun _ => c8 hn hle hu hb ?_, fun q => ?_⟩
    · rw [e1, e2]
      have hd := z_dst_ok (sp := sp) (pe := pe) (g := g) (n := n) n 0 none (by omega) (fun b hb => by cases hb)
      cases ed : z_dea sp pe g n with
      | none =>
        refine ⟨fun _ => ?_, fun q => absurd rfl q⟩
        have := hB (h 72) (fun b hb' => by rw [z_ptd, ed]; exact hs b hb')
        rw [z_pt_id] at this
        exact this
      | some b =>
        obtain ⟨hbn, hgb⟩ := hd b ed
        have ib : z_ib (nI b) 6 := vp_in_nI (by omega) (by decide)
        have cl : (nI b).toNatClampNeg = b := nI_clamp (by omega)
        have q9 := (hne b).1
        have hbit : ¬ z_bt u b := fun q => (hb b hbn).mp q hgb
        obtain ⟨o1, o2, o3⟩ := z_or64 hu (by omega) hbit
        refine ⟨fun q => absurd q (nI_m1 (by omega)), fun _ => ⟨ib, ?_⟩⟩
        show zP X d 215 0 (z_ent [.int (nI l), .int (h 69 (nI b).toNatClampNeg)] 2) [] z_S0 h _
        rw [cl, e3, (hne b).2]
        refine c215N hl (by omega) ⟨ib, ib, ?_⟩
        have hmin : min l (nq b) ≤ l := Nat.min_le_left _ _
        have hmin2 : min l (nq b) ≤ 9999 := Nat.le_trans (Nat.min_le_right _ _) q9
        show zP X (d + 1) 7 15 [some (.ref 68), none, some (.int (nI l - (z_up h 72 (nI b).toNatClampNeg (nI (min l (nq b)))) 72 (nI b).toNatClampNeg)), some (.int (nI u ||| ((1 : Int32) <<< (nI b &&& 31)))), some (.int (nI k + 1)), none] [] z_S0 (z_up h 72 (nI b).toNatClampNeg (nI (min l (nq b)))) (zV B)
        rw [cl, o1, nI_1]
        have ev : (z_up h 72 b (nI (min l (nq b)))) 72 b = nI (min l (nq b)) := by rw [z_up_pt, z_ptS, upd_S]
        rw [ev, z_sbm hmin]
        have nm : ¬ nI (min l (nq b)) = -1 := nI_m1 (by omega)
        refine c7_15 hle hne m (k + 1) (l - min l (nq b)) (u + 2 ^ b) (upd g b (nI (min l (nq b)))) _ (by omega) (by omega) o2 hn e1 e2 e3 ?_ ?_ ?_
        · intro c hc
          rw [o3 c (by omega), hb c hc]
          by_cases q : c = b
          · subst q
            rw [upd_S]
            exact ⟨fun _ => nm, fun _ => Or.inr rfl⟩
          · rw [upd_N _ _ q]
            exact ⟨fun z => z.elim id (fun z => absurd z q), fun z => Or.inl z⟩
        · intro c hc
          rw [z_up_pt, z_ptS]
          by_cases q : c = b
          · subst q
            rw [upd_S, upd_S]
            unfold z_shr0
            rw [if_neg nm]
          · rw [upd_N _ _ q, upd_N _ _ q]
            exact hs c hc
        · intro f hf
          rw [z_up_pt, z_pt_pt]
          refine hB f (fun c hc => ?_)
          rw [z_ptd, ed]
          exact hf c hc
    · rw [hn, nI_ltI (by omega) (by omega)] at q
      omega
theorem c202_35 {n : Nat} {sp pe ne : Nat → Int32} {nq : Nat → Nat} (hle : n ≤ 6) (hne : ∀ i, nq i ≤ 9999 ∧ ne i = nI (nq i)) : ∀ (m l : Nat) (g : Nat → Int32) (h : zH), z_un g n ≤ m → l < 2 ^ 31 → h 82 72 = nI n → h 135 = sp → h 134 = pe → h 133 = ne → (∀ b, b < n → h 136 b = g b) → (∀ f : Nat → Int32, (∀ b, b < n → f b = z_ptd sp pe nq n m l g b) → B (z_pt h 136 f)) → zP X (d + 1) 202 35 [some (.ref 82), some (.int (nI l)), some (.int (oI (z_dea sp pe g n)))] [] z_S0 h (zV B)
  | 0, l, g, h, hm, hl, hn, e1, e2, e3, hs, hB => by
    have : z_dea sp pe g n = none := z_dst_no (z_un_0 n (by omega)) n 0 (by omega)
    rw [this]
    refine b202_35 ⟨fun _ => ?_, fun q => absurd rfl q⟩
    have := hB (h 136) hs
    rw [z_pt_id] at this
    exact this
  | m + 1, l, g, h, hm, hl, hn, e1, e2, e3, hs, hB => by
    have hd := z_dst_ok (sp := sp) (pe := pe) (g := g) (n := n) n 0 none (by omega) (fun b hb => by cases hb)
    cases ed : z_dea sp pe g n with
    | none =>
      refine b202_35 ⟨fun _ => ?_, fun q => absurd rfl q⟩
      have := hB (h 136) (fun b hb' => by rw [z_ptd, ed]; exact hs b hb')
      rw [z_pt_id] at this
      exact this
    | some b =>
      obtain ⟨hbn, hgb⟩ := hd b ed
      have ib : z_ib (nI b) 6 := vp_in_nI (by omega) (by decide)
      have cl : (nI b).toNatClampNeg = b := nI_clamp (by omega)
      have q9 := (hne b).1
      have hmin : min l (nq b) ≤ l := Nat.min_le_left _ _
      have hmin2 : min l (nq b) ≤ 9999 := Nat.le_trans (Nat.min_le_right _ _) q9
      have nm : ¬ nI (min l (nq b)) = -1 := nI_m1 (by omega)
      refine b202_35 ⟨fun q => absurd q (nI_m1 (by omega)), fun _ => ⟨ib, ?_⟩⟩
      show zP X d 215 0 (z_ent [.int (nI l), .int (h 133 (nI b).toNatClampNeg)] 2) [] z_S0 h _
      rw [cl, e3, (hne b).2]
      refine c215N hl (by omega) ⟨ib, ib, ?_⟩
      show zP X d 201 0 (z_ent [.ref 82] 3) [] z_S0 (z_up h 136 (nI b).toNatClampNeg (nI (min l (nq b)))) (zI fun v6 h7 => zP X (d + 1) 202 35 [some (.ref 82), some (.int (nI l - (z_up h 136 (nI b).toNatClampNeg (nI (min l (nq b)))) 136 (nI b).toNatClampNeg)), some (.int v6)] [] z_S0 h7 (zV B))
      rw [cl]
      have ev : (z_up h 136 b (nI (min l (nq b)))) 136 b = nI (min l (nq b)) := by rw [z_up_pt, z_ptS, upd_S]
      rw [ev, z_sbm hmin]
      have hs2 : ∀ c, c < n → (z_up h 136 b (nI (min l (nq b)))) 136 c = upd g b (nI (min l (nq b))) c := by
        intro c hc
        rw [z_up_pt, z_ptS]
        by_cases q : c = b
        · subst q
          rw [upd_S, upd_S]
        · rw [upd_N _ _ q, upd_N _ _ q]
          exact hs c hc
      refine c201 hn hle hs2 ?_
      have e1' : (z_up h 136 b (nI (min l (nq b)))) 135 = sp := e1
      have e2' : (z_up h 136 b (nI (min l (nq b)))) 134 = pe := e2
      rw [e1', e2']
      have hu := z_un_up g b hgb nm n hbn
      refine c202_35 hle hne m (l - min l (nq b)) (upd g b (nI (min l (nq b)))) _ (by omega) (by omega) hn e1 e2 e3 hs2 ?_
      intro f hf
      rw [z_up_pt, z_pt_pt]
      refine hB f (fun c hc => ?_)
      rw [z_ptd, ed]
      exact hf c hc
theorem c202_2 {n : Nat} (hle : n ≤ 6) : ∀ (m k : Nat) (h : zH), k + m = n → h 82 72 = nI n → (∀ b, b < k → h 136 b = -1) → (∀ f : Nat → Int32, (∀ b, b < n → f b = -1) → zP X (d + 1) 202 2 [some (.ref 82), some (.int (nI n)), none] [] z_S0 (z_pt h 136 f) (zV B)) → zP X (d + 1) 202 2 [some (.ref 82), some (.int (nI k)), none] [] z_S0 h (zV B)
  | 0, k, h, hk, hn, hs, hB => by
    have e : k = n := by omega
    subst e
    have := hB (h 136) hs
    rw [z_pt_id] at this
    exact this
  | m + 1, k, h, hk, hn, hs, hB => by
    have ib : z_ib (nI k) 6 := vp_in_nI (by omega) (by decide)
    have cl : (nI k).toNatClampNeg = k := nI_clamp (by omega)
    refine b202_2 ⟨fun _ => ⟨ib, ?_⟩, fun q => ?_⟩
    · rw [cl, nI_1]
      refine c202_2 hle m (k + 1) _ (by omega) hn ?_ ?_
      · intro b hb
        rw [z_up_pt, z_ptS]
        by_cases q : b = k
        · subst q
          rw [upd_S]
        · rw [upd_N _ _ q]
          exact hs b (by omega)
      · intro f hf
        rw [z_up_pt, z_pt_pt]
        exact hB f hf
    · rw [hn, nI_ltI (by omega) (by omega)] at q
      omega
theorem c222s_loop {v : Int32} : ∀ (m k : Nat) (h : zH), k + m = 6 → B (z_pt h 72 (fun i => if k ≤ i ∧ i < 6 then v else h 72 i)) → zP X d 222 5 [some (.ref 72), some (.int v), some (.int (nI k)), some (.int (Int32.ofNat 6))] [] z_S0 h (zV B)
  | 0, k, h, hk, hB => by
    refine b222s_5 ⟨fun g => ?_, fun _ => ?_⟩
    · have := (nI_ltI (b := 6) (by omega) (by decide)).mp g
      omega
    · rw [z_fil0 (by omega)] at hB
      exact hB
  | m + 1, k, h, hk, hB => by
    refine b222s_5 ⟨fun _ => ⟨vp_in_nI (by omega) (by decide), ?_⟩, fun g => ?_⟩
    · rw [nI_1, nI_clamp (by omega)]
      refine c222s_loop m (k + 1) _ (by omega) ?_
      rw [z_fil (by omega)]
      exact hB
    · exact absurd ((nI_ltI (b := 6) (by omega) (by decide)).mpr (by omega)) g
def z_ap (sh pe : Nat → Int32) : Nat → Nat → Int64 → Int64
  | 0, _, a => a
  | m + 1, k, a => z_ap sh pe m (k + 1) (a + Int32.toInt64 (sh k * pe k / 100))
theorem z_ap_cg {sh sh' pe : Nat → Int32} {n : Nat} (E : ∀ b, b < n → sh b = sh' b) : ∀ m k a, k + m = n → z_ap sh pe m k a = z_ap sh' pe m k a
  | 0, _, _, _ => rfl
  | m + 1, k, a, hk => by
    rw [z_ap, z_ap, E k (by omega)]
    exact z_ap_cg E m (k + 1) _ (by omega)
theorem c9_loop {J : Int64 → zH → Prop} {h : zH} {n : Nat} (hn : h 68 4 = nI n) (hle : n ≤ 6) : ∀ (m k : Nat) (a : Int64), k + m = n → J (z_ap (h 72) (h 70) m k a) h → zP X (d + 1) 9 4 [some (.ref 68), some (.long a), none, some (.int (nI k))] [] z_S0 h (zJ J)
  | 0, k, a, hk, hA => by
    refine b9_4 ⟨fun q => ?_, fun _ => hA⟩
    rw [hn, nI_ltI (by omega) (by omega)] at q
    omega
  | m + 1, k, a, hk, hA => by
    have ib : z_ib (nI k) 6 := vp_in_nI (by omega) (by decide)
    have cl : (nI k).toNatClampNeg = k := nI_clamp (by omega)
    refine b9_4 ⟨fun _ => ⟨ib, ib, c127 ?_⟩, fun q => ?_⟩
    · rw [cl, nI_1]
      exact c9_loop hn hle m (k + 1) _ (by omega) hA
    · rw [hn, nI_ltI (by omega) (by omega)] at q
      omega
theorem z_mx0 {x : Int32} (hx : x = -1 ∨ ∃ q, q < 2 ^ 31 ∧ x = nI q) : (if 0 < x then x else 0) = z_shr0 x := by
  unfold z_shr0
  rcases hx with rfl | ⟨q, hq, rfl⟩
  · decide
  · rw [if_neg (nI_m1 hq)]
    by_cases g : 0 < q
    · have z : (0 : Int32) < nI q := (nI_ltI (a := 0) (by decide) hq).mpr g
      rw [if_pos z]
    · have : q = 0 := by omega
      subst this
      decide
theorem c203_42 {J : Int64 → zH → Prop} {h : zH} {n : Nat} (hn : h 82 72 = nI n) (hle : n ≤ 6) (hg : ∀ b, b < n → h 136 b = -1 ∨ ∃ q, q < 2 ^ 31 ∧ h 136 b = nI q) : ∀ (m k : Nat) (a : Int64), k + m = n → J (z_ap (fun b => z_shr0 (h 136 b)) (h 134) m k a) h → zP X (d + 1) 203 42 [some (.ref 82), none, some (.long a), none, some (.int (nI k))] [] z_S0 h (zJ J)
  | 0, k, a, hk, hA => by
    refine b203_42 ⟨fun q => ?_, fun _ => hA⟩
    rw [hn, nI_ltI (by omega) (by omega)] at q
    omega
  | m + 1, k, a, hk, hA => by
    have ib : z_ib (nI k) 6 := vp_in_nI (by omega) (by decide)
    have cl : (nI k).toNatClampNeg = k := nI_clamp (by omega)
    refine b203_42 ⟨fun _ => ⟨ib, c214 ⟨ib, ?_⟩⟩, fun q => ?_⟩
    · rw [cl, nI_1, z_mx0 (hg k (by omega))]
      exact c203_42 hn hle hg m (k + 1) _ (by omega) hA
    · rw [hn, nI_ltI (by omega) (by omega)] at q
      omega
theorem z_ptd_ok {sp pe : Nat → Int32} {nq : Nat → Nat} (hq : ∀ i, nq i ≤ 9999) {n : Nat} : ∀ m l g, (∀ b, g b = -1 ∨ ∃ q, q < 2 ^ 31 ∧ g b = nI q) → ∀ b, z_ptd sp pe nq n m l g b = -1 ∨ ∃ q, q < 2 ^ 31 ∧ z_ptd sp pe nq n m l g b = nI q
  | 0, l, g, hg => hg
  | m + 1, l, g, hg => by
    rw [z_ptd]
    cases ed : z_dea sp pe g n with
    | none => exact hg
    | some b =>
      have := hq b
      refine z_ptd_ok hq m _ _ (upd_all (P := fun x => x = -1 ∨ ∃ q, q < 2 ^ 31 ∧ x = nI q) hg b _ (Or.inr ⟨min l (nq b), ?_, rfl⟩))
      exact Nat.lt_of_le_of_lt (Nat.min_le_right _ _) (by omega)
variable {h : zH}
theorem q_parted {a1 : Int32} (R : zR h) : zP X (d + 3) 111 0 (z_ent [.ref 0, .int a1] 2) [] z_S0 h (zJ fun r h1 => zP X (d + 3) 203 0 (z_ent [.ref 82, .int a1] 5) [] z_S0 h1 (zJ fun r2 h2 => r = r2 ∧ zR h2)) := by
  obtain ⟨⟨n, hle, hn, hm⟩, e1, e2, e3, e4, e5⟩ := R.g11
  obtain ⟨l, el, hl⟩ := R.g2.2.2
  have hl31 : l < 2 ^ 31 := by
    have := z_cnt_le (h 11) 40
    omega
  have lm : ¬ (nI n - 1) < a1 ↔ a1 < nI n := z_ltm (by omega)
  have hne : ∀ i, (h 69 i).toNatClampNeg ≤ 9999 ∧ h 69 i = nI (h 69 i).toNatClampNeg := by
    intro i
    obtain ⟨q, hq, e⟩ := e5 i
    rw [e, nI_clamp (by omega)]
    exact ⟨hq, rfl⟩
  refine b111 (c119 (zsw (fun g => ?_) (fun g => ?_)))
  · refine b203 ⟨fun _ => ⟨rfl, R⟩, fun q1 => ⟨fun q2 => ?_, fun _ => ⟨rfl, R⟩⟩⟩
    rw [hm] at q2
    rw [hn] at g
    exact absurd ⟨q1, lm.mpr q2⟩ g
  · rw [hn] at g
    have g1 := lm.mp g.2
    have g1m : a1 < h 82 72 := by rw [hm]; exact g1
    have goM : ∀ (f : Nat → Int32), (∀ b, b < n → f b = z_shr0 (z_ptd (h 71) (h 70) (fun i => (h 69 i).toNatClampNeg) n n l (fun _ => -1) b)) → ((a1 = -1 → zP X (d + 2) 9 0 (z_ent [.ref 68] 4) [] z_S0 (z_pt h 72 f) (zJ fun v6 h7 => zP X (d + 3) 203 0 (z_ent [.ref 82, .int a1] 5) [] z_S0 h7 (zJ fun r2 h2 => v6 = r2 ∧ zR h2))) ∧ (¬ a1 = -1 → (z_ib a1 6 ∧ zP X (d + 3) 203 0 (z_ent [.ref 82, .int a1] 5) [] z_S0 (z_pt h 72 f) (zJ fun r2 h2 => Int32.toInt64 (f (Int32.toNatClampNeg a1)) = r2 ∧ zR h2)))) := by
      intro f hf
      have part : ∀ {w : Int64}, (∀ f' : Nat → Int32, (∀ b, b < n → f' b = z_ptd (h 71) (h 70) (fun i => (h 69 i).toNatClampNeg) n n l (fun _ => -1) b) → ((a1 < 0 → zP X (d + 3) 203 42 [some (.ref 82), none, some (.long 0), none, some (.int 0)] [] z_S0 (z_pt (z_pt h 72 f) 136 f') (zJ fun r2 h2 => w = r2 ∧ zR h2)) ∧ (¬ a1 < 0 → (z_ib a1 6 ∧ zP X (d + 2) 214 0 (z_ent [.int 0, .int (f' (Int32.toNatClampNeg a1))] 2) [] z_S0 (z_pt (z_pt h 72 f) 136 f') (zI fun v4 h5 => w = Int32.toInt64 v4 ∧ zR h5))))) → zP X (d + 3) 203 0 (z_ent [.ref 82, .int a1] 5) [] z_S0 (z_pt h 72 f) (zJ fun r2 h2 => w = r2 ∧ zR h2) := by
        intro w k
        refine b203 ⟨fun q => absurd q g.1, fun _ => ⟨fun _ => b202 (c202_2 (k := 0) hle n _ (by omega) hm (fun b hb => absurd hb (Nat.not_lt_zero b)) (fun f1 hf1 => ?_)), fun q => absurd g1m q⟩⟩
        refine b202_2 ⟨fun q => ?_, fun _ => c201 (n := n) (g := fun _ => -1) hm hle hf1 ?_⟩
        · have q : nI n < h 82 72 := q
          rw [hm, nI_ltI (by omega) (by omega)] at q
          omega
        · have e95 : h 95 0 = nI l := by rw [← el, R.g2.1]
          show zP X (d + 2) 202 35 [some (.ref 82), some (.int (h 95 0)), some (.int (oI (z_dea (h 135) (h 134) (fun _ => -1) n)))] [] z_S0 (z_pt (z_pt h 72 f) 136 f1) _
          rw [e95, ← e3, ← e2]
          refine c202_35 (sp := h 71) (pe := h 70) (ne := h 69) (nq := fun i => (h 69 i).toNatClampNeg) hle hne n l (fun _ => -1) _ ?_ hl31 hm e3.symm e2.symm e1.symm hf1 ?_
          · have : ∀ k, z_un (fun _ => -1) k ≤ k := by
              intro k
              induction k with
              | zero => exact Nat.le_refl 0
              | succ k ih =>
                rw [z_un, if_pos rfl]
                omega
            exact this n
          · intro f' hf'
            rw [z_pt_pt]
            exact k f' hf'
      have RR : ∀ f', zR (z_pt (z_pt h 72 f) 136 f') := by
        intro f'
        refine zR_scr R (fun c j hc => ?_)
        by_cases q1 : c = 136
        · subst q1; cases hc
        by_cases q2 : c = 72
        · subst q2; cases hc
        rw [z_ptN _ _ q1, z_ptN _ _ q2]
      have ok := z_ptd_ok (sp := h 71) (pe := h 70) (nq := fun i => (h 69 i).toNatClampNeg) (fun i => (hne i).1) (n := n) n l (fun _ => -1) (fun _ => Or.inl rfl)
      refine ⟨fun q => b9 (c9_loop (h := z_pt h 72 f) (k := 0) hn hle n 0 (by omega) (part (fun f' hf' => ⟨fun _ => ?_, fun z => absurd ((z_mn1 g).mpr q) z⟩))), fun q => ?_⟩
      · refine c203_42 (h := z_pt (z_pt h 72 f) 136 f') (k := 0) hm hle (fun b hb => ?_) n 0 (by omega) ⟨?_, RR f'⟩
        · show f' b = -1 ∨ ∃ q, q < 2 ^ 31 ∧ f' b = nI q
          rw [hf' b hb]
          exact ok b
        · show z_ap f (h 70) n 0 0 = z_ap (fun b => z_shr0 (f' b)) (h 134) n 0 0
          rw [e2]
          exact z_ap_cg (fun b hb => by rw [hf b hb, hf' b hb]) n 0 0 (by omega)
      · have hneg : ¬ a1 < 0 := fun z => q ((z_mn1 g).mp z)
        obtain ⟨j, hj, rfl⟩ := zhasN (N := n) (by omega) ⟨hneg, g1⟩
        have ib : z_ib (nI j) 6 := vp_in_nI (by omega) (by decide)
        refine ⟨ib, part (fun f' hf' => ⟨fun z => absurd z hneg, fun _ => ⟨ib, c214 ⟨?_, RR f'⟩⟩⟩)⟩
        rw [nI_clamp (by omega), hf j hj, hf' j hj, z_mx0 (ok j)]
    refine b7 (b222s (c222s_loop (k := 0) 6 h (by omega) ?_))
    have fin := c7_15 (X := X) (d := d + 1) (B := fun h5 => ((a1 = -1 → zP X (d + 2) 9 0 (z_ent [.ref 68] 4) [] z_S0 h5 (zJ fun v6 h7 => zP X (d + 3) 203 0 (z_ent [.ref 82, .int a1] 5) [] z_S0 h7 (zJ fun r2 h2 => v6 = r2 ∧ zR h2))) ∧ (¬ a1 = -1 → (z_ib a1 6 ∧ zP X (d + 3) 203 0 (z_ent [.ref 82, .int a1] 5) [] z_S0 h5 (zJ fun r2 h2 => Int32.toInt64 (h5 72 (Int32.toNatClampNeg a1)) = r2 ∧ zR h2))))) (sp := h 71) (pe := h 70) (ne := h 69) (nq := fun i => (h 69 i).toNatClampNeg) hle hne n 0 l 0 (fun _ => -1) (z_pt h 72 (fun i => if 0 ≤ i ∧ i < 6 then 0 else h 72 i)) (by omega) hl31 (by omega) hn rfl rfl rfl ?_ ?_ ?_
    · have e0 : (z_pt h 72 (fun i => if 0 ≤ i ∧ i < 6 then 0 else h 72 i)) 12 0 = nI l := el
      rw [← el] at fin
      exact fin
    · intro b hb
      have : ¬ z_bt 0 b := by unfold z_bt; rw [Nat.zero_div]; decide
      exact ⟨fun z => absurd z this, fun z => absurd rfl z⟩
    · intro b hb
      rw [z_ptS, if_pos ⟨by omega, by omega⟩]
      rfl
    · intro f hf
      rw [z_pt_pt]
      exact goM f hf
end ZPT

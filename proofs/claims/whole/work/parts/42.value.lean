/-! what a part of a text comes to: both stack machines -/
def ev_jn (c : Nat) (a b : Int32) : Int32 := if c = 6 then a + b else if c = 7 then a - b else if c = 8 then a * b else if c = 9 then (if a < b then 1 else 0) else if c = 10 then (if a = b then 1 else 0) else if c = 11 then (if a = 0 then 0 else if b = 0 then 0 else 1) else (if a = 0 then (if b = 0 then 0 else 1) else 1)
def ev_st (nm : Nat → Int32) (c : Nat) (s : List Int32) : List Int32 :=
  if c < 6 then nm c :: s else if 100 ≤ c then nI (c - 100) :: s else if c = 13 then (match s with
    | x :: r => (if x = 0 then 1 else 0) :: r
    | [] => []) else if c = 14 then (match s with
    | x :: r => (-x) :: r
    | [] => []) else (match s with
    | b :: a :: r => ev_jn c a b :: r
    | _ => s)
def ev_run (nm : Nat → Int32) : List Nat → List Int32 → List Int32
  | [], s => s
  | c :: L, s => ev_run nm L (ev_st nm c s)
def ev_ok (f : Nat → Int32) : List Int32 → Prop
  | [] => True
  | x :: r => f r.length = x ∧ ev_ok f r
theorem ev_ok_up {f : Nat → Int32} {k : Nat} {v : Int32} : ∀ s : List Int32, s.length ≤ k → ev_ok f s → ev_ok (upd f k v) s
  | [], _, _ => trivial
  | x :: r, hk, ⟨h1, h2⟩ => by
    have hk : r.length + 1 ≤ k := hk
    exact ⟨by rw [upd_N _ _ (by omega)]; exact h1, ev_ok_up r (by omega) h2⟩
theorem ev_ok_push {f : Nat → Int32} {v : Int32} {s : List Int32} (h : ev_ok f s) : ev_ok (upd f s.length v) (v :: s) := ⟨upd_S _ _ _, ev_ok_up s (Nat.le_refl _) h⟩
theorem z_xc_nm : ∀ c, c < 6 → z_xc c < 0 ∧ ¬ (-10 : Int32) < z_xc c ∧ -10 - z_xc c = nI c := by decide +kernel
theorem z_xc_op : ∀ c, c < 13 → 6 ≤ c → z_xc c < 0 ∧ (-10 : Int32) < z_xc c ∧ ¬ z_xc c = -1 ∧ ¬ z_xc c = -2 := by decide +kernel
theorem z_xc_no {c : Nat} (h : 100 ≤ c) : z_xc c = nI (c - 100) := by
  unfold z_xc
  rw [if_neg (by omega), if_neg (by omega), if_neg (by omega)]
theorem z_mc_lo {c : Nat} (h : c < 15) : z_mc c = nI c := if_pos h
theorem z_mc_no {c : Nat} (h : 100 ≤ c) (h2 : c < 10100) : z_mc c < 0 ∧ -1 - z_mc c = nI (c - 100) := by
  have e : z_mc c = -1 - nI (c - 100) := if_neg (by omega)
  rw [e]
  constructor
  · rw [Int32.lt_iff_toInt_lt, Int32.toInt_sub, nI_toInt (by omega), show (-1 : Int32).toInt = -1 from rfl, show (0 : Int32).toInt = 0 from rfl, Int.bmod_eq_of_le (by omega) (by omega)]
    omega
  · rw [Int32.sub_eq_add_neg (-1) (-1 - nI (c - 100)), Int32.neg_sub, Int32.add_comm, Int32.sub_add_cancel]
theorem z_ht_push {L : List Nat} {c n m : Nat} (h : z_ht (c :: L) n = some m) (hc : c < 6 ∨ 100 ≤ c) : z_ht L (n + 1) = some m := by
  rw [z_ht, if_pos hc] at h
  exact h
theorem z_ht_un {L : List Nat} {c n m : Nat} (h : z_ht (c :: L) n = some m) (h0 : ¬ (c < 6 ∨ 100 ≤ c)) (hc : c = 13 ∨ c = 14) : 1 ≤ n ∧ z_ht L n = some m := by
  rw [z_ht, if_neg h0, if_pos hc] at h
  by_cases q : n < 1
  · rw [if_pos q] at h; cases h
  · rw [if_neg q] at h
    exact ⟨by omega, h⟩
theorem z_ht_jn {L : List Nat} {c n m : Nat} (h : z_ht (c :: L) n = some m) (h0 : ¬ (c < 6 ∨ 100 ≤ c)) (hc : ¬ (c = 13 ∨ c = 14)) : 2 ≤ n ∧ z_ht L (n - 1) = some m := by
  rw [z_ht, if_neg h0, if_neg hc] at h
  by_cases q : n < 2
  · rw [if_pos q] at h; cases h
  · rw [if_neg q] at h
    exact ⟨by omega, h⟩
section ZVA
variable {X : Option (List Int32)} {d : Nat} {A : Int32 → zH → Prop} {h : zH}
theorem c74_0 (k : A 0 h) : zP X d 74 0 (z_ent [.int 0] 1) [] z_S0 h (zI A) := b74 ⟨fun _ => k, fun g => absurd rfl g⟩
theorem c74_1 (k : A 1 h) : zP X d 74 0 (z_ent [.int 1] 1) [] z_S0 h (zI A) := b74 ⟨fun g => absurd g (by decide), fun _ => k⟩
theorem c73 {c : Nat} {a b : Int32} (h1 : 6 ≤ c) (h2 : c < 13) (k : A (ev_jn c a b) h) : zP X (d + 1) 73 0 (z_ent [.int (z_xc c), .int a, .int b] 3) [] z_S0 h (zI A) := by
  have hc : c = 6 ∨ c = 7 ∨ c = 8 ∨ c = 9 ∨ c = 10 ∨ c = 11 ∨ c = 12 := by omega
  rcases hc with rfl | rfl | rfl | rfl | rfl | rfl | rfl
  · rw [show z_xc 6 = -3 from by decide]
    exact b73 ⟨fun e => absurd e (by decide), fun e => absurd e (by decide), fun e => absurd e (by decide), fun e => absurd e (by decide), fun e => absurd e (by decide), fun _ => k, fun e => absurd rfl e.2.2.2.2.2⟩
  · rw [show z_xc 7 = -4 from by decide]
    exact b73 ⟨fun e => absurd e (by decide), fun e => absurd e (by decide), fun e => absurd e (by decide), fun e => absurd e (by decide), fun _ => k, fun e => absurd e (by decide), fun e => absurd rfl e.2.2.2.2.1⟩
  · rw [show z_xc 8 = -5 from by decide]
    exact b73 ⟨fun e => absurd e (by decide), fun e => absurd e (by decide), fun e => absurd e (by decide), fun _ => k, fun e => absurd e (by decide), fun e => absurd e (by decide), fun e => absurd rfl e.2.2.2.1⟩
  · have k : A (if a < b then 1 else 0) h := k
    rw [show z_xc 9 = -6 from by decide]
    refine b73 ⟨fun e => absurd e (by decide), fun e => absurd e (by decide), fun _ => ⟨fun g => c74_1 ?_, fun g => c74_0 ?_⟩, fun e => absurd e (by decide), fun e => absurd e (by decide), fun e => absurd e (by decide), fun e => absurd rfl e.2.2.1⟩
    · rw [if_pos g] at k; exact k
    · rw [if_neg g] at k; exact k
  · have k : A (if a = b then 1 else 0) h := k
    rw [show z_xc 10 = -7 from by decide]
    refine b73 ⟨fun e => absurd e (by decide), fun _ => ⟨fun g => c74_1 ?_, fun g => c74_0 ?_⟩, fun e => absurd e (by decide), fun e => absurd e (by decide), fun e => absurd e (by decide), fun e => absurd e (by decide), fun e => absurd rfl e.2.1⟩
    · rw [if_pos g] at k; exact k
    · rw [if_neg g] at k; exact k
  · have k : A (if a = 0 then 0 else if b = 0 then 0 else 1) h := k
    rw [show z_xc 11 = -8 from by decide]
    refine b73 ⟨fun _ => ⟨fun g => c74_0 ?_, fun g => ⟨fun g2 => c74_0 ?_, fun g2 => c74_1 ?_⟩⟩, fun e => absurd e (by decide), fun e => absurd e (by decide), fun e => absurd e (by decide), fun e => absurd e (by decide), fun e => absurd e (by decide), fun e => absurd rfl e.1⟩
    · rw [if_pos g] at k; exact k
    · rw [if_neg g, if_pos g2] at k; exact k
    · rw [if_neg g, if_neg g2] at k; exact k
  · have k : A (if a = 0 then (if b = 0 then 0 else 1) else 1) h := k
    rw [show z_xc 12 = -9 from by decide]
    refine b73 ⟨fun e => absurd e (by decide), fun e => absurd e (by decide), fun e => absurd e (by decide), fun e => absurd e (by decide), fun e => absurd e (by decide), fun e => absurd e (by decide), fun _ => ⟨fun g => ⟨fun g2 => c74_0 ?_, fun g2 => b73_105 (c74_1 ?_)⟩, fun g => b73_105 (c74_1 ?_)⟩⟩
    · rw [if_pos g, if_pos g2] at k; exact k
    · rw [if_pos g, if_neg g2] at k; exact k
    · rw [if_neg g] at k; exact k
theorem c167 {c : Nat} {a b : Int32} (h1 : 6 ≤ c) (h2 : c < 13) (k : A (ev_jn c a b) h) : zP X d 167 0 (z_ent [.int (nI c), .int a, .int b] 3) [] z_S0 h (zI A) := by
  have hc : c = 6 ∨ c = 7 ∨ c = 8 ∨ c = 9 ∨ c = 10 ∨ c = 11 ∨ c = 12 := by omega
  rcases hc with rfl | rfl | rfl | rfl | rfl | rfl | rfl
  · exact b167 ⟨fun _ => k, fun e => absurd e (by decide), fun e => absurd e (by decide), fun e => absurd e (by decide), fun e => absurd e (by decide), fun e => absurd e (by decide), fun e => absurd rfl e.1⟩
  · exact b167 ⟨fun e => absurd e (by decide), fun _ => k, fun e => absurd e (by decide), fun e => absurd e (by decide), fun e => absurd e (by decide), fun e => absurd e (by decide), fun e => absurd rfl e.2.1⟩
  · exact b167 ⟨fun e => absurd e (by decide), fun e => absurd e (by decide), fun _ => k, fun e => absurd e (by decide), fun e => absurd e (by decide), fun e => absurd e (by decide), fun e => absurd rfl e.2.2.1⟩
  · have k : A (if a < b then 1 else 0) h := k
    refine b167 ⟨fun e => absurd e (by decide), fun e => absurd e (by decide), fun e => absurd e (by decide), fun _ => ⟨fun g => ?_, fun g => ?_⟩, fun e => absurd e (by decide), fun e => absurd e (by decide), fun e => absurd rfl e.2.2.2.1⟩
    · rw [if_pos g] at k; exact k
    · rw [if_neg g] at k; exact k
  · have k : A (if a = b then 1 else 0) h := k
    refine b167 ⟨fun e => absurd e (by decide), fun e => absurd e (by decide), fun e => absurd e (by decide), fun e => absurd e (by decide), fun _ => ⟨fun g => ?_, fun g => ?_⟩, fun e => absurd e (by decide), fun e => absurd rfl e.2.2.2.2.1⟩
    · rw [if_pos g] at k; exact k
    · rw [if_neg g] at k; exact k
  · have k : A (if a = 0 then 0 else if b = 0 then 0 else 1) h := k
    refine b167 ⟨fun e => absurd e (by decide), fun e => absurd e (by decide), fun e => absurd e (by decide), fun e => absurd e (by decide), fun e => absurd e (by decide), fun _ => ⟨fun g => ?_, fun g => ⟨fun g2 => ?_, fun g2 => ?_⟩⟩, fun e => absurd rfl e.2.2.2.2.2⟩
    · rw [if_pos g] at k; exact k
    · rw [if_neg g, if_pos g2] at k; exact k
    · rw [if_neg g, if_neg g2] at k; exact k
  · have k : A (if a = 0 then (if b = 0 then 0 else 1) else 1) h := k
    refine b167 ⟨fun e => absurd e (by decide), fun e => absurd e (by decide), fun e => absurd e (by decide), fun e => absurd e (by decide), fun e => absurd e (by decide), fun e => absurd e (by decide), fun _ => ⟨fun g => ⟨fun g2 => ?_, fun g2 => ?_⟩, fun g => ?_⟩⟩
    · rw [if_pos g, if_pos g2] at k; exact k
    · rw [if_pos g, if_neg g2] at k; exact k
    · rw [if_neg g] at k; exact k
/-- the class's machine -/
theorem c72_21 {t pt : Nat} {nm : Nat → Int32} (ht : t ∈ ([25, 28, 31, 34, 37, 40] : List Nat)) (hpt : pt < 3) (hnm : ∀ c, c < 6 → h 43 c = nm c) : ∀ (L : List Nat) (k : Nat) (s : List Int32) (f : Nat → Int32), (∀ c, c ∈ L → c < 15 ∨ (100 ≤ c ∧ c < 10100)) → k + L.length ≤ 160 → s.length ≤ k → z_ht L s.length = some 1 → (∀ j, j < L.length → h (t + 1) (k + j) = z_xc (L.getD j 0)) → h (t + 2) pt = nI (k + L.length) → ev_ok f s → (∀ f, A ((ev_run nm L s).headD 0) (z_pt h 44 f)) → zP X (d + 2) 72 21 [some (.ref t), some (.int (nI pt)), some (.ref 43), some (.ref 44), some (.int (nI s.length)), some (.int (nI k)), none] [] z_S0 (z_pt h 44 f) (zI A) := by
  have n1 : ¬ t + 1 = 44 := by
    intro q
    have : t = 43 := by omega
    subst this
    revert ht
    decide
  have n2 : ¬ t + 2 = 44 := by
    intro q
    have : t = 42 := by omega
    subst this
    revert ht
    decide
  have zup : ∀ (f : Nat → Int32) (i : Nat) (v : Int32), z_up (z_pt h 44 f) 44 i v = z_pt h 44 (upd f i v) := fun f i v => by rw [z_up_pt, z_pt_pt]; rfl
  intro L
  induction L with
  | nil =>
    intro k s f hc hk hs hh hco hen hok hA
    have hl : s.length = 1 := Option.some.inj hh
    match s, hl with
    | [v], _ =>
      refine b72_21 ht ?_
      rw [nI_clamp (show pt < 2 ^ 31 by omega), z_ptN _ _ n2, hen]
      refine ⟨vp_in_nI hpt (by decide), fun g => ?_, fun _ => ⟨fun _ => ?_, fun g => absurd rfl g⟩⟩
      · exact absurd g (nI_nlt (Nat.le_refl _) (by omega))
      · have : (z_pt h 44 f) 44 0 = v := hok.1
        rw [this]
        exact hA f
  | cons c L ih =>
    intro k s f hc hk hs hh hco hen hok hA
    have hk : k + (L.length + 1) ≤ 160 := hk
    have hcc := hc c List.mem_cons_self
    have hcL : ∀ c, c ∈ L → c < 15 ∨ (100 ≤ c ∧ c < 10100) := fun x hx => hc x (List.mem_cons_of_mem _ hx)
    have hx : h (t + 1) k = z_xc c := hco 0 (Nat.succ_pos _)
    have hco2 : ∀ j, j < L.length → h (t + 1) (k + 1 + j) = z_xc (L.getD j 0) := fun j hj => by
      have := hco (j + 1) (Nat.succ_lt_succ hj)
      rw [show k + 1 + j = k + (j + 1) by omega]
      exact this
    have hen2 : h (t + 2) pt = nI (k + 1 + L.length) := by
      rw [hen]
      exact congrArg nI (by show k + (L.length + 1) = _; omega)
    have ibk : z_ib (nI k) 160 := vp_in_nI (by omega) (by decide)
    refine b72_21 ht ?_
    rw [nI_clamp (show pt < 2 ^ 31 by omega), z_ptN _ _ n2, hen, nI_clamp (show k < 2 ^ 31 by omega), z_ptN _ _ n1, hx]
    have push : ∀ v, ev_st nm c s = v :: s → (c < 6 ∨ 100 ≤ c) → zP X (d + 2) 72 82 [some (.ref t), some (.int (nI pt)), some (.ref 43), some (.ref 44), some (.int (nI s.length)), some (.int (nI k)), none] [.int v, .int (nI s.length), .ref 44] z_S0 (z_pt h 44 f) (zI A) := by
      intro v hv hcp
      refine b72_82 ht ⟨vp_in_nI (by omega) (by decide), b72_184 ht ?_⟩
      rw [nI_clamp (show s.length < 2 ^ 31 by omega), zup, nI_1, nI_1]
      refine ih (k + 1) (v :: s) _ hcL (by omega) (by show s.length + 1 ≤ k + 1; omega) (z_ht_push hh hcp) hco2 hen2 (ev_ok_push hok) ?_
      intro f2
      have := hA f2
      rw [ev_run, hv] at this
      exact this
    refine ⟨vp_in_nI hpt (by decide), fun _ => ⟨ibk, ?_⟩, fun g => absurd (nI_lt (by show k < k + (L.length + 1); omega) (by show k + (L.length + 1) < 2 ^ 31; omega)) g⟩
    by_cases c6 : c < 6
    · obtain ⟨x1, x2, x3⟩ := z_xc_nm c c6
      refine ⟨fun _ => ⟨fun g => absurd g x2, fun _ => b72_53 ht ⟨fun _ => ⟨fun _ => ?_, fun g => absurd x1 g⟩, fun g => absurd (nI_lt (b := 160) (by omega) (by decide)) g⟩⟩, fun g => absurd x1 g⟩
      rw [x3, nI_clamp (show c < 2 ^ 31 by omega)]
      refine ⟨vp_in_nI c6 (by decide), ?_⟩
      have : (z_pt h 44 f) 43 c = nm c := hnm c c6
      rw [this]
      exact push _ (by unfold ev_st; rw [if_pos c6]) (Or.inl c6)
    by_cases c100 : 100 ≤ c
    · rw [z_xc_no c100]
      have np : ¬ nI (c - 100) < 0 := nI_pos (by omega)
      refine ⟨fun g => absurd g np, fun _ => b72_53 ht ⟨fun _ => ⟨fun g => absurd g np, fun _ => ?_⟩, fun g => absurd (nI_lt (b := 160) (by omega) (by decide)) g⟩⟩
      exact push _ (by unfold ev_st; rw [if_neg c6, if_pos c100]) (Or.inr c100)
    have c15 : c < 15 := by omega
    have h0 : ¬ (c < 6 ∨ 100 ≤ c) := by omega
    by_cases c13 : c = 13 ∨ c = 14
    · obtain ⟨s1, hh2⟩ := z_ht_un hh h0 c13
      match s, s1, hs, hh2, hok, hA with
      | x :: r, s1, hs, hh2, hok, hA =>
        have hs : r.length + 1 ≤ k := hs
        have e1 : nI (x :: r).length - 1 = nI r.length := nI_pred r.length
        have h44 : (z_pt h 44 f) 44 r.length = x := hok.1
        have un : ∀ v, ev_st nm c (x :: r) = v :: r → zP X (d + 2) 72 148 [some (.ref t), some (.int (nI pt)), some (.ref 43), some (.ref 44), some (.int (nI (x :: r).length)), some (.int (nI k)), none] [.int v, .int (nI r.length), .ref 44] z_S0 (z_pt h 44 f) (zI A) := by
          intro v hv
          refine b72_148 ht ⟨vp_in_nI (by omega) (by decide), b72_184 ht ?_⟩
          rw [nI_clamp (show r.length < 2 ^ 31 by omega), zup, nI_1]
          refine ih (k + 1) (v :: r) _ hcL (by omega) (by show r.length + 1 ≤ k + 1; omega) hh2 hco2 hen2 (ev_ok_push hok.2) ?_
          intro f2
          have := hA f2
          rw [ev_run, hv] at this
          exact this
        have l1 : ¬ nI (x :: r).length < 1 := by
          rw [show (1 : Int32) = nI 1 from rfl, nI_ltI (by show r.length + 1 < 2 ^ 31; omega) (by decide)]
          show ¬ r.length + 1 < 1
          omega
        rcases c13 with rfl | rfl
        · rw [show z_xc 13 = -2 from by decide]
          refine ⟨fun _ => ⟨fun _ => ⟨fun g => absurd g (by decide), fun _ => ⟨fun _ => b72_102 ht ⟨fun g => absurd g l1, fun _ => ⟨fun g => absurd g (by decide), fun _ => ?_⟩⟩, fun g => absurd rfl g⟩⟩, fun g => absurd (by decide) g⟩, fun g => absurd (by decide) g⟩
          rw [e1, nI_clamp (show r.length < 2 ^ 31 by omega), h44]
          refine ⟨vp_in_nI (by omega) (by decide), fun g => b72_145 ht (c74_1 (un 1 ?_)), fun g => b72_145 ht (c74_0 (un 0 ?_))⟩
          · show (if x = 0 then (1 : Int32) else 0) :: r = 1 :: r
            rw [if_pos g]
          · show (if x = 0 then (1 : Int32) else 0) :: r = 0 :: r
            rw [if_neg g]
        · rw [show z_xc 14 = -1 from by decide]
          refine ⟨fun _ => ⟨fun _ => ⟨fun _ => b72_102 ht ⟨fun g => absurd g l1, fun _ => ⟨fun _ => ?_, fun g => absurd rfl g⟩⟩, fun g => absurd rfl g⟩, fun g => absurd (by decide) g⟩, fun g => absurd (by decide) g⟩
          rw [e1, nI_clamp (show r.length < 2 ^ 31 by omega), h44]
          exact ⟨vp_in_nI (by omega) (by decide), un _ rfl⟩
    · obtain ⟨s1, hh2⟩ := z_ht_jn hh h0 c13
      obtain ⟨x1, x2, x3, x4⟩ := z_xc_op c (by omega) (by omega)
      match s, s1, hs, hh2, hok, hA with
      | b :: a :: r, s1, hs, hh2, hok, hA =>
        have hs : r.length + 1 + 1 ≤ k := hs
        have e1 : nI (b :: a :: r).length + (-1) = nI (r.length + 1) := by
          have := nI_pred (r.length + 1)
          rw [Int32.sub_eq_add_neg] at this
          exact this
        have e2 : nI (r.length + 1) - 1 = nI r.length := nI_pred r.length
        have hb : (z_pt h 44 f) 44 (r.length + 1) = b := hok.1
        have ha : (z_pt h 44 f) 44 r.length = a := hok.2.1
        have l2 : ¬ nI (b :: a :: r).length < 2 := by
          rw [show (2 : Int32) = nI 2 from rfl, nI_ltI (by show r.length + 1 + 1 < 2 ^ 31; omega) (by decide)]
          show ¬ r.length + 1 + 1 < 2
          omega
        refine ⟨fun _ => ⟨fun _ => ⟨fun g => absurd g x3, fun _ => ⟨fun g => absurd g x4, fun _ => ⟨fun g => absurd g l2, fun _ => ?_⟩⟩⟩, fun g => absurd x2 g⟩, fun g => absurd x1 g⟩
        rw [e1, e2, nI_clamp (show r.length < 2 ^ 31 by omega), nI_clamp (show r.length + 1 < 2 ^ 31 by omega), ha, hb]
        refine ⟨vp_in_nI (by omega) (by decide), vp_in_nI (by omega) (by decide), c73 (by omega) (by omega) ⟨vp_in_nI (by omega) (by decide), b72_184 ht ?_⟩⟩
        rw [zup, nI_1]
        refine ih (k + 1) (ev_jn c a b :: r) _ hcL (by omega) (by show r.length + 1 ≤ k + 1; omega) hh2 hco2 hen2 (ev_ok_push hok.2.2) ?_
        intro f2
        have := hA f2
        rw [ev_run, show ev_st nm c (b :: a :: r) = ev_jn c a b :: r from by unfold ev_st; rw [if_neg c6, if_neg c100, if_neg (fun q => c13 (Or.inl q)), if_neg (fun q => c13 (Or.inr q))]] at this
        exact this
/-- the reference's machine -/
theorem c168_27 {row j : Nat} {nm : Nat → Int32} (hrow : row < 18) (hnm : ∀ c, c < 6 → ∀ (f : Nat → Int32) (B : Int32 → zH → Prop), B (nm c) (z_pt h 107 f) → zP X (d + 1) 166 0 (z_ent [.ref 82, .int (nI c), .int (nI j)] 3) [] z_S0 (z_pt h 107 f) (zI B)) : ∀ (L : List Nat) (k : Nat) (s : List Int32) (f : Nat → Int32), (∀ c, c ∈ L → c < 15 ∨ (100 ≤ c ∧ c < 10100)) → k + L.length ≤ 160 → s.length ≤ k → z_ht L s.length = some 1 → (∀ j, j < L.length → h 101 (160 * row + (k + j)) = z_mc (L.getD j 0)) → h 102 row = nI (k + L.length) → ev_ok f s → (∀ f, A ((ev_run nm L s).headD 0) (z_pt h 107 f)) → zP X (d + 2) 168 27 [some (.ref 82), none, some (.int (nI j)), some (.int (nI row)), some (.int (nI s.length)), some (.int (nI k)), none] [] z_S0 (z_pt h 107 f) (zI A) := by
  have zup : ∀ (f : Nat → Int32) (i : Nat) (v : Int32), z_up (z_pt h 107 f) 107 i v = z_pt h 107 (upd f i v) := fun f i v => by rw [z_up_pt, z_pt_pt]; rfl
  intro L
  induction L with
  | nil =>
    intro k s f hc hk hs hh hco hen hok hA
    have hl : s.length = 1 := Option.some.inj hh
    match s, hl with
    | [v], _ =>
      refine b168_27 ?_
      rw [nI_clamp (show row < 2 ^ 31 by omega), show (z_pt h 107 f) 102 = h 102 from rfl, hen]
      refine ⟨vp_in_nI hrow (by decide), fun g => ?_, fun _ => ?_⟩
      · exact absurd g (nI_nlt (Nat.le_refl _) (by omega))
      · have : (z_pt h 107 f) 107 0 = v := hok.1
        rw [this]
        exact hA f
  | cons c L ih =>
    intro k s f hc hk hs hh hco hen hok hA
    have hk : k + (L.length + 1) ≤ 160 := hk
    have hcc := hc c List.mem_cons_self
    have hcL : ∀ c, c ∈ L → c < 15 ∨ (100 ≤ c ∧ c < 10100) := fun x hx => hc x (List.mem_cons_of_mem _ hx)
    have hx : h 101 (160 * row + k) = z_mc c := hco 0 (Nat.succ_pos _)
    have hco2 : ∀ j, j < L.length → h 101 (160 * row + (k + 1 + j)) = z_mc (L.getD j 0) := fun j hj => by
      have := hco (j + 1) (Nat.succ_lt_succ hj)
      rw [show k + 1 + j = k + (j + 1) by omega]
      exact this
    have hen2 : h 102 row = nI (k + 1 + L.length) := by
      rw [hen]
      exact congrArg nI (by show k + (L.length + 1) = _; omega)
    refine b168_27 ?_
    rw [nI_clamp (show row < 2 ^ 31 by omega), show (z_pt h 107 f) 102 = h 102 from rfl, hen, show (160 : Int32) = nI 160 from rfl, pk_mul, nI_add, nI_clamp (show 160 * row + k < 2 ^ 31 by omega), show (z_pt h 107 f) 101 = h 101 from rfl, hx]
    have push : ∀ v, ev_st nm c s = v :: s → (c < 6 ∨ 100 ≤ c) → z_ib (nI s.length) 170 ∧ zP X (d + 2) 168 200 [some (.ref 82), none, some (.int (nI j)), some (.int (nI row)), some (.int (nI s.length + 1)), some (.int (nI k)), none] [] z_S0 (z_up (z_pt h 107 f) 107 (Int32.toNatClampNeg (nI s.length)) v) (zI A) := by
      intro v hv hcp
      refine ⟨vp_in_nI (by omega) (by decide), b168_200 ?_⟩
      rw [nI_clamp (show s.length < 2 ^ 31 by omega), zup, nI_1, nI_1]
      refine ih (k + 1) (v :: s) _ hcL (by omega) (by show s.length + 1 ≤ k + 1; omega) (z_ht_push hh hcp) hco2 hen2 (ev_ok_push hok) ?_
      intro f2
      have := hA f2
      rw [ev_run, hv] at this
      exact this
    refine ⟨vp_in_nI hrow (by decide), fun _ => ⟨vp_in_nI (by omega) (by decide), ?_⟩, fun g => absurd (nI_lt (by show k < k + (L.length + 1); omega) (by show k + (L.length + 1) < 2 ^ 31; omega)) g⟩
    by_cases c100 : 100 ≤ c
    · obtain ⟨x1, x2⟩ := z_mc_no c100 (by omega)
      refine ⟨fun _ => ?_, fun g => absurd x1 g⟩
      rw [x2]
      exact push _ (by unfold ev_st; rw [if_neg (by omega), if_pos c100]) (Or.inr c100)
    have c15 : c < 15 := by omega
    rw [z_mc_lo c15]
    refine ⟨fun g => absurd g (nI_pos (by omega)), fun _ => ?_⟩
    by_cases c6 : c < 6
    · refine ⟨fun _ => hnm c c6 f _ (push _ (by unfold ev_st; rw [if_pos c6]) (Or.inl c6)), fun g => absurd (nI_lt (b := 6) c6 (by decide)) g⟩
    refine ⟨fun g => absurd g (nI_nlt (b := 6) (by omega) (by omega)), fun _ => ?_⟩
    have h0 : ¬ (c < 6 ∨ 100 ≤ c) := by omega
    by_cases c13 : c = 13 ∨ c = 14
    · obtain ⟨s1, hh2⟩ := z_ht_un hh h0 c13
      match s, s1, hs, hh2, hok, hA with
      | x :: r, s1, hs, hh2, hok, hA =>
        have hs : r.length + 1 ≤ k := hs
        have e1 : nI (x :: r).length - 1 = nI r.length := nI_pred r.length
        have h44 : (z_pt h 107 f) 107 r.length = x := hok.1
        have un : ∀ v, ev_st nm c (x :: r) = v :: r → zP X (d + 2) 168 200 [some (.ref 82), none, some (.int (nI j)), some (.int (nI row)), some (.int (nI (x :: r).length)), some (.int (nI k)), none] [] z_S0 (z_up (z_pt h 107 f) 107 r.length v) (zI A) := by
          intro v hv
          refine b168_200 ?_
          rw [zup, nI_1]
          refine ih (k + 1) (v :: r) _ hcL (by omega) (by show r.length + 1 ≤ k + 1; omega) hh2 hco2 hen2 (ev_ok_push hok.2) ?_
          intro f2
          have := hA f2
          rw [ev_run, hv] at this
          exact this
        have ibr : z_ib (nI r.length) 170 := vp_in_nI (by omega) (by decide)
        have cl : (nI r.length).toNatClampNeg = r.length := nI_clamp (by omega)
        rw [e1, cl, h44]
        rcases c13 with rfl | rfl
        · refine ⟨fun _ => ⟨ibr, fun g => b168_134 ⟨ibr, ?_⟩, fun g => b168_134 ⟨ibr, ?_⟩⟩, fun g => absurd rfl g⟩
          · rw [cl]
            refine un 1 ?_
            show (if x = 0 then (1 : Int32) else 0) :: r = 1 :: r
            rw [if_pos g]
          · rw [cl]
            refine un 0 ?_
            show (if x = 0 then (1 : Int32) else 0) :: r = 0 :: r
            rw [if_neg g]
        · exact ⟨fun g => absurd g (by decide), fun _ => ⟨fun _ => ⟨ibr, ibr, un _ rfl⟩, fun g => absurd rfl g⟩⟩
    · obtain ⟨s1, hh2⟩ := z_ht_jn hh h0 c13
      match s, s1, hs, hh2, hok, hA with
      | b :: a :: r, s1, hs, hh2, hok, hA =>
        have hs : r.length + 1 + 1 ≤ k := hs
        have e1 : nI (b :: a :: r).length + (-1) = nI (r.length + 1) := by
          have := nI_pred (r.length + 1)
          rw [Int32.sub_eq_add_neg] at this
          exact this
        have e2 : nI (r.length + 1) - 1 = nI r.length := nI_pred r.length
        have hb : (z_pt h 107 f) 107 (r.length + 1) = b := hok.1
        have ha : (z_pt h 107 f) 107 r.length = a := hok.2.1
        refine ⟨fun g => absurd ((nI_eq (b := 13) (by omega) (by decide)).mp g) (by omega), fun _ => ⟨fun g => absurd ((nI_eq (b := 14) (by omega) (by decide)).mp g) (by omega), fun _ => ?_⟩⟩
        rw [e1, e2, nI_clamp (show r.length < 2 ^ 31 by omega), nI_clamp (show r.length + 1 < 2 ^ 31 by omega), ha, hb]
        refine ⟨vp_in_nI (by omega) (by decide), vp_in_nI (by omega) (by decide), c167 (by omega) (by omega) ⟨vp_in_nI (by omega) (by decide), b168_200 ?_⟩⟩
        rw [zup, nI_1]
        refine ih (k + 1) (ev_jn c a b :: r) _ hcL (by omega) (by show r.length + 1 ≤ k + 1; omega) hh2 hco2 hen2 (ev_ok_push hok.2.2) ?_
        intro f2
        have := hA f2
        rw [ev_run, show ev_st nm c (b :: a :: r) = ev_jn c a b :: r from by unfold ev_st; rw [if_neg c6, if_neg c100, if_neg (fun q => c13 (Or.inl q)), if_neg (fun q => c13 (Or.inr q))]] at this
        exact this
end ZVA

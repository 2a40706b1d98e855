/-! both readings: sums, terms, both, either -/
theorem zL1_Lv {B : Nat → Nat} {s q o r : Nat} (h : zL1 B s q o r) : zLv B s 7 69 4 (8 * r + 7) q o := by
  obtain ⟨ok, q', L, a, b, c⟩ := h
  exact ⟨ok, q', L, a, fun _ => ⟨fun z => by omega, fun z => by omega, fun z => by omega, fun z => by omega⟩, b, zMO_MD c⟩
section ZLO
variable {B : Nat → Nat} {s : Nat}
def zCL68 (B : Nat → Nat) (s D q o : Nat) (ok : Bool) (q' : Nat) (L : List Nat) : Prop := ∀ (X : Option (List Int32)) (d : Nat) (S : zS) (t k n : Nat) (g G : zH) (A : Int32 → zH → Prop), zCS S → zTL t → zBX B s g → k ≤ q → n < q → zSX B s t g q k G → (ok = true → ∀ G', zSX B s t g q' (k + L.length) G' → (∀ j, j < k → G' (t + 1) j = G (t + 1) j) → (∀ j, j < L.length → G' (t + 1) (k + j) = z_xc (L.getD j 0)) → A 1 G') → (ok = false → ∀ G' k', zSX B s t g q' k' G' → A 0 G') → zP X (d + D) 68 13 [some (.ref t), some (.ref 18), some (.int (nI o)), some (.int (nI n))] [] S G (zI A)
def zLP68 (B : Nat → Nat) (s D q o : Nat) : Prop := ∃ (ok : Bool) (q' : Nat) (L : List Nat), q' ≤ s ∧ (ok = true → q + L.length ≤ q' ∧ ∀ R, zW R → zW (R ++ L)) ∧ (ok = true → zSt 6 (lx_t B s q')) ∧ zCL68 B s D q o ok q' L ∧ zML B s 6 q o ok q' L
theorem lp68_nil {q o r : Nat} (hs : s ≤ 160) (hq : q ≤ s) (hn : ¬ lx_t B s q = 42) (h0 : zSt 7 (lx_t B s q)) : zLP68 B s (8 * r + 8) q o := by
  have hok := lx_t_ok B s q
  have E1 : ∀ n, n < 1000 → (nI (lx_t B s q) = nI n ↔ lx_t B s q = n) := fun n hn => nI_eq (by omega) (by omega)
  refine ⟨true, q, [], hq, fun _ => ⟨Nat.le_refl _, fun R hR => by rw [List.append_nil]; exact hR⟩, fun _ => ?_, ?_, zML_nil _ _ _⟩
  · obtain ⟨a1, a2, a3, a4⟩ := h0
    exact ⟨fun _ => hn, fun z => by omega, fun z => by omega, fun z => by omega⟩
  · intro X d S t k n g G A hS ht hB hk hnq h K1 K0
    refine zPd (d := d + (8 * r + 7) + 1) (by omega) (e68_13 hS ht ?_)
    rw [h.2.2.2.1]
    exact ⟨fun _ => ⟨fun y => absurd ((E1 42 (by decide)).mp y) hn, fun _ => K1 rfl G h (fun _ _ => rfl) (fun j hj => absurd hj (Nat.not_lt_zero j))⟩, fun _ => K1 rfl G h (fun _ _ => rfl) (fun j hj => absurd hj (Nat.not_lt_zero j))⟩
theorem lp68 {o r : Nat} (hs : s ≤ 160) (ho : o + r = 5) : ∀ (n q : Nat), s - q ≤ n → q ≤ s → zSt 7 (lx_t B s q) → (∀ q2, q < q2 → q2 ≤ s → zLv B s 7 69 4 (8 * r + 7) q2 o) → zLP68 B s (8 * r + 8) q o := by
  intro n
  induction n with
  | zero =>
    intro q hn hq h0 hsub
    have : lx_t B s q = 256 := (lx_t_end hq).mpr (by have := lx_s_le B hq; omega)
    exact lp68_nil hs hq (by omega) h0
  | succ n ih =>
    intro q hn hq h0 hsub
    by_cases hno : ¬ lx_t B s q = 42
    · exact lp68_nil hs hq hno h0
    have hok := lx_t_ok B s q
    have E1 : ∀ n, n < 1000 → (nI (lx_t B s q) = nI n ↔ lx_t B s q = n) := fun n hn => nI_eq (by omega) (by omega)
    obtain ⟨x, hx, hxt⟩ : ∃ x, (x = 8) ∧ lx_t B s q = tkN x := by
      exact ⟨8, rfl, Nat.eq_of_le_of_lt_succ (by show 42 ≤ lx_t B s q; omega) (by show lx_t B s q < 42 + 1; omega)⟩
    have hx6 : 6 ≤ x ∧ x < 13 := by omega
    have hrx : rkN x = 6 := by
      rw [hx]
      rfl
    obtain ⟨t1, t2, t3, t4, t5, t6, t7⟩ := tkN_ok x hx6.2 hx6.1
    have hlt := lx_n_lt hq (show ¬ lx_t B s q = 256 by omega)
    have hsl := lx_s_le B hq
    have hnl := lx_n_le (B := B) hq
    obtain ⟨ok2, q2, L2, res, st2, cl2, md2⟩ := hsub (lx_n B s q) hlt.1 hnl
    have res1 := res.1
    have cls : ∀ (X : Option (List Int32)) (d : Nat) (S : zS) (t k n : Nat) (g G : zH) (A : Int32 → zH → Prop), zCS S → zTL t → zBX B s g → k ≤ q → n < q → zSX B s t g q k G → (ok2 = true → ∀ G1, zSX B s t g q2 (k + (L2 ++ [x]).length) G1 → (∀ j, j < k → G1 (t + 1) j = G (t + 1) j) → (∀ j, j < (L2 ++ [x]).length → G1 (t + 1) (k + j) = z_xc ((L2 ++ [x]).getD j 0)) → zP X (d + (8 * r + 8)) 68 13 [some (.ref t), some (.ref 18), some (.int (nI o)), some (.int (nI (n + 1)))] [] S G1 (zI A)) → (ok2 = false → ∀ G' k', zSX B s t g q2 k' G' → A 0 G') → zP X (d + (8 * r + 8)) 68 13 [some (.ref t), some (.ref 18), some (.int (nI o)), some (.int (nI n))] [] S G (zI A) := by
      intro X d S t k n g G A hS ht hB hk hnq h K1 K0
      have g160 : nI n < 160 := nI_lt (b := 160) (by omega) (by decide)
      have go : ∀ (G1 G2 : zH), zSX B s t g (lx_n B s q) k G1 → G1 (t + 1) = G (t + 1) → ok2 = true → zSX B s t g q2 (k + L2.length) G2 → (∀ j, j < k → G2 (t + 1) j = G1 (t + 1) j) → (∀ j, j < L2.length → G2 (t + 1) (k + j) = z_xc (L2.getD j 0)) → zP X (d + (8 * r + 7)) 62 0 (z_ent [.ref t, .int (z_xc x)] 2) [] S G2 (zV fun G3 => zP X (d + (8 * r + 7) + 1) 68 13 [some (.ref t), some (.ref 18), some (.int (nI o)), some (.int ((nI n) + 1))] [] S G3 (zI A)) := by
        intro G1 G2 f1 f2 e y1 y2 y3
        obtain ⟨w1, w2, w3⟩ := res.2 e
        refine cx62 hS ht (by omega) y1 ?_
        intro G3 z1 z2
        rw [nI_1]
        have hg := z_gu (c := x) y2 y3
        rw [← z2] at hg
        refine zPd (d := d + (8 * r + 8)) (by omega) (K1 e G3 ?_ (fun j hj => by rw [hg.1 j hj, f2]) hg.2)
        rw [List.length_append]
        exact z1
      refine zPd (d := d + (8 * r + 7) + 1) (by omega) (e68_13 hS ht ?_)
      rw [h.2.2.2.1]
      refine ⟨fun _ => ⟨fun _ => zPd (d := d + (8 * r + 1) + 6) (by omega) (cx52 hS ht hB hq h ?_), fun z => absurd ((E1 42 (by decide)).mpr (by rw [hxt, hx]; rfl)) z⟩, fun z => absurd g160 z⟩
      intro G1 f1 f2
      refine cl2 X d S t k g G1 _ hS ht hB (by omega) f1 (fun e G2 y1 y2 y3 => ⟨fun z => absurd z (by decide), fun _ => ?_⟩) (fun e G2 k' y1 => ⟨fun _ => K0 e G2 k' y1, fun z => absurd rfl z⟩)
      have := go G1 G2 f1 f2 e y1 y2 y3
      rw [hx, show z_xc 8 = -5 from by decide] at this
      exact this
    cases eok : ok2 with
    | false =>
      refine ⟨false, q2, L2 ++ [x], res1, fun e => (by cases e), fun e => (by cases e), ?_, ?_⟩
      · intro X d S t k n g G A hS ht hB hk hnq h K1 K0
        exact cls X d S t k n g G A hS ht hB hk hnq h (fun e => by rw [eok] at e; cases e) (fun _ => K0 rfl)
      · exact zML_step0 hs hq (by omega) hx6 hrx (by decide) (by decide) (by decide) (by decide) (by decide) hxt md2 res (fun e => by rw [eok] at e; cases e) (fun _ => ⟨rfl, rfl⟩)
    | true =>
      obtain ⟨w1, w2, w3⟩ := res.2 eok
      obtain ⟨ok3, q3, L3, a1, a2, a3, a4, a5⟩ := ih q2 (by omega) res1 (st2 eok) (fun q4 h4 h5 => hsub q4 (by omega) h5)
      have el : L2 ++ x :: L3 = (L2 ++ [x]) ++ L3 := by rw [List.append_assoc]; rfl
      refine ⟨ok3, q3, L2 ++ x :: L3, a1, fun e => ?_, a3, ?_, ?_⟩
      · obtain ⟨b1, b2⟩ := a2 e
        refine ⟨?_, fun R hR => ?_⟩
        · rw [List.length_append, List.length_cons]
          omega
        · have : R ++ (L2 ++ x :: L3) = (R ++ L2 ++ [x]) ++ L3 := by simp
          rw [this]
          exact b2 _ (zW_jn hR w3 hx6)
      · intro X d S t k n g G A hS ht hB hk hnq h K1 K0
        refine cls X d S t k n g G A hS ht hB hk hnq h (fun _ G1 y1 y2 y3 => ?_) (fun e => by rw [eok] at e; cases e)
        have hll : (L2 ++ [x]).length = L2.length + 1 := by rw [List.length_append]; rfl
        refine a4 X d S t (k + (L2 ++ [x]).length) (n + 1) g G1 A hS ht hB (by omega) (by omega) y1 (fun e G2 z1 z2 z3 => ?_) K0
        have hg := z_gt y2 y3 z2 z3
        rw [← el] at hg
        refine K1 e G2 ?_ hg.1 hg.2
        rw [el, List.length_append (as := L2 ++ [x]), ← Nat.add_assoc]
        exact z1
      · exact zML_step0 hs hq (by omega) hx6 hrx (by decide) (by decide) (by decide) (by decide) (by decide) hxt md2 res (fun _ => a5) (fun e => by rw [eok] at e; cases e)
theorem t_term {q o r : Nat} (hs : s ≤ 160) (hq : q ≤ s) (ho : o + r = 5) (hsub : ∀ q2, q ≤ q2 → q2 ≤ s → zLv B s 7 69 4 (8 * r + 7) q2 o) : zLv B s 6 68 4 (8 * r + 8) q o := by
  obtain ⟨ok1, q1, L1, res, st1, cl1, md1⟩ := hsub q (Nat.le_refl _) hq
  cases eok : ok1 with
  | false =>
    refine ⟨false, q1, L1 ++ [], ⟨res.1, fun e => (by cases e)⟩, fun e => (by cases e), ?_, ?_⟩
    · intro X d S t k g G A hS ht hB hk h K1 K0
      refine zPd (d := d + (8 * r + 7) + 1) (by omega) (e68 hS ht ?_)
      exact cl1 X d S t k g G _ hS ht hB hk h (fun e => by rw [eok] at e; cases e) (fun e G2 k' y1 => ⟨fun _ => K0 rfl G2 k' y1, fun z => absurd rfl z⟩)
    · exact zMD_comp (by decide) (by decide) md1 res (ok := false) (q' := q1) (L := []) (fun e => by rw [eok] at e; cases e) (fun _ => ⟨rfl, rfl⟩) (by decide)
  | true =>
    obtain ⟨w1, w2, w3⟩ := res.2 eok
    obtain ⟨ok, q', L, a1, a2, a3, a4, a5⟩ := lp68 (o := o) (r := r) hs ho (s - q1) q1 (Nat.le_refl _) res.1 (st1 eok) (fun q2 h1 h2 => hsub q2 (by omega) h2)
    refine ⟨ok, q', L1 ++ L, ⟨a1, fun e => ?_⟩, a3, ?_, ?_⟩
    · obtain ⟨b1, b2⟩ := a2 e
      rw [List.length_append]
      exact ⟨by omega, by omega, b2 _ w3⟩
    · intro X d S t k g G A hS ht hB hk h K1 K0
      refine zPd (d := d + (8 * r + 7) + 1) (by omega) (e68 hS ht ?_)
      refine cl1 X d S t k g G _ hS ht hB hk h (fun _ G1 y1 y2 y3 => ⟨fun z => absurd z (by decide), fun _ => ?_⟩) (fun e => by rw [eok] at e; cases e)
      refine zPd (d := d + (8 * r + 8)) (by omega) (a4 X d S t (k + L1.length) 0 g G1 A hS ht hB (by omega) (by omega) y1 (fun e G2 z1 z2 z3 => ?_) K0)
      have hg := z_gt y2 y3 z2 z3
      refine K1 e G2 ?_ hg.1 hg.2
      rw [List.length_append, ← Nat.add_assoc]
      exact z1
    · exact zMD_comp (by decide) (by decide) md1 res (fun _ => a5) (fun e => by rw [eok] at e; cases e) (by decide)
def zCL67 (B : Nat → Nat) (s D q o : Nat) (ok : Bool) (q' : Nat) (L : List Nat) : Prop := ∀ (X : Option (List Int32)) (d : Nat) (S : zS) (t k n : Nat) (g G : zH) (A : Int32 → zH → Prop), zCS S → zTL t → zBX B s g → k ≤ q → n < q → zSX B s t g q k G → (ok = true → ∀ G', zSX B s t g q' (k + L.length) G' → (∀ j, j < k → G' (t + 1) j = G (t + 1) j) → (∀ j, j < L.length → G' (t + 1) (k + j) = z_xc (L.getD j 0)) → A 1 G') → (ok = false → ∀ G' k', zSX B s t g q' k' G' → A 0 G') → zP X (d + D) 67 13 [some (.ref t), some (.ref 18), some (.int (nI o)), some (.int (nI n)), none] [] S G (zI A)
def zLP67 (B : Nat → Nat) (s D q o : Nat) : Prop := ∃ (ok : Bool) (q' : Nat) (L : List Nat), q' ≤ s ∧ (ok = true → q + L.length ≤ q' ∧ ∀ R, zW R → zW (R ++ L)) ∧ (ok = true → zSt 5 (lx_t B s q')) ∧ zCL67 B s D q o ok q' L ∧ zML B s 5 q o ok q' L
theorem lp67_nil {q o r : Nat} (hs : s ≤ 160) (hq : q ≤ s) (hn : ¬ lx_t B s q = 43 ∧ ¬ lx_t B s q = 45) (h0 : zSt 6 (lx_t B s q)) : zLP67 B s (8 * r + 9) q o := by
  have hok := lx_t_ok B s q
  have E1 : ∀ n, n < 1000 → (nI (lx_t B s q) = nI n ↔ lx_t B s q = n) := fun n hn => nI_eq (by omega) (by omega)
  refine ⟨true, q, [], hq, fun _ => ⟨Nat.le_refl _, fun R hR => by rw [List.append_nil]; exact hR⟩, fun _ => ?_, ?_, zML_nil _ _ _⟩
  · obtain ⟨a1, a2, a3, a4⟩ := h0
    exact ⟨fun _ => a1 (by decide), fun _ => hn, fun z => by omega, fun z => by omega⟩
  · intro X d S t k n g G A hS ht hB hk hnq h K1 K0
    refine zPd (d := d + (8 * r + 8) + 1) (by omega) (e67_13 hS ht ?_)
    rw [h.2.2.2.1]
    exact ⟨fun _ => ⟨fun y => absurd ((E1 43 (by decide)).mp y) hn.1, fun _ => ⟨fun y => absurd ((E1 45 (by decide)).mp y) hn.2, fun _ => K1 rfl G h (fun _ _ => rfl) (fun j hj => absurd hj (Nat.not_lt_zero j))⟩⟩, fun _ => K1 rfl G h (fun _ _ => rfl) (fun j hj => absurd hj (Nat.not_lt_zero j))⟩
theorem lp67 {o r : Nat} (hs : s ≤ 160) (ho : o + r = 5) : ∀ (n q : Nat), s - q ≤ n → q ≤ s → zSt 6 (lx_t B s q) → (∀ q2, q < q2 → q2 ≤ s → zLv B s 6 68 4 (8 * r + 8) q2 o) → zLP67 B s (8 * r + 9) q o := by
  intro n
  induction n with
  | zero =>
    intro q hn hq h0 hsub
    have : lx_t B s q = 256 := (lx_t_end hq).mpr (by have := lx_s_le B hq; omega)
    exact lp67_nil hs hq (by omega) h0
  | succ n ih =>
    intro q hn hq h0 hsub
    by_cases hno : ¬ lx_t B s q = 43 ∧ ¬ lx_t B s q = 45
    · exact lp67_nil hs hq hno h0
    have hok := lx_t_ok B s q
    have E1 : ∀ n, n < 1000 → (nI (lx_t B s q) = nI n ↔ lx_t B s q = n) := fun n hn => nI_eq (by omega) (by omega)
    obtain ⟨x, hx, hxt⟩ : ∃ x, (x = 6 ∨ x = 7) ∧ lx_t B s q = tkN x := by
      by_cases y : lx_t B s q = 43
      · exact ⟨6, Or.inl rfl, y⟩
      · exact ⟨7, Or.inr rfl, by show lx_t B s q = 45; omega⟩
    have hx6 : 6 ≤ x ∧ x < 13 := by omega
    have hrx : rkN x = 5 := by
      rcases hx with rfl | rfl <;> rfl
    obtain ⟨t1, t2, t3, t4, t5, t6, t7⟩ := tkN_ok x hx6.2 hx6.1
    have hlt := lx_n_lt hq (show ¬ lx_t B s q = 256 by omega)
    have hsl := lx_s_le B hq
    have hnl := lx_n_le (B := B) hq
    obtain ⟨ok2, q2, L2, res, st2, cl2, md2⟩ := hsub (lx_n B s q) hlt.1 hnl
    have res1 := res.1
    have cls : ∀ (X : Option (List Int32)) (d : Nat) (S : zS) (t k n : Nat) (g G : zH) (A : Int32 → zH → Prop), zCS S → zTL t → zBX B s g → k ≤ q → n < q → zSX B s t g q k G → (ok2 = true → ∀ G1, zSX B s t g q2 (k + (L2 ++ [x]).length) G1 → (∀ j, j < k → G1 (t + 1) j = G (t + 1) j) → (∀ j, j < (L2 ++ [x]).length → G1 (t + 1) (k + j) = z_xc ((L2 ++ [x]).getD j 0)) → zP X (d + (8 * r + 9)) 67 13 [some (.ref t), some (.ref 18), some (.int (nI o)), some (.int (nI (n + 1))), none] [] S G1 (zI A)) → (ok2 = false → ∀ G' k', zSX B s t g q2 k' G' → A 0 G') → zP X (d + (8 * r + 9)) 67 13 [some (.ref t), some (.ref 18), some (.int (nI o)), some (.int (nI n)), none] [] S G (zI A) := by
      intro X d S t k n g G A hS ht hB hk hnq h K1 K0
      have g160 : nI n < 160 := nI_lt (b := 160) (by omega) (by decide)
      have go : ∀ (G1 G2 : zH), zSX B s t g (lx_n B s q) k G1 → G1 (t + 1) = G (t + 1) → ok2 = true → zSX B s t g q2 (k + L2.length) G2 → (∀ j, j < k → G2 (t + 1) j = G1 (t + 1) j) → (∀ j, j < L2.length → G2 (t + 1) (k + j) = z_xc (L2.getD j 0)) → zP X (d + (8 * r + 8)) 62 0 (z_ent [.ref t, .int (z_xc x)] 2) [] S G2 (zV fun G3 => zP X (d + (8 * r + 8) + 1) 67 13 [some (.ref t), some (.ref 18), some (.int (nI o)), some (.int ((nI n) + 1)), none] [] S G3 (zI A)) := by
        intro G1 G2 f1 f2 e y1 y2 y3
        obtain ⟨w1, w2, w3⟩ := res.2 e
        refine cx62 hS ht (by omega) y1 ?_
        intro G3 z1 z2
        rw [nI_1]
        have hg := z_gu (c := x) y2 y3
        rw [← z2] at hg
        refine zPd (d := d + (8 * r + 9)) (by omega) (K1 e G3 ?_ (fun j hj => by rw [hg.1 j hj, f2]) hg.2)
        rw [List.length_append]
        exact z1
      refine zPd (d := d + (8 * r + 8) + 1) (by omega) (e67_13 hS ht ?_)
      rw [h.2.2.2.1]
      have s38 : zP X (d + (8 * r + 8) + 1) 67 38 [some (.ref t), some (.ref 18), some (.int (nI o)), some (.int (nI n)), none] [] S G (zI A) := by
        refine e67_38 hS ht (zPd (d := d + (8 * r + 2) + 6) (by omega) (cx52 hS ht hB hq h ?_))
        intro G1 f1 f2
        refine cl2 X d S t k g G1 _ hS ht hB (by omega) f1 (fun e G2 y1 y2 y3 => ⟨fun z => absurd z (by decide), fun _ => ?_⟩) (fun e G2 k' y1 => ⟨fun _ => K0 e G2 k' y1, fun z => absurd rfl z⟩)
        rw [h.2.2.2.1]
        have := go G1 G2 f1 f2 e y1 y2 y3
        refine ⟨fun y => e67_74 hS ht ht ?_, fun y => e67_74 hS ht ht ?_⟩
        · have y := (E1 43 (by decide)).mp y
          have hx : x = 6 := hx.resolve_right (fun z => by rw [z] at hxt; have hxt : lx_t B s q = 45 := hxt; omega)
          rw [hx, show z_xc 6 = -3 from by decide] at this
          exact this
        · have y : ¬ lx_t B s q = 43 := fun z => y ((E1 43 (by decide)).mpr z)
          have hx : x = 7 := hx.resolve_left (fun z => by rw [z] at hxt; exact y hxt)
          rw [hx, show z_xc 7 = -4 from by decide] at this
          exact this
      refine ⟨fun _ => ⟨fun _ => s38, fun n43 => ⟨fun _ => s38, fun n45 => ?_⟩⟩, fun z => absurd g160 z⟩
      have a1 : ¬ lx_t B s q = 43 := fun z => n43 ((E1 43 (by decide)).mpr z)
      have a2 : ¬ lx_t B s q = 45 := fun z => n45 ((E1 45 (by decide)).mpr z)
      exact absurd ⟨a1, a2⟩ hno
    cases eok : ok2 with
    | false =>
      refine ⟨false, q2, L2 ++ [x], res1, fun e => (by cases e), fun e => (by cases e), ?_, ?_⟩
      · intro X d S t k n g G A hS ht hB hk hnq h K1 K0
        exact cls X d S t k n g G A hS ht hB hk hnq h (fun e => by rw [eok] at e; cases e) (fun _ => K0 rfl)
      · exact zML_step0 hs hq (by omega) hx6 hrx (by decide) (by decide) (by decide) (by decide) (by decide) hxt md2 res (fun e => by rw [eok] at e; cases e) (fun _ => ⟨rfl, rfl⟩)
    | true =>
      obtain ⟨w1, w2, w3⟩ := res.2 eok
      obtain ⟨ok3, q3, L3, a1, a2, a3, a4, a5⟩ := ih q2 (by omega) res1 (st2 eok) (fun q4 h4 h5 => hsub q4 (by omega) h5)
      have el : L2 ++ x :: L3 = (L2 ++ [x]) ++ L3 := by rw [List.append_assoc]; rfl
      refine ⟨ok3, q3, L2 ++ x :: L3, a1, fun e => ?_, a3, ?_, ?_⟩
      · obtain ⟨b1, b2⟩ := a2 e
        refine ⟨?_, fun R hR => ?_⟩
        · rw [List.length_append, List.length_cons]
          omega
        · have : R ++ (L2 ++ x :: L3) = (R ++ L2 ++ [x]) ++ L3 := by simp
          rw [this]
          exact b2 _ (zW_jn hR w3 hx6)
      · intro X d S t k n g G A hS ht hB hk hnq h K1 K0
        refine cls X d S t k n g G A hS ht hB hk hnq h (fun _ G1 y1 y2 y3 => ?_) (fun e => by rw [eok] at e; cases e)
        have hll : (L2 ++ [x]).length = L2.length + 1 := by rw [List.length_append]; rfl
        refine a4 X d S t (k + (L2 ++ [x]).length) (n + 1) g G1 A hS ht hB (by omega) (by omega) y1 (fun e G2 z1 z2 z3 => ?_) K0
        have hg := z_gt y2 y3 z2 z3
        rw [← el] at hg
        refine K1 e G2 ?_ hg.1 hg.2
        rw [el, List.length_append (as := L2 ++ [x]), ← Nat.add_assoc]
        exact z1
      · exact zML_step0 hs hq (by omega) hx6 hrx (by decide) (by decide) (by decide) (by decide) (by decide) hxt md2 res (fun _ => a5) (fun e => by rw [eok] at e; cases e)
theorem t_sum {q o r : Nat} (hs : s ≤ 160) (hq : q ≤ s) (ho : o + r = 5) (hsub : ∀ q2, q ≤ q2 → q2 ≤ s → zLv B s 6 68 4 (8 * r + 8) q2 o) : zLv B s 5 67 5 (8 * r + 9) q o := by
  obtain ⟨ok1, q1, L1, res, st1, cl1, md1⟩ := hsub q (Nat.le_refl _) hq
  cases eok : ok1 with
  | false =>
    refine ⟨false, q1, L1 ++ [], ⟨res.1, fun e => (by cases e)⟩, fun e => (by cases e), ?_, ?_⟩
    · intro X d S t k g G A hS ht hB hk h K1 K0
      refine zPd (d := d + (8 * r + 8) + 1) (by omega) (e67 hS ht ?_)
      exact cl1 X d S t k g G _ hS ht hB hk h (fun e => by rw [eok] at e; cases e) (fun e G2 k' y1 => ⟨fun _ => K0 rfl G2 k' y1, fun z => absurd rfl z⟩)
    · exact zMD_comp (by decide) (by decide) md1 res (ok := false) (q' := q1) (L := []) (fun e => by rw [eok] at e; cases e) (fun _ => ⟨rfl, rfl⟩) (by decide)
  | true =>
    obtain ⟨w1, w2, w3⟩ := res.2 eok
    obtain ⟨ok, q', L, a1, a2, a3, a4, a5⟩ := lp67 (o := o) (r := r) hs ho (s - q1) q1 (Nat.le_refl _) res.1 (st1 eok) (fun q2 h1 h2 => hsub q2 (by omega) h2)
    refine ⟨ok, q', L1 ++ L, ⟨a1, fun e => ?_⟩, a3, ?_, ?_⟩
    · obtain ⟨b1, b2⟩ := a2 e
      rw [List.length_append]
      exact ⟨by omega, by omega, b2 _ w3⟩
    · intro X d S t k g G A hS ht hB hk h K1 K0
      refine zPd (d := d + (8 * r + 8) + 1) (by omega) (e67 hS ht ?_)
      refine cl1 X d S t k g G _ hS ht hB hk h (fun _ G1 y1 y2 y3 => ⟨fun z => absurd z (by decide), fun _ => ?_⟩) (fun e => by rw [eok] at e; cases e)
      refine zPd (d := d + (8 * r + 9)) (by omega) (a4 X d S t (k + L1.length) 0 g G1 A hS ht hB (by omega) (by omega) y1 (fun e G2 z1 z2 z3 => ?_) K0)
      have hg := z_gt y2 y3 z2 z3
      refine K1 e G2 ?_ hg.1 hg.2
      rw [List.length_append, ← Nat.add_assoc]
      exact z1
    · exact zMD_comp (by decide) (by decide) md1 res (fun _ => a5) (fun e => by rw [eok] at e; cases e) (by decide)
def zCL64 (B : Nat → Nat) (s D q o : Nat) (ok : Bool) (q' : Nat) (L : List Nat) : Prop := ∀ (X : Option (List Int32)) (d : Nat) (S : zS) (t k n : Nat) (g G : zH) (A : Int32 → zH → Prop), zCS S → zTL t → zBX B s g → k ≤ q → n < q → zSX B s t g q k G → (ok = true → ∀ G', zSX B s t g q' (k + L.length) G' → (∀ j, j < k → G' (t + 1) j = G (t + 1) j) → (∀ j, j < L.length → G' (t + 1) (k + j) = z_xc (L.getD j 0)) → A 1 G') → (ok = false → ∀ G' k', zSX B s t g q' k' G' → A 0 G') → zP X (d + D) 64 13 [some (.ref t), some (.ref 18), some (.int (nI o)), some (.int (nI n))] [] S G (zI A)
def zLP64 (B : Nat → Nat) (s D q o : Nat) : Prop := ∃ (ok : Bool) (q' : Nat) (L : List Nat), q' ≤ s ∧ (ok = true → q + L.length ≤ q' ∧ ∀ R, zW R → zW (R ++ L)) ∧ (ok = true → zSt 2 (lx_t B s q')) ∧ zCL64 B s D q o ok q' L ∧ zML B s 2 q o ok q' L
theorem lp64_nil {q o r : Nat} (hs : s ≤ 160) (hq : q ≤ s) (hn : ¬ lx_t B s q = 264) (h0 : zSt 3 (lx_t B s q)) : zLP64 B s (8 * r + 12) q o := by
  have hok := lx_t_ok B s q
  have E1 : ∀ n, n < 1000 → (nI (lx_t B s q) = nI n ↔ lx_t B s q = n) := fun n hn => nI_eq (by omega) (by omega)
  refine ⟨true, q, [], hq, fun _ => ⟨Nat.le_refl _, fun R hR => by rw [List.append_nil]; exact hR⟩, fun _ => ?_, ?_, zML_nil _ _ _⟩
  · obtain ⟨a1, a2, a3, a4⟩ := h0
    exact ⟨fun _ => a1 (by decide), fun _ => a2 (by decide), fun _ => hn, fun z => by omega⟩
  · intro X d S t k n g G A hS ht hB hk hnq h K1 K0
    refine zPd (d := d + (8 * r + 11) + 1) (by omega) (e64_13 hS ht ?_)
    rw [h.2.2.2.1]
    exact ⟨fun _ => ⟨fun y => absurd ((E1 264 (by decide)).mp y) hn, fun _ => K1 rfl G h (fun _ _ => rfl) (fun j hj => absurd hj (Nat.not_lt_zero j))⟩, fun _ => K1 rfl G h (fun _ _ => rfl) (fun j hj => absurd hj (Nat.not_lt_zero j))⟩
theorem lp64 {o r : Nat} (hs : s ≤ 160) (ho : o + r = 5) : ∀ (n q : Nat), s - q ≤ n → q ≤ s → zSt 3 (lx_t B s q) → (∀ q2, q < q2 → q2 ≤ s → zLv B s 3 65 3 (8 * r + 11) q2 o) → zLP64 B s (8 * r + 12) q o := by
  intro n
  induction n with
  | zero =>
    intro q hn hq h0 hsub
    have : lx_t B s q = 256 := (lx_t_end hq).mpr (by have := lx_s_le B hq; omega)
    exact lp64_nil hs hq (by omega) h0
  | succ n ih =>
    intro q hn hq h0 hsub
    by_cases hno : ¬ lx_t B s q = 264
    · exact lp64_nil hs hq hno h0
    have hok := lx_t_ok B s q
    have E1 : ∀ n, n < 1000 → (nI (lx_t B s q) = nI n ↔ lx_t B s q = n) := fun n hn => nI_eq (by omega) (by omega)
    obtain ⟨x, hx, hxt⟩ : ∃ x, (x = 11) ∧ lx_t B s q = tkN x := by
      exact ⟨11, rfl, Nat.eq_of_le_of_lt_succ (by show 264 ≤ lx_t B s q; omega) (by show lx_t B s q < 264 + 1; omega)⟩
    have hx6 : 6 ≤ x ∧ x < 13 := by omega
    have hrx : rkN x = 2 := by
      rw [hx]
      rfl
    obtain ⟨t1, t2, t3, t4, t5, t6, t7⟩ := tkN_ok x hx6.2 hx6.1
    have hlt := lx_n_lt hq (show ¬ lx_t B s q = 256 by omega)
    have hsl := lx_s_le B hq
    have hnl := lx_n_le (B := B) hq
    obtain ⟨ok2, q2, L2, res, st2, cl2, md2⟩ := hsub (lx_n B s q) hlt.1 hnl
    have res1 := res.1
    have cls : ∀ (X : Option (List Int32)) (d : Nat) (S : zS) (t k n : Nat) (g G : zH) (A : Int32 → zH → Prop), zCS S → zTL t → zBX B s g → k ≤ q → n < q → zSX B s t g q k G → (ok2 = true → ∀ G1, zSX B s t g q2 (k + (L2 ++ [x]).length) G1 → (∀ j, j < k → G1 (t + 1) j = G (t + 1) j) → (∀ j, j < (L2 ++ [x]).length → G1 (t + 1) (k + j) = z_xc ((L2 ++ [x]).getD j 0)) → zP X (d + (8 * r + 12)) 64 13 [some (.ref t), some (.ref 18), some (.int (nI o)), some (.int (nI (n + 1)))] [] S G1 (zI A)) → (ok2 = false → ∀ G' k', zSX B s t g q2 k' G' → A 0 G') → zP X (d + (8 * r + 12)) 64 13 [some (.ref t), some (.ref 18), some (.int (nI o)), some (.int (nI n))] [] S G (zI A) := by
      intro X d S t k n g G A hS ht hB hk hnq h K1 K0
      have g160 : nI n < 160 := nI_lt (b := 160) (by omega) (by decide)
      have go : ∀ (G1 G2 : zH), zSX B s t g (lx_n B s q) k G1 → G1 (t + 1) = G (t + 1) → ok2 = true → zSX B s t g q2 (k + L2.length) G2 → (∀ j, j < k → G2 (t + 1) j = G1 (t + 1) j) → (∀ j, j < L2.length → G2 (t + 1) (k + j) = z_xc (L2.getD j 0)) → zP X (d + (8 * r + 11)) 62 0 (z_ent [.ref t, .int (z_xc x)] 2) [] S G2 (zV fun G3 => zP X (d + (8 * r + 11) + 1) 64 13 [some (.ref t), some (.ref 18), some (.int (nI o)), some (.int ((nI n) + 1))] [] S G3 (zI A)) := by
        intro G1 G2 f1 f2 e y1 y2 y3
        obtain ⟨w1, w2, w3⟩ := res.2 e
        refine cx62 hS ht (by omega) y1 ?_
        intro G3 z1 z2
        rw [nI_1]
        have hg := z_gu (c := x) y2 y3
        rw [← z2] at hg
        refine zPd (d := d + (8 * r + 12)) (by omega) (K1 e G3 ?_ (fun j hj => by rw [hg.1 j hj, f2]) hg.2)
        rw [List.length_append]
        exact z1
      refine zPd (d := d + (8 * r + 11) + 1) (by omega) (e64_13 hS ht ?_)
      rw [h.2.2.2.1]
      refine ⟨fun _ => ⟨fun _ => zPd (d := d + (8 * r + 5) + 6) (by omega) (cx52 hS ht hB hq h ?_), fun z => absurd ((E1 264 (by decide)).mpr (by rw [hxt, hx]; rfl)) z⟩, fun z => absurd g160 z⟩
      intro G1 f1 f2
      refine cl2 X d S t k g G1 _ hS ht hB (by omega) f1 (fun e G2 y1 y2 y3 => ⟨fun z => absurd z (by decide), fun _ => ?_⟩) (fun e G2 k' y1 => ⟨fun _ => K0 e G2 k' y1, fun z => absurd rfl z⟩)
      have := go G1 G2 f1 f2 e y1 y2 y3
      rw [hx, show z_xc 11 = -8 from by decide] at this
      exact this
    cases eok : ok2 with
    | false =>
      refine ⟨false, q2, L2 ++ [x], res1, fun e => (by cases e), fun e => (by cases e), ?_, ?_⟩
      · intro X d S t k n g G A hS ht hB hk hnq h K1 K0
        exact cls X d S t k n g G A hS ht hB hk hnq h (fun e => by rw [eok] at e; cases e) (fun _ => K0 rfl)
      · exact zML_step0 hs hq (by omega) hx6 hrx (by decide) (by decide) (by decide) (by decide) (by decide) hxt md2 res (fun e => by rw [eok] at e; cases e) (fun _ => ⟨rfl, rfl⟩)
    | true =>
      obtain ⟨w1, w2, w3⟩ := res.2 eok
      obtain ⟨ok3, q3, L3, a1, a2, a3, a4, a5⟩ := ih q2 (by omega) res1 (st2 eok) (fun q4 h4 h5 => hsub q4 (by omega) h5)
      have el : L2 ++ x :: L3 = (L2 ++ [x]) ++ L3 := by rw [List.append_assoc]; rfl
      refine ⟨ok3, q3, L2 ++ x :: L3, a1, fun e => ?_, a3, ?_, ?_⟩
      · obtain ⟨b1, b2⟩ := a2 e
        refine ⟨?_, fun R hR => ?_⟩
        · rw [List.length_append, List.length_cons]
          omega
        · have : R ++ (L2 ++ x :: L3) = (R ++ L2 ++ [x]) ++ L3 := by simp
          rw [this]
          exact b2 _ (zW_jn hR w3 hx6)
      · intro X d S t k n g G A hS ht hB hk hnq h K1 K0
        refine cls X d S t k n g G A hS ht hB hk hnq h (fun _ G1 y1 y2 y3 => ?_) (fun e => by rw [eok] at e; cases e)
        have hll : (L2 ++ [x]).length = L2.length + 1 := by rw [List.length_append]; rfl
        refine a4 X d S t (k + (L2 ++ [x]).length) (n + 1) g G1 A hS ht hB (by omega) (by omega) y1 (fun e G2 z1 z2 z3 => ?_) K0
        have hg := z_gt y2 y3 z2 z3
        rw [← el] at hg
        refine K1 e G2 ?_ hg.1 hg.2
        rw [el, List.length_append (as := L2 ++ [x]), ← Nat.add_assoc]
        exact z1
      · exact zML_step0 hs hq (by omega) hx6 hrx (by decide) (by decide) (by decide) (by decide) (by decide) hxt md2 res (fun _ => a5) (fun e => by rw [eok] at e; cases e)
theorem t_both {q o r : Nat} (hs : s ≤ 160) (hq : q ≤ s) (ho : o + r = 5) (hsub : ∀ q2, q ≤ q2 → q2 ≤ s → zLv B s 3 65 3 (8 * r + 11) q2 o) : zLv B s 2 64 4 (8 * r + 12) q o := by
  obtain ⟨ok1, q1, L1, res, st1, cl1, md1⟩ := hsub q (Nat.le_refl _) hq
  cases eok : ok1 with
  | false =>
    refine ⟨false, q1, L1 ++ [], ⟨res.1, fun e => (by cases e)⟩, fun e => (by cases e), ?_, ?_⟩
    · intro X d S t k g G A hS ht hB hk h K1 K0
      refine zPd (d := d + (8 * r + 11) + 1) (by omega) (e64 hS ht ?_)
      exact cl1 X d S t k g G _ hS ht hB hk h (fun e => by rw [eok] at e; cases e) (fun e G2 k' y1 => ⟨fun _ => K0 rfl G2 k' y1, fun z => absurd rfl z⟩)
    · exact zMD_comp (by decide) (by decide) md1 res (ok := false) (q' := q1) (L := []) (fun e => by rw [eok] at e; cases e) (fun _ => ⟨rfl, rfl⟩) (by decide)
  | true =>
    obtain ⟨w1, w2, w3⟩ := res.2 eok
    obtain ⟨ok, q', L, a1, a2, a3, a4, a5⟩ := lp64 (o := o) (r := r) hs ho (s - q1) q1 (Nat.le_refl _) res.1 (st1 eok) (fun q2 h1 h2 => hsub q2 (by omega) h2)
    refine ⟨ok, q', L1 ++ L, ⟨a1, fun e => ?_⟩, a3, ?_, ?_⟩
    · obtain ⟨b1, b2⟩ := a2 e
      rw [List.length_append]
      exact ⟨by omega, by omega, b2 _ w3⟩
    · intro X d S t k g G A hS ht hB hk h K1 K0
      refine zPd (d := d + (8 * r + 11) + 1) (by omega) (e64 hS ht ?_)
      refine cl1 X d S t k g G _ hS ht hB hk h (fun _ G1 y1 y2 y3 => ⟨fun z => absurd z (by decide), fun _ => ?_⟩) (fun e => by rw [eok] at e; cases e)
      refine zPd (d := d + (8 * r + 12)) (by omega) (a4 X d S t (k + L1.length) 0 g G1 A hS ht hB (by omega) (by omega) y1 (fun e G2 z1 z2 z3 => ?_) K0)
      have hg := z_gt y2 y3 z2 z3
      refine K1 e G2 ?_ hg.1 hg.2
      rw [List.length_append, ← Nat.add_assoc]
      exact z1
    · exact zMD_comp (by decide) (by decide) md1 res (fun _ => a5) (fun e => by rw [eok] at e; cases e) (by decide)
def zCL63 (B : Nat → Nat) (s D q o : Nat) (ok : Bool) (q' : Nat) (L : List Nat) : Prop := ∀ (X : Option (List Int32)) (d : Nat) (S : zS) (t k n : Nat) (g G : zH) (A : Int32 → zH → Prop), zCS S → zTL t → zBX B s g → k ≤ q → n < q → zSX B s t g q k G → (ok = true → ∀ G', zSX B s t g q' (k + L.length) G' → (∀ j, j < k → G' (t + 1) j = G (t + 1) j) → (∀ j, j < L.length → G' (t + 1) (k + j) = z_xc (L.getD j 0)) → A 1 G') → (ok = false → ∀ G' k', zSX B s t g q' k' G' → A 0 G') → zP X (d + D) 63 13 [some (.ref t), some (.ref 18), some (.int (nI o)), some (.int (nI n))] [] S G (zI A)
def zLP63 (B : Nat → Nat) (s D q o : Nat) : Prop := ∃ (ok : Bool) (q' : Nat) (L : List Nat), q' ≤ s ∧ (ok = true → q + L.length ≤ q' ∧ ∀ R, zW R → zW (R ++ L)) ∧ (ok = true → zSt 1 (lx_t B s q')) ∧ zCL63 B s D q o ok q' L ∧ zML B s 1 q o ok q' L
theorem lp63_nil {q o r : Nat} (hs : s ≤ 160) (hq : q ≤ s) (hn : ¬ lx_t B s q = 263) (h0 : zSt 2 (lx_t B s q)) : zLP63 B s (8 * r + 13) q o := by
  have hok := lx_t_ok B s q
  have E1 : ∀ n, n < 1000 → (nI (lx_t B s q) = nI n ↔ lx_t B s q = n) := fun n hn => nI_eq (by omega) (by omega)
  refine ⟨true, q, [], hq, fun _ => ⟨Nat.le_refl _, fun R hR => by rw [List.append_nil]; exact hR⟩, fun _ => ?_, ?_, zML_nil _ _ _⟩
  · obtain ⟨a1, a2, a3, a4⟩ := h0
    exact ⟨fun _ => a1 (by decide), fun _ => a2 (by decide), fun _ => a3 (by decide), fun _ => hn⟩
  · intro X d S t k n g G A hS ht hB hk hnq h K1 K0
    refine zPd (d := d + (8 * r + 12) + 1) (by omega) (e63_13 hS ht ?_)
    rw [h.2.2.2.1]
    exact ⟨fun _ => ⟨fun y => absurd ((E1 263 (by decide)).mp y) hn, fun _ => K1 rfl G h (fun _ _ => rfl) (fun j hj => absurd hj (Nat.not_lt_zero j))⟩, fun _ => K1 rfl G h (fun _ _ => rfl) (fun j hj => absurd hj (Nat.not_lt_zero j))⟩
theorem lp63 {o r : Nat} (hs : s ≤ 160) (ho : o + r = 5) : ∀ (n q : Nat), s - q ≤ n → q ≤ s → zSt 2 (lx_t B s q) → (∀ q2, q < q2 → q2 ≤ s → zLv B s 2 64 4 (8 * r + 12) q2 o) → zLP63 B s (8 * r + 13) q o := by
  intro n
  induction n with
  | zero =>
    intro q hn hq h0 hsub
    have : lx_t B s q = 256 := (lx_t_end hq).mpr (by have := lx_s_le B hq; omega)
    exact lp63_nil hs hq (by omega) h0
  | succ n ih =>
    intro q hn hq h0 hsub
    by_cases hno : ¬ lx_t B s q = 263
    · exact lp63_nil hs hq hno h0
    have hok := lx_t_ok B s q
    have E1 : ∀ n, n < 1000 → (nI (lx_t B s q) = nI n ↔ lx_t B s q = n) := fun n hn => nI_eq (by omega) (by omega)
    obtain ⟨x, hx, hxt⟩ : ∃ x, (x = 12) ∧ lx_t B s q = tkN x := by
      exact ⟨12, rfl, Nat.eq_of_le_of_lt_succ (by show 263 ≤ lx_t B s q; omega) (by show lx_t B s q < 263 + 1; omega)⟩
    have hx6 : 6 ≤ x ∧ x < 13 := by omega
    have hrx : rkN x = 1 := by
      rw [hx]
      rfl
    obtain ⟨t1, t2, t3, t4, t5, t6, t7⟩ := tkN_ok x hx6.2 hx6.1
    have hlt := lx_n_lt hq (show ¬ lx_t B s q = 256 by omega)
    have hsl := lx_s_le B hq
    have hnl := lx_n_le (B := B) hq
    obtain ⟨ok2, q2, L2, res, st2, cl2, md2⟩ := hsub (lx_n B s q) hlt.1 hnl
    have res1 := res.1
    have cls : ∀ (X : Option (List Int32)) (d : Nat) (S : zS) (t k n : Nat) (g G : zH) (A : Int32 → zH → Prop), zCS S → zTL t → zBX B s g → k ≤ q → n < q → zSX B s t g q k G → (ok2 = true → ∀ G1, zSX B s t g q2 (k + (L2 ++ [x]).length) G1 → (∀ j, j < k → G1 (t + 1) j = G (t + 1) j) → (∀ j, j < (L2 ++ [x]).length → G1 (t + 1) (k + j) = z_xc ((L2 ++ [x]).getD j 0)) → zP X (d + (8 * r + 13)) 63 13 [some (.ref t), some (.ref 18), some (.int (nI o)), some (.int (nI (n + 1)))] [] S G1 (zI A)) → (ok2 = false → ∀ G' k', zSX B s t g q2 k' G' → A 0 G') → zP X (d + (8 * r + 13)) 63 13 [some (.ref t), some (.ref 18), some (.int (nI o)), some (.int (nI n))] [] S G (zI A) := by
      intro X d S t k n g G A hS ht hB hk hnq h K1 K0
      have g160 : nI n < 160 := nI_lt (b := 160) (by omega) (by decide)
      have go : ∀ (G1 G2 : zH), zSX B s t g (lx_n B s q) k G1 → G1 (t + 1) = G (t + 1) → ok2 = true → zSX B s t g q2 (k + L2.length) G2 → (∀ j, j < k → G2 (t + 1) j = G1 (t + 1) j) → (∀ j, j < L2.length → G2 (t + 1) (k + j) = z_xc (L2.getD j 0)) → zP X (d + (8 * r + 12)) 62 0 (z_ent [.ref t, .int (z_xc x)] 2) [] S G2 (zV fun G3 => zP X (d + (8 * r + 12) + 1) 63 13 [some (.ref t), some (.ref 18), some (.int (nI o)), some (.int ((nI n) + 1))] [] S G3 (zI A)) := by
        intro G1 G2 f1 f2 e y1 y2 y3
        obtain ⟨w1, w2, w3⟩ := res.2 e
        refine cx62 hS ht (by omega) y1 ?_
        intro G3 z1 z2
        rw [nI_1]
        have hg := z_gu (c := x) y2 y3
        rw [← z2] at hg
        refine zPd (d := d + (8 * r + 13)) (by omega) (K1 e G3 ?_ (fun j hj => by rw [hg.1 j hj, f2]) hg.2)
        rw [List.length_append]
        exact z1
      refine zPd (d := d + (8 * r + 12) + 1) (by omega) (e63_13 hS ht ?_)
      rw [h.2.2.2.1]
      refine ⟨fun _ => ⟨fun _ => zPd (d := d + (8 * r + 6) + 6) (by omega) (cx52 hS ht hB hq h ?_), fun z => absurd ((E1 263 (by decide)).mpr (by rw [hxt, hx]; rfl)) z⟩, fun z => absurd g160 z⟩
      intro G1 f1 f2
      refine cl2 X d S t k g G1 _ hS ht hB (by omega) f1 (fun e G2 y1 y2 y3 => ⟨fun z => absurd z (by decide), fun _ => ?_⟩) (fun e G2 k' y1 => ⟨fun _ => K0 e G2 k' y1, fun z => absurd rfl z⟩)
      have := go G1 G2 f1 f2 e y1 y2 y3
      rw [hx, show z_xc 12 = -9 from by decide] at this
      exact this
    cases eok : ok2 with
    | false =>
      refine ⟨false, q2, L2 ++ [x], res1, fun e => (by cases e), fun e => (by cases e), ?_, ?_⟩
      · intro X d S t k n g G A hS ht hB hk hnq h K1 K0
        exact cls X d S t k n g G A hS ht hB hk hnq h (fun e => by rw [eok] at e; cases e) (fun _ => K0 rfl)
      · exact zML_step0 hs hq (by omega) hx6 hrx (by decide) (by decide) (by decide) (by decide) (by decide) hxt md2 res (fun e => by rw [eok] at e; cases e) (fun _ => ⟨rfl, rfl⟩)
    | true =>
      obtain ⟨w1, w2, w3⟩ := res.2 eok
      obtain ⟨ok3, q3, L3, a1, a2, a3, a4, a5⟩ := ih q2 (by omega) res1 (st2 eok) (fun q4 h4 h5 => hsub q4 (by omega) h5)
      have el : L2 ++ x :: L3 = (L2 ++ [x]) ++ L3 := by rw [List.append_assoc]; rfl
      refine ⟨ok3, q3, L2 ++ x :: L3, a1, fun e => ?_, a3, ?_, ?_⟩
      · obtain ⟨b1, b2⟩ := a2 e
        refine ⟨?_, fun R hR => ?_⟩
        · rw [List.length_append, List.length_cons]
          omega
        · have : R ++ (L2 ++ x :: L3) = (R ++ L2 ++ [x]) ++ L3 := by simp
          rw [this]
          exact b2 _ (zW_jn hR w3 hx6)
      · intro X d S t k n g G A hS ht hB hk hnq h K1 K0
        refine cls X d S t k n g G A hS ht hB hk hnq h (fun _ G1 y1 y2 y3 => ?_) (fun e => by rw [eok] at e; cases e)
        have hll : (L2 ++ [x]).length = L2.length + 1 := by rw [List.length_append]; rfl
        refine a4 X d S t (k + (L2 ++ [x]).length) (n + 1) g G1 A hS ht hB (by omega) (by omega) y1 (fun e G2 z1 z2 z3 => ?_) K0
        have hg := z_gt y2 y3 z2 z3
        rw [← el] at hg
        refine K1 e G2 ?_ hg.1 hg.2
        rw [el, List.length_append (as := L2 ++ [x]), ← Nat.add_assoc]
        exact z1
      · exact zML_step0 hs hq (by omega) hx6 hrx (by decide) (by decide) (by decide) (by decide) (by decide) hxt md2 res (fun _ => a5) (fun e => by rw [eok] at e; cases e)
theorem t_either {q o r : Nat} (hs : s ≤ 160) (hq : q ≤ s) (ho : o + r = 5) (hsub : ∀ q2, q ≤ q2 → q2 ≤ s → zLv B s 2 64 4 (8 * r + 12) q2 o) : zLv B s 1 63 4 (8 * r + 13) q o := by
  obtain ⟨ok1, q1, L1, res, st1, cl1, md1⟩ := hsub q (Nat.le_refl _) hq
  cases eok : ok1 with
  | false =>
    refine ⟨false, q1, L1 ++ [], ⟨res.1, fun e => (by cases e)⟩, fun e => (by cases e), ?_, ?_⟩
    · intro X d S t k g G A hS ht hB hk h K1 K0
      refine zPd (d := d + (8 * r + 12) + 1) (by omega) (e63 hS ht ?_)
      exact cl1 X d S t k g G _ hS ht hB hk h (fun e => by rw [eok] at e; cases e) (fun e G2 k' y1 => ⟨fun _ => K0 rfl G2 k' y1, fun z => absurd rfl z⟩)
    · exact zMD_comp (by decide) (by decide) md1 res (ok := false) (q' := q1) (L := []) (fun e => by rw [eok] at e; cases e) (fun _ => ⟨rfl, rfl⟩) (by decide)
  | true =>
    obtain ⟨w1, w2, w3⟩ := res.2 eok
    obtain ⟨ok, q', L, a1, a2, a3, a4, a5⟩ := lp63 (o := o) (r := r) hs ho (s - q1) q1 (Nat.le_refl _) res.1 (st1 eok) (fun q2 h1 h2 => hsub q2 (by omega) h2)
    refine ⟨ok, q', L1 ++ L, ⟨a1, fun e => ?_⟩, a3, ?_, ?_⟩
    · obtain ⟨b1, b2⟩ := a2 e
      rw [List.length_append]
      exact ⟨by omega, by omega, b2 _ w3⟩
    · intro X d S t k g G A hS ht hB hk h K1 K0
      refine zPd (d := d + (8 * r + 12) + 1) (by omega) (e63 hS ht ?_)
      refine cl1 X d S t k g G _ hS ht hB hk h (fun _ G1 y1 y2 y3 => ⟨fun z => absurd z (by decide), fun _ => ?_⟩) (fun e => by rw [eok] at e; cases e)
      refine zPd (d := d + (8 * r + 13)) (by omega) (a4 X d S t (k + L1.length) 0 g G1 A hS ht hB (by omega) (by omega) y1 (fun e G2 z1 z2 z3 => ?_) K0)
      have hg := z_gt y2 y3 z2 z3
      refine K1 e G2 ?_ hg.1 hg.2
      rw [List.length_append, ← Nat.add_assoc]
      exact z1
    · exact zMD_comp (by decide) (by decide) md1 res (fun _ => a5) (fun e => by rw [eok] at e; cases e) (by decide)
end ZLO

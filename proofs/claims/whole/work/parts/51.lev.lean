/-! both readings, level by level -/
theorem zPd {X : Option (List Int32)} {d d' M pc : Nat} {ls : zL} {st : List Value} {S : zS} {h : zH} {Q : Option Value → zH → Prop} (e : d' = d) (k : zP X d M pc ls st S h Q) : zP X d' M pc ls st S h Q := by
  rw [e]
  exact k
def zSt (r t : Nat) : Prop := (r ≤ 6 → ¬ t = 42) ∧ (r ≤ 5 → ¬ t = 43 ∧ ¬ t = 45) ∧ (r ≤ 2 → ¬ t = 264) ∧ (r ≤ 1 → ¬ t = 263)
abbrev z40 (X : Option (List Int32)) (d row : Nat) (w m : Int32) (G : zH) (A : Int32 → zH → Prop) : Prop := zP X (d + 4) 163 40 [some (.ref 82), some (.int (nI row)), some (.int w), some (.int m), none] [] z_S0 G (zI A)
def zMD (B : Nat → Nat) (s r q o : Nat) (ok : Bool) (q' : Nat) (L : List Nat) : Prop := ∀ (X : Option (List Int32)) (d row : Nat) (W E : List Nat) (m : Int32) (g G : zH) (A : Int32 → zH → Prop), zBM B s g → row < 18 → md_op W = o → E.length + W.length ≤ q → zTop r W → (3 < r → ¬ m = 0 → ¬ lx_t B s q = 265) → (r ≤ 3 → ¬ m = 0) → (r ≤ 4 → G 106 (md_dp W) = 0) → zSM B s g row q W E G → (ok = true → ∀ (P E1 : List Nat) (G' : zH) (m' : Int32), zSM B s g row q' (P ++ W) E1 G' → E1 ++ P = E ++ L → zPr r P → (∀ j, j < md_dp W → G' 106 j = G 106 j) → (5 ≤ r → (G' 106 (md_dp W) = 0 ↔ G 106 (md_dp W) = 0)) → (r ≤ 4 → (lx_t B s q' = 60 ∨ lx_t B s q' = 61) → ¬ G' 106 (md_dp W) = 0) → z40 X d row 0 m' G' A) → (ok = false → ∀ (G' : zH) (W' E' : List Nat), zSM B s g row q' W' E' G' → A 0 G') → z40 X d row 1 m G A
def zMO (B : Nat → Nat) (s q o : Nat) (ok : Bool) (q' : Nat) (L : List Nat) : Prop := ∀ (X : Option (List Int32)) (d row k : Nat) (W E : List Nat) (m : Int32) (g G : zH) (A : Int32 → zH → Prop), zBM B s g → row < 18 → k + md_op W = o → E.length + k + W.length ≤ q → zTop 7 W → (¬ m = 0 → ¬ lx_t B s q = 265) → zSM B s g row q (List.replicate k 14 ++ W) E G → (ok = true → ∀ (G' : zH) (m' : Int32), zSM B s g row q' W (E ++ L ++ List.replicate k 14) G' → (∀ j, j ≤ md_dp W → G' 106 j = G 106 j) → z40 X d row 0 m' G' A) → (ok = false → ∀ (G' : zH) (W' E' : List Nat), zSM B s g row q' W' E' G' → A 0 G') → z40 X d row 1 m G A
def zML (B : Nat → Nat) (s r q o : Nat) (ok : Bool) (q' : Nat) (L : List Nat) : Prop := ∀ (X : Option (List Int32)) (d row : Nat) (W P E : List Nat) (m : Int32) (g G : zH) (A : Int32 → zH → Prop), zBM B s g → row < 18 → md_op W = o → E.length + P.length + W.length ≤ q → zTop r W → zPr r P → zSM B s g row q (P ++ W) E G → (r ≤ 4 → (lx_t B s q = 60 ∨ lx_t B s q = 61) → ¬ G 106 (md_dp W) = 0) → (ok = true → ∀ (P' E1 : List Nat) (G' : zH) (m' : Int32), zSM B s g row q' (P' ++ W) E1 G' → E1 ++ P' = E ++ P ++ L → zPr r P' → (∀ j, j < md_dp W → G' 106 j = G 106 j) → (5 ≤ r → (G' 106 (md_dp W) = 0 ↔ G 106 (md_dp W) = 0)) → (r ≤ 4 → (lx_t B s q' = 60 ∨ lx_t B s q' = 61) → ¬ G' 106 (md_dp W) = 0) → z40 X d row 0 m' G' A) → (ok = false → ∀ (G' : zH) (W' E' : List Nat), zSM B s g row q' W' E' G' → A 0 G') → z40 X d row 0 m G A
def zL1 (B : Nat → Nat) (s q o r : Nat) : Prop := ∃ (ok : Bool) (q' : Nat) (L : List Nat), zRS B s q ok q' L ∧ zCL B s 69 4 (8 * r + 7) q o ok q' L ∧ zMO B s q o ok q' L
def zLv (B : Nat → Nat) (s rk M nl D q o : Nat) : Prop := ∃ (ok : Bool) (q' : Nat) (L : List Nat), zRS B s q ok q' L ∧ (ok = true → zSt rk (lx_t B s q')) ∧ zCL B s M nl D q o ok q' L ∧ zMD B s rk q o ok q' L
theorem zTop_mono {r r' : Nat} (h : r ≤ r') : ∀ {W : List Nat}, zTop r W → zTop r' W
  | [], _ => trivial
  | x :: W, Or.inl y => Or.inl y
  | x :: W, Or.inr ⟨a, b, c⟩ => Or.inr ⟨a, b, by omega⟩
theorem md_op_rep (k : Nat) (W : List Nat) : md_op (List.replicate k 14 ++ W) = k + md_op W := by
  induction k with
  | zero => simp
  | succ k ih =>
    rw [List.replicate_succ, List.cons_append, md_op, ih, if_pos (by decide)]
    omega
theorem md_dp_rep (k : Nat) (W : List Nat) : md_dp (List.replicate k 14 ++ W) = md_dp W := md_dp_P _ W (zPr_14 k)
section ZLV
variable {B : Nat → Nat} {s : Nat}
theorem zMO_MD {q o : Nat} {ok : Bool} {q' : Nat} {L : List Nat} (h : zMO B s q o ok q' L) : zMD B s 7 q o ok q' L := by
  intro X d row W E m g G A hB hr hop hl hW h1 h2 h3 hS K1 K0
  refine h X d row 0 W E m g G A hB hr (by omega) (by omega) hW (h1 (by decide)) hS (fun e G' m' f1 f2 => ?_) K0
  rw [List.replicate_zero, List.append_nil] at f1
  exact K1 e [] (E ++ L) G' m' f1 (by rw [List.append_nil]) (fun x hx => absurd hx List.not_mem_nil) (fun j hj => f2 j (by omega)) (fun _ => by rw [f2 _ (Nat.le_refl _)]) (fun z => by omega)
theorem zML_nil (r q o : Nat) : zML B s r q o true q [] := by
  intro X d row W P E m g G A hB hr hop hl hW hP hS hc K1 K0
  exact K1 rfl P E G m hS (by rw [List.append_nil]) hP (fun _ _ => rfl) (fun _ => Iff.rfl) hc
theorem zML_step0 {r r2 q o x : Nat} (hs : s ≤ 160) (hq : q ≤ s) (ho : o ≤ 5) (hx : 6 ≤ x ∧ x < 13) (hrx : rkN x = r) (hr4 : ¬ r = 4) (hr2 : r < r2) (hr3 : r ≤ 2 → r2 ≤ 3) (hr6 : r ≤ 4 → r2 ≤ 4) (hr5 : 4 < r → 4 < r2) (ht : lx_t B s q = tkN x) {ok2 : Bool} {q2 : Nat} {L2 : List Nat} (sub : zMD B s r2 (lx_n B s q) o ok2 q2 L2) (res : zRS B s (lx_n B s q) ok2 q2 L2) {ok3 : Bool} {q3 : Nat} {L3 : List Nat} (nxt : ok2 = true → zML B s r q2 o ok3 q3 L3) (bad : ok2 = false → ok3 = false ∧ q3 = q2) : zML B s r q o ok3 q3 (L2 ++ x :: L3) := by
  intro X d row W P E m g G A hB hr hop hl hW hP hS hc K1 K0
  obtain ⟨t1, t2, t3, t4, t5, t6, t7⟩ := tkN_ok x hx.2 hx.1
  have hlt := lx_n_lt hq (show ¬ lx_t B s q = 256 by omega)
  have hsl := lx_s_le B hq
  have hdp := md_dp_op W
  have hdx : md_dp (x :: W) = md_dp W := by rw [md_dp, if_neg (by omega)]; rfl
  have hopx : md_op (x :: W) = md_op W := by rw [md_op, if_neg (by omega)]; rfl
  refine cs_op (x := x) (P := P) hB hq hr hx ht (by rw [hrx]; exact hW) (by rw [hrx]; exact hP) (by omega) (by omega) hS (fun z => absurd (by omega) hr4) ?_
  intro G1 f1 f2 f3 f4 f5
  rw [hrx] at f3 f4 f5
  refine sub X d row (x :: W) (E ++ P) _ g G1 A hB hr (by omega) (by rw [List.length_append, List.length_cons]; omega) (Or.inr ⟨hx.1, by omega, by omega⟩) ?_ ?_ ?_ f1 ?_ ?_
  · intro a b
    refine absurd ?_ b
    rw [zb_f (by omega)]
  · intro a b
    rw [zb_t (by omega)] at b
    exact absurd b (by decide)
  · intro a
    rw [hdx]
    exact f4 (by omega)
  · intro e P2 E2 G2 m2 y1 y2 y3 y4 y5 y6
    rw [hdx] at y4 y5 y6
    obtain ⟨w1, w2, w3⟩ := res.2 e
    have yl := congrArg List.length y2
    rw [List.length_append, List.length_append, List.length_append] at yl
    have ea : P2 ++ x :: W = (P2 ++ [x]) ++ W := by rw [List.append_assoc]; rfl
    rw [ea] at y1
    refine nxt e X d row W (P2 ++ [x]) E2 m2 g G2 A hB hr hop ?_ hW ?_ y1 ?_ ?_ ?_
    · rw [List.length_append]
      show E2.length + (P2.length + 1) + W.length ≤ q2
      omega
    · intro z hz
      rcases List.mem_append.mp hz with hz | hz
      · have := y3 z hz
        exact ⟨this.1, this.2.1, by omega⟩
      · rw [List.mem_singleton.mp hz]
        exact ⟨hx.1, by omega, by omega⟩
    · intro a
      exact y6 (by omega)
    · intro e3 P' E' G' m' z1 z2 z3 z4 z5 z6
      refine K1 e3 P' E' G' m' z1 ?_ z3 (fun j hj => ?_) (fun a => ?_) z6
      · rw [z2, ← List.append_assoc E2, y2]
        simp
      · rw [z4 j hj, y4 j hj, f2 j (by omega)]
      · rw [z5 a, y5 (by omega), f3 (by omega)]
    · intro e3 G' W' E' z1
      exact K0 e3 G' W' E' z1
  · intro e G' W' E' z1
    obtain ⟨b1, b2⟩ := bad e
    refine K0 b1 G' W' E' ?_
    rw [b2]
    exact z1
theorem zMD_comp {r r2 q o : Nat} (hr2 : r < r2) (hr3 : r ≤ 3 → r2 ≤ 3) {ok1 : Bool} {q1 : Nat} {L1 : List Nat} (sub : zMD B s r2 q o ok1 q1 L1) (res : zRS B s q ok1 q1 L1) {ok : Bool} {q' : Nat} {L : List Nat} (nxt : ok1 = true → zML B s r q1 o ok q' L) (bad : ok1 = false → ok = false ∧ q' = q1) (hr4 : ¬ r = 4) : zMD B s r q o ok q' (L1 ++ L) := by
  intro X d row W E m g G A hB hr hop hl hW h1 h2 h3 hS K1 K0
  refine sub X d row W E m g G A hB hr hop hl (zTop_mono (by omega) hW) (fun a => h1 (by omega)) (fun a => h2 (by omega)) (fun a => h3 (by omega)) hS ?_ ?_
  · intro e P E1 G1 m1 y1 y2 y3 y4 y5 y6
    obtain ⟨w1, w2, w3⟩ := res.2 e
    have yl := congrArg List.length y2
    rw [List.length_append, List.length_append] at yl
    refine nxt e X d row W P E1 m1 g G1 A hB hr hop (by omega) hW (zPr_mono y3 (by omega)) y1 (fun a => y6 (by omega)) ?_ K0
    intro e2 P' E' G' m' z1 z2 z3 z4 z5 z6
    refine K1 e2 P' E' G' m' z1 ?_ z3 (fun j hj => by rw [z4 j hj, y4 j hj]) (fun a => by rw [z5 a, y5 (by omega)]) z6
    rw [z2, y2, List.append_assoc]
  · intro e G' W' E' z1
    obtain ⟨b1, b2⟩ := bad e
    refine K0 b1 G' W' E' ?_
    rw [b2]
    exact z1
/-- ONE -/
theorem t_one {q o r : Nat} (hs : s ≤ 160) (hq : q ≤ s) (ho : o + r = 5) (h1 : ∀ q2 o2 r2, q < q2 → q2 ≤ s → o2 + r2 = 5 → zL1 B s q2 o2 r2) (h7 : ∀ q2 o2 r2, q < q2 → q2 ≤ s → o2 + r2 = 5 → zLv B s 1 63 4 (8 * r2 + 13) q2 o2) : zL1 B s q o r := by
  have hsl := lx_s_le B hq
  have hok := lx_t_ok B s q
  have hn := lx_n_le (B := B) hq
  have E1 : ∀ n, n < 1000 → (nI (lx_t B s q) = nI n ↔ lx_t B s q = n) := fun n hn => nI_eq (by omega) (by omega)
  have E2 : nI (lx_t B s q) < 270 ↔ lx_t B s q < 270 := nI_ltI (b := 270) (by omega) (by decide)
  have E5 : nI o < 5 ↔ o < 5 := nI_ltI (b := 5) (by omega) (by decide)
  by_cases ca : lx_t B s q = 258 ∨ 270 ≤ lx_t B s q
  · -- a number, a name
    have hlt := lx_n_lt hq (show ¬ lx_t B s q = 256 by omega)
    obtain ⟨c, hc⟩ : ∃ c, c = if lx_t B s q = 258 then 100 + lx_v B s q else lx_t B s q - 270 := ⟨_, rfl⟩
    have hcr : c < 6 ∨ (100 ≤ c ∧ c < 10100) := by
      rw [hc]
      split
      · next y =>
        have := lx_v_le y
        omega
      · omega
    refine ⟨true, lx_n B s q, [c], ⟨hn, fun _ => ⟨by show q + 1 ≤ _; omega, hlt.1, zW_one hcr⟩⟩, ?_, ?_⟩
    · intro X d S t k g G A hS ht hB hk h K1 K0
      have fin : zP X (d + 8 * r + 6 + 1) 69 100 [none, some (.ref 18), none, none] [.int (z_xc c), .ref t] S G (zI A) := by
        refine e69_100 hS ht (cx62 hS ht (by omega) h ?_)
        intro G1 f1 f2
        refine cx52 hS ht hB hq f1 ?_
        intro G2 y1 y2
        have hg := z_gu (f := G (t + 1)) (f1 := G (t + 1)) (k := k) (c := c) (L := []) (fun _ _ => rfl) (fun j hj => absurd hj (Nat.not_lt_zero j))
        refine K1 rfl G2 y1 ?_ ?_
        · rw [y2, f2]
          exact hg.1
        · rw [y2, f2]
          exact hg.2
      refine zPd (d := d + 8 * r + 6 + 1) (by omega) (e69 hS ht ?_)
      rw [h.2.2.2.1]
      refine ⟨fun y => absurd ((E1 45 (by decide)).mp y) (by omega), fun _ => ⟨fun y => absurd ((E1 40 (by decide)).mp y) (by omega), fun _ => ⟨fun y => e69_77 hS ht ⟨fun _ => ?_, fun n => absurd y n⟩, fun n => ⟨fun y => absurd (E2.mp y) (by have : ¬ lx_t B s q = 258 := fun z => n ((E1 258 (by decide)).mpr z); omega), fun _ => e69_77 hS ht ⟨fun y => absurd y n, fun _ => ?_⟩⟩⟩⟩⟩
      · have y := (E1 258 (by decide)).mp y
        rw [h.2.2.2.2.1 y]
        rw [if_pos y] at hc
        rw [hc, z_xc_no (by omega), show 100 + lx_v B s q - 100 = lx_v B s q by omega] at fin
        exact fin
      · have n : ¬ lx_t B s q = 258 := fun z => n ((E1 258 (by decide)).mpr z)
        rw [if_neg n] at hc
        have e : (-10 : Int32) - (nI (lx_t B s q) - 270) = z_xc c := by
          have e1 : nI (lx_t B s q) - 270 = nI (lx_t B s q - 270) := z_sbm (m := 270) (by omega)
          rw [e1, hc]
          unfold z_xc
          rw [if_pos (by omega)]
        rw [e]
        exact fin
    · intro X d row k W E m g G A hB hr hop hl hW hm hS K1 K0
      refine cs_one hB hq hr ca hW (by omega) hS ?_
      intro G' f1 f2
      rw [← hc] at f1
      exact K1 rfl G' _ f1 (fun j _ => by rw [f2])
  · by_cases cb : lx_t B s q = 45 ∧ o < 5
    · -- minus
      obtain ⟨cb, o5⟩ := cb
      have hlt := lx_n_lt hq (show ¬ lx_t B s q = 256 by omega)
      obtain ⟨r', rfl⟩ : ∃ r', r = r' + 1 := ⟨r - 1, by omega⟩
      obtain ⟨ok1, q1, L1, ⟨res1, res2⟩, cl1, mo1⟩ := h1 (lx_n B s q) (o + 1) r' hlt.1 hn (by omega)
      refine ⟨ok1, q1, L1 ++ [14], ⟨res1, fun e => ?_⟩, ?_, ?_⟩
      · obtain ⟨w1, w2, w3⟩ := res2 e
        rw [List.length_append]
        exact ⟨by show q + (L1.length + 1) ≤ q1; omega, by omega, zW_un w3 (Or.inr rfl)⟩
      · intro X d S t k g G A hS ht hB hk h K1 K0
        refine zPd (d := d + 8 * r' + 13 + 1 + 1) (by omega) (e69 hS ht ?_)
        rw [h.2.2.2.1]
        refine ⟨fun _ => ⟨fun _ => ?_, fun n => absurd (E5.mpr o5) n⟩, fun n => absurd ((E1 45 (by decide)).mpr cb) n⟩
        rw [nI_1]
        refine e70 hS ht (zPd (d := d + 8 * r' + 7 + 6) (by omega) (cx52 hS ht hB hq h ?_))
        intro G1 f1 f2
        refine zPd (d := (d + 6) + (8 * r' + 7)) (by omega) (cl1 X (d + 6) S t k g G1 _ hS ht hB (by omega) f1 (fun e G2 y1 y2 y3 => ⟨fun z => absurd z (by decide), fun _ => ?_⟩) (fun e G2 k' y1 => ⟨fun _ => ⟨fun _ => K0 e G2 k' y1, fun z => absurd rfl z⟩, fun z => absurd rfl z⟩))
        obtain ⟨w1, w2, w3⟩ := res2 e
        rw [show (-1 : Int32) = z_xc 14 from by decide]
        refine cx62 hS ht (by omega) y1 ?_
        intro G3 z1 z2
        refine ⟨fun z => absurd z (by decide), fun _ => ?_⟩
        have hg := z_gu (c := 14) y2 y3
        rw [← z2] at hg
        refine K1 e G3 ?_ (fun j hj => by rw [hg.1 j hj, f2]) hg.2
        rw [List.length_append]
        exact z1
      · intro X d row k W E m g G A hB hr hop hl hW hm hS K1 K0
        have mo := md_op_rep k W
        have mdp := md_dp_rep k W
        refine cs_pre hB hq (by rw [List.length_append, List.length_replicate]; omega) (by omega) ca hS (fun y => absurd cb (by omega)) ?_ (fun y => absurd cb (by omega)) (fun y => ?_)
        · intro _ _ G1 f1 f2
          have ea : 14 :: (List.replicate k 14 ++ W) = List.replicate (k + 1) 14 ++ W := by rw [List.replicate_succ, List.cons_append]
          rw [ea] at f1
          refine mo1 X d row (k + 1) W E 0 g G1 A hB hr (by omega) (by omega) hW (fun z => absurd rfl z) f1 ?_ K0
          intro e G' m' y1 y2
          refine K1 e G' m' ?_ (fun j hj => by rw [y2 j hj, f2])
          have eb : E ++ (L1 ++ [14]) ++ List.replicate k 14 = E ++ L1 ++ List.replicate (k + 1) 14 := by
            rw [List.replicate_succ]
            simp
          rw [eb]
          exact y1
        · rcases y with y | y
          · omega
          · exact absurd cb y.2.1
    · by_cases cc : lx_t B s q = 40 ∧ o < 5
      · -- a bracket
        obtain ⟨cc, o5⟩ := cc
        have hlt := lx_n_lt hq (show ¬ lx_t B s q = 256 by omega)
        obtain ⟨r', rfl⟩ : ∃ r', r = r' + 1 := ⟨r - 1, by omega⟩
        obtain ⟨ok1, q1, L1, ⟨res1, res2⟩, st1, cl1, md1⟩ := h7 (lx_n B s q) (o + 1) r' hlt.1 hn (by omega)
        have hn1 := lx_n_le (B := B) res1
        have E3 := lx_t_ok B s q1
        refine ⟨ok1 && decide (lx_t B s q1 = 41), if ok1 = true ∧ lx_t B s q1 = 41 then lx_n B s q1 else q1, L1, ⟨?_, fun e => ?_⟩, ?_, ?_⟩
        · split
          · exact hn1
          · exact res1
        · simp only [Bool.and_eq_true, decide_eq_true_eq] at e
          obtain ⟨w1, w2, w3⟩ := res2 e.1
          have hl2 := lx_n_lt res1 (show ¬ lx_t B s q1 = 256 by omega)
          rw [if_pos e]
          exact ⟨by omega, by omega, w3⟩
        · intro X d S t k g G A hS ht hB hk h K1 K0
          refine zPd (d := d + 8 * r' + 13 + 1 + 1) (by omega) (e69 hS ht ?_)
          rw [h.2.2.2.1]
          refine ⟨fun y => absurd ((E1 45 (by decide)).mp y) (by omega), fun _ => ⟨fun _ => ⟨fun _ => ?_, fun n => absurd (E5.mpr o5) n⟩, fun n => absurd ((E1 40 (by decide)).mpr cc) n⟩⟩
          rw [nI_1]
          refine e71 hS ht (zPd (d := d + 8 * r' + 7 + 6) (by omega) (cx52 hS ht hB hq h ?_))
          intro G1 f1 f2
          refine zPd (d := d + (8 * r' + 13)) (by omega) (cl1 X d S t k g G1 _ hS ht hB (by omega) f1 (fun e G2 y1 y2 y3 => ⟨fun z => absurd z (by decide), fun _ => ?_⟩) (fun e G2 k' y1 => ⟨fun _ => ⟨fun _ => K0 ?_ G2 k' ?_, fun z => absurd rfl z⟩, fun z => absurd rfl z⟩))
          · refine zPd (d := d + 8 * r' + 6 + 7) (by omega) (cx51 (u := 41) (by decide) hS ht hB res1 y1 (fun y => ?_) (fun n => ?_))
            · intro G3 z1 z2
              refine ⟨fun z => absurd z (by decide), fun _ => ⟨fun z => absurd z (by decide), fun _ => ?_⟩⟩
              rw [if_pos ⟨e, y⟩] at K1
              refine K1 (by rw [e, decide_eq_true y]; rfl) G3 z1 (fun j hj => by rw [z2, y2 j hj, f2]) (fun j hj => by rw [z2]; exact y3 j hj)
            · refine ⟨fun _ => ⟨fun _ => ?_, fun z => absurd rfl z⟩, fun z => absurd rfl z⟩
              rw [if_neg (fun z => n z.2)] at K0
              exact K0 (by rw [decide_eq_false n, Bool.and_false]) G2 _ y1
          · rw [e]; rfl
          · rw [if_neg (fun z => by rw [e] at z; exact absurd z.1 (by decide))]
            exact y1
        · intro X d row k W E m g G A hB hr hop hl hW hm hS K1 K0
          have mo := md_op_rep k W
          have mdp := md_dp_rep k W
          have hll : (List.replicate k 14 ++ W).length = k + W.length := by rw [List.length_append, List.length_replicate]
          refine cs_pre hB hq (by rw [hll]; omega) (by omega) ca hS ?_ (fun y => absurd cc (by omega)) (fun y => absurd cc (by omega)) (fun y => ?_)
          · intro _ _ G1 f1 f2 f3
            rw [mdp] at f2 f3
            have dp15 : md_dp (15 :: (List.replicate k 14 ++ W)) = md_dp W + 1 := by rw [md_dp, mdp, if_pos rfl]
            have op15 : md_op (15 :: (List.replicate k 14 ++ W)) = o + 1 := by rw [md_op, mo, if_pos (by decide)]; omega
            have hdo := md_dp_op (15 :: (List.replicate k 14 ++ W))
            refine md1 X d row (15 :: (List.replicate k 14 ++ W)) E 1 g G1 A hB hr op15 (by rw [List.length_cons, hll]; omega) (Or.inl rfl) (fun z => by omega) (fun _ => by decide) (fun _ => by rw [dp15]; exact f3) f1 ?_ (fun e G' W' E' z1 => K0 (by rw [e]; rfl) G' W' E' (by rw [if_neg (fun z => by rw [e] at z; exact absurd z.1 (by decide))]; exact z1))
            intro e P E1 G2 m2 y1 y2 y3 y4 y5 y6
            rw [dp15] at y4 y6
            obtain ⟨w1, w2, w3⟩ := res2 e
            obtain ⟨s1, s2, s3, s4⟩ := st1 e
            have yl := congrArg List.length y2
            rw [List.length_append, List.length_append] at yl
            have hP15 : md_dp (P ++ 15 :: (List.replicate k 14 ++ W)) = md_dp W + 1 := by rw [md_dp_P P _ y3, dp15]
            by_cases y : lx_t B s q1 = 41
            · have hl2 := lx_n_lt res1 (show ¬ lx_t B s q1 = 256 by omega)
              have hs2 := lx_s_le B res1
              refine cs_close (P := P) (k := k) hB res1 hr y y3 hW (by omega) (by omega) y1 ?_
              intro G3 z1 z2
              rw [if_pos ⟨e, y⟩] at K1
              refine K1 (by rw [e, decide_eq_true y]; rfl) G3 m2 ?_ (fun j hj => by rw [z2, y4 j (by omega), f2 j (by omega)])
              rw [y2] at z1
              exact z1
            · refine cs_stop (W := P ++ 15 :: (List.replicate k 14 ++ W)) (by omega) y1 y (fun _ => by omega) ?_ (K0 (by rw [decide_eq_false y, Bool.and_false]) G2 _ _ (by rw [if_neg (fun z => y z.2)]; exact y1))
              rw [hP15]
              by_cases y60 : lx_t B s q1 = 60 ∨ lx_t B s q1 = 61
              · exact Or.inr ⟨y60, y6 (by decide) y60⟩
              · refine Or.inl (fun x a1 a2 a3 => ?_)
                have a6 := s1 (by decide)
                have a5 := s2 (by decide)
                have a4 := s3 (by decide)
                have b4 := s4 (by decide)
                have : x = 6 ∨ x = 7 ∨ x = 8 ∨ x = 9 ∨ x = 10 ∨ x = 11 ∨ x = 12 := by omega
                rcases this with rfl | rfl | rfl | rfl | rfl | rfl | rfl
                · exact a5.1 a3
                · exact a5.2 a3
                · exact a6 a3
                · exact y60 (Or.inl a3)
                · exact y60 (Or.inr a3)
                · exact a4 a3
                · exact b4 a3
          · rcases y with y | y
            · omega
            · exact absurd cc y.1
      · -- none
        refine ⟨false, q, [], ⟨hq, fun e => by cases e⟩, ?_, ?_⟩
        · intro X d S t k g G A hS ht hB hk h K1 K0
          have bad : A 0 G := K0 rfl G k h
          refine zPd (d := d + 8 * r + 6 + 1) (by omega) (e69 hS ht ?_)
          rw [h.2.2.2.1]
          refine ⟨fun y => ⟨fun z => absurd ⟨(E1 45 (by decide)).mp y, E5.mp z⟩ cb, fun _ => bad⟩, fun _ => ⟨fun y => ⟨fun z => absurd ⟨(E1 40 (by decide)).mp y, E5.mp z⟩ cc, fun _ => bad⟩, fun _ => ⟨fun y => absurd (Or.inl ((E1 258 (by decide)).mp y)) ca, fun _ => ⟨fun _ => bad, fun n => absurd (Or.inr (Nat.not_lt.mp (fun z => n (E2.mpr z)))) ca⟩⟩⟩⟩
        · intro X d row k W E m g G A hB hr hop hl hW hm hS K1 K0
          have mo := md_op_rep k W
          have bad : A 0 G := K0 rfl G _ _ hS
          exact cs_pre hB hq (by rw [List.length_append, List.length_replicate]; omega) (by omega) ca hS (fun y z => absurd ⟨y, by omega⟩ cc) (fun y z => absurd ⟨y, by omega⟩ cb) (fun y z => absurd y (hm z)) (fun _ => bad)
end ZLV

/-! reading a text, the reference: brackets, what stands ahead, the steps of the loop -/
theorem zPr_14 (k : Nat) : zPr 7 (List.replicate k 14) := fun x hx => by
  rw [List.eq_of_mem_replicate hx]
  exact ⟨by decide, by decide, by decide⟩
theorem zPr_mono {r r' : Nat} {P : List Nat} (h : zPr r P) (hr : r' ≤ r) : zPr r' P := fun x hx => ⟨(h x hx).1, (h x hx).2.1, Nat.le_trans hr (h x hx).2.2⟩
section ZPN
variable {X : Option (List Int32)} {d : Nat} {B : Nat → Nat} {s row q : Nat} {g G : zH} {W E : List Nat}
theorem cm161N {A : Int32 → zH → Prop} (h : zTk (lx_t B s q) (lx_v B s q) G) (hn : ¬ lx_t B s q = 41) (k : A 0 G) : zP X (d + 1) 161 0 (z_ent [.ref 82] 1) [] z_S0 G (zI A) :=
  b161 (cm154 (c := 41) (by decide) h (zsw (fun _ => k) (fun y => absurd y hn)))
theorem cm161Y {A : Int32 → zH → Prop} {P : List Nat} {k : Nat} (hr : row < 18) (ht : lx_t B s q = 41) (hP : zPr 1 P) (hW : zTop 7 W) (hl : E.length + P.length + k + W.length < 160) (h : zSM B s g row q (P ++ 15 :: (List.replicate k 14 ++ W)) E G) (K : ∀ G', zSM B s g row q W (E ++ P ++ List.replicate k 14) G' → G' 106 = G 106 → A 1 G') : zP X (d + 2) 161 0 (z_ent [.ref 82] 1) [] z_S0 G (zI A) := by
  have lw : (List.replicate k 14 ++ W).length = k + W.length := by rw [List.length_append, List.length_replicate]
  have l15 : (15 :: (List.replicate k 14 ++ W)).length = k + W.length + 1 := by rw [List.length_cons, lw]
  have hop := h.2.2.2.2.2.1
  refine b161 (cm154 (c := 41) (by decide) h.2.2.2.1 (zsw (fun n => absurd ht n) (fun _ => ⟨fun y => ?_, fun _ => ?_⟩)))
  · rw [h.2.2.2.2.2.2.1, md_dp_P P _ hP, md_dp, if_pos rfl] at y
    have := (nI_eq (b := 0) (by
      have := md_dp_op (List.replicate k 14 ++ W)
      have hb : ∀ W : List Nat, md_op W ≤ W.length := by
        intro W
        induction W with
        | nil => exact Nat.le_refl _
        | cons x W ih =>
          rw [md_op, List.length_cons]
          split <;> omega
      have := hb (List.replicate k 14 ++ W)
      omega) (by decide)).mp y
    omega
  · refine cm158 (r := 1) (P := P) (W := 15 :: (List.replicate k 14 ++ W)) hr (by decide) (by decide) (Or.inl rfl) hP (by rw [l15]; omega) h ?_
    intro G1 f1 f2
    obtain ⟨h1, h2, h3, h4, h5, h6, h7, h8, h9, h10, h11, h12⟩ := f1
    have h5 : G1 82 33 = nI ((List.replicate k 14 ++ W).length + 1) := h5
    have h6 : G1 82 34 = nI (md_op (List.replicate k 14 ++ W) + 1) := h6
    have h7 : G1 82 35 = nI (md_dp (List.replicate k 14 ++ W) + 1) := h7
    rw [h5, h6, h7, nI_pred, nI_pred, nI_pred]
    have m : ∀ j, j = 33 ∨ j = 34 ∨ j = 35 → mM 82 j := fun j hj => Or.inr (Or.inr (Or.inr ⟨rfl, by omega⟩))
    refine cm158 (r := 7) (P := List.replicate k 14) hr (by decide) (by decide) hW (zPr_14 k) ?_ ⟨zFr_up (zFr_up (zFr_up h1 (m 33 (by decide))) (m 35 (by decide))) (m 34 (by decide)), h2, h3, h4, rfl, rfl, rfl, h8, h9, h10.2, h11, h12⟩ ?_
    · rw [List.length_append, List.length_replicate]
      omega
    · intro G2 y1 y2
      exact K G2 y1 (by rw [y2]; exact f2)
theorem cm162_35 {A : Int32 → zH → Prop} (hl : W.length ≤ 160) (hop : md_op W ≤ 5) (h : zSM B s g row q W E G) (htk : lx_t B s q = 40 ∨ lx_t B s q = 45 ∨ lx_t B s q = 265)
    (K40 : lx_t B s q = 40 → md_op W < 5 → ∀ G', zSM B s g row q (15 :: W) E G' → (∀ j, ¬ j = md_dp W + 1 → G' 106 j = G 106 j) → G' 106 (md_dp W + 1) = 0 → A 1 G')
    (K45 : lx_t B s q = 45 → md_op W < 5 → ∀ G', zSM B s g row q (14 :: W) E G' → G' 106 = G 106 → A 1 G')
    (K265 : lx_t B s q = 265 → md_op W < 5 → ∀ G', zSM B s g row q (13 :: W) E G' → G' 106 = G 106 → A 1 G')
    (K0 : md_op W = 5 → A 0 G) : zP X (d + 1) 162 35 [some (.ref 82), none, none] [.int 1] z_S0 G (zI A) := by
  obtain ⟨h1, h2, h3, h4, h5, h6, h7, h8, h9, h10, h11, h12⟩ := h
  have hdp := md_dp_op W
  have m : ∀ j, j = 33 ∨ j = 34 ∨ j = 35 → mM 82 j := fun j hj => Or.inr (Or.inr (Or.inr ⟨rfl, by omega⟩))
  have e5 : nI (md_op W) = 5 ↔ md_op W = 5 := nI_eq (b := 5) (by omega) (by decide)
  refine b162_35 ⟨fun y => absurd y (by decide), fun _ => ?_⟩
  rw [h6, e5, nI_1]
  refine ⟨fun y => K0 y, fun n5 => ?_⟩
  have ib : z_ib (nI W.length) 170 := vp_in_nI (by omega) (by decide)
  have cl : (nI W.length).toNatClampNeg = W.length := nI_clamp (by omega)
  have h4' : zTk (lx_t B s q) (lx_v B s q) (z_up G 82 34 (nI (md_op W + 1))) := h4
  have e33 : (z_up G 82 34 (nI (md_op W + 1))) 82 33 = nI W.length := h5
  have st : ∀ x, x = 13 ∨ x = 14 → zSM B s g row q (x :: W) E (z_up (z_up (z_up G 82 34 (nI (md_op W + 1))) 105 W.length (nI x)) 82 33 (nI (W.length + 1))) := by
    intro x hx
    refine ⟨zFr_up (zFr_up (zFr_up h1 (m 34 (by decide))) (Or.inr (Or.inl rfl))) (m 33 (by decide)), h2, h3, h4, rfl, ?_, ?_, h8, h9, ⟨upd_S _ _ _, md_ok_up W (Nat.le_refl _) h10⟩, h11, h12⟩
    · rw [md_op, if_pos (by omega)]
      rfl
    · rw [md_dp, if_neg (by omega)]
      exact h7
  refine cm154 (c := 40) (by decide) h4' (zsw (fun n => ?_) (fun y => ?_))
  · rcases zTkc h4 with ⟨r, t1, t2⟩ | ⟨r, t1⟩ | ⟨r, t1⟩ | ⟨r, t1, t2⟩ | ⟨r, r2, t1, t2⟩ | ⟨r, r2, t1, t2⟩
    · refine ⟨fun y => ?_, fun _ => b159 ?_⟩
      · have : (z_up G 82 34 (nI (md_op W + 1))) 82 27 = 3 := t1
        rw [this] at y
        exact absurd y (by decide)
      · rw [e33, cl, nI_1]
        exact ⟨ib, K45 (by omega) (by omega) _ (st 14 (Or.inr rfl)) rfl⟩
    · omega
    · omega
    · omega
    · refine ⟨fun _ => b159 ?_, fun n => absurd t1 n⟩
      rw [e33, cl, nI_1]
      exact ⟨ib, K265 (by omega) (by omega) _ (st 13 (Or.inl rfl)) rfl⟩
    · omega
  · refine b159 ?_
    rw [e33, cl, nI_1]
    have e35 : (z_up (z_up (z_up G 82 34 (nI (md_op W + 1))) 105 W.length 15) 82 33 (nI (W.length + 1))) 82 35 = nI (md_dp W) := h7
    rw [e35, nI_1, nI_clamp (show md_dp W + 1 < 2 ^ 31 by omega)]
    refine ⟨ib, vp_in_nI (by omega) (by decide), K40 y (by omega) _ ⟨zFr_up (zFr_up (zFr_up (zFr_up (zFr_up h1 (m 34 (by decide))) (Or.inr (Or.inl rfl))) (m 33 (by decide))) (m 35 (by decide))) (Or.inr (Or.inr (Or.inl rfl))), h2, h3, h4, rfl, ?_, ?_, h8, h9, ⟨upd_S _ _ _, md_ok_up W (Nat.le_refl _) h10⟩, h11, h12⟩ ?_ ?_⟩
    · rw [md_op, if_pos (by decide)]
      rfl
    · rw [md_dp, if_pos rfl]
      rfl
    · intro j hj
      show upd (G 106) (md_dp W + 1) 0 j = G 106 j
      rw [upd_N _ _ hj]
    · show upd (G 106) (md_dp W + 1) 0 (md_dp W + 1) = 0
      rw [upd_S]
theorem cm162 {A : Int32 → zH → Prop} {m : Int32} (hl : W.length ≤ 160) (hop : md_op W ≤ 5) (h : zSM B s g row q W E G)
    (K40 : lx_t B s q = 40 → md_op W < 5 → ∀ G', zSM B s g row q (15 :: W) E G' → (∀ j, ¬ j = md_dp W + 1 → G' 106 j = G 106 j) → G' 106 (md_dp W + 1) = 0 → A 1 G')
    (K45 : lx_t B s q = 45 → md_op W < 5 → ∀ G', zSM B s g row q (14 :: W) E G' → G' 106 = G 106 → A 1 G')
    (K265 : lx_t B s q = 265 → ¬ m = 0 → md_op W < 5 → ∀ G', zSM B s g row q (13 :: W) E G' → G' 106 = G 106 → A 1 G')
    (K0 : (md_op W = 5 ∨ (¬ lx_t B s q = 40 ∧ ¬ lx_t B s q = 45 ∧ (m = 0 ∨ ¬ lx_t B s q = 265))) → A 0 G) : zP X (d + 1) 162 0 (z_ent [.ref 82, .int m] 3) [] z_S0 G (zI A) := by
  have go : (lx_t B s q = 40 ∨ lx_t B s q = 45 ∨ (lx_t B s q = 265 ∧ ¬ m = 0)) → zP X (d + 1) 162 30 [some (.ref 82), none, none] [] z_S0 G (zI A) := fun t => b162_30 (cm162_35 hl hop h (by omega) K40 K45 (fun y => K265 y (by
    rcases t with t | t | t
    · omega
    · omega
    · exact t.2)) (fun y => K0 (Or.inl y)))
  have no : (¬ lx_t B s q = 40 ∧ ¬ lx_t B s q = 45 ∧ (m = 0 ∨ ¬ lx_t B s q = 265)) → zP X (d + 1) 162 34 [some (.ref 82), none, none] [] z_S0 G (zI A) := fun t => b162_34 (b162_35 ⟨fun _ => K0 (Or.inr t), fun z => absurd rfl z⟩)
  exact b162 (cm154 (c := 40) (by decide) h.2.2.2.1 (zsw (fun n1 => cm154 (c := 45) (by decide) h.2.2.2.1 (zsw (fun n2 => ⟨fun z => no ⟨n1, n2, Or.inl z⟩, fun z => cm155 (c := 5) (by decide) h.2.2.2.1 (zsw (fun n3 => no ⟨n1, n2, Or.inr n3⟩) (fun y => go (Or.inr (Or.inr ⟨y, z⟩))))⟩) (fun y => go (Or.inr (Or.inl y))))) (fun y => go (Or.inl y))))
/-! the steps -/
variable {A : Int32 → zH → Prop} {m : Int32}
theorem cs_one {k : Nat} (hB : zBM B s g) (hq : q ≤ s) (hr : row < 18) (ht : lx_t B s q = 258 ∨ 270 ≤ lx_t B s q) (hW : zTop 7 W) (hl : E.length + k + W.length < 160) (h : zSM B s g row q (List.replicate k 14 ++ W) E G) (K : ∀ G', zSM B s g row (lx_n B s q) W (E ++ [if lx_t B s q = 258 then 100 + lx_v B s q else lx_t B s q - 270] ++ List.replicate k 14) G' → G' 106 = G 106 → zP X (d + 4) 163 40 [some (.ref 82), some (.int (nI row)), some (.int 0), some (.int m), none] [] z_S0 G' (zI A)) : zP X (d + 4) 163 40 [some (.ref 82), some (.int (nI row)), some (.int 1), some (.int m), none] [] z_S0 G (zI A) := by
  have go : ∀ c, zP X (d + 4) 163 40 [some (.ref 82), some (.int (nI row)), some (.int 0), some (.int m), none] [] z_S0 G (zI A) = zP X (d + 4) 163 40 [some (.ref 82), some (.int (nI row)), some (.int 0), some (.int m), none] [] z_S0 G (zI A) → (∀ G', zSM B s g row (lx_n B s q) W (E ++ [c] ++ List.replicate k 14) G' → G' 106 = G 106 → zP X (d + 4) 163 40 [some (.ref 82), some (.int (nI row)), some (.int 0), some (.int m), none] [] z_S0 G' (zI A)) → zP X (d + 4) 163 82 [some (.ref 82), some (.int (nI row)), none, some (.int m), none] [.int (z_mc c), .ref 82] z_S0 G (zI A) := by
    intro c _ Kc
    refine b163_82 (cm156 hr (by omega) h ?_)
    intro G1 f1 f2
    refine cm158 (r := 7) (P := List.replicate k 14) hr (by decide) (by decide) hW (zPr_14 k) ?_ f1 ?_
    · rw [List.length_append, List.length_replicate]
      show E.length + 1 + k + W.length ≤ 160
      omega
    · intro G2 y1 y2
      refine b163_208 (cmNext hB hq y1 ?_)
      intro G3 z1 z2
      exact Kc G3 z1 (by rw [z2, y2, f2])
  rcases zTkc h.2.2.2.1 with ⟨r, t1, t2⟩ | ⟨r, t1⟩ | ⟨r, t1⟩ | ⟨r, t1, t2⟩ | ⟨r, r2, t1, t2⟩ | ⟨r, r2, t1, t2⟩
  · omega
  · omega
  · omega
  · rw [if_pos r] at K
    refine b163_40 ⟨fun z => absurd z (by decide), fun _ => ⟨fun _ => b163_60 ⟨fun _ => ?_, fun n => absurd t1 n⟩, fun n => absurd t1 n⟩⟩
    rw [t2]
    have e : (-1 : Int32) - nI (lx_v B s q) = z_mc (100 + lx_v B s q) := by
      unfold z_mc
      rw [if_neg (by omega), show 100 + lx_v B s q - 100 = lx_v B s q by omega]
    rw [e]
    exact go _ rfl K
  · omega
  · rw [if_neg (by omega)] at K
    have n1 : ¬ G 82 27 = 1 := by rw [t1]; decide
    refine b163_40 ⟨fun z => absurd z (by decide), fun _ => ⟨fun y => absurd y n1, fun _ => ⟨fun _ => b163_60 ⟨fun y => absurd y n1, fun _ => ?_⟩, fun n => absurd t1 n⟩⟩⟩
    rw [t2, ← z_mc_lo (show lx_t B s q - 270 < 15 by omega)]
    exact go _ rfl K
theorem cs_pre (hB : zBM B s g) (hq : q ≤ s) (hl : W.length ≤ 160) (hop : md_op W ≤ 5) (ht : ¬ (lx_t B s q = 258 ∨ 270 ≤ lx_t B s q)) (h : zSM B s g row q W E G)
    (K40 : lx_t B s q = 40 → md_op W < 5 → ∀ G', zSM B s g row (lx_n B s q) (15 :: W) E G' → (∀ j, ¬ j = md_dp W + 1 → G' 106 j = G 106 j) → G' 106 (md_dp W + 1) = 0 → zP X (d + 4) 163 40 [some (.ref 82), some (.int (nI row)), some (.int 1), some (.int 1), none] [] z_S0 G' (zI A))
    (K45 : lx_t B s q = 45 → md_op W < 5 → ∀ G', zSM B s g row (lx_n B s q) (14 :: W) E G' → G' 106 = G 106 → zP X (d + 4) 163 40 [some (.ref 82), some (.int (nI row)), some (.int 1), some (.int 0), none] [] z_S0 G' (zI A))
    (K265 : lx_t B s q = 265 → ¬ m = 0 → md_op W < 5 → ∀ G', zSM B s g row (lx_n B s q) (13 :: W) E G' → G' 106 = G 106 → zP X (d + 4) 163 40 [some (.ref 82), some (.int (nI row)), some (.int 1), some (.int 1), none] [] z_S0 G' (zI A))
    (K0 : (md_op W = 5 ∨ (¬ lx_t B s q = 40 ∧ ¬ lx_t B s q = 45 ∧ (m = 0 ∨ ¬ lx_t B s q = 265))) → A 0 G) : zP X (d + 4) 163 40 [some (.ref 82), some (.int (nI row)), some (.int 1), some (.int m), none] [] z_S0 G (zI A) := by
  have n1 : ¬ G 82 27 = 1 := by
    rcases zTkc h.2.2.2.1 with ⟨r, t1, t2⟩ | ⟨r, t1⟩ | ⟨r, t1⟩ | ⟨r, t1, t2⟩ | ⟨r, r2, t1, t2⟩ | ⟨r, r2, t1, t2⟩
    · rw [t1]; decide
    · rw [t1]; decide
    · rw [t1]; decide
    · omega
    · rw [t1]; decide
    · rw [t1]; decide
  have n2 : ¬ G 82 27 = 2 := by
    rcases zTkc h.2.2.2.1 with ⟨r, t1, t2⟩ | ⟨r, t1⟩ | ⟨r, t1⟩ | ⟨r, t1, t2⟩ | ⟨r, r2, t1, t2⟩ | ⟨r, r2, t1, t2⟩
    · rw [t1]; decide
    · rw [t1]; decide
    · rw [t1]; decide
    · omega
    · rw [t1]; decide
    · omega
  have nx : ∀ {W' : List Nat} {G1 : zH} {w : Int32}, zSM B s g row q W' E G1 → (∀ G', zSM B s g row (lx_n B s q) W' E G' → G' 106 = G1 106 → zP X (d + 4) 163 40 [some (.ref 82), some (.int (nI row)), some (.int 1), some (.int w), none] [] z_S0 G' (zI A)) → zP X (d + 4) 163 128 [some (.ref 82), some (.int (nI row)), some (.int 1), none, none] [.int w] z_S0 G1 (zI A) := by
    intro W' G1 w f K
    exact b163_128 (b163_208 (cmNext hB hq f K))
  refine b163_40 ⟨fun z => absurd z (by decide), fun _ => ⟨fun y => absurd y n1, fun _ => ⟨fun y => absurd y n2, fun _ => b163_96 ⟨fun z => absurd z (by decide), fun _ => ?_⟩⟩⟩⟩
  refine cm154 (c := 45) (by decide) h.2.2.2.1 ?_
  refine cm162 hl hop h ?_ ?_ ?_ (fun y => ⟨fun _ => K0 y, fun z => absurd rfl z⟩)
  · intro y1 y2 G1 f1 f2 f3
    refine ⟨fun z => absurd z (by decide), fun _ => ?_⟩
    rw [zb_f (show ¬ lx_t B s q = 45 by omega)]
    exact ⟨fun _ => nx f1 (fun G' a1 a2 => K40 y1 y2 G' a1 (fun j hj => by rw [a2]; exact f2 j hj) (by rw [a2]; exact f3)), fun z => absurd rfl z⟩
  · intro y1 y2 G1 f1 f2
    refine ⟨fun z => absurd z (by decide), fun _ => ?_⟩
    rw [zb_t y1]
    exact ⟨fun z => absurd z (by decide), fun _ => nx f1 (fun G' a1 a2 => K45 y1 y2 G' a1 (by rw [a2]; exact f2))⟩
  · intro y1 y3 y2 G1 f1 f2
    refine ⟨fun z => absurd z (by decide), fun _ => ?_⟩
    rw [zb_f (show ¬ lx_t B s q = 45 by omega)]
    exact ⟨fun _ => nx f1 (fun G' a1 a2 => K265 y1 y3 y2 G' a1 (by rw [a2]; exact f2)), fun z => absurd rfl z⟩
theorem tkN_ok : ∀ x, x < 13 → 6 ≤ x → ¬ tkN x = 59 ∧ ¬ tkN x = 41 ∧ (tkN x = 264 ↔ x = 11) ∧ (tkN x = 263 ↔ x = 12) ∧ (rkN x ≤ 2 ↔ x = 11 ∨ x = 12) ∧ (rkN x = 4 ↔ tkN x = 60 ∨ tkN x = 61) ∧ ¬ tkN x = 256 := by decide
theorem tkN_inj : ∀ x, x < 13 → 6 ≤ x → ∀ y, y < 13 → 6 ≤ y → tkN x = tkN y → x = y := by decide
theorem cs_op {x : Nat} {P : List Nat} (hB : zBM B s g) (hq : q ≤ s) (hr : row < 18) (hx : 6 ≤ x ∧ x < 13) (ht : lx_t B s q = tkN x) (hW : zTop (rkN x) W) (hP : zPr (rkN x) P) (hl : E.length + P.length + W.length < 160) (hdp : md_dp W ≤ 5) (h : zSM B s g row q (P ++ W) E G) (hc : rkN x = 4 → G 106 (md_dp W) = 0) (K : ∀ G', zSM B s g row (lx_n B s q) (x :: W) (E ++ P) G' → (∀ j, ¬ j = md_dp W → G' 106 j = G 106 j) → (4 < rkN x → (G' 106 (md_dp W) = 0 ↔ G 106 (md_dp W) = 0)) → (rkN x < 4 → G' 106 (md_dp W) = 0) → (rkN x = 4 → ¬ G' 106 (md_dp W) = 0) → zP X (d + 4) 163 40 [some (.ref 82), some (.int (nI row)), some (.int 1), some (.int (zb (rkN x ≤ 2))), none] [] z_S0 G' (zI A)) : zP X (d + 4) 163 40 [some (.ref 82), some (.int (nI row)), some (.int 0), some (.int m), none] [] z_S0 G (zI A) := by
  obtain ⟨t1, t2, t3, t4, t5, t6, t7⟩ := tkN_ok x hx.2 hx.1
  refine b163_40 ⟨fun _ => b163_96 ⟨fun _ => ?_, fun z => absurd rfl z⟩, fun z => absurd rfl z⟩
  refine cm154 (c := 59) (by decide) h.2.2.2.1 (zsw (fun _ => b163_165 ?_) (fun y => by omega))
  refine cm160_op h.2.2.2.1 ?_ (fun n => absurd ht (n x hx.1 hx.2))
  intro x' a1 a2 a3
  have e : x' = x := tkN_inj x' a2 a1 x hx.2 hx.1 (by omega)
  subst e
  refine cm160_97 hr hx hW hP hl hdp h hc ?_
  intro G1 f1 f2 f3 f4 f5
  refine ⟨fun z => absurd z (by decide), fun _ => ?_⟩
  have nx : ∀ w : Int32, w = zb (rkN x' ≤ 2) → zP X (d + 4) 163 195 [some (.ref 82), some (.int (nI row)), some (.int 1), none, none] [.int w] z_S0 G1 (zI A) := by
    intro w hw
    rw [hw]
    refine b163_195 (b163_208 (cmNext hB hq f1 ?_))
    intro G' b1 b2
    exact K G' b1 (fun j hj => by rw [b2]; exact f2 j hj) (fun z => by rw [b2]; exact f3 z) (fun z => by rw [b2]; exact f4 z) (fun z => by rw [b2]; exact f5 z)
  refine cm155 (c := 4) (by decide) f1.2.2.2.1 (zsw (fun n4 => cm155 (c := 3) (by decide) f1.2.2.2.1 (zsw (fun n3 => nx 0 ?_) (fun y => b163_190 (nx 1 ?_)))) (fun y => b163_190 (nx 1 ?_)))
  · rw [zb_f (by omega)]
  · rw [zb_t (by omega)]
  · rw [zb_t (by omega)]
theorem cs_btw0 {G1 : zH} (h : zTk (lx_t B s q) (lx_v B s q) G1) (h35 : G1 82 35 = nI (md_dp W)) (hdp : md_dp W ≤ 5) (hn : (∀ x, 6 ≤ x → x < 13 → ¬ lx_t B s q = tkN x) ∨ ((lx_t B s q = 60 ∨ lx_t B s q = 61) ∧ ¬ G1 106 (md_dp W) = 0)) {C : Int32 → zH → Prop} (k : C 0 G1) : zP X (d + 3) 160 0 (z_ent [.ref 82] 2) [] z_S0 G1 (zI C) := by
  refine cm160_op h ?_ (fun _ => k)
  intro x a1 a2 a3
  rcases hn with n | ⟨n1, n2⟩
  · exact absurd a3 (n x a1 a2)
  · obtain ⟨t1, t2, t3, t4, t5, t6, t7⟩ := tkN_ok x a2 a1
    have r4 : rkN x = 4 := t6.mpr (by omega)
    refine b160_97 ⟨fun y => absurd y (nI_m1 (by omega)), fun _ => cm157 (by omega) ⟨fun _ => ?_, fun z => absurd (by rw [r4]; rfl) z⟩⟩
    rw [h35, nI_clamp (show md_dp W < 2 ^ 31 by omega)]
    exact ⟨vp_in_nI (by omega) (by decide), fun y => absurd y n2, fun _ => k⟩
theorem cs_stop (hdp : md_dp W ≤ 5) (h : zSM B s g row q W E G) (h41 : ¬ lx_t B s q = 41) (h59 : lx_t B s q = 59 → 0 < md_dp W) (hn : (∀ x, 6 ≤ x → x < 13 → ¬ lx_t B s q = tkN x) ∨ ((lx_t B s q = 60 ∨ lx_t B s q = 61) ∧ ¬ G 106 (md_dp W) = 0)) (k : A 0 G) : zP X (d + 4) 163 40 [some (.ref 82), some (.int (nI row)), some (.int 0), some (.int m), none] [] z_S0 G (zI A) := by
  have fin : zP X (d + 4) 163 165 [some (.ref 82), some (.int (nI row)), some (.int 0), some (.int m), none] [] z_S0 G (zI A) := by
    refine b163_165 (cs_btw0 (W := W) h.2.2.2.1 h.2.2.2.2.2.2.1 hdp hn ⟨fun _ => ?_, fun z => absurd rfl z⟩)
    exact cm161N h.2.2.2.1 h41 ⟨fun _ => k, fun z => absurd rfl z⟩
  refine b163_40 ⟨fun _ => b163_96 ⟨fun _ => ?_, fun z => absurd rfl z⟩, fun z => absurd rfl z⟩
  refine cm154 (c := 59) (by decide) h.2.2.2.1 (zsw (fun _ => fin) (fun y => ⟨fun z => ?_, fun _ => fin⟩))
  rw [h.2.2.2.2.2.2.1] at z
  have := (nI_eq (b := 0) (by omega) (by decide)).mp z
  have := h59 y
  omega
theorem cs_close {P : List Nat} {k : Nat} (hB : zBM B s g) (hq : q ≤ s) (hr : row < 18) (ht : lx_t B s q = 41) (hP : zPr 1 P) (hW : zTop 7 W) (hl : E.length + P.length + k + W.length < 160) (hdp : md_dp (P ++ 15 :: (List.replicate k 14 ++ W)) ≤ 5) (h : zSM B s g row q (P ++ 15 :: (List.replicate k 14 ++ W)) E G) (K : ∀ G', zSM B s g row (lx_n B s q) W (E ++ P ++ List.replicate k 14) G' → G' 106 = G 106 → zP X (d + 4) 163 40 [some (.ref 82), some (.int (nI row)), some (.int 0), some (.int m), none] [] z_S0 G' (zI A)) : zP X (d + 4) 163 40 [some (.ref 82), some (.int (nI row)), some (.int 0), some (.int m), none] [] z_S0 G (zI A) := by
  refine b163_40 ⟨fun _ => b163_96 ⟨fun _ => ?_, fun z => absurd rfl z⟩, fun z => absurd rfl z⟩
  refine cm154 (c := 59) (by decide) h.2.2.2.1 (zsw (fun _ => b163_165 ?_) (fun y => by omega))
  refine cs_btw0 (W := P ++ 15 :: (List.replicate k 14 ++ W)) h.2.2.2.1 h.2.2.2.2.2.2.1 hdp (Or.inl (fun x a1 a2 a3 => ?_)) ⟨fun _ => ?_, fun z => absurd rfl z⟩
  · obtain ⟨t1, t2, -⟩ := tkN_ok x a2 a1
    omega
  · refine cm161Y hr ht hP hW hl h ?_
    intro G1 f1 f2
    refine ⟨fun z => absurd z (by decide), fun _ => b163_208 (cmNext hB hq f1 ?_)⟩
    intro G' b1 b2
    exact K G' b1 (by rw [b2, f2])
theorem cs_end {P : List Nat} (hr : row < 18) (ht : lx_t B s q = 59) (hP : zPr 1 P) (hl : E.length + P.length ≤ 160) (h : zSM B s g row q P E G) (K : ∀ G', zSM B s g row q [] (E ++ P) G' → A 1 (z_up G' 102 row (nI (E ++ P).length))) : zP X (d + 4) 163 40 [some (.ref 82), some (.int (nI row)), some (.int 0), some (.int m), none] [] z_S0 G (zI A) := by
  have hP0 : md_dp P = 0 := by
    have := md_dp_P (r := 1) P [] hP
    rw [List.append_nil] at this
    exact this
  refine b163_40 ⟨fun _ => b163_96 ⟨fun _ => ?_, fun z => absurd rfl z⟩, fun z => absurd rfl z⟩
  refine cm154 (c := 59) (by decide) h.2.2.2.1 (zsw (fun n => absurd ht n) (fun _ => ⟨fun _ => ?_, fun z => ?_⟩))
  · refine cm158 (r := 1) (P := P) (W := []) hr (by decide) (by decide) trivial hP (by simpa using hl) (by rw [List.append_nil]; exact h) ?_
    intro G1 f1 f2
    rw [f1.2.2.2.2.2.2.2.2.1, nI_clamp (show row < 2 ^ 31 by omega)]
    exact ⟨vp_in_nI hr (by decide), K G1 f1⟩
  · rw [h.2.2.2.2.2.2.1, hP0] at z
    exact absurd rfl z
end ZPN

/-! a text: three parts, both readings -/
abbrev mY (t c j : Nat) : Prop := mX t c j ∨ c = t + 2
abbrev mT (c j : Nat) : Prop := mM c j ∨ c = 102
theorem zFr_both {m : Nat → Nat → Prop} {g G : zH} {a b : Nat} {v : Int32} (h : zFr m g G) : zFr m (z_up g a b v) (z_up G a b v) := fun c j q => by
  unfold z_up upd
  by_cases e : c = a
  · subst e
    rw [if_pos rfl, if_pos rfl]
    by_cases e2 : j = b
    · rw [if_pos e2, if_pos e2]
    · rw [if_neg e2, if_neg e2]
      exact h c j q
  · rw [if_neg e, if_neg e]
    exact h c j q
theorem zFr_wk {m m' : Nat → Nat → Prop} {g G : zH} (h : zFr m g G) (hm : ∀ c j, m c j → m' c j) : zFr m' g G := fun c j q => h c j (fun z => q (hm c j z))
theorem zBM_T {B : Nat → Nat} {s : Nat} {g G : zH} (h : zBM B s g) (f : zFr mT g G) : zBM B s G := ⟨h.1, by rw [f 82 22 (by omega)]; exact h.2.1, fun i hi => ⟨(h.2.2.1 i hi).1, by rw [f 100 i (by omega)]; exact (h.2.2.1 i hi).2⟩, fun i hi => by rw [f 103 i (by omega)]; exact h.2.2.2.1 i hi, fun i hi => by rw [f 104 i (by omega)]; exact h.2.2.2.2 i hi⟩
theorem zBX_up {B : Nat → Nat} {s t p : Nat} {v : Int32} {g : zH} (ht : zTL t) (h : zBX B s g) : zBX B s (z_up g (t + 2) p v) := by
  have := zTL_ge ht
  refine ⟨h.1, ?_, fun i hi => ⟨(h.2.2 i hi).1, ?_⟩⟩
  · rw [z_upN _ (by omega)]
    exact h.2.1
  · rw [z_upN _ (by omega)]
    exact (h.2.2 i hi).2
section ZTX
variable {B : Nat → Nat} {s : Nat}
theorem cs_stop0 {X : Option (List Int32)} {d row q : Nat} {g G : zH} {W E : List Nat} {A : Int32 → zH → Prop} {m : Int32} (hdp : md_dp W = 0) (h : zSM B s g row q W E G) (h59 : ¬ lx_t B s q = 59) (hn : (∀ x, 6 ≤ x → x < 13 → ¬ lx_t B s q = tkN x) ∨ ((lx_t B s q = 60 ∨ lx_t B s q = 61) ∧ ¬ G 106 (md_dp W) = 0)) (k : A 0 G) : z40 X d row 0 m G A := by
  refine b163_40 ⟨fun _ => b163_96 ⟨fun _ => ?_, fun z => absurd rfl z⟩, fun z => absurd rfl z⟩
  refine cm154 (c := 59) (by decide) h.2.2.2.1 (zsw (fun _ => ?_) (fun y => absurd y h59))
  refine b163_165 (cs_btw0 (W := W) h.2.2.2.1 h.2.2.2.2.2.2.1 (by omega) hn ⟨fun _ => ?_, fun z => absurd rfl z⟩)
  refine b161 (cm154 (c := 41) (by decide) h.2.2.2.1 (zsw (fun _ => ⟨fun _ => k, fun z => absurd rfl z⟩) (fun _ => ⟨fun _ => ⟨fun _ => k, fun z => absurd rfl z⟩, fun z => absurd ?_ z⟩)))
  rw [h.2.2.2.2.2.2.1, hdp]
  rfl
theorem cm_E {X : Option (List Int32)} {d row q : Nat} {G : zH} {A : Int32 → zH → Prop} {ok : Bool} {q2 : Nat} {L : List Nat} (hB : zBM B s G) (hq : q ≤ s) (hr : row < 18) (h29 : G 82 29 = nI (lx_s B s q)) (h26 : G 82 26 = nI (lx_n B s q)) (hk : zTk (lx_t B s q) (lx_v B s q) G) (res : zRS B s q ok q2 L) (st : ok = true → zSt 1 (lx_t B s q2)) (md : zMD B s 1 q 0 ok q2 L) (KY : ok = true → lx_t B s q2 = 59 → ∀ G', zSM B s G row q2 [] L G' → A 1 (z_up G' 102 row (nI L.length))) (KN : ¬ (ok = true ∧ lx_t B s q2 = 59) → ∀ (G' : zH) (W' E' : List Nat), zSM B s G row q2 W' E' G' → A 0 G') : zP X (d + 4) 163 0 (z_ent [.ref 82, .int (nI row)] 5) [] z_S0 G (zI A) := by
  have hs := hB.1
  have m : ∀ j, (j = 33 ∨ j = 34 ∨ j = 35 ∨ j = 37 ∨ j = 38) → mM 82 j := fun j hj => Or.inr (Or.inr (Or.inr ⟨rfl, by omega⟩))
  refine b163 ?_
  rw [show (160 : Int32) = nI 160 from rfl, pk_mul]
  have fr : zFr mM G (z_up (z_up (z_up (z_up (z_up (z_up G 82 37 (nI (160 * row))) 82 38 0) 82 33 0) 82 34 0) 82 35 0) 106 0 0) := zFr_up (zFr_up (zFr_up (zFr_up (zFr_up (zFr_up (zFr_rf mM G) (m 37 (by decide))) (m 38 (by decide))) (m 33 (by decide))) (m 34 (by decide))) (m 35 (by decide))) (Or.inr (Or.inr (Or.inl rfl)))
  refine md X d row [] [] 1 G _ A hB hr rfl (Nat.zero_le _) trivial (fun z => by omega) (fun _ => by decide) (fun _ => rfl) ⟨fr, h29, h26, hk, rfl, rfl, rfl, rfl, rfl, trivial, fun j hj => absurd hj (Nat.not_lt_zero j), fun j _ => rfl⟩ ?_ ?_
  · intro e P E1 G' m' y1 y2 y3 y4 y5 y6
    rw [List.append_nil] at y1
    have y2 : E1 ++ P = L := y2
    obtain ⟨w1, w2, w3⟩ := res.2 e
    obtain ⟨s1, s2, s3, s4⟩ := st e
    have res1 := res.1
    have yl := congrArg List.length y2
    rw [List.length_append] at yl
    have hdp : md_dp P = 0 := by
      have := md_dp_P (r := 1) P [] y3
      rw [List.append_nil] at this
      exact this
    by_cases y : lx_t B s q2 = 59
    · refine cs_end hr y y3 (by omega) y1 ?_
      intro G2 z1
      rw [y2] at z1 ⊢
      exact KY e y G2 z1
    · refine cs_stop0 hdp y1 y ?_ (KN (fun z => y z.2) G' _ _ y1)
      rw [hdp]
      by_cases y60 : lx_t B s q2 = 60 ∨ lx_t B s q2 = 61
      · exact Or.inr ⟨y60, y6 (by decide) y60⟩
      · refine Or.inl (fun x a1 a2 a3 => ?_)
        have a6 := s1 (by decide)
        have a5 := s2 (by decide)
        have a4 := s3 (by decide)
        have b4 := s4 (by decide)
        have : x = 6 ∨ x = 7 ∨ x = 8 ∨ x = 9 ∨ x = 10 ∨ x = 11 ∨ x = 12 := by omega
        rcases this with rfl | rfl | rfl | rfl | rfl | rfl | rfl
        · exact a5.1 a3
        · exact a5.2 a3
        · exact a6 a3
        · exact y60 (Or.inl a3)
        · exact y60 (Or.inr a3)
        · exact a4 a3
        · exact b4 a3
  · intro e G' W' E' y1
    exact KN (fun z => by rw [e] at z; cases z.1) G' W' E' y1
theorem t_part (hs : s ≤ 160) {q p : Nat} (hq : q ≤ s) (hp : p < 3) : ∃ (ok : Bool) (q' : Nat) (L : List Nat), q' ≤ s ∧ (ok = true → q + L.length + 2 ≤ q' ∧ zW L) ∧
    (∀ (X : Option (List Int32)) (d : Nat) (S : zS) (t k : Nat) (g G : zH) (A : Int32 → zH → Prop), zCS S → zTL t → zBX B s g → k ≤ q → zSX B s t g q k G → (ok = true → ∀ G', zSX B s t (z_up g (t + 2) p (nI (k + L.length))) q' (k + L.length) G' → (∀ j, j < k → G' (t + 1) j = G (t + 1) j) → (∀ j, j < L.length → G' (t + 1) (k + j) = z_xc (L.getD j 0)) → zP X (d + 54) 61 11 [some (.ref t), some (.ref 18), some (.int (nI (p + 1)))] [] S G' (zI A)) → (ok = false → ∀ G', zFr (mY t) g G' → G' 18 2 = nI (lx_s B s q') → A 0 G') → zP X (d + 54) 61 11 [some (.ref t), some (.ref 18), some (.int (nI p))] [] S G (zI A)) ∧
    (∀ (X : Option (List Int32)) (d T : Nat) (g G : zH) (A : Int32 → zH → Prop), T < 6 → zBM B s g → zFr mT g G → G 82 26 = nI q → (ok = true → ∀ G', zFr mT g G' → G' 82 26 = nI q' → G' 102 (3 * T + p) = nI L.length → (∀ j, j < L.length → G' 101 (160 * (3 * T + p) + j) = z_mc (L.getD j 0)) → (∀ j, j < 160 * (3 * T + p) → G' 101 j = G 101 j) → (∀ j, ¬ j = 3 * T + p → G' 102 j = G 102 j) → zP X (d + 5) 164 7 [some (.ref 82), some (.int (nI T)), some (.int (nI (p + 1)))] [] z_S0 G' (zI A)) → (ok = false → ∀ G', zFr mT g G' → (∀ j, j < 160 * (3 * T + p) → G' 101 j = G 101 j) → (∀ j, ¬ j = 3 * T + p → G' 102 j = G 102 j) → A (nI (lx_s B s q')) G') → zP X (d + 5) 164 7 [some (.ref 82), some (.int (nI T)), some (.int (nI p))] [] z_S0 G (zI A)) := by
  have hok := lx_t_ok B s q
  have hsl := lx_s_le B hq
  have hn := lx_n_le (B := B) hq
  have l3 : nI p < 3 := nI_lt (b := 3) hp (by decide)
  have e260 : (260 : Int32) + nI p = nI (260 + p) := nI_add 260 p
  by_cases hk : lx_t B s q = 260 + p
  · have hlt := lx_n_lt hq (show ¬ lx_t B s q = 256 by omega)
    obtain ⟨ok, q2, L, res, st, cl, md⟩ := t_E (B := B) hs hn
    have res1 := res.1
    by_cases he : ok = true ∧ lx_t B s q2 = 59
    · obtain ⟨w1, w2, w3⟩ := res.2 he.1
      have hlt2 := lx_n_lt res1 (show ¬ lx_t B s q2 = 256 by omega)
      refine ⟨true, lx_n B s q2, L, lx_n_le res1, fun _ => ⟨by omega, w3⟩, ?_, ?_⟩
      · intro X d S t k g G A hS ht hB hkq h K1 K0
        have ht3 := zTL_ge ht
        refine zPd (d := d + 53 + 1) (by omega) (e61_11 hS ht ⟨fun _ => ?_, fun n => absurd l3 n⟩)
        rw [e260]
        refine zPd (d := d + 46 + 7) (by omega) (cx51 (u := 260 + p) (by omega) hS ht hB hq h (fun _ G1 f1 f2 => ⟨fun z => absurd z (by decide), fun _ => ?_⟩) (fun n => absurd hk n))
        refine cl X d S t k g G1 _ hS ht hB (by omega) f1 (fun _ G2 y1 y2 y3 => ⟨fun z => absurd z (by decide), fun _ => ?_⟩) (fun e => by rw [he.1] at e; cases e)
        rw [nI_clamp (show p < 2 ^ 31 by omega), y1.2.2.2.2.2]
        refine ⟨vp_in_nI hp (by decide), ?_⟩
        have hz : zSX B s t (z_up g (t + 2) p (nI (k + L.length))) q2 (k + L.length) (z_up G2 (t + 2) p (nI (k + L.length))) := by
          obtain ⟨h1, h2, h3, h4, h5, h6⟩ := y1
          refine ⟨zFr_both h1, ?_, ?_, ?_, ?_, ?_⟩
          · rw [z_upN _ (by omega)]; exact h2
          · rw [z_upN _ (by omega)]; exact h3
          · rw [z_upN _ (by omega)]; exact h4
          · rw [z_upN _ (by omega)]; exact h5
          · rw [z_upN _ (by omega)]; exact h6
        refine zPd (d := d + 46 + 7) (by omega) (cx51 (u := 59) (by decide) hS ht (zBX_up ht hB) res1 hz (fun _ G3 z1 z2 => ⟨fun z => absurd z (by decide), fun _ => ?_⟩) (fun n => absurd he.2 n))
        rw [nI_1]
        refine zPd (d := d + 54) (by omega) (K1 rfl G3 z1 (fun j hj => ?_) (fun j hj => ?_))
        · rw [z2, z_upN _ (by omega), y2 j hj, f2]
        · rw [z2, z_upN _ (by omega)]
          exact y3 j hj
      · intro X d T g G A hT hB hF h26 K1 K0
        refine b164_7 ⟨fun _ => ?_, fun n => absurd l3 n⟩
        refine zPd (d := d + 2 + 2) (by omega) (cm153 hq (zBM_T hB hF) h26 ?_)
        intro G1 f1 f2 f3 f4
        refine cm155 (c := p) (by omega) f4 (zsw (fun n => absurd hk n) (fun _ => ?_))
        have F1 : zFr mT g G1 := fun c j z => by
          rw [f1 c j (by omega)]
          exact hF c j z
        refine zPd (d := d + 2 + 2) (by omega) (cm153 hn (zBM_T hB F1) f3 ?_)
        intro G2 y1 y2 y3 y4
        have F2 : zFr mT g G2 := fun c j z => by
          rw [y1 c j (by omega)]
          exact F1 c j z
        rw [show (3 : Int32) = nI 3 from rfl, pk_mul, nI_add]
        refine cm_E (zBM_T hB F2) hn (by omega) y2 y3 y4 res st md (fun _ _ G3 z1 => ⟨fun z => absurd z (by decide), fun _ => ?_⟩) (fun n => absurd he n)
        rw [nI_1]
        obtain ⟨h1, h2, h3, h4, h5, h6, h7, h8, h9, h10, h11, h12⟩ := z1
        refine K1 rfl _ (zFr_up (fun c j z => ?_) (Or.inr rfl)) h3 (upd_S _ _ _) h11 (fun j hj => ?_) (fun j hj => ?_)
        · rw [h1 c j (by omega)]
          exact F2 c j z
        · show G3 101 j = _
          rw [h12 j hj, y1 101 j (by omega), f1 101 j (by omega)]
        · show upd (G3 102) (3 * T + p) (nI L.length) j = _
          rw [upd_N _ _ hj, h1 102 j (by omega), y1 102 j (by omega), f1 102 j (by omega)]
    · refine ⟨false, q2, [], res1, fun e => (by cases e), ?_, ?_⟩
      · intro X d S t k g G A hS ht hB hkq h K1 K0
        have ht3 := zTL_ge ht
        refine zPd (d := d + 53 + 1) (by omega) (e61_11 hS ht ⟨fun _ => ?_, fun n => absurd l3 n⟩)
        rw [e260]
        refine zPd (d := d + 46 + 7) (by omega) (cx51 (u := 260 + p) (by omega) hS ht hB hq h (fun _ G1 f1 f2 => ⟨fun z => absurd z (by decide), fun _ => ?_⟩) (fun n => absurd hk n))
        refine cl X d S t k g G1 _ hS ht hB (by omega) f1 (fun e G2 y1 y2 y3 => ⟨fun z => absurd z (by decide), fun _ => ?_⟩) (fun e G2 k' y1 => ⟨fun _ => K0 rfl G2 (zFr_wk y1.1 (fun _ _ => Or.inl)) y1.2.1, fun z => absurd rfl z⟩)
        rw [nI_clamp (show p < 2 ^ 31 by omega), y1.2.2.2.2.2]
        refine ⟨vp_in_nI hp (by decide), ?_⟩
        have hz : zSX B s t (z_up g (t + 2) p (nI (k + L.length))) q2 (k + L.length) (z_up G2 (t + 2) p (nI (k + L.length))) := by
          obtain ⟨h1, h2, h3, h4, h5, h6⟩ := y1
          refine ⟨zFr_both h1, ?_, ?_, ?_, ?_, ?_⟩
          · rw [z_upN _ (by omega)]; exact h2
          · rw [z_upN _ (by omega)]; exact h3
          · rw [z_upN _ (by omega)]; exact h4
          · rw [z_upN _ (by omega)]; exact h5
          · rw [z_upN _ (by omega)]; exact h6
        refine zPd (d := d + 46 + 7) (by omega) (cx51 (u := 59) (by decide) hS ht (zBX_up ht hB) res1 hz (fun y => absurd ⟨e, y⟩ he) (fun _ => ⟨fun _ => K0 rfl _ ?_ hz.2.1, fun z => absurd rfl z⟩))
        exact zFr_up (zFr_wk y1.1 (fun _ _ => Or.inl)) (Or.inr rfl)
      · intro X d T g G A hT hB hF h26 K1 K0
        refine b164_7 ⟨fun _ => ?_, fun n => absurd l3 n⟩
        refine zPd (d := d + 2 + 2) (by omega) (cm153 hq (zBM_T hB hF) h26 ?_)
        intro G1 f1 f2 f3 f4
        refine cm155 (c := p) (by omega) f4 (zsw (fun n => absurd hk n) (fun _ => ?_))
        have F1 : zFr mT g G1 := fun c j z => by
          rw [f1 c j (by omega)]
          exact hF c j z
        refine zPd (d := d + 2 + 2) (by omega) (cm153 hn (zBM_T hB F1) f3 ?_)
        intro G2 y1 y2 y3 y4
        have F2 : zFr mT g G2 := fun c j z => by
          rw [y1 c j (by omega)]
          exact F1 c j z
        rw [show (3 : Int32) = nI 3 from rfl, pk_mul, nI_add]
        refine cm_E (zBM_T hB F2) hn (by omega) y2 y3 y4 res st md (fun a b => absurd ⟨a, b⟩ he) (fun _ G3 W' E' z1 => ⟨fun _ => ?_, fun z => absurd rfl z⟩)
        rw [z1.2.1]
        refine K0 rfl G3 (fun c j z => ?_) (fun j hj => ?_) (fun j hj => ?_)
        · rw [z1.1 c j (by omega)]
          exact F2 c j z
        · rw [z1.2.2.2.2.2.2.2.2.2.2.2 j hj, y1 101 j (by omega), f1 101 j (by omega)]
        · rw [z1.1 102 j (by omega), y1 102 j (by omega), f1 102 j (by omega)]
  · refine ⟨false, q, [], hq, fun e => (by cases e), ?_, ?_⟩
    · intro X d S t k g G A hS ht hB hkq h K1 K0
      refine zPd (d := d + 53 + 1) (by omega) (e61_11 hS ht ⟨fun _ => ?_, fun n => absurd l3 n⟩)
      rw [e260]
      exact zPd (d := d + 46 + 7) (by omega) (cx51 (u := 260 + p) (by omega) hS ht hB hq h (fun y => absurd y hk) (fun _ => ⟨fun _ => K0 rfl G (zFr_wk h.1 (fun _ _ => Or.inl)) h.2.1, fun z => absurd rfl z⟩))
    · intro X d T g G A hT hB hF h26 K1 K0
      refine b164_7 ⟨fun _ => ?_, fun n => absurd l3 n⟩
      refine zPd (d := d + 2 + 2) (by omega) (cm153 hq (zBM_T hB hF) h26 ?_)
      intro G1 f1 f2 f3 f4
      refine cm155 (c := p) (by omega) f4 (zsw (fun _ => ?_) (fun y => absurd y hk))
      rw [f2]
      refine K0 rfl G1 (fun c j z => ?_) (fun j _ => f1 101 j (by omega)) (fun j _ => f1 102 j (by omega))
      rw [f1 c j (by omega)]
      exact hF c j z
def zCd (f en : Nat → Int32) : Nat → Nat → List (List Nat) → Prop
  | _, _, [] => True
  | p, k, L :: R => (∀ j, j < L.length → f (k + j) = z_xc (L.getD j 0)) ∧ en p = nI (k + L.length) ∧ zCd f en (p + 1) (k + L.length) R
def zMd (co cm : Nat → Int32) : Nat → List (List Nat) → Prop
  | _, [] => True
  | row, L :: R => cm row = nI L.length ∧ (∀ j, j < L.length → co (160 * row + j) = z_mc (L.getD j 0)) ∧ zMd co cm (row + 1) R
def zSum : List (List Nat) → Nat
  | [] => 0
  | L :: R => L.length + zSum R
theorem t_tail (hs : s ≤ 160) : ∀ (n p q : Nat), p + n = 3 → q ≤ s → ∃ (ok : Bool) (pl : Nat) (Ls : List (List Nat)), pl ≤ 160 ∧ (ok = true → Ls.length = n ∧ q + zSum Ls ≤ s ∧ ∀ L, L ∈ Ls → zW L) ∧
    (∀ (X : Option (List Int32)) (d : Nat) (S : zS) (t k : Nat) (g G : zH) (A : Int32 → zH → Prop), zCS S → zTL t → zBX B s g → k ≤ q → zSX B s t g q k G → (ok = true → ∀ G', zFr (mY t) g G' → (∀ j, j < k → G' (t + 1) j = G (t + 1) j) → (∀ j, j < p → G' (t + 2) j = G (t + 2) j) → zCd (G' (t + 1)) (G' (t + 2)) p k Ls → A 1 G') → (ok = false → ∀ G', zFr (mY t) g G' → G' 18 2 = nI pl → A 0 G') → zP X (d + 54) 61 11 [some (.ref t), some (.ref 18), some (.int (nI p))] [] S G (zI A)) ∧
    (∀ (X : Option (List Int32)) (d T : Nat) (g G : zH) (A : Int32 → zH → Prop), T < 6 → zBM B s g → zFr mT g G → G 82 26 = nI q → (ok = true → ∀ G', zFr mT g G' → zMd (G' 101) (G' 102) (3 * T + p) Ls → (∀ j, j < 160 * (3 * T + p) → G' 101 j = G 101 j) → (∀ j, j < 3 * T + p → G' 102 j = G 102 j) → A (-1) G') → (ok = false → ∀ G', zFr mT g G' → (∀ j, j < 160 * (3 * T + p) → G' 101 j = G 101 j) → (∀ j, j < 3 * T + p → G' 102 j = G 102 j) → A (nI pl) G') → zP X (d + 5) 164 7 [some (.ref 82), some (.int (nI T)), some (.int (nI p))] [] z_S0 G (zI A))
  | 0, p, q, hp, hq => by
    have e : p = 3 := by omega
    subst e
    have hok := lx_t_ok B s q
    have hsl := lx_s_le B hq
    have E1 : nI (lx_t B s q) = 256 ↔ lx_t B s q = 256 := nI_eq (b := 256) (by omega) (by decide)
    refine ⟨decide (lx_t B s q = 256), lx_s B s q, [], by omega, fun _ => ⟨rfl, hq, fun L hL => absurd hL List.not_mem_nil⟩, ?_, ?_⟩
    · intro X d S t k g G A hS ht hB hkq h K1 K0
      refine zPd (d := d + 53 + 1) (by omega) (e61_11 hS ht ⟨fun z => absurd z (by decide), fun _ => ?_⟩)
      rw [h.2.2.2.1, E1]
      exact ⟨fun y => K1 (decide_eq_true y) G (zFr_wk h.1 (fun _ _ => Or.inl)) (fun _ _ => rfl) (fun _ _ => rfl) trivial, fun y => K0 (decide_eq_false y) G (zFr_wk h.1 (fun _ _ => Or.inl)) h.2.1⟩
    · intro X d T g G A hT hB hF h26 K1 K0
      refine b164_7 ⟨fun z => absurd z (by decide), fun _ => ?_⟩
      refine zPd (d := d + 2 + 2) (by omega) (cm153 hq (zBM_T hB hF) h26 ?_)
      intro G1 f1 f2 f3 f4
      have F1 : zFr mT g G1 := fun c j z => by
        rw [f1 c j (by omega)]
        exact hF c j z
      have e0 : G1 82 27 = 0 ↔ lx_t B s q = 256 := by
        rcases zTkc f4 with ⟨r, t1, t2⟩ | ⟨r, t1⟩ | ⟨r, t1⟩ | ⟨r, t1, t2⟩ | ⟨r, r2, t1, t2⟩ | ⟨r, r2, t1, t2⟩
        · rw [t1]; exact ⟨fun z => absurd z (by decide), fun z => by omega⟩
        · rw [t1]; exact ⟨fun _ => r, fun _ => rfl⟩
        · rw [t1]; exact ⟨fun z => absurd z (by decide), fun z => by omega⟩
        · rw [t1]; exact ⟨fun z => absurd z (by decide), fun z => by omega⟩
        · rw [t1]; exact ⟨fun z => absurd z (by decide), fun z => by omega⟩
        · rw [t1]; exact ⟨fun z => absurd z (by decide), fun z => by omega⟩
      rw [e0, f2]
      exact ⟨fun y => K1 (decide_eq_true y) G1 F1 trivial (fun j _ => f1 101 j (by omega)) (fun j _ => f1 102 j (by omega)), fun y => K0 (decide_eq_false y) G1 F1 (fun j _ => f1 101 j (by omega)) (fun j _ => f1 102 j (by omega))⟩
  | n + 1, p, q, hp, hq => by
    obtain ⟨ok1, q1, L, r1, r2, cl1, md1⟩ := t_part (B := B) hs hq (show p < 3 by omega)
    cases eok : ok1 with
    | false =>
      have hsl := lx_s_le B r1
      refine ⟨false, lx_s B s q1, [], by omega, fun e => (by cases e), ?_, ?_⟩
      · intro X d S t k g G A hS ht hB hkq h K1 K0
        exact cl1 X d S t k g G A hS ht hB hkq h (fun e => by rw [eok] at e; cases e) (fun _ => K0 rfl)
      · intro X d T g G A hT hB hF h26 K1 K0
        exact md1 X d T g G A hT hB hF h26 (fun e => by rw [eok] at e; cases e) (fun _ G' a b c => K0 rfl G' a b (fun j hj => c j (by omega)))
    | true =>
      obtain ⟨w1, w2⟩ := r2 eok
      obtain ⟨ok, pl, Ls, a1, a2, a3, a4⟩ := t_tail hs n (p + 1) q1 (by omega) r1
      refine ⟨ok, pl, L :: Ls, a1, fun e => ?_, ?_, ?_⟩
      · obtain ⟨b1, b2, b3⟩ := a2 e
        refine ⟨by rw [List.length_cons, b1], by rw [zSum]; omega, fun M hM => ?_⟩
        rcases List.mem_cons.mp hM with z | z
        · rw [z]; exact w2
        · exact b3 M z
      · intro X d S t k g G A hS ht hB hkq h K1 K0
        have ht3 := zTL_ge ht
        refine cl1 X d S t k g G A hS ht hB hkq h (fun _ G1 y1 y2 y3 => ?_) (fun e => by rw [eok] at e; cases e)
        have wk : ∀ G', zFr (mY t) (z_up g (t + 2) p (nI (k + L.length))) G' → zFr (mY t) g G' := fun G' f c j z => by
          rw [f c j z, z_upN _ (by omega)]
        have e2 : ∀ j, G1 (t + 2) j = upd (g (t + 2)) p (nI (k + L.length)) j := fun j => by
          rw [y1.1 (t + 2) j (by omega), z_upS]
        refine a3 X d S t (k + L.length) _ G1 A hS ht (zBX_up ht hB) (by omega) y1 (fun e G' f1 f2 f3 f4 => ?_) (fun e G' f1 f2 => K0 e G' (wk G' f1) f2)
        refine K1 e G' (wk G' f1) (fun j hj => by rw [f2 j (by omega), y2 j hj]) (fun j hj => ?_) ⟨fun j hj => by rw [f2 (k + j) (by omega)]; exact y3 j hj, ?_, f4⟩
        · rw [f3 j (by omega), e2, upd_N _ _ (by omega), h.1 (t + 2) j (by omega)]
        · rw [f3 p (by omega), e2, upd_S]
      · intro X d T g G A hT hB hF h26 K1 K0
        refine md1 X d T g G A hT hB hF h26 (fun _ G1 y1 y2 y3 y4 y5 y6 => ?_) (fun e => by rw [eok] at e; cases e)
        refine a4 X d T g G1 A hT hB y1 y2 (fun e G' f1 f2 f3 f4 => ?_) (fun e G' f1 f2 f3 => ?_)
        · refine K1 e G' f1 ⟨?_, fun j hj => ?_, f2⟩ (fun j hj => by rw [f3 j (by omega), y5 j hj]) (fun j hj => by rw [f4 j (by omega), y6 j (by omega)])
          · rw [f4 _ (by omega)]
            exact y3
          · rw [f3 _ (by omega)]
            exact y4 j hj
        · exact K0 e G' f1 (fun j hj => by rw [f2 j (by omega), y5 j hj]) (fun j hj => by rw [f3 j (by omega), y6 j (by omega)])
/-- a whole text: what the class reads, what the reference reads -/
theorem t_text (hs : s ≤ 160) : ∃ (ok : Bool) (pl : Nat) (Ls : List (List Nat)), pl ≤ 160 ∧ (ok = true → Ls.length = 3 ∧ zSum Ls ≤ s ∧ ∀ L, L ∈ Ls → zW L) ∧
    (∀ (X : Option (List Int32)) (d : Nat) (S : zS) (t : Nat) (G : zH) (A : Int32 → zH → Prop), zCS S → zTL t → zBX B s G → (ok = true → ∀ G', zFr (mY t) G G' → zCd (G' (t + 1)) (G' (t + 2)) 0 0 Ls → A 1 G') → (ok = false → ∀ G', zFr (mY t) G G' → G' 18 2 = nI pl → A 0 G') → zP X (d + 54) 61 0 (z_ent [.ref t, .ref 18] 3) [] S G (zI A)) ∧
    (∀ (X : Option (List Int32)) (d T : Nat) (G : zH) (A : Int32 → zH → Prop), T < 6 → zBM B s G → (ok = true → ∀ G', zFr mT G G' → zMd (G' 101) (G' 102) (3 * T) Ls → (∀ j, j < 160 * (3 * T) → G' 101 j = G 101 j) → (∀ j, j < 3 * T → G' 102 j = G 102 j) → A (-1) G') → (ok = false → ∀ G', zFr mT G G' → (∀ j, j < 160 * (3 * T) → G' 101 j = G 101 j) → (∀ j, j < 3 * T → G' 102 j = G 102 j) → A (nI pl) G') → zP X (d + 5) 164 0 (z_ent [.ref 82, .int (nI T)] 3) [] z_S0 G (zI A)) := by
  obtain ⟨ok, pl, Ls, a1, a2, a3, a4⟩ := t_tail (B := B) hs 3 0 0 rfl (Nat.zero_le _)
  refine ⟨ok, pl, Ls, a1, fun e => ⟨(a2 e).1, by have := (a2 e).2.1; omega, (a2 e).2.2⟩, ?_, ?_⟩
  · intro X d S t G A hS ht hB K1 K0
    have ht3 := zTL_ge ht
    refine zPd (d := d + 53 + 1) (by omega) (e61 hS ht (e50 hS ?_))
    have fr0 : zFr (mX t) G (z_up (z_up G t 2 0) 18 3 0) := zFr_up (zFr_up (zFr_rf _ G) (Or.inr (Or.inl ⟨rfl, rfl⟩))) (Or.inl ⟨rfl, by decide⟩)
    refine zPd (d := d + 46 + 6) (by omega) (cc52 hS (Nat.zero_le _) (zBX_X ht hB fr0) rfl ?_)
    intro G1 f1 f2 f3 f4 f5
    refine zPd (d := d + 54) (by omega) (a3 X d S t 0 G G1 A hS ht hB (Nat.le_refl _) ⟨fun c j z => ?_, f2, f3, f4, f5, ?_⟩ (fun e G' y1 y2 y3 y4 => K1 e G' y1 y4) K0)
    · rw [f1 c j (by omega)]
      exact fr0 c j z
    · rw [f1 t 2 (by omega), z_upN _ (by omega), z_upS, upd_S]
      rfl
  · intro X d T G A hT hB K1 K0
    refine b164 ?_
    have fr0 : zFr mT G (z_up G 82 26 0) := zFr_up (zFr_rf _ G) (Or.inl (Or.inr (Or.inr (Or.inr ⟨rfl, by decide⟩))))
    exact a4 X d T G (z_up G 82 26 0) A hT hB fr0 rfl (fun e G' y1 y2 y3 y4 => K1 e G' y1 y2 y3 y4) (fun e G' y1 y2 y3 => K0 e G' y1 y2 y3)
end ZTX

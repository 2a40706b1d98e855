/-! the reference's reader -/
theorem sx_le : ∀ b, b < 256 → ((sx b < 97 → ¬ lx_le b) ∧ (122 < sx b → ¬ lx_le b) ∧ (¬ sx b < 97 → ¬ 122 < sx b → lx_le b)) := by decide +kernel
theorem sx_dg : ∀ b, b < 256 → ((sx b < 48 → ¬ lx_dg b) ∧ (57 < sx b → ¬ lx_dg b) ∧ (¬ sx b < 48 → ¬ 57 < sx b → lx_dg b)) := by decide +kernel
theorem sx_lo : ∀ b, b < 128 → sx b = nI b := by decide +kernel
theorem sx_hi : ∀ b, b < 256 → 128 ≤ b → sx b < 0 := by decide +kernel
theorem sx_eq {b c : Nat} (hb : b < 256) (hc : c < 128) : sx b = nI c ↔ b = c := by
  by_cases q : b < 128
  · rw [sx_lo b q]
    exact nI_eq (by omega) (by omega)
  · constructor
    · intro e
      have := sx_hi b hb (by omega)
      rw [e] at this
      exact absurd this (nI_pos (by omega))
    · intro e
      omega
theorem lx_bw_ok : ∀ w, w < 12 → lx_bw w ≤ lx_bw (w + 1) ∧ lx_bw (w + 1) ≤ 46 ∧ (lx_wd w).length = lx_bw (w + 1) - lx_bw w ∧ ∀ k, k < (lx_wd w).length → ([119, 101, 105, 103, 104, 116, 100, 97, 121, 119, 101, 116, 107, 105, 110, 100, 109, 105, 115, 115, 101, 100, 112, 114, 105, 99, 101, 112, 97, 121, 102, 105, 110, 101, 102, 105, 110, 100, 111, 114, 97, 110, 100, 110, 111, 116] : List Int32).getD (lx_bw w + k) 0 = nI ((lx_wd w).getD k 0) ∧ (lx_wd w).getD k 0 < 128 := by decide +kernel
theorem lx_bw_I : ∀ w, w < 13 → ([0, 6, 9, 12, 16, 22, 27, 30, 34, 38, 40, 43, 46] : List Int32).getD w 0 = nI (lx_bw w) := by decide +kernel
def zTk (t v : Nat) (G : zH) : Prop := (t < 256 → G 82 27 = 3 ∧ G 82 28 = nI t) ∧ (t = 256 → G 82 27 = 0) ∧ (t = 257 → G 82 27 = 5) ∧ (t = 258 → G 82 27 = 1 ∧ G 82 28 = nI v) ∧ (260 ≤ t → t < 266 → G 82 27 = 4 ∧ G 82 28 = nI (t - 260)) ∧ (270 ≤ t → G 82 27 = 2 ∧ G 82 28 = nI (t - 270))
section ZLM
variable {X : Option (List Int32)} {d : Nat} {B : Nat → Nat} {s : Nat}
theorem cm149 {A : Int32 → zH → Prop} {G : zH} {p : Nat} (hB : zBM B s G) (hp : p ≤ s) (k : A (zb (p < s ∧ lx_le (B p))) G) : zP X d 149 0 (z_ent [.ref 82, .int (nI p)] 2) [] z_S0 G (zI A) := by
  have hs := hB.1
  refine b149 ⟨fun g => ?_, fun g => ?_⟩
  · rw [hB.2.1, nI_ltI (by omega) (by omega)] at g
    obtain ⟨b1, b2⟩ := hB.2.2.1 p g
    obtain ⟨x1, x2, x3⟩ := sx_le (B p) b1
    have ib : z_ib (nI p) 160 := vp_in_nI (by omega) (by decide)
    rw [nI_clamp (show p < 2 ^ 31 by omega), b2]
    refine ⟨ib, fun g1 => ?_, fun g1 => ⟨ib, fun g2 => ?_, fun g2 => ?_⟩⟩
    · rw [zb_f (fun q => x1 g1 q.2)] at k; exact k
    · rw [zb_f (fun q => x2 g2 q.2)] at k; exact k
    · rw [zb_t ⟨g, x3 g1 g2⟩] at k; exact k
  · rw [hB.2.1, nI_ltI (by omega) (by omega)] at g
    rw [zb_f (fun q => g q.1)] at k; exact k
theorem cm150 {A : Int32 → zH → Prop} {G : zH} {p : Nat} (hB : zBM B s G) (hp : p ≤ s) (k : A (zb (p < s ∧ lx_dg (B p))) G) : zP X d 150 0 (z_ent [.ref 82, .int (nI p)] 2) [] z_S0 G (zI A) := by
  have hs := hB.1
  refine b150 ⟨fun g => ?_, fun g => ?_⟩
  · rw [hB.2.1, nI_ltI (by omega) (by omega)] at g
    obtain ⟨b1, b2⟩ := hB.2.2.1 p g
    obtain ⟨x1, x2, x3⟩ := sx_dg (B p) b1
    have ib : z_ib (nI p) 160 := vp_in_nI (by omega) (by decide)
    rw [nI_clamp (show p < 2 ^ 31 by omega), b2]
    refine ⟨ib, fun g1 => ?_, fun g1 => ⟨ib, fun g2 => ?_, fun g2 => ?_⟩⟩
    · rw [zb_f (fun q => x1 g1 q.2)] at k; exact k
    · rw [zb_f (fun q => x2 g2 q.2)] at k; exact k
    · rw [zb_t ⟨g, x3 g1 g2⟩] at k; exact k
  · rw [hB.2.1, nI_ltI (by omega) (by omega)] at g
    rw [zb_f (fun q => g q.1)] at k; exact k
def zWo (r : Nat) (G : zH) : Prop := (r < 6 → G 82 27 = 2 ∧ G 82 28 = nI r) ∧ (6 ≤ r → r < 12 → G 82 27 = 4 ∧ G 82 28 = nI (r - 6)) ∧ (r = 12 → G 82 27 = 5)
theorem cm151_75 {A : zH → Prop} {G : zH} {a e w : Nat} (hB : zBM B s G) (hw : w < 12) (ha : G 82 29 = nI a) (hae : a ≤ e) (hes : e ≤ s) (K : zP X (d + 1) 151 126 [some (.ref 82), some (.int (nI w)), none, some (.int (zb (lx_mt B a e (lx_wd w)))), none] [] z_S0 G (zV A)) : ∀ (m j : Nat) (f : Int32), j + m = (lx_wd w).length → (¬ f = 0 → (lx_wd w).length = e - a ∧ ∀ i, i < j → B (a + i) = (lx_wd w).getD i 0) → (f = 0 → ¬ lx_mt B a e (lx_wd w)) → (f = 0 ∨ f = 1) → zP X (d + 1) 151 75 [some (.ref 82), some (.int (nI w)), some (.int (nI (lx_wd w).length)), some (.int f), some (.int (nI j))] [] z_S0 G (zV A) := by
  have hs := hB.1
  obtain ⟨w1, w2, w3, w4⟩ := lx_bw_ok w hw
  have hb1 : G 104 w = nI (lx_bw w) := by rw [hB.2.2.2.2 w (by omega), lx_bw_I w (by omega)]
  have zero : ∀ (f : Int32), f = 0 → ¬ lx_mt B a e (lx_wd w) → zP X (d + 1) 151 126 [some (.ref 82), some (.int (nI w)), none, some (.int f), none] [] z_S0 G (zV A) := by
    intro f h0 h1
    rw [zb_f h1] at K
    rw [h0]
    exact K
  intro m
  induction m with
  | zero =>
    intro j f hj h1 h2 h01
    refine b151_75 ⟨fun g => ?_, fun _ => ?_⟩
    · rw [nI_ltI (by omega) (by omega)] at g
      omega
    · by_cases q : f = 0
      · exact zero f q (h2 q)
      · obtain ⟨x1, x2⟩ := h1 q
        rw [zb_t ⟨x1, fun i hi => x2 i (by omega)⟩] at K
        rw [h01.resolve_left q]
        exact K
  | succ m ih =>
    intro j f hj h1 h2 h01
    refine b151_75 ⟨fun _ => ⟨fun g => zero f g (h2 g), fun g => ?_⟩, fun g => ?_⟩
    · obtain ⟨x1, x2⟩ := h1 g
      obtain ⟨b1, b2⟩ := hB.2.2.1 (a + j) (by omega)
      obtain ⟨t1, t2⟩ := w4 j (by omega)
      have hl : G 103 (lx_bw w + j) = nI ((lx_wd w).getD j 0) := by rw [hB.2.2.2.1 (lx_bw w + j) (by omega), t1]
      rw [ha, nI_add, nI_clamp (show a + j < 2 ^ 31 by omega), b2, nI_clamp (show w < 2 ^ 31 by omega), hb1, nI_add, nI_clamp (show lx_bw w + j < 2 ^ 31 by omega), hl, sx_eq b1 t2]
      refine ⟨vp_in_nI (by omega) (by decide), vp_in_nI (by omega) (by decide), vp_in_nI (by omega) (by decide), fun g2 => b151_119 ?_, fun g2 => b151_119 ?_⟩
      · rw [nI_1]
        refine ih (j + 1) 1 (by omega) (fun _ => ⟨x1, fun i hi => ?_⟩) (fun q => absurd q (by decide)) (Or.inr rfl)
        by_cases q : i = j
        · rw [q]; exact g2
        · exact x2 i (by omega)
      · rw [nI_1]
        refine ih (j + 1) 0 (by omega) (fun q => absurd rfl q) (fun _ q => g2 (q.2 j (by omega))) (Or.inl rfl)
    · exact absurd (nI_lt (by omega) (by omega)) g
theorem cm151_31 {A : zH → Prop} {a e : Nat} (hae : a ≤ e) (hes : e ≤ s) : ∀ (m w r : Nat) (G : zH), w + m = 12 → zBM B s G → G 82 29 = nI a → G 82 26 = nI e → zWo r G → (∀ G', zFr m82 G G' → G' 82 29 = nI a → G' 82 26 = nI e → zWo (lx_fw B a e m w r) G' → A G') → zP X (d + 1) 151 31 [some (.ref 82), some (.int (nI w)), none, none, none] [] z_S0 G (zV A)
  | 0, w, r, G, hw, hB, ha, he, hr, K => by
    refine b151_31 ⟨fun g => ?_, fun _ => K G (zFr_rf _ _) ha he hr⟩
    rw [show (12 : Int32) = nI 12 from rfl, nI_ltI (by omega) (by decide)] at g
    omega
  | m + 1, w, r, G, hw, hB, ha, he, hr, K => by
    have hs := hB.1
    obtain ⟨w1, w2, w3, w4⟩ := lx_bw_ok w (by omega)
    have hb1 : G 104 w = nI (lx_bw w) := by rw [hB.2.2.2.2 w (by omega), lx_bw_I w (by omega)]
    have hb2 : G 104 (w + 1) = nI (lx_bw (w + 1)) := by rw [hB.2.2.2.2 (w + 1) (by omega), lx_bw_I (w + 1) (by omega)]
    have go : ∀ (r' : Nat) (G1 : zH), zFr m82 G G1 → G1 82 29 = nI a → G1 82 26 = nI e → zWo r' G1 → r' = (if lx_mt B a e (lx_wd w) then w else r) → zP X (d + 1) 151 163 [some (.ref 82), some (.int (nI w)), none, none, none] [] z_S0 G1 (zV A) := by
      intro r' G1 f1 f2 f3 f4 hr'
      refine b151_163 ?_
      rw [nI_1]
      refine cm151_31 hae hes m (w + 1) r' G1 (by omega) (zBM_fr hB f1) f2 f3 f4 ?_
      intro G' y1 y2 y3 y4
      refine K G' (zFr_tr f1 y1) y2 y3 ?_
      rw [lx_fw, ← hr']
      exact y4
    have key : zP X (d + 1) 151 126 [some (.ref 82), some (.int (nI w)), none, some (.int (zb (lx_mt B a e (lx_wd w)))), none] [] z_S0 G (zV A) := by
      refine b151_126 (zsw (fun g => go r G (zFr_rf _ _) ha he hr (by rw [if_neg g])) (fun g => ?_))
      have l6 : nI w < 6 ↔ w < 6 := nI_ltI (b := 6) (by omega) (by decide)
      refine ⟨fun g2 => b151_142 ⟨fun _ => b151_160 ?_, fun q => absurd g2 q⟩, fun g2 => b151_142 ⟨fun q => absurd q g2, fun _ => b151_160 ?_⟩⟩
      · refine go w _ (zFr_up (zFr_up (zFr_rf m82 G) ⟨rfl, by decide⟩) ⟨rfl, by decide⟩) ha he ⟨fun _ => ⟨rfl, rfl⟩, fun q => ?_, fun q => ?_⟩ (by rw [if_pos g])
        · have := l6.mp g2; omega
        · omega
      · refine go w _ (zFr_up (zFr_up (zFr_rf m82 G) ⟨rfl, by decide⟩) ⟨rfl, by decide⟩) ha he ⟨fun q => absurd (l6.mpr q) g2, fun q _ => ⟨rfl, ?_⟩, fun q => ?_⟩ (by rw [if_pos g])
        · show nI w - 6 = nI (w - 6)
          exact z_sbm (m := 6) q
        · omega
    refine b151_31 ⟨fun _ => ?_, fun g => ?_⟩
    · rw [nI_1, nI_clamp (show w + 1 < 2 ^ 31 by omega), nI_clamp (show w < 2 ^ 31 by omega), hb1, hb2, he, ha, z_sbm w1, z_sbm hae, ← w3]
      have el : nI (lx_wd w).length = nI (e - a) ↔ (lx_wd w).length = e - a := nI_eq (by omega) (by omega)
      refine ⟨vp_in_nI (by omega) (by decide), vp_in_nI (by omega) (by decide), fun g => b151_71 ?_, fun g => b151_71 ?_⟩
      · exact cm151_75 hB (by omega) ha hae hes key (lx_wd w).length 0 1 (by omega) (fun _ => ⟨el.mp g, fun i hi => absurd hi (Nat.not_lt_zero i)⟩) (fun q => absurd q (by decide)) (Or.inr rfl)
      · exact cm151_75 hB (by omega) ha hae hes key (lx_wd w).length 0 0 (by omega) (fun q => absurd rfl q) (fun _ q => g (el.mpr q.1)) (Or.inl rfl)
    · refine absurd ?_ g
      rw [show (12 : Int32) = nI 12 from rfl, nI_ltI (by omega) (by decide)]
      omega
theorem cm151_0 {A : zH → Prop} {a : Nat} : ∀ (m p : Nat) (G : zH), p + m = s → a ≤ p → zBM B s G → G 82 29 = nI a → G 82 26 = nI p → (∀ G', zFr m82 G G' → G' 82 29 = nI a → G' 82 26 = nI (lx_w lx_L B m p) → zWo (lx_wi B a (lx_w lx_L B m p)) G' → A G') → zP X (d + 1) 151 0 [some (.ref 82), none, none, none, none] [] z_S0 G (zV A)
  | 0, p, G, hp, hap, hB, ha, he, K => by
    refine b151_0 ?_
    rw [he]
    refine cm149 hB (by omega) (zsw (fun _ => ?_) (fun g => by omega))
    refine cm151_31 (a := a) (e := p) hap (by omega) 12 0 12 _ (by omega) (zBM_fr hB (zFr_up (zFr_rf m82 G) ⟨rfl, by decide⟩)) ha he ⟨fun q => by omega, fun _ q => by omega, fun _ => rfl⟩ ?_
    intro G' f1 f2 f3 f4
    exact K G' (zFr_tr (zFr_up (zFr_rf m82 G) ⟨rfl, by decide⟩) f1) f2 f3 f4
  | m + 1, p, G, hp, hap, hB, ha, he, K => by
    refine b151_0 ?_
    rw [he]
    refine cm149 hB (by omega) (zsw (fun g => ?_) (fun g => ?_))
    · have g : ¬ lx_le (B p) := fun q => g ⟨by omega, q⟩
      rw [lx_w, if_neg (lx_Lf g)] at K
      refine cm151_31 (a := a) (e := p) hap (by omega) 12 0 12 _ (by omega) (zBM_fr hB (zFr_up (zFr_rf m82 G) ⟨rfl, by decide⟩)) ha he ⟨fun q => by omega, fun _ q => by omega, fun _ => rfl⟩ ?_
      intro G' f1 f2 f3 f4
      exact K G' (zFr_tr (zFr_up (zFr_rf m82 G) ⟨rfl, by decide⟩) f1) f2 f3 f4
    · rw [lx_w, if_pos (lx_Lt g.2)] at K
      rw [he, nI_1]
      have fr : zFr m82 G (z_up G 82 26 (nI (p + 1))) := zFr_up (zFr_rf m82 G) ⟨rfl, by decide⟩
      refine cm151_0 (a := a) m (p + 1) _ (by omega) (by omega) (zBM_fr hB fr) ha rfl ?_
      intro G' f1 f2 f3 f4
      exact K G' (zFr_tr fr f1) f2 f3 f4
theorem cm152_5 {A : zH → Prop} {a : Nat} : ∀ (m p : Nat) (G : zH), p + m = s → a ≤ p → zBM B s G → G 82 29 = nI a → G 82 26 = nI p → G 82 28 = nI (lx_num B a (min 4 (p - a))) → (∀ G', zFr m82 G G' → G' 82 29 = nI a → G' 82 26 = nI (lx_w lx_D B m p) → G' 82 28 = nI (lx_num B a (min 4 (lx_w lx_D B m p - a))) → (4 < lx_w lx_D B m p - a → G' 82 27 = 5) → (¬ 4 < lx_w lx_D B m p - a → G' 82 27 = 1) → A G') → zP X (d + 1) 152 5 [some (.ref 82)] [] z_S0 G (zV A) := by
  intro m
  induction m with
  | zero =>
    intro p G hp hap hB ha he hv K
    have hs := hB.1
    refine b152_5 ?_
    rw [he]
    refine cm150 hB (by omega) (zsw (fun _ => ?_) (fun g => by omega))
    rw [he, ha, z_sbm hap, show (4 : Int32) = nI 4 from rfl, nI_ltI (by decide) (by omega)]
    have fr : ∀ v, zFr m82 G (z_up G 82 27 v) := fun v => zFr_up (zFr_rf m82 G) ⟨rfl, by decide⟩
    exact ⟨fun g => K _ (fr 5) ha he hv (fun _ => rfl) (fun q => absurd g q), fun g => K _ (fr 1) ha he hv (fun q => absurd q g) (fun _ => rfl)⟩
  | succ m ih =>
    intro p G hp hap hB ha he hv K
    have hs := hB.1
    refine b152_5 ?_
    rw [he]
    refine cm150 hB (by omega) (zsw (fun g => ?_) (fun g => ?_))
    · have g : ¬ lx_dg (B p) := fun q => g ⟨by omega, q⟩
      rw [lx_w, if_neg (lx_Df g)] at K
      rw [he, ha, z_sbm hap, show (4 : Int32) = nI 4 from rfl, nI_ltI (by decide) (by omega)]
      have fr : ∀ v, zFr m82 G (z_up G 82 27 v) := fun v => zFr_up (zFr_rf m82 G) ⟨rfl, by decide⟩
      exact ⟨fun g => K _ (fr 5) ha he hv (fun _ => rfl) (fun q => absurd g q), fun g => K _ (fr 1) ha he hv (fun q => absurd q g) (fun _ => rfl)⟩
    · rw [lx_w, if_pos (lx_Dt g.2)] at K
      obtain ⟨b1, b2⟩ := hB.2.2.1 p g.1
      rw [he, ha, z_sbm hap, show (4 : Int32) = nI 4 from rfl, nI_ltI (by omega) (by decide), nI_clamp (show p < 2 ^ 31 by omega), b2, sx_lo (B p) (by omega), hv]
      have go : ∀ v : Int32, v = nI (lx_num B a (min 4 (p + 1 - a))) → zP X (d + 1) 152 57 [some (.ref 82)] [.int v, .ref 82] z_S0 G (zV A) := by
        intro v hv2
        refine b152_57 ?_
        rw [he, nI_1]
        have fr : zFr m82 G (z_up (z_up G 82 28 v) 82 26 (nI (p + 1))) := zFr_up (zFr_up (zFr_rf m82 G) ⟨rfl, by decide⟩) ⟨rfl, by decide⟩
        refine ih (p + 1) _ (by omega) (by omega) (zBM_fr hB fr) ha rfl hv2 ?_
        intro G' f1 f2 f3 f4 f5 f6
        exact K G' (zFr_tr fr f1) f2 f3 f4 f5 f6
      refine ⟨fun g4 => ⟨vp_in_nI (by omega) (by decide), go _ ?_⟩, fun g4 => go _ ?_⟩
      · rw [show min 4 (p - a) = p - a by omega, show min 4 (p + 1 - a) = (p - a) + 1 by omega, lx_num, show a + (p - a) = p by omega, show (10 : Int32) = nI 10 from rfl, pk_mul, nI_add, show (48 : Int32) = nI 48 from rfl, z_sbm (by omega)]
        congr 1
        omega
      · rw [show min 4 (p - a) = min 4 (p + 1 - a) by omega]
theorem cm153_0 {A : zH → Prop} : ∀ (m p : Nat) (G : zH), p + m = s → zBM B s G → G 82 26 = nI p → zP X (d + 1) 153 52 [some (.ref 82), none] [] z_S0 (z_up G 82 26 (nI (lx_w lx_K B m p))) (zV A) → zP X (d + 1) 153 0 [some (.ref 82), none] [] z_S0 G (zV A)
  | 0, p, G, hp, hB, h2, K => by
    have hs := hB.1
    refine b153_0 ⟨fun g => ?_, fun _ => ?_⟩
    · rw [h2, hB.2.1, nI_ltI (by omega) (by omega)] at g
      omega
    · have := z_up_id G 82 26
      rw [h2] at this
      rw [lx_w, this] at K
      exact K
  | m + 1, p, G, hp, hB, h2, K => by
    have hs := hB.1
    obtain ⟨b1, b2⟩ := hB.2.2.1 p (by omega)
    have ib : z_ib (nI p) 160 := vp_in_nI (by omega) (by decide)
    have e1 : sx (B p) = 32 ↔ B p = 32 := sx_eq (c := 32) b1 (by decide)
    have e2 : sx (B p) = 10 ↔ B p = 10 := sx_eq (c := 10) b1 (by decide)
    have yes : lx_bl (B p) → zP X (d + 1) 153 39 [some (.ref 82), none] [] z_S0 G (zV A) := by
      intro g
      rw [lx_w, if_pos (lx_Kt g)] at K
      refine b153_39 ?_
      rw [h2, nI_1]
      refine cm153_0 m (p + 1) _ (by omega) (zBM_fr hB (zFr_up (zFr_rf m82 G) ⟨rfl, by decide⟩)) rfl ?_
      rw [z_up2]
      exact K
    refine b153_0 ⟨fun _ => ?_, fun g => ?_⟩
    · rw [h2, nI_clamp (show p < 2 ^ 31 by omega), b2]
      refine ⟨ib, fun g => yes (Or.inl (e1.mp g)), fun g => ⟨ib, fun g2 => yes (Or.inr (e2.mp g2)), fun g2 => ?_⟩⟩
      have := z_up_id G 82 26
      rw [h2] at this
      rw [lx_w, if_neg (lx_Kf (fun q => q.elim (fun z => g (e1.mpr z)) (fun z => g2 (e2.mpr z)))), this] at K
      exact K
    · refine absurd ?_ g
      rw [h2, hB.2.1, nI_ltI (by omega) (by omega)]
      omega
theorem cm153 {A : zH → Prop} {q : Nat} {G : zH} (hq : q ≤ s) (hB : zBM B s G) (h3 : G 82 26 = nI q) (k : ∀ G', zFr m82 G G' → G' 82 29 = nI (lx_s B s q) → G' 82 26 = nI (lx_n B s q) → zTk (lx_t B s q) (lx_v B s q) G' → A G') : zP X (d + 2) 153 0 (z_ent [.ref 82] 2) [] z_S0 G (zV A) := by
  have hs := hB.1
  have hl := lx_s_le B hq
  refine b153 (cm153_0 (s - q) q G (by omega) hB h3 ?_)
  show zP X (d + 2) 153 52 [some (.ref 82), none] [] z_S0 (z_up G 82 26 (nI (lx_s B s q))) (zV A)
  have fr0 : zFr m82 G (z_up G 82 26 (nI (lx_s B s q))) := zFr_up (zFr_rf m82 G) ⟨rfl, by decide⟩
  have e2 : (z_up G 82 26 (nI (lx_s B s q))) 82 26 = nI (lx_s B s q) := rfl
  have e1 : (z_up G 82 26 (nI (lx_s B s q))) 82 22 = nI s := hB.2.1
  unfold lx_n lx_t lx_v lx_n at k
  revert k fr0 e2 e1 hl
  generalize lx_s B s q = a
  intro k hl fr0 e2 e1
  have ea : nI a = nI s ↔ a = s := nI_eq (by omega) (by omega)
  refine b153_52 ?_
  rw [e2, e1, ea]
  have fr1 : zFr m82 G (z_up (z_up G 82 26 (nI a)) 82 29 (nI a)) := zFr_up fr0 ⟨rfl, by decide⟩
  refine ⟨fun g => ?_, fun g => ?_⟩
  · have en : lx_na B s a = a := by
      unfold lx_na
      rw [if_pos (by omega)]
    have et : lx_ta B s a = 256 := by
      unfold lx_ta
      rw [if_pos (by omega)]
    refine k _ (zFr_up fr1 ⟨rfl, by decide⟩) rfl ?_ ?_
    · rw [en]; rfl
    · rw [et]
      exact ⟨fun z => by omega, fun _ => rfl, fun z => by omega, fun z => by omega, fun z => by omega, fun z => by omega⟩
  · have g : a < s := by omega
    obtain ⟨b1, b2⟩ := hB.2.2.1 a g
    have ib : z_ib (nI a) 160 := vp_in_nI (by omega) (by decide)
    have cl : (nI a).toNatClampNeg = a := nI_clamp (by omega)
    have hB1 := zBM_fr hB fr1
    have b5 : (z_up (z_up G 82 26 (nI a)) 82 29 (nI a)) 82 26 = nI a := rfl
    have b4 : (z_up (z_up G 82 26 (nI a)) 82 29 (nI a)) 100 a = sx (B a) := b2
    have na := lx_na_le B g
    refine cm149 hB1 (by omega) (zsw (fun g1 => ?_) (fun g1 => ?_))
    · have g1 : ¬ lx_le (B a) := fun z => g1 ⟨g, z⟩
      rw [b5]
      refine cm150 hB1 (by omega) (zsw (fun g2 => ?_) (fun g2 => ?_))
      · have g2 : ¬ lx_dg (B a) := fun z => g2 ⟨g, z⟩
        rw [b5, cl, b4]
        have e0 : lx_na B s a = a + 1 := by
          unfold lx_na
          rw [if_neg (by omega), if_neg g1, if_neg g2]
        have et : lx_ta B s a = if lx_sg (B a) then B a else 257 := by
          unfold lx_ta
          rw [if_neg (by omega), if_neg g1, if_neg g2]
        have E : ∀ c, c < 128 → (sx (B a) = nI c ↔ B a = c) := fun c hc => sx_eq b1 hc
        have yes : lx_sg (B a) → zP X (d + 2) 153 200 [some (.ref 82), none] [] z_S0 (z_up (z_up (z_up G 82 26 (nI a)) 82 29 (nI a)) 82 28 (sx (B a))) (zV A) := by
          intro g3
          rw [if_pos g3] at et
          refine b153_200 (b153_205 ⟨fun z => absurd z (by decide), fun _ => b153_216 ?_⟩)
          refine k _ (zFr_up (zFr_up (zFr_up fr1 ⟨rfl, by decide⟩) ⟨rfl, by decide⟩) ⟨rfl, by decide⟩) rfl ?_ ?_
          · rw [e0]
            show nI a + 1 = nI (a + 1)
            exact nI_1 a
          · rw [et]
            have hb : B a < 128 := by omega
            refine ⟨fun _ => ⟨rfl, ?_⟩, fun z => by omega, fun z => by omega, fun z => by omega, fun z => by omega, fun z => by omega⟩
            show sx (B a) = nI (B a)
            exact sx_lo _ hb
        refine ⟨ib, fun w => yes (by have := (E 40 (by decide)).mp w; omega), fun w1 => ⟨fun w => yes (by have := (E 41 (by decide)).mp w; omega), fun w2 => ⟨fun w => yes (by have := (E 59 (by decide)).mp w; omega), fun w3 => ⟨fun w => yes (by have := (E 43 (by decide)).mp w; omega), fun w4 => ⟨fun w => yes (by have := (E 45 (by decide)).mp w; omega), fun w5 => ⟨fun w => yes (by have := (E 42 (by decide)).mp w; omega), fun w6 => ⟨fun w => yes (by have := (E 60 (by decide)).mp w; omega), fun w7 => ⟨fun w => yes (by have := (E 61 (by decide)).mp w; omega), fun w8 => ?_⟩⟩⟩⟩⟩⟩⟩⟩
        have g3 : ¬ lx_sg (B a) := by
          rintro (z | z | z | z | z | z | z | z)
          · exact w1 ((E 40 (by decide)).mpr z)
          · exact w2 ((E 41 (by decide)).mpr z)
          · exact w6 ((E 42 (by decide)).mpr z)
          · exact w4 ((E 43 (by decide)).mpr z)
          · exact w5 ((E 45 (by decide)).mpr z)
          · exact w3 ((E 59 (by decide)).mpr z)
          · exact w7 ((E 60 (by decide)).mpr z)
          · exact w8 ((E 61 (by decide)).mpr z)
        rw [if_neg g3] at et
        refine b153_205 ⟨fun _ => b153_216 ?_, fun z => absurd rfl z⟩
        refine k _ (zFr_up (zFr_up (zFr_up fr1 ⟨rfl, by decide⟩) ⟨rfl, by decide⟩) ⟨rfl, by decide⟩) rfl ?_ ?_
        · rw [e0]
          show nI a + 1 = nI (a + 1)
          exact nI_1 a
        · rw [et]
          exact ⟨fun z => by omega, fun z => by omega, fun _ => rfl, fun z => by omega, fun z => by omega, fun z => by omega⟩
      · have e0 : lx_na B s a = lx_w lx_D B (s - a) a := by
          unfold lx_na
          rw [if_neg (by omega), if_neg g1, if_pos g2.2]
        have et : lx_ta B s a = if 4 < lx_na B s a - a then 257 else 258 := by
          unfold lx_ta
          rw [if_neg (by omega), if_neg g1, if_pos g2.2]
        refine b152 (cm152_5 (a := a) (s - a) a _ (by omega) (Nat.le_refl _) (zBM_fr hB (zFr_up fr1 ⟨rfl, by decide⟩)) rfl rfl (by rw [Nat.sub_self]; rfl) ?_)
        intro G' f1 f2 f3 f4 f5 f6
        rw [← e0] at f3 f4 f5 f6
        refine k G' (zFr_tr (zFr_up fr1 ⟨rfl, by decide⟩) f1) f2 f3 ?_
        by_cases g4 : 4 < lx_na B s a - a
        · rw [if_pos g4] at et
          rw [et]
          exact ⟨fun z => by omega, fun z => by omega, fun _ => f5 g4, fun z => by omega, fun z => by omega, fun z => by omega⟩
        · rw [if_neg g4] at et
          rw [et]
          refine ⟨fun z => by omega, fun z => by omega, fun z => by omega, fun _ => ⟨f6 g4, ?_⟩, fun z => by omega, fun z => by omega⟩
          rw [f4, show min 4 (lx_na B s a - a) = lx_na B s a - a by omega]
    · have e0 : lx_na B s a = lx_w lx_L B (s - a) a := by
        unfold lx_na
        rw [if_neg (by omega), if_pos g1.2]
      have et : lx_ta B s a = lx_wc (lx_wi B a (lx_na B s a)) := by
        unfold lx_ta
        rw [if_neg (by omega), if_pos g1.2]
      refine b151 (cm151_0 (a := a) (s - a) a _ (by omega) (Nat.le_refl _) hB1 rfl rfl ?_)
      intro G' f1 f2 f3 f4
      rw [← e0] at f3 f4
      refine k G' (zFr_tr fr1 f1) f2 f3 ?_
      rw [et]
      have hw := lx_wi_le B a (lx_na B s a)
      revert f4 hw
      generalize lx_wi B a (lx_na B s a) = r
      intro f4 hw
      obtain ⟨x1, x2, x3⟩ := f4
      by_cases r6 : r < 6
      · rw [show lx_wc r = 270 + r from if_pos r6]
        refine ⟨fun z => by omega, fun z => by omega, fun z => by omega, fun z => by omega, fun z => by omega, fun _ => ?_⟩
        rw [show 270 + r - 270 = r by omega]
        exact x1 r6
      · by_cases r12 : r < 12
        · rw [show lx_wc r = 254 + r from by unfold lx_wc; rw [if_neg r6, if_pos r12]]
          refine ⟨fun z => by omega, fun z => by omega, fun z => by omega, fun z => by omega, fun _ _ => ?_, fun z => by omega⟩
          rw [show 254 + r - 260 = r - 6 by omega]
          exact x2 (by omega) r12
        · rw [show lx_wc r = 257 from by unfold lx_wc; rw [if_neg r6, if_neg r12]]
          exact ⟨fun z => by omega, fun z => by omega, fun _ => x3 (by omega), fun z => by omega, fun z => by omega, fun z => by omega⟩
end ZLM

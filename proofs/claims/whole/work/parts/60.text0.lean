/-! the first text: pay 3 - weight ; fine missed * 5 ; find 1 ; -/
section ZT0
variable {B : Nat → Nat} {s q o r q1 q2 : Nat} {L L1 L2 : List Nat}
theorem x69 {c : Nat} (hs : s ≤ 160) (hq : q ≤ s) (ca : lx_t B s q = 258 ∨ 270 ≤ lx_t B s q) (hc : c = if lx_t B s q = 258 then 100 + lx_v B s q else lx_t B s q - 270) : zCL B s 69 4 (8 * r + 7) q o true (lx_n B s q) [c] := by
  have hok := lx_t_ok B s q
  have hsl := lx_s_le B hq
  have hlt := lx_n_lt hq (show ¬ lx_t B s q = 256 by omega)
  have E1 : ∀ n, n < 1000 → (nI (lx_t B s q) = nI n ↔ lx_t B s q = n) := fun n hn => nI_eq (by omega) (by omega)
  have E2 : nI (lx_t B s q) < 270 ↔ lx_t B s q < 270 := nI_ltI (b := 270) (by omega) (by decide)
  intro X d S t k g G A hS ht hB hk h K1 K0
  have fin : zP X (d + 8 * r + 6 + 1) 69 100 [none, some (.ref 18), none, none] [.int (z_xc c), .ref t] S G (zI A) := by
    refine e69_100 hS ht (cx62 hS ht (by omega) h ?_)
    intro G1 f1 f2
    refine cx52 hS ht hB hq f1 ?_
    intro G2 y1 y2
    have hg := z_gu (f := G (t + 1)) (f1 := G (t + 1)) (k := k) (c := c) (L := []) (fun _ _ => rfl) (fun j hj => absurd hj (Nat.not_lt_zero j))
    refine K1 rfl G2 y1 ?_ ?_
    · rw [y2, f2]
      exact hg.1
    · rw [y2, f2]
      exact hg.2
  refine zPd (d := d + 8 * r + 6 + 1) (by omega) (e69 hS ht ?_)
  rw [h.2.2.2.1]
  refine ⟨fun y => absurd ((E1 45 (by decide)).mp y) (by omega), fun _ => ⟨fun y => absurd ((E1 40 (by decide)).mp y) (by omega), fun _ => ⟨fun y => e69_77 hS ht ⟨fun _ => ?_, fun n => absurd y n⟩, fun n => ⟨fun y => absurd (E2.mp y) (by have : ¬ lx_t B s q = 258 := fun z => n ((E1 258 (by decide)).mpr z); omega), fun _ => e69_77 hS ht ⟨fun y => absurd y n, fun _ => ?_⟩⟩⟩⟩⟩
  · have y := (E1 258 (by decide)).mp y
    rw [h.2.2.2.2.1 y]
    rw [if_pos y] at hc
    rw [hc, z_xc_no (by omega), show 100 + lx_v B s q - 100 = lx_v B s q by omega] at fin
    exact fin
  · have n : ¬ lx_t B s q = 258 := fun z => n ((E1 258 (by decide)).mpr z)
    rw [if_neg n] at hc
    have e : (-10 : Int32) - (nI (lx_t B s q) - 270) = z_xc c := by
      have e1 : nI (lx_t B s q) - 270 = nI (lx_t B s q - 270) := z_sbm (m := 270) (by omega)
      rw [e1, hc]
      unfold z_xc
      rw [if_pos (by omega)]
    rw [e]
    exact fin
theorem x68 (h : zCL B s 69 4 (8 * r + 7) q o true q1 L) (hn : ¬ lx_t B s q1 = 42) : zCL B s 68 4 (8 * r + 8) q o true q1 L := by
  have hok := lx_t_ok B s q1
  have E1 : nI (lx_t B s q1) = 42 ↔ lx_t B s q1 = 42 := nI_eq (b := 42) (by omega) (by decide)
  intro X d S t k g G A hS ht hB hk h0 K1 K0
  refine zPd (d := d + (8 * r + 7) + 1) (by omega) (e68 hS ht (h X d S t k g G _ hS ht hB hk h0 (fun _ G1 y1 y2 y3 => ⟨fun z => absurd z (by decide), fun _ => e68_13 hS ht ?_⟩) (fun e => by cases e)))
  rw [y1.2.2.2.1]
  exact ⟨fun _ => ⟨fun y => absurd (E1.mp y) hn, fun _ => K1 rfl G1 y1 y2 y3⟩, fun _ => K1 rfl G1 y1 y2 y3⟩
theorem x68m (hs : s ≤ 160) (h : zCL B s 69 4 (8 * r + 7) q o true q1 L1) (hl1 : q + L1.length ≤ q1) (hq1 : q1 ≤ s) (ht : lx_t B s q1 = 42) (h2 : zCL B s 69 4 (8 * r + 7) (lx_n B s q1) o true q2 L2) (hl2 : lx_n B s q1 + L2.length ≤ q2) (hq2 : q2 ≤ s) (hn : ¬ lx_t B s q2 = 42) : zCL B s 68 4 (8 * r + 8) q o true q2 (L1 ++ L2 ++ [8]) := by
  have hok := lx_t_ok B s q1
  have hok2 := lx_t_ok B s q2
  have hlt := lx_n_lt hq1 (show ¬ lx_t B s q1 = 256 by omega)
  have E1 : nI (lx_t B s q1) = 42 ↔ lx_t B s q1 = 42 := nI_eq (b := 42) (by omega) (by decide)
  have E2 : nI (lx_t B s q2) = 42 ↔ lx_t B s q2 = 42 := nI_eq (b := 42) (by omega) (by decide)
  intro X d S t k g G A hS ht2 hB hk h0 K1 K0
  refine zPd (d := d + (8 * r + 7) + 1) (by omega) (e68 hS ht2 (h X d S t k g G _ hS ht2 hB hk h0 (fun _ G1 y1 y2 y3 => ⟨fun z => absurd z (by decide), fun _ => e68_13 hS ht2 ?_⟩) (fun e => by cases e)))
  rw [y1.2.2.2.1]
  refine ⟨fun _ => ⟨fun _ => zPd (d := d + (8 * r + 1) + 6) (by omega) (cx52 hS ht2 hB hq1 y1 ?_), fun z => absurd (E1.mpr ht) z⟩, fun z => absurd (by decide) z⟩
  intro G2 f1 f2
  refine h2 X d S t (k + L1.length) g G2 _ hS ht2 hB (by omega) f1 (fun _ G3 z1 z2 z3 => ⟨fun z => absurd z (by decide), fun _ => ?_⟩) (fun e => by cases e)
  rw [show (-5 : Int32) = z_xc 8 from by decide]
  refine cx62 hS ht2 (by omega) z1 ?_
  intro G4 u1 u2
  have z2' : ∀ j, j < k + L1.length → G3 (t + 1) j = G1 (t + 1) j := fun j hj => by rw [z2 j hj, f2]
  have hg := z_gt y2 y3 z2' z3
  have hg2 := z_gu (c := 8) hg.1 hg.2
  have el : k + (L1 ++ L2).length = k + L1.length + L2.length := by rw [List.length_append, ← Nat.add_assoc]
  rw [el, ← u2] at hg2
  have fin : A 1 G4 := by
    refine K1 rfl G4 ?_ hg2.1 hg2.2
    rw [List.length_append, ← Nat.add_assoc, el]
    exact u1
  refine e68_13 hS ht2 ?_
  rw [u1.2.2.2.1]
  exact ⟨fun _ => ⟨fun y => absurd (E2.mp y) hn, fun _ => fin⟩, fun _ => fin⟩
theorem x67 (h : zCL B s 68 4 (8 * r + 8) q o true q1 L) (hn : ¬ lx_t B s q1 = 43 ∧ ¬ lx_t B s q1 = 45) : zCL B s 67 5 (8 * r + 9) q o true q1 L := by
  have hok := lx_t_ok B s q1
  have E1 : ∀ n, n < 1000 → (nI (lx_t B s q1) = nI n ↔ lx_t B s q1 = n) := fun n hn => nI_eq (by omega) (by omega)
  intro X d S t k g G A hS ht hB hk h0 K1 K0
  refine zPd (d := d + (8 * r + 8) + 1) (by omega) (e67 hS ht (h X d S t k g G _ hS ht hB hk h0 (fun _ G1 y1 y2 y3 => ⟨fun z => absurd z (by decide), fun _ => e67_13 hS ht ?_⟩) (fun e => by cases e)))
  rw [y1.2.2.2.1]
  exact ⟨fun _ => ⟨fun y => absurd ((E1 43 (by decide)).mp y) hn.1, fun _ => ⟨fun y => absurd ((E1 45 (by decide)).mp y) hn.2, fun _ => K1 rfl G1 y1 y2 y3⟩⟩, fun _ => K1 rfl G1 y1 y2 y3⟩
theorem x67m (hs : s ≤ 160) (h : zCL B s 68 4 (8 * r + 8) q o true q1 L1) (hl1 : q + L1.length ≤ q1) (hq1 : q1 ≤ s) (ht : lx_t B s q1 = 45) (h2 : zCL B s 68 4 (8 * r + 8) (lx_n B s q1) o true q2 L2) (hl2 : lx_n B s q1 + L2.length ≤ q2) (hq2 : q2 ≤ s) (hn : ¬ lx_t B s q2 = 43 ∧ ¬ lx_t B s q2 = 45) : zCL B s 67 5 (8 * r + 9) q o true q2 (L1 ++ L2 ++ [7]) := by
  have hok := lx_t_ok B s q1
  have hok2 := lx_t_ok B s q2
  have hlt := lx_n_lt hq1 (show ¬ lx_t B s q1 = 256 by omega)
  have E1 : ∀ n, n < 1000 → (nI (lx_t B s q1) = nI n ↔ lx_t B s q1 = n) := fun n hn => nI_eq (by omega) (by omega)
  have E2 : ∀ n, n < 1000 → (nI (lx_t B s q2) = nI n ↔ lx_t B s q2 = n) := fun n hn => nI_eq (by omega) (by omega)
  intro X d S t k g G A hS ht2 hB hk h0 K1 K0
  refine zPd (d := d + (8 * r + 8) + 1) (by omega) (e67 hS ht2 (h X d S t k g G _ hS ht2 hB hk h0 (fun _ G1 y1 y2 y3 => ⟨fun z => absurd z (by decide), fun _ => e67_13 hS ht2 ?_⟩) (fun e => by cases e)))
  rw [y1.2.2.2.1]
  refine ⟨fun _ => ⟨fun y => absurd ((E1 43 (by decide)).mp y) (by omega), fun _ => ⟨fun _ => e67_38 hS ht2 (zPd (d := d + (8 * r + 2) + 6) (by omega) (cx52 hS ht2 hB hq1 y1 ?_)), fun z => absurd ((E1 45 (by decide)).mpr ht) z⟩⟩, fun z => absurd (by decide) z⟩
  intro G2 f1 f2
  refine h2 X d S t (k + L1.length) g G2 _ hS ht2 hB (by omega) f1 (fun _ G3 z1 z2 z3 => ⟨fun z => absurd z (by decide), fun _ => ?_⟩) (fun e => by cases e)
  rw [y1.2.2.2.1]
  refine ⟨fun y => absurd ((E1 43 (by decide)).mp y) (by omega), fun _ => e67_74 hS ht2 ht2 ?_⟩
  rw [show (-4 : Int32) = z_xc 7 from by decide]
  refine cx62 hS ht2 (by omega) z1 ?_
  intro G4 u1 u2
  have z2' : ∀ j, j < k + L1.length → G3 (t + 1) j = G1 (t + 1) j := fun j hj => by rw [z2 j hj, f2]
  have hg := z_gt y2 y3 z2' z3
  have hg2 := z_gu (c := 7) hg.1 hg.2
  have el : k + (L1 ++ L2).length = k + L1.length + L2.length := by rw [List.length_append, ← Nat.add_assoc]
  rw [el, ← u2] at hg2
  have fin : A 1 G4 := by
    refine K1 rfl G4 ?_ hg2.1 hg2.2
    rw [List.length_append, ← Nat.add_assoc, el]
    exact u1
  refine e67_13 hS ht2 ?_
  rw [u1.2.2.2.1]
  exact ⟨fun _ => ⟨fun y => absurd ((E2 43 (by decide)).mp y) hn.1, fun _ => ⟨fun y => absurd ((E2 45 (by decide)).mp y) hn.2, fun _ => fin⟩⟩, fun _ => fin⟩
theorem x63 (h : zCL B s 67 5 (8 * r + 9) q o true q1 L) (h0 : ¬ lx_t B s q = 265) (hn : lx_t B s q1 = 59) : zCL B s 63 4 (8 * r + 13) q o true q1 L := by
  have hok := lx_t_ok B s q
  have E0 : nI (lx_t B s q) = 265 ↔ lx_t B s q = 265 := nI_eq (b := 265) (by omega) (by decide)
  have E1 : ∀ n, n < 1000 → (nI (lx_t B s q1) = nI n ↔ lx_t B s q1 = n) := fun n hn => nI_eq (by omega) (by omega)
  intro X d S t k g G A hS ht hB hk h1 K1 K0
  refine zPd (d := d + (8 * r + 9) + 1 + 1 + 1 + 1) (by omega) (e63 hS ht (e64 hS ht (e65 hS ht ?_)))
  rw [h1.2.2.2.1]
  refine ⟨fun y => absurd (E0.mp y) h0, fun _ => e66 hS ht (h X d S t k g G _ hS ht hB hk h1 (fun _ G1 y1 y2 y3 => ⟨fun z => absurd z (by decide), fun _ => ?_⟩) (fun e => by cases e))⟩
  rw [y1.2.2.2.1]
  have fin := K1 rfl G1 y1 y2 y3
  refine ⟨fun y => absurd ((E1 60 (by decide)).mp y) (by omega), fun _ => ⟨fun y => absurd ((E1 61 (by decide)).mp y) (by omega), fun _ => ⟨Or.inr rfl, fun z => absurd z (by decide), fun _ => e64_13 hS ht ?_⟩⟩⟩
  rw [y1.2.2.2.1]
  have f64 : zP X (d + (8 * r + 9) + 1 + 1 + 1 + 1) 63 13 [some (.ref t), some (.ref 18), some (.int (nI o)), some (.int 0)] [] S G1 (zI A) := by
    refine e63_13 hS ht ?_
    rw [y1.2.2.2.1]
    exact ⟨fun _ => ⟨fun y => absurd ((E1 263 (by decide)).mp y) (by omega), fun _ => fin⟩, fun _ => fin⟩
  exact ⟨fun _ => ⟨fun y => absurd ((E1 264 (by decide)).mp y) (by omega), fun _ => ⟨fun z => absurd z (by decide), fun _ => f64⟩⟩, fun _ => ⟨fun z => absurd z (by decide), fun _ => f64⟩⟩
theorem x61 {p : Nat} (hs : s ≤ 160) (hq : q ≤ s) (hp : p < 3) (hk : lx_t B s q = 260 + p) (cl : zCL B s 63 4 53 (lx_n B s q) 0 true q2 L) (hq2 : q2 ≤ s) (h59 : lx_t B s q2 = 59) (X : Option (List Int32)) (d : Nat) (S : zS) (t k : Nat) (g G : zH) (A : Int32 → zH → Prop) (hS : zCS S) (ht : zTL t) (hB : zBX B s g) (hkq : k ≤ q) (h : zSX B s t g q k G) (K1 : ∀ G', zSX B s t (z_up g (t + 2) p (nI (k + L.length))) (lx_n B s q2) (k + L.length) G' → (∀ j, j < k → G' (t + 1) j = G (t + 1) j) → (∀ j, j < L.length → G' (t + 1) (k + j) = z_xc (L.getD j 0)) → zP X (d + 54) 61 11 [some (.ref t), some (.ref 18), some (.int (nI (p + 1)))] [] S G' (zI A)) : zP X (d + 54) 61 11 [some (.ref t), some (.ref 18), some (.int (nI p))] [] S G (zI A) := by
  have hlt := lx_n_lt hq (show ¬ lx_t B s q = 256 by omega)
  have l3 : nI p < 3 := nI_lt (b := 3) hp (by decide)
  have e260 : (260 : Int32) + nI p = nI (260 + p) := nI_add 260 p
  have ht3 := zTL_ge ht
  refine zPd (d := d + 53 + 1) (by omega) (e61_11 hS ht ⟨fun _ => ?_, fun n => absurd l3 n⟩)
  rw [e260]
  refine zPd (d := d + 46 + 7) (by omega) (cx51 (u := 260 + p) (by omega) hS ht hB hq h (fun _ G1 f1 f2 => ⟨fun z => absurd z (by decide), fun _ => ?_⟩) (fun n => absurd hk n))
  refine cl X d S t k g G1 _ hS ht hB (by omega) f1 (fun _ G2 y1 y2 y3 => ⟨fun z => absurd z (by decide), fun _ => ?_⟩) (fun e => by cases e)
  rw [nI_clamp (show p < 2 ^ 31 by omega), y1.2.2.2.2.2]
  refine ⟨vp_in_nI hp (by decide), ?_⟩
  have hz : zSX B s t (z_up g (t + 2) p (nI (k + L.length))) q2 (k + L.length) (z_up G2 (t + 2) p (nI (k + L.length))) := by
    obtain ⟨h1, h2, h3, h4, h5, h6⟩ := y1
    refine ⟨zFr_both h1, ?_, ?_, ?_, ?_, ?_⟩
    · rw [z_upN _ (by omega)]; exact h2
    · rw [z_upN _ (by omega)]; exact h3
    · rw [z_upN _ (by omega)]; exact h4
    · rw [z_upN _ (by omega)]; exact h5
    · rw [z_upN _ (by omega)]; exact h6
  refine zPd (d := d + 46 + 7) (by omega) (cx51 (u := 59) (by decide) hS ht (zBX_up ht hB) hq2 hz (fun _ G3 z1 z2 => ⟨fun z => absurd z (by decide), fun _ => ?_⟩) (fun n => absurd h59 n))
  rw [nI_1]
  refine zPd (d := d + 54) (by omega) (K1 G3 z1 (fun j hj => ?_) (fun j hj => ?_))
  · rw [z2, z_upN _ (by omega), y2 j hj, f2]
  · rw [z2, z_upN _ (by omega)]
    exact y3 j hj
end ZT0
def zB0 (i : Nat) : Nat := ([112, 97, 121, 32, 51, 32, 45, 32, 119, 101, 105, 103, 104, 116, 32, 59, 32, 102, 105, 110, 101, 32, 109, 105, 115, 115, 101, 100, 32, 42, 32, 53, 32, 59, 32, 102, 105, 110, 100, 32, 49, 32, 59] : List Nat).getD i 0
theorem y0t : lx_t zB0 43 0 = 260 ∧ lx_n zB0 43 0 = 3 ∧ lx_t zB0 43 3 = 258 ∧ lx_n zB0 43 3 = 5 ∧ lx_v zB0 43 3 = 3 ∧ lx_t zB0 43 5 = 45 ∧ lx_n zB0 43 5 = 7 ∧ lx_t zB0 43 7 = 270 ∧ lx_n zB0 43 7 = 14 ∧ lx_t zB0 43 14 = 59 ∧ lx_n zB0 43 14 = 16 := by decide +kernel
theorem y1t : lx_t zB0 43 16 = 261 ∧ lx_n zB0 43 16 = 21 ∧ lx_t zB0 43 21 = 274 ∧ lx_n zB0 43 21 = 28 ∧ lx_t zB0 43 28 = 42 ∧ lx_n zB0 43 28 = 30 ∧ lx_t zB0 43 30 = 258 ∧ lx_n zB0 43 30 = 32 ∧ lx_v zB0 43 30 = 5 ∧ lx_t zB0 43 32 = 59 ∧ lx_n zB0 43 32 = 34 := by decide +kernel
theorem y2t : lx_t zB0 43 34 = 262 ∧ lx_n zB0 43 34 = 39 ∧ lx_t zB0 43 39 = 258 ∧ lx_n zB0 43 39 = 41 ∧ lx_v zB0 43 39 = 1 ∧ lx_t zB0 43 41 = 59 ∧ lx_n zB0 43 41 = 43 ∧ lx_t zB0 43 43 = 256 := by decide +kernel
theorem w0E : zCL zB0 43 63 4 53 3 0 true 14 [103, 0, 7] := by
  obtain ⟨a1, a2, a3, a4, a5, a6, a7, a8, a9, a10, a11⟩ := y0t
  have c1 := x69 (B := zB0) (s := 43) (q := 3) (o := 0) (r := 5) (c := 103) (by decide) (by decide) (Or.inl a3) (by rw [if_pos a3, a5])
  rw [a4] at c1
  have c2 := x69 (B := zB0) (s := 43) (q := 7) (o := 0) (r := 5) (c := 0) (by decide) (by decide) (Or.inr (by omega)) (by rw [if_neg (by omega), a8])
  rw [a9] at c2
  have d1 := x68 c1 (by omega)
  have d2 := x68 c2 (by omega)
  rw [← a7] at d2
  exact x63 (x67m (by decide) d1 (by decide) (by decide) a6 d2 (by rw [a7]; decide) (by decide) (by omega)) (by omega) a10
theorem w1E : zCL zB0 43 63 4 53 21 0 true 32 [4, 105, 8] := by
  obtain ⟨a1, a2, a3, a4, a5, a6, a7, a8, a9, a10, a11⟩ := y1t
  have c1 := x69 (B := zB0) (s := 43) (q := 21) (o := 0) (r := 5) (c := 4) (by decide) (by decide) (Or.inr (by omega)) (by rw [if_neg (by omega), a3])
  rw [a4] at c1
  have c2 := x69 (B := zB0) (s := 43) (q := 30) (o := 0) (r := 5) (c := 105) (by decide) (by decide) (Or.inl a7) (by rw [if_pos a7, a9])
  rw [a8] at c2
  rw [← a6] at c2
  exact x63 (x67 (x68m (by decide) c1 (by decide) (by decide) a5 c2 (by rw [a6]; decide) (by decide) (by omega)) (by omega)) (by omega) a10
theorem w2E : zCL zB0 43 63 4 53 39 0 true 41 [101] := by
  obtain ⟨a1, a2, a3, a4, a5, a6, a7, a8⟩ := y2t
  have c1 := x69 (B := zB0) (s := 43) (q := 39) (o := 0) (r := 5) (c := 101) (by decide) (by decide) (Or.inl a3) (by rw [if_pos a3, a5])
  rw [a4] at c1
  exact x63 (x67 (x68 c1 (by omega)) (by omega)) (by omega) a6
theorem w_text (X : Option (List Int32)) (d : Nat) (S : zS) (t : Nat) (G : zH) (A : Int32 → zH → Prop) (hS : zCS S) (ht : zTL t) (hB : zBX zB0 43 G) (K1 : true = true → ∀ G', zFr (mY t) G G' → zCd (G' (t + 1)) (G' (t + 2)) 0 0 [[103, 0, 7], [4, 105, 8], [101]] → A 1 G') (_ : true = false → ∀ G', zFr (mY t) G G' → G' 18 2 = nI 0 → A 0 G') : zP X (d + 54) 61 0 (z_ent [.ref t, .ref 18] 3) [] S G (zI A) := by
  have ht3 := zTL_ge ht
  obtain ⟨a1, a2, -⟩ := y0t
  obtain ⟨b1, b2, -⟩ := y1t
  obtain ⟨c1, c2, -, -, -, c6, c7, c8⟩ := y2t
  obtain ⟨-, -, -, -, -, -, -, -, -, a10, a11⟩ := y0t
  obtain ⟨-, -, -, -, -, -, -, -, -, b10, b11⟩ := y1t
  have e0 := w0E
  have e1 := w1E
  have e2 := w2E
  rw [← a2] at e0
  rw [← b2] at e1
  rw [← c2] at e2
  refine zPd (d := d + 53 + 1) (by omega) (e61 hS ht (e50 hS ?_))
  have fr0 : zFr (mX t) G (z_up (z_up G t 2 0) 18 3 0) := zFr_up (zFr_up (zFr_rf _ G) (Or.inr (Or.inl ⟨rfl, rfl⟩))) (Or.inl ⟨rfl, by decide⟩)
  refine zPd (d := d + 46 + 6) (by omega) (cc52 hS (Nat.zero_le _) (zBX_X ht hB fr0) rfl ?_)
  intro G1 f1 f2 f3 f4 f5
  refine zPd (d := d + 54) (by omega) (x61 (p := 0) (by decide) (by decide) (by decide) a1 e0 (by decide) a10 X d S t 0 G G1 A hS ht hB (Nat.le_refl _) ⟨fun c j z => ?_, f2, f3, f4, f5, ?_⟩ ?_)
  · rw [f1 c j (by omega)]
    exact fr0 c j z
  · rw [f1 t 2 (by omega), z_upN _ (by omega), z_upS, upd_S]
    rfl
  intro G2 g1 g2 g3
  rw [a11] at g1
  have hB2 := zBX_up (p := 0) (v := nI (0 + [103, 0, 7].length)) ht hB
  refine x61 (p := 1) (by decide) (by decide) (by decide) b1 e1 (by decide) b10 X d S t _ _ G2 A hS ht hB2 (by decide) g1 ?_
  intro G3 h1 h2 h3
  rw [b11] at h1
  have hB3 := zBX_up (p := 1) (v := nI (0 + [103, 0, 7].length + [4, 105, 8].length)) ht hB2
  refine x61 (p := 2) (by decide) (by decide) (by decide) c1 e2 (by decide) c6 X d S t _ _ G3 A hS ht hB3 (by decide) h1 ?_
  intro G4 k1 k2 k3
  rw [c7] at k1
  refine zPd (d := d + 53 + 1) (by omega) (e61_11 hS ht ⟨fun z => absurd z (by decide), fun _ => ?_⟩)
  rw [k1.2.2.2.1, c8]
  refine ⟨fun _ => K1 rfl G4 ?_ ⟨?_, ?_, ?_, ?_, ?_, ?_, trivial⟩, fun z => absurd rfl z⟩
  · intro c j z
    rw [k1.1 c j (by omega), z_upN _ (by omega), z_upN _ (by omega), z_upN _ (by omega)]
  · intro j hj
    have hj : j < 3 := hj
    rw [k2 (0 + j) (by show 0 + j < 6; omega), h2 (0 + j) (by show 0 + j < 3; omega)]
    exact g3 j hj
  · rw [k1.1 (t + 2) 0 (by omega), z_upS, upd_N _ _ (by decide), z_upS, upd_N _ _ (by decide), z_upS, upd_S]
  · intro j hj
    have hj : j < 3 := hj
    rw [k2 _ (by show 0 + 3 + j < 6; omega)]
    exact h3 j hj
  · rw [k1.1 (t + 2) 1 (by omega), z_upS, upd_N _ _ (by decide), z_upS, upd_S]
  · exact k3
  · rw [k1.1 (t + 2) 2 (by omega), z_upS, upd_S]

/-! carts: sorts, waste, sifting, fire -/
theorem z_up_pt (h : zH) (k j : Nat) (v : Int32) : z_up h k j v = z_pt h k (upd (h k) j v) := rfl
theorem z_pt_pt (h : zH) (k : Nat) (f g : Nat → Int32) : z_pt (z_pt h k f) k g = z_pt h k g := by
  funext a
  unfold z_pt
  by_cases q : a = k
  · rw [if_pos q, if_pos q]
  · rw [if_neg q, if_neg q, if_neg q]
theorem z_pt_id (h : zH) (k : Nat) : z_pt h k (h k) = h := by
  funext a
  unfold z_pt
  by_cases q : a = k
  · rw [if_pos q, q]
  · rw [if_neg q]
theorem z_pt_cm (h : zH) {k k' : Nat} (q : ¬ k = k') (f g : Nat → Int32) : z_pt (z_pt h k f) k' g = z_pt (z_pt h k' g) k f := by
  funext a
  unfold z_pt
  by_cases q1 : a = k'
  · have : ¬ a = k := fun q2 => q (q2.symm.trans q1)
    simp only [if_pos q1, if_neg this]
  · simp only [if_neg q1]
theorem z_pt_up (h : zH) (k j : Nat) (f : Nat → Int32) (v : Int32) : z_up (z_pt h k f) k j v = z_pt h k (upd f j v) := by
  rw [z_up_pt, z_pt_pt]
  congr 1
  show upd (if k = k then f else h k) j v = _
  rw [if_pos rfl]
def z_of (q s : Nat) (lb : Int32) : Int32 := lb * zHU (q * 4 + s) / 100
def z_wa (q : Nat) (lb : Int32) : Int32 := lb - z_of q 0 lb - z_of q 1 lb - z_of q 2 lb - z_of q 3 lb
def z_kd (x : Int32) : Nat := x.toNatClampNeg
theorem z_kd_ok {x : Int32} (hx : ∃ q, q ≤ 5 ∧ x = nI q) : z_kd x ≤ 5 ∧ x = nI (z_kd x) := by
  obtain ⟨q, hq, rfl⟩ := hx
  have : z_kd (nI q) = q := nI_clamp (by omega)
  rw [this]
  exact ⟨hq, rfl⟩
theorem zHU_ok : ∀ i, i < 24 → (zHU i).toNatClampNeg ≤ 80 ∧ zHU i = nI (zHU i).toNatClampNeg := by decide +kernel
section ZCA
variable {X : Option (List Int32)} {d : Nat} {h : zH} {A : Int32 → zH → Prop} {B : zH → Prop}
theorem c16 {s' lb : Int32} {j : Nat} (s q : Nat) (hs : s' = nI s) (hs3 : s ≤ 3) (hj : j < 40) (hq : q ≤ 5) (hk : h 2 j = nI q) (k : A (z_of q s lb) h) : zP X d 16 0 (z_ent [.ref 1, .int (nI j), .int s', .int lb] 4) [] z_S0 h (zI A) := by
  subst hs
  have cl : (nI j).toNatClampNeg = j := nI_clamp (by omega)
  have e : (nI q * 4 : Int32) + nI s = nI (q * 4 + s) := by rw [show (4 : Int32) = nI 4 from rfl, pk_mul, nI_add]
  refine b16 ⟨vp_in_nI (by omega) (by decide), ?_⟩
  rw [cl, hk, e, nI_clamp (by omega)]
  exact ⟨vp_in_nI (by omega) (by decide), k⟩
theorem c136 {s' lb : Int32} {j : Nat} (s q : Nat) (hs : s' = nI s) (hs3 : s ≤ 3) (hj : j < 40) (hq : q ≤ 5) (hk : h 85 j = nI q) (hG : zG0 h) (k : A (z_of q s lb) h) : zP X d 136 0 (z_ent [.ref 82, .int (nI j), .int s', .int lb] 4) [] z_S0 h (zI A) := by
  subst hs
  have cl : (nI j).toNatClampNeg = j := nI_clamp (by omega)
  have e : (4 * nI q : Int32) + nI s = nI (q * 4 + s) := by rw [Int32.mul_comm, show (4 : Int32) = nI 4 from rfl, pk_mul, nI_add]
  refine b136 ⟨vp_in_nI (by omega) (by decide), ?_⟩
  rw [cl, hk, e, nI_clamp (by omega), hG.1 _ (by omega)]
  exact ⟨vp_in_nI (by omega) (by decide), k⟩
theorem c17 {j : Nat} (q : Nat) (hj : j < 40) (hq : q ≤ 5) (hk : h 2 j = nI q) (k : A (z_wa q (h 10 j)) h) : zP X (d + 1) 17 0 (z_ent [.ref 1, .int (nI j)] 4) [] z_S0 h (zI A) := by
  have ib : z_ib (nI j) 40 := vp_in_nI (by omega) (by decide)
  have cl : (nI j).toNatClampNeg = j := nI_clamp (by omega)
  refine b17 ⟨ib, b17_9 ⟨fun _ => ⟨ib, c16 0 q rfl (by omega) hj hq hk (b17_9 ⟨fun _ => ⟨ib, c16 1 q rfl (by omega) hj hq hk (b17_9 ⟨fun _ => ⟨ib, c16 2 q rfl (by omega) hj hq hk (b17_9 ⟨fun _ => ⟨ib, c16 3 q rfl (by omega) hj hq hk (b17_9 ⟨fun g => absurd g (by decide), fun _ => ?_⟩)⟩, fun g => absurd (by decide) g⟩)⟩, fun g => absurd (by decide) g⟩)⟩, fun g => absurd (by decide) g⟩)⟩, fun g => absurd (by decide) g⟩⟩
  rw [cl]
  exact k
theorem c137 {j : Nat} (q : Nat) (hj : j < 40) (hq : q ≤ 5) (hk : h 85 j = nI q) (hG : zG0 h) (k : A (z_wa q (h 92 j)) h) : zP X (d + 1) 137 0 (z_ent [.ref 82, .int (nI j)] 4) [] z_S0 h (zI A) := by
  have ib : z_ib (nI j) 40 := vp_in_nI (by omega) (by decide)
  have cl : (nI j).toNatClampNeg = j := nI_clamp (by omega)
  refine b137 ⟨ib, b137_9 ⟨fun _ => ⟨ib, c136 0 q rfl (by omega) hj hq hk hG (b137_9 ⟨fun _ => ⟨ib, c136 1 q rfl (by omega) hj hq hk hG (b137_9 ⟨fun _ => ⟨ib, c136 2 q rfl (by omega) hj hq hk hG (b137_9 ⟨fun _ => ⟨ib, c136 3 q rfl (by omega) hj hq hk hG (b137_9 ⟨fun g => absurd g (by decide), fun _ => ?_⟩)⟩, fun g => absurd (by decide) g⟩)⟩, fun g => absurd (by decide) g⟩)⟩, fun g => absurd (by decide) g⟩)⟩, fun g => absurd (by decide) g⟩⟩
  rw [cl]
  exact k
def z_sb (q : Nat) (ey we : Int32) : Int32 := if ey * zEY q / 100 < ey - we then ey - we else 0
theorem c18 {j : Nat} (q : Nat) (hj : j < 40) (hq : q ≤ 5) (hk : h 2 j = nI q) (k : A (z_sb q (h 8 j) (h 6 j)) h) : zP X d 18 0 (z_ent [.ref 1, .int (nI j)] 3) [] z_S0 h (zI A) := by
  have ib : z_ib (nI j) 40 := vp_in_nI (by omega) (by decide)
  have cl : (nI j).toNatClampNeg = j := nI_clamp (by omega)
  refine b18 ⟨ib, ib, ib, ib, ?_⟩
  rw [cl, hk, nI_clamp (by omega)]
  refine ⟨vp_in_nI (by omega) (by decide), fun g => ?_, fun g => ?_⟩
  · have g' : h 8 j * zEY q / 100 < h 8 j - h 6 j := g
    unfold z_sb at k
    rw [if_pos g'] at k
    exact k
  · have g' : ¬ h 8 j * zEY q / 100 < h 8 j - h 6 j := g
    unfold z_sb at k
    rw [if_neg g'] at k
    exact k
theorem c138 {j : Nat} (q : Nat) (hj : j < 40) (hq : q ≤ 5) (hk : h 85 j = nI q) (hG : zG0 h) (k : A (z_sb q (h 90 j) (h 88 j)) h) : zP X d 138 0 (z_ent [.ref 82, .int (nI j)] 3) [] z_S0 h (zI A) := by
  have ib : z_ib (nI j) 40 := vp_in_nI (by omega) (by decide)
  have cl : (nI j).toNatClampNeg = j := nI_clamp (by omega)
  refine b138 ⟨ib, ib, ib, ib, ?_⟩
  rw [cl, hk, nI_clamp (by omega), hG.2 q (by omega)]
  refine ⟨vp_in_nI (by omega) (by decide), fun g => ?_, fun g => ?_⟩
  · unfold z_sb at k
    rw [if_pos g] at k
    exact k
  · unfold z_sb at k
    rw [if_neg g] at k
    exact k
theorem c14 {j : Nat} {hp : Int32} (hj : j < 40) (k : A (zb (h 4 j = hp ∧ h 11 j = 0)) h) : zP X d 14 0 (z_ent [.ref 1, .int (nI j), .int hp] 3) [] z_S0 h (zI A) := by
  have ib : z_ib (nI j) 40 := vp_in_nI (by omega) (by decide)
  have cl : (nI j).toNatClampNeg = j := nI_clamp (by omega)
  refine b14 ⟨ib, ?_⟩
  rw [cl]
  refine ⟨fun g => ⟨ib, fun g2 => ?_, fun g2 => ?_⟩, fun g => ?_⟩
  · rw [zb_t ⟨g, g2⟩] at k; exact k
  · rw [zb_f (fun q => g2 q.2)] at k; exact k
  · rw [zb_f (fun q => g q.1)] at k; exact k
def z_br5 (q : Nat) (lb : Int32) (g : Nat → Int32) : Nat → Int32 :=
  let g0 := upd g 0 (g 0 + z_of q 0 lb)
  let g1 := upd g0 1 (g0 1 + z_of q 1 lb)
  let g2 := upd g1 2 (g1 2 + z_of q 2 lb)
  let g3 := upd g2 3 (g2 3 + z_of q 3 lb)
  upd g3 4 (g3 4 + z_wa q lb)
theorem c80 {j : Nat} (q : Nat) (hj : j < 40) (hq : q ≤ 5) (hk : h 2 j = nI q) (k : B (z_pt (z_pt h 12 (z_br5 q (h 10 j) (h 12))) 11 (upd (h 11) j 1))) : zP X (d + 2) 80 0 (z_ent [.ref 0, .int (nI j)] 3) [] z_S0 h (zV B) := by
  have ib : z_ib (nI j) 40 := vp_in_nI (by omega) (by decide)
  have cl : (nI j).toNatClampNeg = j := nI_clamp (by omega)
  refine b80 (b80_2 ⟨fun _ => ⟨by decide, ib, c16 0 q rfl (by omega) hj hq hk ⟨by decide, b80_2 ⟨fun _ => ⟨by decide, ib, c16 1 q rfl (by omega) hj hq hk ⟨by decide, b80_2 ⟨fun _ => ⟨by decide, ib, c16 2 q rfl (by omega) hj hq hk ⟨by decide, b80_2 ⟨fun _ => ⟨by decide, ib, c16 3 q rfl (by omega) hj hq hk ⟨by decide, b80_2 ⟨fun g => absurd g (by decide), fun _ => c17 q hj hq hk ⟨ib, ?_⟩⟩⟩⟩, fun g => absurd (by decide) g⟩⟩⟩, fun g => absurd (by decide) g⟩⟩⟩, fun g => absurd (by decide) g⟩⟩⟩, fun g => absurd (by decide) g⟩)
  rw [cl]
  simp only [z_up_pt, z_pt_pt]
  exact k
end ZCA

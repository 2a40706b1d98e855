/-! the tape's tokens -/
abbrev lx_bl (b : Nat) : Prop := b = 32 ∨ b = 10
abbrev lx_le (b : Nat) : Prop := 97 ≤ b ∧ b ≤ 122
abbrev lx_dg (b : Nat) : Prop := 48 ≤ b ∧ b ≤ 57
abbrev lx_sg (b : Nat) : Prop := b = 40 ∨ b = 41 ∨ b = 42 ∨ b = 43 ∨ b = 45 ∨ b = 59 ∨ b = 60 ∨ b = 61
def lx_w (P : Nat → Bool) (B : Nat → Nat) : Nat → Nat → Nat
  | 0, p => p
  | m + 1, p => if P (B p) = true then lx_w P B m (p + 1) else p
theorem lx_w_le (P : Nat → Bool) (B : Nat → Nat) : ∀ m p, p ≤ lx_w P B m p ∧ lx_w P B m p ≤ p + m
  | 0, p => ⟨Nat.le_refl _, Nat.le_refl _⟩
  | m + 1, p => by
    rw [lx_w]
    have := lx_w_le P B m (p + 1)
    split <;> omega
def lx_wt : List (List Nat) := [[119, 101, 105, 103, 104, 116], [100, 97, 121], [119, 101, 116], [107, 105, 110, 100], [109, 105, 115, 115, 101, 100], [112, 114, 105, 99, 101], [112, 97, 121], [102, 105, 110, 101], [102, 105, 110, 100], [111, 114], [97, 110, 100], [110, 111, 116]]
def lx_wd (w : Nat) : List Nat := lx_wt.getD w []
abbrev lx_mt (B : Nat → Nat) (a e : Nat) (w : List Nat) : Prop := w.length = e - a ∧ ∀ i, i < w.length → B (a + i) = w.getD i 0
def lx_fw (B : Nat → Nat) (a e : Nat) : Nat → Nat → Nat → Nat
  | 0, _, r => r
  | m + 1, w, r => lx_fw B a e m (w + 1) (if lx_mt B a e (lx_wd w) then w else r)
def lx_wi (B : Nat → Nat) (a e : Nat) : Nat := lx_fw B a e 12 0 12
def lx_wc (w : Nat) : Nat := if w < 6 then 270 + w else if w < 12 then 254 + w else 257
def lx_num (B : Nat → Nat) (a : Nat) : Nat → Nat
  | 0 => 0
  | m + 1 => lx_num B a m * 10 + (B (a + m) - 48)
def lx_L (b : Nat) : Bool := decide (lx_le b)
def lx_D (b : Nat) : Bool := decide (lx_dg b)
def lx_K (b : Nat) : Bool := decide (lx_bl b)
theorem lx_Lt {b : Nat} (h : lx_le b) : lx_L b = true := decide_eq_true h
theorem lx_Lf {b : Nat} (h : ¬ lx_le b) : ¬ lx_L b = true := fun q => h (of_decide_eq_true q)
theorem lx_Dt {b : Nat} (h : lx_dg b) : lx_D b = true := decide_eq_true h
theorem lx_Df {b : Nat} (h : ¬ lx_dg b) : ¬ lx_D b = true := fun q => h (of_decide_eq_true q)
theorem lx_Kt {b : Nat} (h : lx_bl b) : lx_K b = true := decide_eq_true h
theorem lx_Kf {b : Nat} (h : ¬ lx_bl b) : ¬ lx_K b = true := fun q => h (of_decide_eq_true q)
def lx_s (B : Nat → Nat) (s q : Nat) : Nat := lx_w lx_K B (s - q) q
def lx_na (B : Nat → Nat) (s a : Nat) : Nat := if s ≤ a then a else if lx_le (B a) then lx_w lx_L B (s - a) a else if lx_dg (B a) then lx_w lx_D B (s - a) a else a + 1
def lx_ta (B : Nat → Nat) (s a : Nat) : Nat := if s ≤ a then 256 else if lx_le (B a) then lx_wc (lx_wi B a (lx_na B s a)) else if lx_dg (B a) then (if 4 < lx_na B s a - a then 257 else 258) else if lx_sg (B a) then B a else 257
def lx_n (B : Nat → Nat) (s q : Nat) : Nat := lx_na B s (lx_s B s q)
def lx_t (B : Nat → Nat) (s q : Nat) : Nat := lx_ta B s (lx_s B s q)
def lx_v (B : Nat → Nat) (s q : Nat) : Nat := lx_num B (lx_s B s q) (lx_n B s q - lx_s B s q)
theorem lx_mt_inj {B : Nat → Nat} {a e : Nat} {w v : List Nat} (h1 : lx_mt B a e w) (h2 : lx_mt B a e v) : w = v := by
  apply List.ext_getElem (by rw [h1.1, h2.1])
  intro i hi hj
  have e1 := h1.2 i hi
  have e2 := h2.2 i hj
  rw [e1] at e2
  simpa [List.getD_eq_getElem?_getD, hi, hj] using e2
theorem lx_wd_inj : ∀ w, w < 12 → ∀ v, v < 12 → lx_wd w = lx_wd v → w = v := by decide +kernel
theorem lx_fw_un {B : Nat → Nat} {a e w0 : Nat} (h0 : w0 < 12) (hm : lx_mt B a e (lx_wd w0)) : ∀ m w r, w + m ≤ 12 → lx_fw B a e m w r = if w ≤ w0 ∧ w0 < w + m then w0 else r
  | 0, w, r, _ => by rw [lx_fw, if_neg (by omega)]
  | m + 1, w, r, hw => by
    rw [lx_fw, lx_fw_un h0 hm m (w + 1) _ (by omega)]
    by_cases q : w = w0
    · subst q
      rw [if_neg (by omega), if_pos hm, if_pos (by omega)]
    · have : ¬ lx_mt B a e (lx_wd w) := fun z => q (lx_wd_inj w (by omega) w0 h0 (lx_mt_inj z hm))
      rw [if_neg this]
      by_cases q2 : w ≤ w0 ∧ w0 < w + (m + 1)
      · rw [if_pos q2, if_pos (by omega)]
      · rw [if_neg q2, if_neg (by omega)]
theorem lx_wi_hit {B : Nat → Nat} {a e w0 : Nat} (h0 : w0 < 12) (hm : lx_mt B a e (lx_wd w0)) : lx_wi B a e = w0 := by
  unfold lx_wi
  rw [lx_fw_un h0 hm 12 0 12 (by decide), if_pos (by omega)]
theorem lx_fw_no {B : Nat → Nat} {a e : Nat} (hm : ∀ w, w < 12 → ¬ lx_mt B a e (lx_wd w)) : ∀ m w r, w + m ≤ 12 → lx_fw B a e m w r = r
  | 0, w, r, _ => rfl
  | m + 1, w, r, hw => by rw [lx_fw, if_neg (hm w (by omega)), lx_fw_no hm m (w + 1) r (by omega)]
theorem lx_fw_le {B : Nat → Nat} {a e : Nat} : ∀ m w r, w + m ≤ 12 → r ≤ 12 → lx_fw B a e m w r ≤ 12
  | 0, w, r, _, hr => hr
  | m + 1, w, r, hw, hr => by
    rw [lx_fw]
    refine lx_fw_le m (w + 1) _ (by omega) ?_
    split <;> omega
theorem lx_wi_le (B : Nat → Nat) (a e : Nat) : lx_wi B a e ≤ 12 := lx_fw_le 12 0 12 (by decide) (Nat.le_refl _)
theorem lx_s_le (B : Nat → Nat) {s q : Nat} (h : q ≤ s) : q ≤ lx_s B s q ∧ lx_s B s q ≤ s := by
  have := lx_w_le lx_K B (s - q) q
  unfold lx_s
  omega
theorem lx_na_le (B : Nat → Nat) {s a : Nat} (h : a < s) : a < lx_na B s a ∧ lx_na B s a ≤ s := by
  unfold lx_na
  rw [if_neg (by omega)]
  have e : s - a = (s - (a + 1)) + 1 := by omega
  split
  · next q =>
    rw [e, lx_w, if_pos (lx_Lt q)]
    have := lx_w_le lx_L B (s - (a + 1)) (a + 1)
    omega
  · split
    · next q =>
      rw [e, lx_w, if_pos (lx_Dt q)]
      have := lx_w_le lx_D B (s - (a + 1)) (a + 1)
      omega
    · omega
theorem lx_t_end {B : Nat → Nat} {s q : Nat} (h : q ≤ s) : (lx_t B s q = 256 ↔ lx_s B s q = s) := by
  have hl := lx_s_le B h
  unfold lx_t lx_ta
  by_cases q1 : s ≤ lx_s B s q
  · rw [if_pos q1]
    exact ⟨fun _ => by omega, fun _ => rfl⟩
  · rw [if_neg q1]
    constructor
    · intro z
      split at z
      · unfold lx_wc at z
        split at z
        · omega
        · split at z
          · omega
          · omega
      · split at z
        · split at z <;> omega
        · split at z
          · next g => omega
          · omega
    · intro z
      omega
theorem lx_n_le {B : Nat → Nat} {s q : Nat} (h : q ≤ s) : lx_n B s q ≤ s := by
  have hl := lx_s_le B h
  by_cases q1 : lx_s B s q < s
  · exact (lx_na_le B q1).2
  · unfold lx_n lx_na
    rw [if_pos (by omega)]
    exact hl.2
theorem lx_n_lt {B : Nat → Nat} {s q : Nat} (h : q ≤ s) (ht : ¬ lx_t B s q = 256) : q < lx_n B s q ∧ lx_s B s q < s := by
  have hl := lx_s_le B h
  have : ¬ lx_s B s q = s := fun z => ht ((lx_t_end h).mpr z)
  have := (lx_na_le B (s := s) (a := lx_s B s q) (by omega)).1
  unfold lx_n
  omega
theorem lx_t_ok (B : Nat → Nat) (s q : Nat) : lx_sg (lx_t B s q) ∨ lx_t B s q = 256 ∨ lx_t B s q = 257 ∨ lx_t B s q = 258 ∨ (260 ≤ lx_t B s q ∧ lx_t B s q < 266) ∨ (270 ≤ lx_t B s q ∧ lx_t B s q < 276) := by
  unfold lx_t lx_ta
  generalize lx_s B s q = a
  split
  · omega
  · split
    · have := lx_wi_le B a (lx_na B s a)
      unfold lx_wc
      split
      · omega
      · split <;> omega
    · split
      · split <;> omega
      · split
        · next g => exact Or.inl g
        · omega
theorem lx_num_le (B : Nat → Nat) (a : Nat) : ∀ m, (∀ i, i < m → B (a + i) ≤ 57) → lx_num B a m < 10 ^ m
  | 0, _ => Nat.one_pos
  | m + 1, h => by
    have := lx_num_le B a m (fun i hi => h i (by omega))
    have h2 := h m (by omega)
    rw [lx_num, Nat.pow_succ]
    omega
theorem lx_w_in (P : Nat → Bool) (B : Nat → Nat) : ∀ m p i, p ≤ i → i < lx_w P B m p → P (B i) = true
  | 0, p, i, h1, h2 => by rw [lx_w] at h2; omega
  | m + 1, p, i, h1, h2 => by
    rw [lx_w] at h2
    split at h2
    · next g =>
      by_cases q : i = p
      · rw [q]; exact g
      · exact lx_w_in P B m (p + 1) i (by omega) h2
    · omega
theorem lx_v_le {B : Nat → Nat} {s q : Nat} (ht : lx_t B s q = 258) : lx_v B s q < 10000 := by
  unfold lx_v lx_n
  unfold lx_t at ht
  revert ht
  generalize lx_s B s q = a
  intro ht
  unfold lx_ta at ht
  split at ht
  · omega
  · next n1 =>
    split at ht
    · exfalso
      have := lx_wi_le B a (lx_na B s a)
      unfold lx_wc at ht
      split at ht
      · omega
      · split at ht <;> omega
    · next n2 =>
      split at ht
      · next n3 =>
        split at ht
        · omega
        · next n4 =>
          have hd : ∀ i, i < lx_na B s a - a → B (a + i) ≤ 57 := by
            intro i hi
            have e : lx_na B s a = lx_w lx_D B (s - a) a := by
              unfold lx_na
              rw [if_neg n1, if_neg n2, if_pos n3]
            rw [e] at hi
            have := lx_w_in lx_D B (s - a) a (a + i) (by omega) (by omega)
            exact (of_decide_eq_true this).2
          have h1 := lx_num_le B a _ hd
          have h2 : 10 ^ (lx_na B s a - a) ≤ 10 ^ 4 := Nat.pow_le_pow_right (by decide) (by omega)
          omega
      · split at ht
        · next g => omega
        · omega
/-! frames -/
abbrev zFr (m : Nat → Nat → Prop) (G G' : zH) : Prop := ∀ c j, ¬ m c j → G' c j = G c j
theorem zFr_rf (m : Nat → Nat → Prop) (G : zH) : zFr m G G := fun _ _ _ => rfl
theorem zFr_up {m : Nat → Nat → Prop} {G G1 : zH} {k j : Nat} {v : Int32} (h : zFr m G G1) (hm : m k j) : zFr m G (z_up G1 k j v) := fun c i q => by
  unfold z_up upd
  by_cases e : c = k
  · subst e
    rw [if_pos rfl]
    by_cases e2 : i = j
    · subst e2
      exact absurd hm q
    · rw [if_neg e2]
      exact h c i q
  · rw [if_neg e]
    exact h c i q
theorem zFr_tr {m : Nat → Nat → Prop} {G G1 G2 : zH} (h : zFr m G G1) (h2 : zFr m G1 G2) : zFr m G G2 := fun c i q => by rw [h2 c i q, h c i q]
abbrev m18 (c j : Nat) : Prop := c = 18 ∧ 2 ≤ j
abbrev m82 (c j : Nat) : Prop := c = 82 ∧ (j = 26 ∨ j = 27 ∨ j = 28 ∨ j = 29)
def zBX (B : Nat → Nat) (s : Nat) (G : zH) : Prop := s ≤ 160 ∧ G 18 1 = nI s ∧ ∀ i, i < s → B i < 256 ∧ G 19 i = nI (B i)
theorem zBX_fr {B : Nat → Nat} {s : Nat} {G G' : zH} (h : zBX B s G) (f : zFr m18 G G') : zBX B s G' := ⟨h.1, by rw [f 18 1 (fun q => absurd q.2 (by decide))]; exact h.2.1, fun i hi => ⟨(h.2.2 i hi).1, by rw [f 19 i (fun q => absurd q.1 (by decide))]; exact (h.2.2 i hi).2⟩⟩
def sx (b : Nat) : Int32 := (nI b).toInt8.toInt32
def lx_bw (w : Nat) : Nat := ([0, 6, 9, 12, 16, 22, 27, 30, 34, 38, 40, 43, 46] : List Nat).getD w 0
def zBM (B : Nat → Nat) (s : Nat) (G : zH) : Prop := s ≤ 160 ∧ G 82 22 = nI s ∧ (∀ i, i < s → B i < 256 ∧ G 100 i = sx (B i)) ∧ zG14 G
theorem zBM_fr {B : Nat → Nat} {s : Nat} {G G' : zH} (h : zBM B s G) (f : zFr m82 G G') : zBM B s G' := ⟨h.1, by rw [f 82 22 (fun q => absurd q.2 (by decide))]; exact h.2.1, fun i hi => ⟨(h.2.2.1 i hi).1, by rw [f 100 i (fun q => absurd q.1 (by decide))]; exact (h.2.2.1 i hi).2⟩, fun i hi => by rw [f 103 i (fun q => absurd q.1 (by decide))]; exact h.2.2.2.1 i hi, fun i hi => by rw [f 104 i (fun q => absurd q.1 (by decide))]; exact h.2.2.2.2 i hi⟩
theorem z_up2 (h : zH) (k j : Nat) (v w : Int32) : z_up (z_up h k j v) k j w = z_up h k j w := by
  funext a b
  unfold z_up upd
  by_cases h1 : a = k
  · subst h1
    simp only [if_pos]
    by_cases h2 : b = j
    · rw [if_pos h2, if_pos h2]
    · rw [if_neg h2, if_neg h2, if_neg h2]
  · rw [if_neg h1, if_neg h1, if_neg h1]
/-! the class's reader -/
section ZLX
variable {X : Option (List Int32)} {d : Nat} {S : zS} {B : Nat → Nat} {s : Nat}
theorem cc56 {h : zH} {A : Int32 → zH → Prop} {b : Nat} (hS : zCS S) (hb : b < 256) (k : A (zb (lx_bl b)) h) : zP X d 56 0 (z_ent [.int (nI b)] 1) [] S h (zI A) := by
  have e1 : nI b = 32 ↔ b = 32 := nI_eq (b := 32) (by omega) (by decide)
  have e2 : nI b = 10 ↔ b = 10 := nI_eq (b := 10) (by omega) (by decide)
  refine e56 hS ⟨fun g => ?_, fun g => ⟨fun g2 => ?_, fun g2 => ?_⟩⟩
  · rw [zb_t (Or.inl (e1.mp g))] at k; exact k
  · rw [zb_t (Or.inr (e2.mp g2))] at k; exact k
  · rw [zb_f (fun q => q.elim (fun z => g (e1.mpr z)) (fun z => g2 (e2.mpr z)))] at k; exact k
theorem cc57 {h : zH} {A : Int32 → zH → Prop} {b : Nat} (hS : zCS S) (hb : b < 256) (k : A (zb (lx_le b)) h) : zP X d 57 0 (z_ent [.int (nI b)] 1) [] S h (zI A) := by
  have e1 : nI b < 97 ↔ b < 97 := nI_ltI (b := 97) (by omega) (by decide)
  have e2 : (122 : Int32) < nI b ↔ 122 < b := nI_ltI (a := 122) (by decide) (by omega)
  refine e57 hS ⟨fun g => ?_, fun g => ⟨fun g2 => ?_, fun g2 => ?_⟩⟩
  · rw [e1] at g
    rw [zb_f (by omega)] at k; exact k
  · rw [e2] at g2
    rw [zb_f (by omega)] at k; exact k
  · rw [e1] at g
    rw [e2] at g2
    rw [zb_t (by omega)] at k; exact k
theorem cc58 {h : zH} {A : Int32 → zH → Prop} {b : Nat} (hS : zCS S) (hb : b < 256) (k : A (zb (lx_dg b)) h) : zP X d 58 0 (z_ent [.int (nI b)] 1) [] S h (zI A) := by
  have e1 : nI b < 48 ↔ b < 48 := nI_ltI (b := 48) (by omega) (by decide)
  have e2 : (57 : Int32) < nI b ↔ 57 < b := nI_ltI (a := 57) (by decide) (by omega)
  refine e58 hS ⟨fun g => ?_, fun g => ⟨fun g2 => ?_, fun g2 => ?_⟩⟩
  · rw [e1] at g
    rw [zb_f (by omega)] at k; exact k
  · rw [e2] at g2
    rw [zb_f (by omega)] at k; exact k
  · rw [e1] at g
    rw [e2] at g2
    rw [zb_t (by omega)] at k; exact k
theorem cc59 {h : zH} {A : Int32 → zH → Prop} {b : Nat} (hS : zCS S) (hb : b < 256) (k : A (zb (lx_sg b)) h) : zP X d 59 0 (z_ent [.int (nI b)] 1) [] S h (zI A) := by
  have yes : lx_sg b → A 1 h := fun q => by rw [zb_t q] at k; exact k
  have no : ¬ lx_sg b → A 0 h := fun q => by rw [zb_f q] at k; exact k
  have E : ∀ n, n < 256 → (nI b = nI n ↔ b = n) := fun n hn => nI_eq (by omega) (by omega)
  refine e59 hS ⟨fun g => yes (by have := (E 40 (by decide)).mp g; omega), fun g => yes (by have := (E 41 (by decide)).mp g; omega), fun g => yes (by have := (E 42 (by decide)).mp g; omega), fun g => yes (by have := (E 43 (by decide)).mp g; omega), fun g => no (by have := (E 44 (by decide)).mp g; omega), fun g => yes (by have := (E 45 (by decide)).mp g; omega), fun g => no (by have := (E 46 (by decide)).mp g; omega), fun g => no (by have := (E 47 (by decide)).mp g; omega), fun g => no (by have := (E 48 (by decide)).mp g; omega), fun g => no (by have := (E 49 (by decide)).mp g; omega), fun g => no (by have := (E 50 (by decide)).mp g; omega), fun g => no (by have := (E 51 (by decide)).mp g; omega), fun g => no (by have := (E 52 (by decide)).mp g; omega), fun g => no (by have := (E 53 (by decide)).mp g; omega), fun g => no (by have := (E 54 (by decide)).mp g; omega), fun g => no (by have := (E 55 (by decide)).mp g; omega), fun g => no (by have := (E 56 (by decide)).mp g; omega), fun g => no (by have := (E 57 (by decide)).mp g; omega), fun g => no (by have := (E 58 (by decide)).mp g; omega), fun g => yes (by have := (E 59 (by decide)).mp g; omega), fun g => yes (by have := (E 60 (by decide)).mp g; omega), fun g => yes (by have := (E 61 (by decide)).mp g; omega), fun ⟨g40, g41, g42, g43, g44, g45, g46, g47, g48, g49, g50, g51, g52, g53, g54, g55, g56, g57, g58, g59, g60, g61⟩ => no (fun q => ?_)⟩
  rcases q with q | q | q | q | q | q | q | q
  · exact g40 ((E 40 (by decide)).mpr q)
  · exact g41 ((E 41 (by decide)).mpr q)
  · exact g42 ((E 42 (by decide)).mpr q)
  · exact g43 ((E 43 (by decide)).mpr q)
  · exact g45 ((E 45 (by decide)).mpr q)
  · exact g59 ((E 59 (by decide)).mpr q)
  · exact g60 ((E 60 (by decide)).mpr q)
  · exact g61 ((E 61 (by decide)).mpr q)
theorem cc52_8 {A : zH → Prop} (hS : zCS S) : ∀ (m p : Nat) (G : zH), p + m = s → zBX B s G → G 18 2 = nI p → zP X (d + 1) 52 47 [some (.ref 18)] [] S (z_up G 18 2 (nI (lx_w lx_K B m p))) (zV A) → zP X (d + 1) 52 8 [some (.ref 18)] [] S G (zV A)
  | 0, p, G, hp, hB, h2, K => by
    have hs := hB.1
    refine e52_8 hS ⟨fun g => ?_, fun _ => ?_⟩
    · rw [h2, hB.2.1, nI_ltI (by omega) (by omega)] at g
      omega
    · have := z_up_id G 18 2
      rw [h2] at this
      rw [lx_w, this] at K
      exact K
  | m + 1, p, G, hp, hB, h2, K => by
    have hs := hB.1
    obtain ⟨b1, b2⟩ := hB.2.2 p (by omega)
    refine e52_8 hS ⟨fun _ => ?_, fun g => ?_⟩
    · rw [h2, nI_clamp (show p < 2 ^ 31 by omega), b2]
      refine ⟨vp_in_nI (by omega) (by decide), cc56 hS b1 (zsw (fun g => ?_) (fun g => ?_))⟩
      · have := z_up_id G 18 2
        rw [h2] at this
        rw [lx_w, if_neg (lx_Kf g), this] at K
        exact K
      · rw [lx_w, if_pos (lx_Kt g)] at K
        rw [h2, nI_1]
        refine cc52_8 hS m (p + 1) _ (by omega) (zBX_fr hB (zFr_up (zFr_rf m18 G) ⟨rfl, by decide⟩)) rfl ?_
        rw [z_up2]
        exact K
    · refine absurd ?_ g
      rw [h2, hB.2.1, nI_ltI (by omega) (by omega)]
      omega
theorem cc53_0 {A : zH → Prop} (hS : zCS S) : ∀ (m p : Nat) (G : zH), p + m = s → zBX B s G → G 18 3 = nI p → zP X (d + 1) 53 39 [some (.ref 18)] [] S (z_up G 18 3 (nI (lx_w lx_L B m p))) (zV A) → zP X (d + 1) 53 0 [some (.ref 18)] [] S G (zV A)
  | 0, p, G, hp, hB, h2, K => by
    have hs := hB.1
    refine e53_0 hS ⟨fun g => ?_, fun _ => ?_⟩
    · rw [h2, hB.2.1, nI_ltI (by omega) (by omega)] at g
      omega
    · have := z_up_id G 18 3
      rw [h2] at this
      rw [lx_w, this] at K
      exact K
  | m + 1, p, G, hp, hB, h2, K => by
    have hs := hB.1
    obtain ⟨b1, b2⟩ := hB.2.2 p (by omega)
    refine e53_0 hS ⟨fun _ => ?_, fun g => ?_⟩
    · rw [h2, nI_clamp (show p < 2 ^ 31 by omega), b2]
      refine ⟨vp_in_nI (by omega) (by decide), cc57 hS b1 (zsw (fun g => ?_) (fun g => ?_))⟩
      · have := z_up_id G 18 3
        rw [h2] at this
        rw [lx_w, if_neg (lx_Lf g), this] at K
        exact K
      · rw [lx_w, if_pos (lx_Lt g)] at K
        rw [h2, nI_1]
        refine cc53_0 hS m (p + 1) _ (by omega) (zBX_fr hB (zFr_up (zFr_rf m18 G) ⟨rfl, by decide⟩)) rfl ?_
        rw [z_up2]
        exact K
    · refine absurd ?_ g
      rw [h2, hB.2.1, nI_ltI (by omega) (by omega)]
      omega
def z_si (w : Nat) : Nat := if w < 6 then w + 7 else w - 5
theorem z_si_ok : ∀ w, w < 12 → z_si w < 13 ∧ (z_stn (z_si w)).length = (lx_wd w).length ∧ (lx_wd w).length ≤ 6 ∧ ∀ j, j < (lx_wd w).length → z_chv ((z_stn (z_si w)).getD j 0) = nI ((lx_wd w).getD j 0) ∧ (lx_wd w).getD j 0 < 256 := by decide +kernel
theorem cc55_20 {A : Int32 → zH → Prop} {a e w : Nat} {G : zH} (hS : zCS S) (hw : w < 12) (hB : zBX B s G) (ha : G 18 2 = nI a) (hae : a ≤ e) (hes : e ≤ s) (hl : (lx_wd w).length = e - a) (k : A (zb (lx_mt B a e (lx_wd w))) G) : ∀ (m j : Nat), j + m = (lx_wd w).length → (∀ i, i < j → B (a + i) = (lx_wd w).getD i 0) → zP X (d + 4) 55 20 [some (.ref 18), some (.ref (100100 + z_si w)), some (.int (nI j))] [] S G (zI A) := by
  obtain ⟨s1, s2, s3, s4⟩ := z_si_ok w hw
  have hs := hB.1
  intro m
  induction m with
  | zero =>
    intro j hj ho
    refine e55_20 hS s1 (c216 s1 ⟨fun g => ?_, fun _ => ?_⟩)
    · rw [s2, nI_ltI (by omega) (by omega)] at g
      omega
    · rw [zb_t ⟨hl, fun i hi => ho i (by omega)⟩] at k
      exact k
  | succ m ih =>
    intro j hj ho
    refine e55_20 hS s1 (c216 s1 ⟨fun _ => ?_, fun g => ?_⟩)
    · obtain ⟨b1, b2⟩ := hB.2.2 (a + j) (by omega)
      obtain ⟨t1, t2⟩ := s4 j (by omega)
      rw [ha, nI_add, nI_clamp (show a + j < 2 ^ 31 by omega), b2]
      refine ⟨vp_in_nI (by omega) (by decide), c217 s1 (by omega) ?_⟩
      rw [t1]
      have eb : nI (B (a + j)) = nI ((lx_wd w).getD j 0) ↔ B (a + j) = (lx_wd w).getD j 0 := nI_eq (by omega) (by omega)
      refine ⟨fun g => ?_, fun g => ?_⟩
      · rw [nI_1]
        refine ih (j + 1) (by omega) (fun i hi => ?_)
        by_cases q : i = j
        · rw [q]; exact eb.mp g
        · exact ho i (by omega)
      · rw [zb_f (fun q => g (eb.mpr (q.2 j (by omega))))] at k
        exact k
    · refine absurd ?_ g
      rw [s2, nI_ltI (by omega) (by omega)]
      omega
theorem cc55 {A : Int32 → zH → Prop} {a e w : Nat} {G : zH} (hS : zCS S) (hw : w < 12) (hB : zBX B s G) (ha : G 18 2 = nI a) (he : G 18 3 = nI e) (hae : a ≤ e) (hes : e ≤ s) (k : A (zb (lx_mt B a e (lx_wd w))) G) : zP X (d + 4) 55 0 (z_ent [.ref 18, .ref (100100 + z_si w)] 3) [] S G (zI A) := by
  obtain ⟨s1, s2, s3, s4⟩ := z_si_ok w hw
  have hs := hB.1
  have el : nI (lx_wd w).length = nI (e - a) ↔ (lx_wd w).length = e - a := nI_eq (by omega) (by omega)
  refine e55 hS s1 (c216 s1 ?_)
  rw [he, ha, z_sbm hae, s2]
  refine ⟨fun g => ?_, fun g => ?_⟩
  · exact cc55_20 hS hw hB ha hae hes (el.mp g) k (lx_wd w).length 0 (by omega) (fun i hi => absurd hi (Nat.not_lt_zero i))
  · rw [zb_f (fun q => g (el.mpr q.1))] at k
    exact k
theorem cc53_39 {A : zH → Prop} {a e : Nat} {G : zH} (hS : zCS S) (hB : zBX B s G) (ha : G 18 2 = nI a) (he : G 18 3 = nI e) (hae : a ≤ e) (hes : e ≤ s) (k : A (z_up G 18 4 (nI (lx_wc (lx_wi B a e))))) : zP X (d + 5) 53 39 [some (.ref 18)] [] S G (zV A) := by
  have hit : ∀ w, w < 12 → lx_mt B a e (lx_wd w) → A (z_up G 18 4 (nI (lx_wc w))) := fun w hw hm => by
    rw [lx_wi_hit hw hm] at k
    exact k
  refine e53_39 hS (cc55 (w := 6) hS (by decide) hB ha he hae hes (zsw (fun n0 => cc55 (w := 7) hS (by decide) hB ha he hae hes (zsw (fun n1 => cc55 (w := 8) hS (by decide) hB ha he hae hes (zsw (fun n2 => cc55 (w := 9) hS (by decide) hB ha he hae hes (zsw (fun n3 => cc55 (w := 10) hS (by decide) hB ha he hae hes (zsw (fun n4 => cc55 (w := 11) hS (by decide) hB ha he hae hes (zsw (fun n5 => cc55 (w := 0) hS (by decide) hB ha he hae hes (zsw (fun n6 => cc55 (w := 1) hS (by decide) hB ha he hae hes (zsw (fun n7 => cc55 (w := 2) hS (by decide) hB ha he hae hes (zsw (fun n8 => cc55 (w := 3) hS (by decide) hB ha he hae hes (zsw (fun n9 => cc55 (w := 4) hS (by decide) hB ha he hae hes (zsw (fun n10 => cc55 (w := 5) hS (by decide) hB ha he hae hes (zsw (fun n11 => ?_) (fun y => hit 5 (by decide) y))) (fun y => hit 4 (by decide) y))) (fun y => hit 3 (by decide) y))) (fun y => hit 2 (by decide) y))) (fun y => hit 1 (by decide) y))) (fun y => hit 0 (by decide) y))) (fun y => hit 11 (by decide) y))) (fun y => hit 10 (by decide) y))) (fun y => hit 9 (by decide) y))) (fun y => hit 8 (by decide) y))) (fun y => hit 7 (by decide) y))) (fun y => hit 6 (by decide) y)))
  have no : ∀ w, w < 12 → ¬ lx_mt B a e (lx_wd w) := by
    intro w hw
    match w, hw with
    | 0, _ => exact n6
    | 1, _ => exact n7
    | 2, _ => exact n8
    | 3, _ => exact n9
    | 4, _ => exact n10
    | 5, _ => exact n11
    | 6, _ => exact n0
    | 7, _ => exact n1
    | 8, _ => exact n2
    | 9, _ => exact n3
    | 10, _ => exact n4
    | 11, _ => exact n5
    | w + 12, q => omega
  have e12 : lx_wi B a e = 12 := lx_fw_no no 12 0 12 (by decide)
  rw [e12] at k
  exact k
theorem cc54_5 {A : zH → Prop} {a : Nat} (hS : zCS S) : ∀ (m p : Nat) (G : zH), p + m = s → a ≤ p → zBX B s G → G 18 3 = nI p → G 18 5 = nI (lx_num B a (p - a)) → (∀ G', zFr m18 G G' → G' 18 2 = G 18 2 → G' 18 3 = nI (lx_w lx_D B m p) → G' 18 5 = nI (lx_num B a (lx_w lx_D B m p - a)) → zP X (d + 1) 54 68 [some (.ref 18)] [] S G' (zV A)) → zP X (d + 1) 54 5 [some (.ref 18)] [] S G (zV A)
  | 0, p, G, hp, hap, hB, h3, h5, K => by
    have hs := hB.1
    refine e54_5 hS ⟨fun g => ?_, fun _ => ?_⟩
    · rw [h3, hB.2.1, nI_ltI (by omega) (by omega)] at g
      omega
    · exact K G (zFr_rf _ _) rfl h3 h5
  | m + 1, p, G, hp, hap, hB, h3, h5, K => by
    have hs := hB.1
    obtain ⟨b1, b2⟩ := hB.2.2 p (by omega)
    have ibp : z_ib (nI p) 160 := vp_in_nI (by omega) (by decide)
    refine e54_5 hS ⟨fun _ => ?_, fun g => ?_⟩
    · rw [h3, nI_clamp (show p < 2 ^ 31 by omega), b2]
      refine ⟨ibp, cc58 hS b1 (zsw (fun g => ?_) (fun g => ?_))⟩
      · refine K G (zFr_rf _ _) rfl ?_ ?_
        · rw [lx_w, if_neg (lx_Df g)]
          exact h3
        · rw [lx_w, if_neg (lx_Df g)]
          exact h5
      · rw [h3, nI_clamp (show p < 2 ^ 31 by omega), b2, h5, nI_1]
        refine ⟨ibp, ?_⟩
        have fr : zFr m18 G (z_up (z_up G 18 5 (nI (lx_num B a (p - a)) * 10 + nI (B p) - 48)) 18 3 (nI (p + 1))) := zFr_up (zFr_up (zFr_rf m18 G) ⟨rfl, by decide⟩) ⟨rfl, by decide⟩
        refine cc54_5 (a := a) hS m (p + 1) _ (by omega) (by omega) (zBX_fr hB fr) rfl ?_ ?_
        · show nI (lx_num B a (p - a)) * 10 + nI (B p) - 48 = nI (lx_num B a (p + 1 - a))
          rw [show p + 1 - a = (p - a) + 1 by omega, lx_num, show a + (p - a) = p by omega, show (10 : Int32) = nI 10 from rfl, pk_mul, nI_add, show (48 : Int32) = nI 48 from rfl, z_sbm (by omega)]
          congr 1
          omega
        · intro G' f1 f2 f3 f4
          refine K G' (zFr_tr fr f1) f2 ?_ ?_
          · rw [lx_w, if_pos (lx_Dt g)]
            exact f3
          · rw [lx_w, if_pos (lx_Dt g)]
            exact f4
    · refine absurd ?_ g
      rw [h3, hB.2.1, nI_ltI (by omega) (by omega)]
      omega
theorem cc52 {A : zH → Prop} {q : Nat} {G : zH} (hS : zCS S) (hq : q ≤ s) (hB : zBX B s G) (h3 : G 18 3 = nI q) (k : ∀ G', zFr m18 G G' → G' 18 2 = nI (lx_s B s q) → G' 18 3 = nI (lx_n B s q) → G' 18 4 = nI (lx_t B s q) → (lx_t B s q = 258 → G' 18 5 = nI (lx_v B s q)) → A G') : zP X (d + 6) 52 0 (z_ent [.ref 18] 1) [] S G (zV A) := by
  have hs := hB.1
  have hl := lx_s_le B hq
  refine e52 hS ?_
  rw [h3]
  refine cc52_8 hS (s - q) q _ (by omega) (zBX_fr hB (zFr_up (zFr_rf m18 G) ⟨rfl, by decide⟩)) rfl ?_
  rw [z_up2]
  show zP X (d + 6) 52 47 [some (.ref 18)] [] S (z_up G 18 2 (nI (lx_s B s q))) (zV A)
  have fr0 : zFr m18 G (z_up G 18 2 (nI (lx_s B s q))) := zFr_up (zFr_rf m18 G) ⟨rfl, by decide⟩
  have e2 : (z_up G 18 2 (nI (lx_s B s q))) 18 2 = nI (lx_s B s q) := rfl
  have e1 : (z_up G 18 2 (nI (lx_s B s q))) 18 1 = nI s := hB.2.1
  unfold lx_n lx_t lx_v lx_n at k
  revert k fr0 e2 e1 hl
  generalize lx_s B s q = a
  intro k hl fr0 e2 e1
  refine e52_47 hS ⟨fun g => ?_, fun g => ?_⟩
  · rw [e2, e1, nI_ltI (by omega) (by omega)] at g
    obtain ⟨b1, b2⟩ := hB.2.2 a g
    have ib : z_ib (nI a) 160 := vp_in_nI (by omega) (by decide)
    have cl : (nI a).toNatClampNeg = a := nI_clamp (by omega)
    have fr1 : zFr m18 G (z_up (z_up G 18 2 (nI a)) 18 3 (nI a)) := zFr_up fr0 ⟨rfl, by decide⟩
    have b3 : (z_up G 18 2 (nI a)) 19 a = nI (B a) := b2
    have b4 : (z_up (z_up G 18 2 (nI a)) 18 3 (nI a)) 19 a = nI (B a) := b2
    have b5 : (z_up (z_up G 18 2 (nI a)) 18 3 (nI a)) 18 2 = nI a := rfl
    have na := lx_na_le B g
    rw [e2, cl, b3]
    refine ⟨ib, cc57 hS b1 (zsw (fun g1 => ?_) (fun g1 => ?_))⟩
    · rw [b5, cl, b4]
      refine ⟨ib, cc58 hS b1 (zsw (fun g2 => ?_) (fun g2 => ?_))⟩
      · rw [b5, cl, b4]
        have e0 : lx_na B s a = a + 1 := by
          unfold lx_na
          rw [if_neg (by omega), if_neg g1, if_neg g2]
        refine ⟨ib, cc59 hS b1 (zsw (fun g3 => ?_) (fun g3 => ?_))⟩
        · rw [nI_1]
          refine k _ (zFr_up (zFr_up fr1 ⟨rfl, by decide⟩) ⟨rfl, by decide⟩) rfl ?_ ?_ ?_
          · rw [e0]; rfl
          · unfold lx_ta
            rw [if_neg (by omega), if_neg g1, if_neg g2, if_neg g3]
            rfl
          · intro z
            unfold lx_ta at z
            rw [if_neg (by omega), if_neg g1, if_neg g2, if_neg g3] at z
            omega
        · rw [nI_1]
          have b6 : (z_up (z_up (z_up G 18 2 (nI a)) 18 3 (nI a)) 18 3 (nI (a + 1))) 18 2 = nI a := rfl
          have b7 : (z_up (z_up (z_up G 18 2 (nI a)) 18 3 (nI a)) 18 3 (nI (a + 1))) 19 a = nI (B a) := b2
          rw [b6, cl, b7]
          refine ⟨ib, k _ (zFr_up (zFr_up fr1 ⟨rfl, by decide⟩) ⟨rfl, by decide⟩) rfl ?_ ?_ ?_⟩
          · rw [e0]; rfl
          · unfold lx_ta
            rw [if_neg (by omega), if_neg g1, if_neg g2, if_pos g3]
            rfl
          · intro z
            unfold lx_ta at z
            rw [if_neg (by omega), if_neg g1, if_neg g2, if_pos g3] at z
            omega
      · have e0 : lx_na B s a = lx_w lx_D B (s - a) a := by
          unfold lx_na
          rw [if_neg (by omega), if_neg g1, if_pos g2]
        have et : lx_ta B s a = if 4 < lx_na B s a - a then 257 else 258 := by
          unfold lx_ta
          rw [if_neg (by omega), if_neg g1, if_pos g2]
        refine e54 hS (cc54_5 (a := a) hS (s - a) a _ (by omega) (Nat.le_refl _) (zBX_fr hB (zFr_up fr1 ⟨rfl, by decide⟩)) rfl (by rw [Nat.sub_self]; rfl) ?_)
        intro G' f1 f2 f3 f4
        rw [← e0] at f3 f4
        have f2 : G' 18 2 = nI a := f2
        have f0 : zFr m18 G G' := zFr_tr (zFr_up fr1 ⟨rfl, by decide⟩) f1
        refine e54_68 hS ?_
        rw [f3, f2, z_sbm (by omega), show (4 : Int32) = nI 4 from rfl, nI_ltI (by decide) (by omega)]
        refine ⟨fun g4 => ?_, fun g4 => ?_⟩
        · rw [if_pos g4] at et
          refine k _ (zFr_up f0 ⟨rfl, by decide⟩) f2 f3 ?_ (fun z => ?_)
          · rw [et]; rfl
          · rw [et] at z; omega
        · rw [if_neg g4] at et
          refine k _ (zFr_up f0 ⟨rfl, by decide⟩) f2 f3 ?_ (fun _ => f4)
          rw [et]; rfl
    · have e0 : lx_na B s a = lx_w lx_L B (s - a) a := by
        unfold lx_na
        rw [if_neg (by omega), if_pos g1]
      refine e53 hS (cc53_0 hS (s - a) a _ (by omega) (zBX_fr hB fr1) rfl ?_)
      rw [← e0, z_up2]
      refine cc53_39 hS (zBX_fr hB (zFr_up fr0 ⟨rfl, by decide⟩)) rfl rfl (by omega) na.2 ?_
      refine k _ (zFr_up (zFr_up fr0 ⟨rfl, by decide⟩) ⟨rfl, by decide⟩) rfl rfl ?_ ?_
      · unfold lx_ta
        rw [if_neg (by omega), if_pos g1]
        rfl
      · intro z
        unfold lx_ta at z
        rw [if_neg (by omega), if_pos g1] at z
        exfalso
        have := lx_wi_le B a (lx_na B s a)
        unfold lx_wc at z
        split at z
        · omega
        · split at z <;> omega
  · rw [e2, e1, nI_ltI (by omega) (by omega)] at g
    rw [e2]
    have ea : lx_na B s a = a := by
      unfold lx_na
      rw [if_pos (by omega)]
    have et : lx_ta B s a = 256 := by
      unfold lx_ta
      rw [if_pos (by omega)]
    refine k _ (zFr_up (zFr_up fr0 ⟨rfl, by decide⟩) ⟨rfl, by decide⟩) rfl ?_ ?_ (fun z => ?_)
    · rw [ea]; rfl
    · rw [et]; rfl
    · rw [et] at z; omega
end ZLX

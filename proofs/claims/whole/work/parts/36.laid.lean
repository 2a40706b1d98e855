/-! hands laid to heaps -/
def z_pc (s : Nat) : Nat → Nat
  | 0 => 0
  | k + 1 => z_pc s k + (if z_bt s k then 1 else 0)
theorem z_pc_mono (s : Nat) {a : Nat} : ∀ b, a ≤ b → z_pc s a ≤ z_pc s b
  | 0, h => by
    have : a = 0 := by omega
    subst this
    exact Nat.le_refl _
  | b + 1, h => by
    by_cases q : a = b + 1
    · rw [q]; exact Nat.le_refl _
    · have := z_pc_mono s (a := a) b (by omega)
      rw [z_pc]
      omega
def z_cf (s : Nat) (f : Nat → Int32) : Nat → Nat → Int32
  | 0 => f
  | k + 1 => if z_bt s k then upd (z_cf s f k) (z_pc s k) (nI k) else z_cf s f k
theorem z_cf_ok (s : Nat) (f g : Nat → Int32) : ∀ k j, j < z_pc s k → z_cf s f k j = z_cf s g k j ∧ ∃ c, c < k ∧ z_cf s f k j = nI c
  | 0, j, h => absurd h (Nat.not_lt_zero j)
  | k + 1, j, h => by
    rw [z_pc] at h
    by_cases q : z_bt s k
    · rw [if_pos q] at h
      rw [z_cf, z_cf, if_pos q, if_pos q]
      by_cases q2 : j = z_pc s k
      · subst q2
        rw [upd_S, upd_S]
        exact ⟨rfl, k, by omega, rfl⟩
      · rw [upd_N _ _ q2, upd_N _ _ q2]
        obtain ⟨h1, c, hc, h2⟩ := z_cf_ok s f g k j (by omega)
        exact ⟨h1, c, by omega, h2⟩
    · rw [if_neg q] at h
      rw [z_cf, z_cf, if_neg q, if_neg q]
      obtain ⟨h1, c, hc, h2⟩ := z_cf_ok s f g k j (by omega)
      exact ⟨h1, c, by omega, h2⟩
def z_bc (a1 : Int32) : Int32 :=
  let i1 := a1 - (((Int32.toUInt32 a1 >>> (Int32.toUInt32 1 &&& Int32.toUInt32 31)).toInt32) &&& 1431655765)
  let i2 := (i1 &&& 858993459) + (((Int32.toUInt32 i1 >>> (Int32.toUInt32 2 &&& Int32.toUInt32 31)).toInt32) &&& 858993459)
  let i3 := (i2 + ((Int32.toUInt32 i2 >>> (Int32.toUInt32 4 &&& Int32.toUInt32 31)).toInt32)) &&& 252645135
  let i4 := i3 + ((Int32.toUInt32 i3 >>> (Int32.toUInt32 8 &&& Int32.toUInt32 31)).toInt32)
  let i5 := i4 + ((Int32.toUInt32 i4 >>> (Int32.toUInt32 16 &&& Int32.toUInt32 31)).toInt32)
  i5 &&& 63
set_option maxRecDepth 100000 in
theorem z_bc_ok : ∀ s, s < 1024 → z_bc (nI s) = nI (z_pc s 10) := by decide +kernel
abbrev z_lS : Type := (Nat → Int32) × (Nat → Int32) × Int32
def z_lay (wn : Nat → Int32) (ca : Nat → Nat) (mn : Nat) : Nat → Nat → Int32 → Int32 → z_lS → z_lS
  | 0, _, _, w, s => if s.2.2 < w then (s.1, (fun j => if j < mn then s.1 j else s.2.1 j), w) else s
  | r + 1, i, u, w, s => z_it (fun hp s => if ((u >>> (nI hp &&& 31)) &&& 1) = 0 then z_lay wn ca mn r (i + 1) (u ||| ((1 : Int32) <<< (nI hp &&& 31))) (w + wn (ca i * 5 + hp)) (upd s.1 i (nI hp), s.2.1, s.2.2) else s) 5 0 s
def z_lX (h : zH) (s : z_lS) : zH := z_pt (z_pt (z_up h 60 5 s.2.2) 63 s.1) 64 s.2.1
def z_lM (h : zH) (s : z_lS) : zH := z_pt (z_pt (z_up h 82 66 s.2.2) 128 s.1) 127 s.2.1
theorem z_lX_c {h g : zH} (s : z_lS) (E : ∀ c, ¬ c = 60 → ¬ c = 63 → ¬ c = 64 → g c = h c) (E2 : ∀ j, ¬ j = 5 → g 60 j = h 60 j) : z_lX g s = z_lX h s := by
  funext c j
  by_cases q4 : c = 64
  · subst q4; rfl
  by_cases q3 : c = 63
  · subst q3; rfl
  unfold z_lX
  rw [z_ptN _ _ q4, z_ptN _ _ q3, z_ptN _ _ q4, z_ptN _ _ q3, z_up_pt, z_up_pt]
  by_cases q1 : c = 60
  · subst q1
    rw [z_ptS, z_ptS]
    by_cases q : j = 5
    · subst q; rw [upd_S, upd_S]
    · rw [upd_N _ _ q, upd_N _ _ q]; exact E2 j q
  · rw [z_ptN _ _ q1, z_ptN _ _ q1, E c q1 q3 q4]
theorem z_lM_c {h g : zH} (s : z_lS) (E : ∀ c, ¬ c = 82 → ¬ c = 128 → ¬ c = 127 → g c = h c) (E2 : ∀ j, ¬ j = 66 → g 82 j = h 82 j) : z_lM g s = z_lM h s := by
  funext c j
  by_cases q4 : c = 127
  · subst q4; rfl
  by_cases q3 : c = 128
  · subst q3; rfl
  unfold z_lM
  rw [z_ptN _ _ q4, z_ptN _ _ q3, z_ptN _ _ q4, z_ptN _ _ q3, z_up_pt, z_up_pt]
  by_cases q1 : c = 82
  · subst q1
    rw [z_ptS, z_ptS]
    by_cases q : j = 66
    · subst q; rw [upd_S, upd_S]
    · rw [upd_N _ _ q, upd_N _ _ q]; exact E2 j q
  · rw [z_ptN _ _ q1, z_ptN _ _ q1, E c q1 q3 q4]
theorem z_lX_id (h : zH) : z_lX h (h 63, h 64, h 60 5) = h := by
  unfold z_lX
  dsimp only
  rw [z_up_id, z_pt_id, z_pt_id]
theorem z_lM_id (h : zH) : z_lM h (h 128, h 127, h 82 66) = h := by
  unfold z_lM
  dsimp only
  rw [z_up_id, z_pt_id, z_pt_id]
section ZLY
variable {X : Option (List Int32)} {d : Nat} {A : Int32 → zH → Prop} {B : zH → Prop}
theorem c38 {ca : Nat → Nat} {mn : Nat} (hmn : mn ≤ 5) (hca : ∀ j, j < mn → ca j < 10) : ∀ (r i : Nat) (u w : Int32) (h : zH) {B : zH → Prop}, i + r = mn → h 60 4 = nI mn → (∀ j, j < mn → h 62 j = nI (ca j)) → B (z_lX h (z_lay (h 61) ca mn r i u w (h 63, h 64, h 60 5))) → zP X (d + r + 1) 38 0 (z_ent [.ref 60, .int (nI i), .int u, .int w] 6) [] z_S0 h (zV B)
  | 0, i, u, w, h, B, hi, h4, hc, hB => by
    have e : i = mn := by omega
    subst e
    refine b38 ⟨fun g => ?_, fun _ => ?_⟩
    · rw [h4, nI_ltI (by omega) (by omega)] at g
      omega
    · have cl : (nI i).toNatClampNeg = i := nI_clamp (by omega)
      refine ⟨fun g => ⟨?_, ?_⟩, fun g => ?_⟩
      · rw [h4, cl]
        refine ⟨by decide, by decide, nI_pos (by omega), ?_, ?_⟩ <;> (show 0 + i ≤ 5; omega)
      · rw [h4, cl]
        rw [z_lay, if_pos g] at hB
        have e2 : z_cpy (z_up h 60 5 w) 63 64 (Int32.toNatClampNeg 0) (Int32.toNatClampNeg 0) i = z_lX h (h 63, (fun j => if j < i then h 63 j else h 64 j), w) := by
          have e3 : z_cpy (z_up h 60 5 w) 63 64 (Int32.toNatClampNeg 0) (Int32.toNatClampNeg 0) i = z_pt (z_up h 60 5 w) 64 (va_cpy (h 63) (h 64) 0 0 i) := rfl
          rw [e3]
          unfold z_lX
          dsimp only
          have e4 : z_pt (z_up h 60 5 w) 63 (h 63) = z_up h 60 5 w := z_pt_id (z_up h 60 5 w) 63
          rw [e4]
          congr 1
          funext j
          unfold va_cpy
          by_cases q : j < i
          · rw [if_pos q, if_pos ⟨by omega, by omega⟩]
            congr 1
            omega
          · rw [if_neg q, if_neg (by omega)]
        rw [e2]
        exact hB
      · rw [z_lay, if_neg g, z_lX_id] at hB
        exact hB
  | r + 1, i, u, w, h, B, hi, h4, hc, hB => by
    have ibi : z_ib (nI i) 5 := vp_in_nI (by omega) (by decide)
    have cli : (nI i).toNatClampNeg = i := nI_clamp (by omega)
    have ci := hca i (by omega)
    have hci := hc i (by omega)
    refine b38 ⟨fun _ => ⟨ibi, ?_⟩, fun g => ?_⟩
    · rw [cli, hci]
      have loop : ∀ (m hp : Nat) (h : zH), hp + m = 5 → h 60 4 = nI mn → (∀ j, j < mn → h 62 j = nI (ca j)) → B (z_lX h (z_it (fun hp s => if ((u >>> (nI hp &&& 31)) &&& 1) = 0 then z_lay (h 61) ca mn r (i + 1) (u ||| ((1 : Int32) <<< (nI hp &&& 31))) (w + h 61 (ca i * 5 + hp)) (upd s.1 i (nI hp), s.2.1, s.2.2) else s) m hp (h 63, h 64, h 60 5))) → zP X (d + (r + 1) + 1) 38 50 [some (.ref 60), some (.int (nI i)), some (.int u), some (.int w), some (.int (nI (ca i))), some (.int (nI hp))] [] z_S0 h (zV B) := by
        intro m
        induction m with
        | zero =>
          intro hp h hhp h4 hc hB
          refine b38_50 ⟨fun g => ?_, fun _ => ?_⟩
          · have := (nI_ltI (b := 5) (by omega) (by decide)).mp g
            omega
          · rw [z_it, z_lX_id] at hB
            exact hB
        | succ m ih =>
          intro hp h hhp h4 hc hB
          have e : (nI (ca i) * 5 : Int32) + nI hp = nI (ca i * 5 + hp) := by rw [show (5 : Int32) = nI 5 from rfl, pk_mul, nI_add]
          refine b38_50 ⟨fun _ => ⟨fun g => ?_, fun g => b38_100 ?_⟩, fun g => ?_⟩
          · rw [cli, e, nI_clamp (show ca i * 5 + hp < 2 ^ 31 by omega), nI_1]
            refine ⟨ibi, vp_in_nI (by omega) (by decide), ?_⟩
            refine c38 hmn hca r (i + 1) _ _ (z_up h 63 i (nI hp)) (by omega) h4 hc (b38_100 ?_)
            rw [nI_1]
            refine ih (hp + 1) _ (by omega) h4 hc ?_
            rw [z_it, if_pos g] at hB
            rw [z_lX_c (h := h) _ (fun c q1 q2 q3 => ?_) (fun j q => ?_)]
            · exact hB
            · unfold z_lX
              rw [z_ptN _ _ q3, z_ptN _ _ q2, z_up_pt, z_ptN _ _ q1, z_up_pt, z_ptN _ _ q2]
            · unfold z_lX
              rw [z_ptN _ _ (by decide), z_ptN _ _ (by decide), z_up_pt, z_ptS, upd_N _ _ q, z_up_pt, z_ptN _ _ (by decide)]
          · rw [nI_1]
            refine ih (hp + 1) h (by omega) h4 hc ?_
            rw [z_it, if_neg g] at hB
            exact hB
          · exact absurd ((nI_ltI (b := 5) (by omega) (by decide)).mpr (by omega)) g
      exact loop 5 0 h (by omega) h4 hc (by rw [z_lay] at hB; exact hB)
    · rw [h4, nI_ltI (by omega) (by omega)] at g
      omega
theorem c192_23 {mn : Nat} {d : Nat} (hmn : mn ≤ 5) : ∀ (m k : Nat) (h : zH) {B : zH → Prop}, k + m = mn → B (z_pt h 127 (fun j => if k ≤ j ∧ j < mn then h 128 j else h 127 j)) → zP X (d + 1) 192 23 [some (.ref 82), none, some (.int (nI mn)), none, none, some (.int (nI k))] [] z_S0 h (zV B)
  | 0, k, h, B, hk, hB => by
    refine b192_23 ⟨fun g => ?_, fun _ => ?_⟩
    · rw [nI_ltI (by omega) (by omega)] at g
      omega
    · have : (fun j => if k ≤ j ∧ j < mn then h 128 j else h 127 j) = h 127 := funext fun j => if_neg (by omega)
      rw [this, z_pt_id] at hB
      exact hB
  | m + 1, k, h, B, hk, hB => by
    have ib : z_ib (nI k) 5 := vp_in_nI (by omega) (by decide)
    have cl : (nI k).toNatClampNeg = k := nI_clamp (by omega)
    refine b192_23 ⟨fun _ => ⟨ib, ib, ?_⟩, fun g => ?_⟩
    · rw [cl, nI_1]
      refine c192_23 hmn m (k + 1) _ (by omega) ?_
      rw [z_up_pt, z_pt_pt, z_ptS, z_ptN _ _ (by decide)]
      have e : (fun j => if k + 1 ≤ j ∧ j < mn then h 128 j else upd (h 127) k (h 128 k) j) = (fun j => if k ≤ j ∧ j < mn then h 128 j else h 127 j) := by
        funext j
        by_cases q : j = k
        · subst q
          rw [if_neg (by omega), if_pos ⟨by omega, by omega⟩, upd_S]
        · rw [upd_N _ _ q]
          by_cases q2 : k ≤ j ∧ j < mn
          · rw [if_pos q2, if_pos ⟨by omega, q2.2⟩]
          · rw [if_neg q2, if_neg (by omega)]
      rw [e]
      exact hB
    · exact absurd ((nI_ltI (by omega) (by omega)).mpr (by omega)) g
theorem c192 {ca : Nat → Nat} {mn : Nat} (hmn : mn ≤ 5) (hca : ∀ j, j < mn → ca j < 10) : ∀ (r i : Nat) (u w : Int32) (h : zH) {B : zH → Prop}, i + r = mn → (∀ j, j < mn → h 126 j = nI (ca j)) → B (z_lM h (z_lay (h 125) ca mn r i u w (h 128, h 127, h 82 66))) → zP X (d + r + 1) 192 0 (z_ent [.ref 82, .int (nI i), .int (nI mn), .int u, .int w] 6) [] z_S0 h (zV B)
  | 0, i, u, w, h, B, hi, hc, hB => by
    have e : i = mn := by omega
    subst e
    refine b192 ⟨fun _ => ⟨fun g => ?_, fun g => ?_⟩, fun g => absurd rfl g⟩
    · refine c192_23 (k := 0) hmn i _ (by omega) ?_
      rw [z_lay, if_pos g] at hB
      have e2 : z_pt (z_up h 82 66 w) 127 (fun j => if 0 ≤ j ∧ j < i then z_up h 82 66 w 128 j else z_up h 82 66 w 127 j) = z_lM h (h 128, (fun j => if j < i then h 128 j else h 127 j), w) := by
        unfold z_lM
        dsimp only
        have e4 : z_pt (z_up h 82 66 w) 128 (h 128) = z_up h 82 66 w := z_pt_id (z_up h 82 66 w) 128
        rw [e4]
        congr 1
        funext j
        show (if 0 ≤ j ∧ j < i then h 128 j else h 127 j) = _
        by_cases q : j < i
        · rw [if_pos q, if_pos ⟨by omega, by omega⟩]
        · rw [if_neg q, if_neg (by omega)]
      rw [e2]
      exact hB
    · rw [z_lay, if_neg g, z_lM_id] at hB
      exact hB
  | r + 1, i, u, w, h, B, hi, hc, hB => by
    refine b192 ⟨fun g => ?_, fun _ => ?_⟩
    · rw [nI_eq (by omega) (by omega)] at g
      omega
    · have loop : ∀ (m hp : Nat) (h : zH), hp + m = 5 → (∀ j, j < mn → h 126 j = nI (ca j)) → B (z_lM h (z_it (fun hp s => if ((u >>> (nI hp &&& 31)) &&& 1) = 0 then z_lay (h 125) ca mn r (i + 1) (u ||| ((1 : Int32) <<< (nI hp &&& 31))) (w + h 125 (ca i * 5 + hp)) (upd s.1 i (nI hp), s.2.1, s.2.2) else s) m hp (h 128, h 127, h 82 66))) → zP X (d + (r + 1) + 1) 192 53 [some (.ref 82), some (.int (nI i)), some (.int (nI mn)), some (.int u), some (.int w), some (.int (nI hp))] [] z_S0 h (zV B) := by
        intro m
        induction m with
        | zero =>
          intro hp h hhp hc hB
          refine b192_53 ⟨fun g => ?_, fun _ => ?_⟩
          · have := (nI_ltI (b := 5) (by omega) (by decide)).mp g
            omega
          · rw [z_it, z_lM_id] at hB
            exact hB
        | succ m ih =>
          intro hp h hhp hc hB
          have ci := hca i (by omega)
          have hci := hc i (by omega)
          have ibi : z_ib (nI i) 5 := vp_in_nI (by omega) (by decide)
          have cli : (nI i).toNatClampNeg = i := nI_clamp (by omega)
          have e : (5 * nI (ca i) : Int32) + nI hp = nI (ca i * 5 + hp) := by rw [Int32.mul_comm, show (5 : Int32) = nI 5 from rfl, pk_mul, nI_add]
          refine b192_53 ⟨fun _ => ⟨fun g => ?_, fun g => b192_109 ?_⟩, fun g => ?_⟩
          · rw [cli, hci, e, nI_clamp (show ca i * 5 + hp < 2 ^ 31 by omega), nI_1]
            refine ⟨ibi, ibi, vp_in_nI (by omega) (by decide), ?_⟩
            refine c192 hmn hca r (i + 1) _ _ (z_up h 128 i (nI hp)) (by omega) hc (b192_109 ?_)
            rw [nI_1]
            refine ih (hp + 1) _ (by omega) hc ?_
            rw [z_it, if_pos g] at hB
            rw [z_lM_c (h := h) _ (fun c q1 q2 q3 => ?_) (fun j q => ?_)]
            · exact hB
            · unfold z_lM
              rw [z_ptN _ _ q3, z_ptN _ _ q2, z_up_pt, z_ptN _ _ q1, z_up_pt, z_ptN _ _ q2]
            · unfold z_lM
              rw [z_ptN _ _ (by decide), z_ptN _ _ (by decide), z_up_pt, z_ptS, upd_N _ _ q, z_up_pt, z_ptN _ _ (by decide)]
          · rw [nI_1]
            refine ih (hp + 1) h (by omega) hc ?_
            rw [z_it, if_neg g] at hB
            exact hB
          · exact absurd ((nI_ltI (b := 5) (by omega) (by decide)).mpr (by omega)) g
      exact loop 5 0 h (by omega) hc (by rw [z_lay] at hB; exact hB)
theorem c37_7 {s : Nat} (hs : s < 1024) (h5 : z_pc s 10 ≤ 5) {f : Nat → Int32} : ∀ (m k : Nat) (h : zH), k + m = 10 → h 60 4 = nI (z_pc s k) → h 62 = z_cf s f k → B (z_lX (z_pt (z_up h 60 4 (nI (z_pc s 10))) 62 (z_cf s f 10)) (z_lay (h 61) (fun j => (z_cf s f 10 j).toNatClampNeg) (z_pc s 10) (z_pc s 10) 0 0 0 (h 63, h 64, -1))) → zP X (d + 7) 37 7 [some (.ref 60), some (.int (nI s)), some (.int (nI k))] [] z_S0 h (zV B)
  | 0, k, h, hk, h4, hf, hB => by
    have e : k = 10 := by omega
    subst e
    refine b37_7 ⟨fun g => absurd g (by decide), fun _ => ?_⟩
    obtain ⟨e, he⟩ : ∃ e, d + 6 = e + z_pc s 10 + 1 := ⟨d + 5 - z_pc s 10, by omega⟩
    rw [he]
    have hq : ∀ j, j < z_pc s 10 → (fun j => (z_cf s f 10 j).toNatClampNeg) j < 10 ∧ z_cf s f 10 j = nI ((fun j => (z_cf s f 10 j).toNatClampNeg) j) := by
      intro j hj
      obtain ⟨-, c, hc, ec⟩ := z_cf_ok s f f 10 j hj
      show (z_cf s f 10 j).toNatClampNeg < 10 ∧ z_cf s f 10 j = nI (z_cf s f 10 j).toNatClampNeg
      rw [ec, nI_clamp (by omega)]
      exact ⟨hc, rfl⟩
    refine c38 (i := 0) h5 (fun j hj => (hq j hj).1) (z_pc s 10) 0 0 (z_up h 60 5 (-1)) (by omega) h4 (fun j hj => ?_) ?_
    · show h 62 j = _
      rw [hf]
      exact (hq j hj).2
    · have e2 : z_pt (z_up h 60 4 (nI (z_pc s 10))) 62 (z_cf s f 10) = h := by
        rw [← h4, z_up_id, ← hf, z_pt_id]
      rw [e2] at hB
      rw [z_lX_c (h := h) _ (fun c q1 q2 q3 => ?_) (fun j q => ?_)]
      · exact hB
      · rw [z_up_pt, z_ptN _ _ q1]
      · rw [z_up_pt, z_ptS, upd_N _ _ q]
  | m + 1, k, h, hk, h4, hf, hB => by
    have ek : z_pc s (k + 1) = z_pc s k + (if z_bt s k then 1 else 0) := rfl
    have ef : z_cf s f (k + 1) = if z_bt s k then upd (z_cf s f k) (z_pc s k) (nI k) else z_cf s f k := rfl
    have hmo := z_pc_mono s (a := k + 1) 10 (by omega)
    refine b37_7 ⟨fun _ => ⟨fun g => ?_, fun g => b37_50 ?_⟩, fun g => ?_⟩
    · rw [z_bit (by omega) (by omega)] at g
      rw [if_pos g] at ek ef
      rw [h4, nI_1]
      have hlt : z_pc s k < 5 := by omega
      refine ⟨fun _ => ⟨vp_in_nI hlt (by decide), b37_50 ?_⟩, fun q => absurd ((nI_ltI (b := 5) (by omega) (by decide)).mpr hlt) q⟩
      rw [nI_clamp (by omega), nI_1]
      refine c37_7 hs h5 m (k + 1) _ (by omega) (by rw [ek]; rfl) (by rw [ef, ← hf]; rfl) ?_
      have e : z_pt (z_up (z_up (z_up h 62 (z_pc s k) (nI k)) 60 4 (nI (z_pc s k + 1))) 60 4 (nI (z_pc s 10))) 62 (z_cf s f 10) = z_pt (z_up h 60 4 (nI (z_pc s 10))) 62 (z_cf s f 10) := by
        funext c j
        by_cases q : c = 62
        · subst q; rfl
        · rw [z_ptN _ _ q, z_ptN _ _ q, z_up_pt, z_up_pt (h := h) (k := 60)]
          by_cases q2 : c = 60
          · subst q2
            rw [z_ptS, z_ptS]
            by_cases q3 : j = 4
            · subst q3; rw [upd_S, upd_S]
            · rw [upd_N _ _ q3, upd_N _ _ q3, z_up_pt, z_ptS, upd_N _ _ q3]; rfl
          · rw [z_ptN _ _ q2, z_ptN _ _ q2, z_up_pt, z_ptN _ _ q2, z_up_pt, z_ptN _ _ q]
      rw [e]
      exact hB
    · rw [z_bit (by omega) (by omega)] at g
      rw [if_neg g] at ek ef
      rw [nI_1]
      exact c37_7 hs h5 m (k + 1) h (by omega) (by rw [ek]; exact h4) (by rw [ef]; exact hf) hB
    · exact absurd ((nI_ltI (b := 10) (by omega) (by decide)).mpr (by omega)) g
theorem c194_20 {s : Nat} {a2 : Int32} (hs : s < 1024) {f : Nat → Int32} : ∀ (m k : Nat) (h : zH), k + m = 10 → z_pc s k ≤ 5 → h 126 = z_cf s f k → (5 < z_pc s 10 → ∀ g, A (-2) (z_pt h 126 g)) → (z_pc s 10 ≤ 5 → zP X (d + 1) 194 20 [some (.ref 82), some (.int (nI s)), some (.int a2), some (.int (nI (z_pc s 10))), some (.int (nI 10))] [] z_S0 (z_pt h 126 (z_cf s f 10)) (zI A)) → zP X (d + 1) 194 20 [some (.ref 82), some (.int (nI s)), some (.int a2), some (.int (nI (z_pc s k))), some (.int (nI k))] [] z_S0 h (zI A)
  | 0, k, h, hk, h5, hf, h1, h2 => by
    have e : k = 10 := by omega
    subst e
    have := h2 h5
    rw [← hf, z_pt_id] at this
    exact this
  | m + 1, k, h, hk, h5, hf, h1, h2 => by
    have ek : z_pc s (k + 1) = z_pc s k + (if z_bt s k then 1 else 0) := rfl
    have ef : z_cf s f (k + 1) = if z_bt s k then upd (z_cf s f k) (z_pc s k) (nI k) else z_cf s f k := rfl
    have hmo := z_pc_mono s (a := k + 1) 10 (by omega)
    refine b194_20 ⟨fun _ => ⟨fun g => ⟨fun g2 => ?_, fun g2 => ?_⟩, fun g => b194_56 ?_⟩, fun g => ?_⟩
    · rw [z_bit (by omega) (by omega)] at g
      rw [if_pos g] at ek
      have e5 : z_pc s k = 5 := (nI_eq (b := 5) (by omega) (by decide)).mp g2
      have := h1 (by omega) (h 126)
      rw [z_pt_id] at this
      exact this
    · rw [z_bit (by omega) (by omega)] at g
      rw [if_pos g] at ek ef
      have n5 : ¬ z_pc s k = 5 := fun q => g2 ((nI_eq (b := 5) (by omega) (by decide)).mpr q)
      refine ⟨vp_in_nI (by omega) (by decide), b194_56 ?_⟩
      rw [nI_1, nI_1, ← ek, nI_clamp (by omega)]
      refine c194_20 hs m (k + 1) _ (by omega) (by omega) (by rw [ef, ← hf]; rfl) (fun q g' => ?_) (fun q => ?_)
      · rw [z_up_pt, z_pt_pt]
        exact h1 q g'
      · rw [z_up_pt, z_pt_pt]
        exact h2 q
    · rw [z_bit (by omega) (by omega)] at g
      rw [if_neg g] at ek ef
      rw [nI_1, ← show z_pc s (k + 1) = z_pc s k from ek]
      exact c194_20 hs m (k + 1) h (by omega) (by omega) (by rw [ef]; exact hf) h1 h2
    · exact absurd ((nI_ltI (b := 10) (by omega) (by decide)).mpr (by omega)) g
theorem c212 {a1 : Int32} {h : zH} (k : A (z_bc a1) h) : zP X d 212 0 (z_ent [.int a1] 1) [] z_S0 h (zI A) := b212 k
end ZLY
def zLym (c j : Nat) : Bool := zScr c j || (Nat.beq c 63 || (Nat.beq c 64 || (Nat.beq c 127 || Nat.beq c 128)))
theorem zR_ly {h g : zH} (R : zR h) (E : ∀ c j, zLym c j = false → g c j = h c j) (G : zG9 g) : zR g := by
  have e := z_mix_eq E
  have G2 : zG9 (z_mix zLym h g) := by rw [← e]; exact G
  have k : zR (z_mix zLym h g) := ⟨R.g0, R.g1, R.g2, R.g3, R.g4, R.g5, R.g6, R.g7, R.g8, G2, R.g10, R.g11, R.g12, R.g13, R.g14⟩
  rw [e]
  exact k
section ZLZ
variable {X : Option (List Int32)} {d : Nat} {h : zH}
theorem q_laid {a1 a2 : Int32} (R : zR h) : zP X (d + 9) 106 0 (z_ent [.ref 0, .int a1, .int a2] 3) [] z_S0 h (zI fun r h1 => zP X (d + 9) 194 0 (z_ent [.ref 82, .int a1, .int a2] 5) [] z_S0 h1 (zI fun r2 h2 => r = r2 ∧ zR h2)) := by
  refine b106 (c119 (zsw (fun g => ?_) (fun g => c212 ?_)))
  · exact b194 (c128 0 1023 (by decide) (by decide) (zsw (fun _ => ⟨rfl, R⟩) (fun q => absurd q g)))
  · obtain ⟨s, hs, rfl⟩ := z_inN 1023 (by decide) g
    rw [z_bc_ok s (by omega)]
    have hmx : z_pc s 10 ≤ 10 := by
      have : ∀ k, z_pc s k ≤ k := by
        intro k
        induction k with
        | zero => exact Nat.le_refl 0
        | succ k ih =>
          rw [z_pc]
          split <;> omega
      exact this 10
    have R126 : ∀ f, zR (z_pt h 126 f) := fun f => zR_scr R (fun c j hc => by
      by_cases q : c = 126
      · subst q; cases hc
      · rw [z_ptN _ _ q])
    have start : ∀ {h1 : zH} {B : Int32 → zH → Prop}, (5 < z_pc s 10 → ∀ g, B (-2) (z_pt h1 126 g)) → (z_pc s 10 ≤ 5 → zP X (d + 9) 194 20 [some (.ref 82), some (.int (nI s)), some (.int a2), some (.int (nI (z_pc s 10))), some (.int (nI 10))] [] z_S0 (z_pt h1 126 (z_cf s (h1 126) 10)) (zI B)) → zP X (d + 9) 194 0 (z_ent [.ref 82, .int (nI s), .int a2] 5) [] z_S0 h1 (zI B) := by
      intro h1 B k1 k2
      exact b194 (c128 0 1023 (by decide) (by decide) (zsw (fun q => absurd g q) (fun _ => c194_20 (k := 0) (f := h1 126) (by omega) 10 h1 (by omega) (Nat.zero_le 5) rfl k1 k2)))
    refine ⟨fun g2 => ?_, fun g2 => c212 ?_⟩
    · have g2 : 5 < z_pc s 10 := (nI_ltI (a := 5) (by decide) (by omega)).mp g2
      exact start (fun _ f => ⟨rfl, R126 f⟩) (fun q => absurd g2 (by omega))
    · have n5 : z_pc s 10 ≤ 5 := Nat.not_lt.mp fun q => g2 ((nI_ltI (a := 5) (by decide) (by omega)).mpr q)
      have lm : ¬ (nI (z_pc s 10) - 1) < a2 ↔ a2 < nI (z_pc s 10) := z_ltm (by omega)
      rw [z_bc_ok s (by omega)]
      have noI : ¬ nI 10 < 10 := by decide
      refine c119 (zsw (fun g3 => start (fun q => absurd q (by omega)) (fun _ => b194_20 ⟨fun q => absurd q noI, fun _ => ⟨fun _ => ⟨rfl, R126 _⟩, fun w1 => ⟨fun w2 => absurd ⟨w1, lm.mpr w2⟩ g3, fun _ => ⟨rfl, R126 _⟩⟩⟩⟩)) (fun g3 => b37 ?_))
      have w2 := lm.mp g3.2
      refine c37_7 (d := d + 1) (k := 0) (f := h 62) (by omega) n5 10 _ (by omega) rfl rfl ?_
      have goM : ∀ {h1 : zH} {w : Int32}, (∀ c, ¬ c = 60 → ¬ c = 62 → ¬ c = 63 → ¬ c = 64 → h1 c = h c) → (∀ j, j < 4 → h1 60 j = h 60 j) → (h1 63, h1 64, h1 60 5) = z_lay (h 61) (fun j => (z_cf s (h 62) 10 j).toNatClampNeg) (z_pc s 10) (z_pc s 10) 0 0 0 (h 63, h 64, -1) → (a2 = -1 → w = h1 60 5) → (¬ a2 = -1 → w = h1 64 (Int32.toNatClampNeg a2)) → zP X (d + 9) 194 0 (z_ent [.ref 82, .int (nI s), .int a2] 5) [] z_S0 h1 (zI fun r2 h2 => w = r2 ∧ zR h2) := by
        intro h1 w E E60 el wA wB
        refine start (fun q => absurd q (by omega)) (fun _ => b194_20 ⟨fun q => absurd q noI, fun _ => ⟨fun q => absurd q g3.1, fun _ => ⟨fun _ => b193 ?_, fun q => absurd w2 q⟩⟩⟩)
        have E2 : h1 126 = h 126 := E 126 (by decide) (by decide) (by decide) (by decide)
        obtain ⟨e, he⟩ : ∃ e, d + 7 = e + z_pc s 10 + 1 := ⟨d + 6 - z_pc s 10, by omega⟩
        rw [he]
        have cg : ∀ j, j < z_pc s 10 → (z_cf s (h1 126) 10 j) = nI (z_cf s (h 62) 10 j).toNatClampNeg ∧ (z_cf s (h 62) 10 j).toNatClampNeg < 10 := by
          intro j hj
          obtain ⟨q1, c, hc, ec⟩ := z_cf_ok s (h 62) (h1 126) 10 j hj
          rw [← q1, ec, nI_clamp (by omega)]
          exact ⟨rfl, hc⟩
        refine c192 (i := 0) n5 (fun j hj => (cg j hj).2) (z_pc s 10) 0 0 (z_up (z_pt h1 126 (z_cf s (h1 126) 10)) 82 66 (-1)) (by omega) (fun j hj => (cg j hj).1) ?_
        have e3 : z_lay (h1 125) (fun j => (z_cf s (h 62) 10 j).toNatClampNeg) (z_pc s 10) (z_pc s 10) 0 0 0 (h1 128, h1 127, -1) = (h1 63, h1 64, h1 60 5) := by
          rw [el, E 125 (by decide) (by decide) (by decide) (by decide), E 128 (by decide) (by decide) (by decide) (by decide), E 127 (by decide) (by decide) (by decide) (by decide), ← R.g9.1, ← R.g9.2.1, ← R.g9.2.2]
        have RR : zR (z_lM (z_up (z_pt h1 126 (z_cf s (h1 126) 10)) 82 66 (-1)) (h1 63, h1 64, h1 60 5)) := by
          refine zR_ly R ?_ ⟨?_, ?_, ?_⟩
          · intro c j hc
            by_cases q1 : c = 127
            · subst q1; exact absurd hc (by simp [zLym])
            by_cases q2 : c = 128
            · subst q2; exact absurd hc (by simp [zLym])
            by_cases q3 : c = 126
            · subst q3; exact absurd hc (by simp [zLym, zScr])
            by_cases q4 : c = 63
            · subst q4; exact absurd hc (by simp [zLym])
            by_cases q5 : c = 64
            · subst q5; exact absurd hc (by simp [zLym])
            by_cases q6 : c = 62
            · subst q6; exact absurd hc (by simp [zLym, zScr])
            unfold z_lM
            rw [z_ptN _ _ q1, z_ptN _ _ q2, z_up_pt]
            by_cases q7 : c = 82
            · subst q7
              rw [z_ptS]
              by_cases q8 : j = 66
              · subst q8; exact absurd hc (by simp [zLym, zScr])
              · rw [upd_N _ _ q8, z_up_pt, z_ptS, upd_N _ _ q8, z_ptN _ _ (by decide), E 82 (by decide) (by decide) (by decide) (by decide)]
            · rw [z_ptN _ _ q7, z_up_pt, z_ptN _ _ q7, z_ptN _ _ q3]
              by_cases q9 : c = 60
              · subst q9
                by_cases q10 : j < 4
                · exact E60 j q10
                · have : Nat.ble 4 j = true := Nat.ble_eq_true_of_le (by omega)
                  exact absurd hc (by simp [zLym, zScr, this])
              · rw [E c q9 q6 q4 q5]
          · show h1 61 = h1 125
            rw [E 61 (by decide) (by decide) (by decide) (by decide), E 125 (by decide) (by decide) (by decide) (by decide)]
            exact R.g9.1
          · rfl
          · rfl
        have e4 : z_lay ((z_up (z_pt h1 126 (z_cf s (h1 126) 10)) 82 66 (-1)) 125) (fun j => (z_cf s (h 62) 10 j).toNatClampNeg) (z_pc s 10) (z_pc s 10) 0 0 0 ((z_up (z_pt h1 126 (z_cf s (h1 126) 10)) 82 66 (-1)) 128, (z_up (z_pt h1 126 (z_cf s (h1 126) 10)) 82 66 (-1)) 127, (z_up (z_pt h1 126 (z_cf s (h1 126) 10)) 82 66 (-1)) 82 66) = (h1 63, h1 64, h1 60 5) := e3
        rw [e4]
        refine ⟨fun q => ⟨wA q, RR⟩, fun q => ⟨?_, wB q, RR⟩⟩
        obtain ⟨j, hj, rfl⟩ := zhasN (N := z_pc s 10) (by omega) ⟨fun z => q ((z_mn1 g3).mp z), w2⟩
        exact vp_in_nI (by omega) (by decide)
      have Ec : ∀ c, ¬ c = 60 → ¬ c = 62 → ¬ c = 63 → ¬ c = 64 → z_lX (z_pt (z_up (z_up h 60 4 0) 60 4 (nI (z_pc s 10))) 62 (z_cf s (h 62) 10)) (z_lay (h 61) (fun j => (z_cf s (h 62) 10 j).toNatClampNeg) (z_pc s 10) (z_pc s 10) 0 0 0 (h 63, h 64, -1)) c = h c := by
        intro c q1 q2 q3 q4
        unfold z_lX
        rw [z_ptN _ _ q4, z_ptN _ _ q3, z_up_pt, z_ptN _ _ q1, z_ptN _ _ q2, z_up_pt, z_ptN _ _ q1, z_up_pt, z_ptN _ _ q1]
      have E60 : ∀ j, j < 4 → z_lX (z_pt (z_up (z_up h 60 4 0) 60 4 (nI (z_pc s 10))) 62 (z_cf s (h 62) 10)) (z_lay (h 61) (fun j => (z_cf s (h 62) 10 j).toNatClampNeg) (z_pc s 10) (z_pc s 10) 0 0 0 (h 63, h 64, -1)) 60 j = h 60 j := by
        intro j hj
        unfold z_lX
        rw [z_ptN _ _ (by decide), z_ptN _ _ (by decide), z_up_pt, z_ptS, upd_N _ _ (by omega), z_ptN _ _ (by decide), z_up_pt, z_ptS, upd_N _ _ (by omega), z_up_pt, z_ptS, upd_N _ _ (by omega)]
      refine ⟨fun q => goM Ec E60 rfl (fun _ => rfl) (fun z => absurd q z), fun q => ⟨?_, goM Ec E60 rfl (fun z => absurd z q) (fun _ => rfl)⟩⟩
      obtain ⟨j, hj, rfl⟩ := zhasN (N := z_pc s 10) (by omega) ⟨fun z => q ((z_mn1 g3).mp z), w2⟩
      exact vp_in_nI (by omega) (by decide)
end ZLZ

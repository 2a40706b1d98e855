/-! reading a text, the reference: what waits, what is done -/
def rkN (x : Nat) : Nat := if x = 12 then 1 else if x = 11 then 2 else if x = 13 then 3 else if x = 9 then 4 else if x = 10 then 4 else if x = 6 then 5 else if x = 7 then 5 else if x = 8 then 6 else if x = 14 then 7 else 0
def md_op : List Nat → Nat
  | [] => 0
  | x :: r => md_op r + (if 13 ≤ x then 1 else 0)
def md_dp : List Nat → Nat
  | [] => 0
  | x :: r => md_dp r + (if x = 15 then 1 else 0)
def md_ok (f : Nat → Int32) : List Nat → Prop
  | [] => True
  | x :: r => f r.length = nI x ∧ md_ok f r
theorem md_ok_up {f : Nat → Int32} {k : Nat} {v : Int32} : ∀ W : List Nat, W.length ≤ k → md_ok f W → md_ok (upd f k v) W
  | [], _, _ => trivial
  | x :: r, hk, ⟨h1, h2⟩ => by
    have hk : r.length + 1 ≤ k := hk
    exact ⟨by rw [upd_N _ _ (by omega)]; exact h1, md_ok_up r (by omega) h2⟩
theorem md_dp_op : ∀ W, md_dp W ≤ md_op W
  | [] => Nat.le_refl _
  | x :: r => by
    have := md_dp_op r
    rw [md_dp, md_op]
    split <;> split <;> omega
abbrev zPr (r : Nat) (P : List Nat) : Prop := ∀ x, x ∈ P → 6 ≤ x ∧ x < 15 ∧ r ≤ rkN x
def zTop (r : Nat) : List Nat → Prop
  | [] => True
  | x :: _ => x = 15 ∨ (6 ≤ x ∧ x < 15 ∧ rkN x < r)
theorem md_dp_P {r : Nat} : ∀ (P W : List Nat), zPr r P → md_dp (P ++ W) = md_dp W
  | [], W, _ => rfl
  | x :: P, W, h => by
    have hx := h x List.mem_cons_self
    rw [List.cons_append, md_dp, md_dp_P P W (fun y hy => h y (List.mem_cons_of_mem _ hy)), if_neg (by omega)]
    rfl
abbrev mM (c j : Nat) : Prop := c = 101 ∨ c = 105 ∨ c = 106 ∨ (c = 82 ∧ (j = 26 ∨ j = 27 ∨ j = 28 ∨ j = 29 ∨ j = 33 ∨ j = 34 ∨ j = 35 ∨ j = 37 ∨ j = 38))
def zSM (B : Nat → Nat) (s : Nat) (g : zH) (row q : Nat) (W E : List Nat) (G : zH) : Prop := zFr mM g G ∧ G 82 29 = nI (lx_s B s q) ∧ G 82 26 = nI (lx_n B s q) ∧ zTk (lx_t B s q) (lx_v B s q) G ∧ G 82 33 = nI W.length ∧ G 82 34 = nI (md_op W) ∧ G 82 35 = nI (md_dp W) ∧ G 82 37 = nI (160 * row) ∧ G 82 38 = nI E.length ∧ md_ok (G 105) W ∧ (∀ j, j < E.length → G 101 (160 * row + j) = z_mc (E.getD j 0)) ∧ (∀ j, j < 160 * row → G 101 j = g 101 j)
theorem zBM_M {B : Nat → Nat} {s : Nat} {g G : zH} (h : zBM B s g) (f : zFr mM g G) : zBM B s G := ⟨h.1, by rw [f 82 22 (by omega)]; exact h.2.1, fun i hi => ⟨(h.2.2.1 i hi).1, by rw [f 100 i (by omega)]; exact (h.2.2.1 i hi).2⟩, fun i hi => by rw [f 103 i (by omega)]; exact h.2.2.2.1 i hi, fun i hi => by rw [f 104 i (by omega)]; exact h.2.2.2.2 i hi⟩
theorem zTkc {B : Nat → Nat} {s q : Nat} {G : zH} (h : zTk (lx_t B s q) (lx_v B s q) G) : (lx_t B s q < 256 ∧ G 82 27 = 3 ∧ G 82 28 = nI (lx_t B s q)) ∨ (lx_t B s q = 256 ∧ G 82 27 = 0) ∨ (lx_t B s q = 257 ∧ G 82 27 = 5) ∨ (lx_t B s q = 258 ∧ G 82 27 = 1 ∧ G 82 28 = nI (lx_v B s q)) ∨ (260 ≤ lx_t B s q ∧ lx_t B s q < 266 ∧ G 82 27 = 4 ∧ G 82 28 = nI (lx_t B s q - 260)) ∨ (270 ≤ lx_t B s q ∧ lx_t B s q < 276 ∧ G 82 27 = 2 ∧ G 82 28 = nI (lx_t B s q - 270)) := by
  obtain ⟨h1, h2, h3, h4, h5, h6⟩ := h
  rcases lx_t_ok B s q with r | r | r | r | r | r
  · have : lx_t B s q < 256 := by omega
    exact Or.inl ⟨this, h1 this⟩
  · exact Or.inr (Or.inl ⟨r, h2 r⟩)
  · exact Or.inr (Or.inr (Or.inl ⟨r, h3 r⟩))
  · exact Or.inr (Or.inr (Or.inr (Or.inl ⟨r, h4 r⟩)))
  · exact Or.inr (Or.inr (Or.inr (Or.inr (Or.inl ⟨r.1, r.2, h5 r.1 r.2⟩))))
  · exact Or.inr (Or.inr (Or.inr (Or.inr (Or.inr ⟨r.1, r.2, h6 r.1⟩))))
section ZPM
variable {X : Option (List Int32)} {d : Nat} {B : Nat → Nat} {s row q : Nat} {g G : zH} {W E : List Nat}
theorem cm154 {A : Int32 → zH → Prop} {c : Nat} (hc : c < 256) (h : zTk (lx_t B s q) (lx_v B s q) G) (k : A (zb (lx_t B s q = c)) G) : zP X d 154 0 (z_ent [.ref 82, .int (nI c)] 2) [] z_S0 G (zI A) := by
  rcases zTkc h with ⟨r, e1, e2⟩ | ⟨r, e1⟩ | ⟨r, e1⟩ | ⟨r, e1, e2⟩ | ⟨r, r2, e1, e2⟩ | ⟨r, r2, e1, e2⟩
  · refine b154 ⟨fun _ => ?_, fun n => absurd e1 n⟩
    rw [e2, nI_eq (by omega) (by omega)]
    exact ⟨fun y => by rw [zb_t y] at k; exact k, fun y => by rw [zb_f y] at k; exact k⟩
  all_goals
    rw [zb_f (by omega)] at k
    refine b154 ⟨fun n => ?_, fun _ => k⟩
    rw [e1] at n
    exact absurd n (by decide)
theorem cm155 {A : Int32 → zH → Prop} {c : Nat} (hc : c < 6) (h : zTk (lx_t B s q) (lx_v B s q) G) (k : A (zb (lx_t B s q = 260 + c)) G) : zP X d 155 0 (z_ent [.ref 82, .int (nI c)] 2) [] z_S0 G (zI A) := by
  rcases zTkc h with ⟨r, e1, e2⟩ | ⟨r, e1⟩ | ⟨r, e1⟩ | ⟨r, e1, e2⟩ | ⟨r, r2, e1, e2⟩ | ⟨r, r2, e1, e2⟩
  case inr.inr.inr.inr.inl =>
    refine b155 ⟨fun _ => ?_, fun n => absurd e1 n⟩
    rw [e2, nI_eq (by omega) (by omega)]
    exact ⟨fun y => by rw [zb_t (by omega)] at k; exact k, fun y => by rw [zb_f (by omega)] at k; exact k⟩
  all_goals
    rw [zb_f (by omega)] at k
    refine b155 ⟨fun n => ?_, fun _ => k⟩
    rw [e1] at n
    exact absurd n (by decide)
theorem cmNext {A : zH → Prop} (hB : zBM B s g) (hq : q ≤ s) (h : zSM B s g row q W E G) (K : ∀ G', zSM B s g row (lx_n B s q) W E G' → G' 106 = G 106 → A G') : zP X (d + 2) 153 0 (z_ent [.ref 82] 2) [] z_S0 G (zV A) := by
  obtain ⟨h1, h2, h3, h4, h5, h6, h7, h8, h9, h10, h11, h12⟩ := h
  refine cm153 (lx_n_le hq) (zBM_M hB h1) h3 (fun G' f1 f2 f3 f4 => ?_)
  have e105 : G' 105 = G 105 := funext fun j => f1 105 j (by omega)
  have e101 : G' 101 = G 101 := funext fun j => f1 101 j (by omega)
  have e82 : ∀ j, 30 ≤ j → G' 82 j = G 82 j := fun j hj => f1 82 j (by omega)
  refine K G' ⟨fun c j n => ?_, f2, f3, f4, ?_, ?_, ?_, ?_, ?_, ?_, ?_, ?_⟩ (funext fun j => f1 106 j (by omega))
  · rw [f1 c j (by omega)]
    exact h1 c j n
  · rw [e82 33 (by decide)]; exact h5
  · rw [e82 34 (by decide)]; exact h6
  · rw [e82 35 (by decide)]; exact h7
  · rw [e82 37 (by decide)]; exact h8
  · rw [e82 38 (by decide)]; exact h9
  · rw [e105]; exact h10
  · rw [e101]; exact h11
  · rw [e101]; exact h12
theorem cm156 {A : zH → Prop} {c : Nat} (hr : row < 18) (hE : E.length < 160) (h : zSM B s g row q W E G) (K : ∀ G', zSM B s g row q W (E ++ [c]) G' → G' 106 = G 106 → A G') : zP X d 156 0 (z_ent [.ref 82, .int (z_mc c)] 2) [] z_S0 G (zV A) := by
  obtain ⟨h1, h2, h3, h4, h5, h6, h7, h8, h9, h10, h11, h12⟩ := h
  refine b156 ?_
  rw [h8, h9, nI_add, nI_clamp (show 160 * row + E.length < 2 ^ 31 by omega), nI_1]
  refine ⟨vp_in_nI (by omega) (by decide), K _ ⟨zFr_up (zFr_up h1 (Or.inl rfl)) (Or.inr (Or.inr (Or.inr ⟨rfl, by decide⟩))), h2, h3, h4, h5, h6, h7, h8, ?_, h10, ?_, ?_⟩ rfl⟩
  · rw [List.length_append]
    rfl
  · intro j hj
    rw [List.length_append] at hj
    have hj : j < E.length + 1 := hj
    show upd (G 101) (160 * row + E.length) (z_mc c) (160 * row + j) = _
    by_cases e : j = E.length
    · subst e
      rw [upd_S, List.getD_eq_getElem?_getD, List.getElem?_append_right (Nat.le_refl _), Nat.sub_self]
      rfl
    · rw [upd_N _ _ (by omega), h11 j (by omega), List.getD_eq_getElem?_getD, List.getD_eq_getElem?_getD, List.getElem?_append_left (by omega)]
  · intro j hj
    show upd (G 101) (160 * row + E.length) (z_mc c) j = _
    rw [upd_N _ _ (by omega)]
    exact h12 j hj
theorem cm157 {A : Int32 → zH → Prop} {x : Nat} (hx : x < 16) (k : A (nI (rkN x)) G) : zP X d 157 0 (z_ent [.int (nI x)] 1) [] z_S0 G (zI A) := by
  have E : ∀ n, n < 256 → (nI x = nI n ↔ x = n) := fun n hn => nI_eq (by omega) (by omega)
  unfold rkN at k
  refine b157 ⟨fun y => ?_, fun n1 => ⟨fun y => ?_, fun n2 => ⟨fun y => ?_, fun n3 => ⟨fun y => ?_, fun n4 => ⟨fun y => ?_, fun n5 => ⟨fun y => ?_, fun n6 => ⟨fun y => ?_, fun n7 => ⟨fun y => ?_, fun n8 => ⟨fun y => ?_, fun n9 => ?_⟩⟩⟩⟩⟩⟩⟩⟩⟩
  · rw [if_pos ((E 12 (by decide)).mp y)] at k; exact k
  all_goals rw [if_neg (fun z => n1 ((E 12 (by decide)).mpr z))] at k
  · rw [if_pos ((E 11 (by decide)).mp y)] at k; exact k
  all_goals rw [if_neg (fun z => n2 ((E 11 (by decide)).mpr z))] at k
  · rw [if_pos ((E 13 (by decide)).mp y)] at k; exact k
  all_goals rw [if_neg (fun z => n3 ((E 13 (by decide)).mpr z))] at k
  · rw [if_pos ((E 9 (by decide)).mp y)] at k; exact k
  all_goals rw [if_neg (fun z => n4 ((E 9 (by decide)).mpr z))] at k
  · rw [if_pos ((E 10 (by decide)).mp y)] at k; exact k
  all_goals rw [if_neg (fun z => n5 ((E 10 (by decide)).mpr z))] at k
  · rw [if_pos ((E 6 (by decide)).mp y)] at k; exact k
  all_goals rw [if_neg (fun z => n6 ((E 6 (by decide)).mpr z))] at k
  · rw [if_pos ((E 7 (by decide)).mp y)] at k; exact k
  all_goals rw [if_neg (fun z => n7 ((E 7 (by decide)).mpr z))] at k
  · rw [if_pos ((E 8 (by decide)).mp y)] at k; exact k
  all_goals rw [if_neg (fun z => n8 ((E 8 (by decide)).mpr z))] at k
  · rw [if_pos ((E 14 (by decide)).mp y)] at k; exact k
  · rw [if_neg (fun z => n9 ((E 14 (by decide)).mpr z))] at k; exact k
theorem rkN_le (x : Nat) : rkN x ≤ 7 := by
  unfold rkN
  repeat' split
  all_goals omega
/-- what waits and ranks so high is done -/
theorem cm158_0 {A : zH → Prop} {r : Nat} (hr : row < 18) (hr7 : r ≤ 7) (hr1 : 1 ≤ r) (hW : zTop r W) : ∀ (P E : List Nat) (G : zH), zPr r P → E.length + P.length + W.length ≤ 160 → zSM B s g row q (P ++ W) E G → (∀ G', zSM B s g row q W (E ++ P) G' → G' 106 = G 106 → A G') → zP X (d + 1) 158 0 [some (.ref 82), some (.int (nI r))] [] z_S0 G (zV A) := by
  intro P
  induction P with
  | nil =>
    intro E G hP hl h K
    rw [List.append_nil] at K
    have KA : A G := K G h rfl
    clear K
    obtain ⟨h1, h2, h3, h4, h5, h6, h7, h8, h9, h10, h11, h12⟩ := h
    match W, hW, h5, h10, hl with
    | [], _, h5, _, _ =>
      refine b158_0 ⟨fun y => ?_, fun _ => KA⟩
      have h5 : G 82 33 = nI 0 := h5
      rw [h5] at y
      exact absurd y (by decide)
    | x :: W', hW, h5, h10, hl =>
      have h5 : G 82 33 = nI (W'.length + 1) := h5
      have h10 : G 105 W'.length = nI x ∧ md_ok (G 105) W' := h10
      have hl : E.length + 0 + (W'.length + 1) ≤ 160 := hl
      have ib : z_ib (nI W'.length) 170 := vp_in_nI (by omega) (by decide)
      refine b158_0 ⟨fun _ => ?_, fun _ => KA⟩
      rw [h5, nI_pred, nI_clamp (show W'.length < 2 ^ 31 by omega), h10.1]
      refine ⟨ib, fun _ => KA, fun n => ⟨ib, ?_⟩⟩
      rcases hW with y | ⟨y1, y2, y3⟩
      · exact absurd (by rw [y]; rfl) n
      · refine cm157 (by omega) ⟨fun _ => KA, fun n2 => absurd ?_ n2⟩
        exact nI_lt y3 (by omega)
  | cons x P ih =>
    intro E G hP hl h K
    obtain ⟨x1, x2, x3⟩ := hP x List.mem_cons_self
    have hP2 : zPr r P := fun y hy => hP y (List.mem_cons_of_mem _ hy)
    have hl : E.length + (P.length + 1) + W.length ≤ 160 := hl
    obtain ⟨h1, h2, h3, h4, h5, h6, h7, h8, h9, h10, h11, h12⟩ := h
    have h5 : G 82 33 = nI ((P ++ W).length + 1) := h5
    have h10 : G 105 (P ++ W).length = nI x ∧ md_ok (G 105) (P ++ W) := h10
    have hlen : (P ++ W).length = P.length + W.length := List.length_append
    have ib : z_ib (nI (P ++ W).length) 170 := vp_in_nI (by omega) (by decide)
    have cl : (nI (P ++ W).length).toNatClampNeg = (P ++ W).length := nI_clamp (by omega)
    have hop : md_op (x :: (P ++ W)) = md_op (P ++ W) + (if 13 ≤ x then 1 else 0) := rfl
    have h6 : G 82 34 = nI (md_op (P ++ W) + (if 13 ≤ x then 1 else 0)) := h6
    have h7 : G 82 35 = nI (md_dp (P ++ W)) := by
      have : md_dp (x :: (P ++ W)) = md_dp (P ++ W) := by rw [md_dp, if_neg (by omega)]; rfl
      rw [← this]; exact h7
    have E16 : ∀ n, n < 256 → (nI x = nI n ↔ x = n) := fun n hn => nI_eq (by omega) (by omega)
    have fin : ∀ v : Int32, G 82 34 - v = nI (md_op (P ++ W)) → zP X (d + 1) 158 89 [some (.ref 82), some (.int (nI r))] [.int v, .int (G 82 34), .ref 82] z_S0 (z_up G 82 33 (nI (P ++ W).length)) (zV A) := by
      intro v hv
      refine b158_89 ?_
      rw [hv]
      have e33 : (z_up G 82 33 (nI (P ++ W).length)) 82 33 = nI (P ++ W).length := rfl
      have e105 : (z_up G 82 33 (nI (P ++ W).length)) 105 (P ++ W).length = nI x := h10.1
      rw [e33, cl, e105, ← z_mc_lo (show x < 15 by omega)]
      refine ⟨ib, cm156 (E := E) (W := P ++ W) (g := g) (q := q) (s := s) (B := B) hr (by omega) ⟨zFr_up (zFr_up h1 (Or.inr (Or.inr (Or.inr ⟨rfl, by decide⟩)))) (Or.inr (Or.inr (Or.inr ⟨rfl, by decide⟩))), h2, h3, h4, rfl, rfl, h7, h8, h9, h10.2, h11, h12⟩ ?_⟩
      intro G' f1 f2
      refine ih (E ++ [x]) G' hP2 (by rw [List.length_append]; show E.length + 1 + P.length + W.length ≤ 160; omega) f1 ?_
      intro G2 y1 y2
      refine K G2 ?_ (by rw [y2, f2]; rfl)
      rw [List.append_assoc] at y1
      exact y1
    refine b158_0 ⟨fun _ => ?_, fun n => ?_⟩
    · rw [h5, nI_pred, cl, h10.1]
      refine ⟨ib, fun y => absurd ((E16 15 (by decide)).mp y) (by omega), fun _ => ⟨ib, cm157 (by omega) ⟨fun y => ?_, fun _ => ?_⟩⟩⟩
      · rw [nI_ltI (by have := rkN_le x; omega) (by omega)] at y
        omega
      · rw [h5, nI_pred, cl, h10.1]
        have one : 13 ≤ x → G 82 34 - 1 = nI (md_op (P ++ W)) := by
          intro hx
          rw [h6, if_pos hx]
          exact nI_pred _
        refine ⟨ib, fun y => b158_84 (fin 1 (one (by have := (E16 13 (by decide)).mp y; omega))), fun n13 => ⟨ib, fun y => b158_84 (fin 1 (one (by have := (E16 14 (by decide)).mp y; omega))), fun n14 => fin 0 ?_⟩⟩
        have hx : ¬ 13 ≤ x := by
          have a1 : ¬ x = 13 := fun z => n13 ((E16 13 (by decide)).mpr z)
          have a2 : ¬ x = 14 := fun z => n14 ((E16 14 (by decide)).mpr z)
          omega
        rw [h6, if_neg hx]
        exact Int32.sub_zero _
    · refine absurd ?_ n
      rw [h5]
      exact nI_lt (a := 0) (by omega) (by omega)
theorem cm158 {A : zH → Prop} {r : Nat} {P : List Nat} (hr : row < 18) (hr7 : r ≤ 7) (hr1 : 1 ≤ r) (hW : zTop r W) (hP : zPr r P) (hl : E.length + P.length + W.length ≤ 160) (h : zSM B s g row q (P ++ W) E G) (K : ∀ G', zSM B s g row q W (E ++ P) G' → G' 106 = G 106 → A G') : zP X (d + 1) 158 0 (z_ent [.ref 82, .int (nI r)] 2) [] z_S0 G (zV A) := b158 (cm158_0 hr hr7 hr1 hW P E G hP hl h K)
def tkN (x : Nat) : Nat := ([43, 45, 42, 60, 61, 264, 263] : List Nat).getD (x - 6) 0
/-- a sign or word between -/
theorem cm160_97 {A : Int32 → zH → Prop} {x : Nat} {P : List Nat} (hr : row < 18) (hx : 6 ≤ x ∧ x < 13) (hW : zTop (rkN x) W) (hP : zPr (rkN x) P) (hl : E.length + P.length + W.length < 160) (hdp : md_dp W ≤ 5) (h : zSM B s g row q (P ++ W) E G) (hc : rkN x = 4 → G 106 (md_dp W) = 0) (K : ∀ G', zSM B s g row q (x :: W) (E ++ P) G' → (∀ j, ¬ j = md_dp W → G' 106 j = G 106 j) → (4 < rkN x → (G' 106 (md_dp W) = 0 ↔ G 106 (md_dp W) = 0)) → (rkN x < 4 → G' 106 (md_dp W) = 0) → (rkN x = 4 → ¬ G' 106 (md_dp W) = 0) → A 1 G') : zP X (d + 3) 160 97 [some (.ref 82), none] [.int (nI x)] z_S0 G (zI A) := by
  have hrk : 1 ≤ rkN x ∧ rkN x ≤ 6 := by
    have : ∀ x, x < 13 → 6 ≤ x → 1 ≤ rkN x ∧ rkN x ≤ 6 := by decide
    exact this x hx.2 hx.1
  have ib8 : z_ib (nI (md_dp W)) 8 := vp_in_nI (by omega) (by decide)
  have cl : (nI (md_dp W)).toNatClampNeg = md_dp W := nI_clamp (by omega)
  have h35 : G 82 35 = nI (md_dp W) := by
    rw [h.2.2.2.2.2.2.1, md_dp_P P W hP]
  have E4 : ∀ n, n < 256 → (nI (rkN x) = nI n ↔ rkN x = n) := fun n hn => nI_eq (by omega) (by omega)
  have main : zP X (d + 3) 160 125 [some (.ref 82), some (.int (nI x))] [] z_S0 G (zI A) := by
    refine b160_125 (cm157 (by omega) (cm158 hr (by omega) hrk.1 hW hP (by omega) h ?_))
    intro G1 f1 f2
    obtain ⟨h1, h2, h3, h4, h5, h6, h7, h8, h9, h10, h11, h12⟩ := f1
    refine b159 ?_
    rw [h5, nI_clamp (show W.length < 2 ^ 31 by omega), nI_1]
    refine ⟨vp_in_nI (by omega) (by decide), cm157 (by omega) ?_⟩
    have st : ∀ v : Int32, zSM B s g row q (x :: W) (E ++ P) (z_up (z_up (z_up G1 105 W.length (nI x)) 82 33 (nI (W.length + 1))) 106 (md_dp W) v) := by
      intro v
      refine ⟨zFr_up (zFr_up (zFr_up h1 (Or.inr (Or.inl rfl))) (Or.inr (Or.inr (Or.inr ⟨rfl, by decide⟩)))) (Or.inr (Or.inr (Or.inl rfl))), h2, h3, h4, rfl, ?_, ?_, h8, h9, ⟨upd_S _ _ _, md_ok_up W (Nat.le_refl _) h10⟩, h11, h12⟩
      · have : md_op (x :: W) = md_op W := by rw [md_op, if_neg (by omega)]; rfl
        rw [this]; exact h6
      · have : md_dp (x :: W) = md_dp W := by rw [md_dp, if_neg (by omega)]; rfl
        rw [this]; exact h7
    have f106 : ∀ v j, ¬ j = md_dp W → (z_up (z_up (z_up G1 105 W.length (nI x)) 82 33 (nI (W.length + 1))) 106 (md_dp W) v) 106 j = G 106 j := by
      intro v j hj
      show upd (G1 106) (md_dp W) v j = G 106 j
      rw [upd_N _ _ hj, f2]
    have e35 : (z_up (z_up G1 105 W.length (nI x)) 82 33 (nI (W.length + 1))) 82 35 = nI (md_dp W) := h7
    have e106 : (z_up (z_up G1 105 W.length (nI x)) 82 33 (nI (W.length + 1))) 106 (md_dp W) = G 106 (md_dp W) := by
      show G1 106 (md_dp W) = _
      rw [f2]
    rw [e35]
    refine ⟨fun y => ?_, fun n => cm157 (by omega) ?_⟩
    · have y := (E4 4 (by decide)).mp y
      refine b160_174 ?_
      rw [cl]
      refine ⟨ib8, K _ (st 1) (f106 1) (fun z => by omega) (fun z => by omega) (fun _ => ?_)⟩
      show ¬ upd (G1 106) (md_dp W) 1 (md_dp W) = 0
      rw [upd_S]
      decide
    · have n : ¬ rkN x = 4 := fun z => n ((E4 4 (by decide)).mpr z)
      rw [e35, cl, e106, show (4 : Int32) = nI 4 from rfl, nI_ltI (by decide) (by omega)]
      refine ⟨fun y => ⟨ib8, fun y2 => b160_178 ?_, fun n2 => b160_174 ?_⟩, fun n2 => b160_178 ?_⟩
      · rw [cl]
        refine ⟨ib8, K _ (st 0) (f106 0) (fun _ => ?_) (fun z => by omega) (fun z => by omega)⟩
        show upd (G1 106) (md_dp W) 0 (md_dp W) = 0 ↔ _
        rw [upd_S]
        exact ⟨fun _ => y2, fun _ => rfl⟩
      · rw [cl]
        refine ⟨ib8, K _ (st 1) (f106 1) (fun _ => ?_) (fun z => by omega) (fun z => by omega)⟩
        show upd (G1 106) (md_dp W) 1 (md_dp W) = 0 ↔ _
        rw [upd_S]
        exact ⟨fun z => absurd z (by decide), fun z => absurd z n2⟩
      · rw [cl]
        refine ⟨ib8, K _ (st 0) (f106 0) (fun z => by omega) (fun _ => ?_) (fun z => by omega)⟩
        show upd (G1 106) (md_dp W) 0 (md_dp W) = 0
        rw [upd_S]
  refine b160_97 ⟨fun y => absurd y (nI_m1 (by omega)), fun _ => cm157 (by omega) ⟨fun y => ?_, fun _ => main⟩⟩
  have y := (E4 4 (by decide)).mp y
  rw [h35, cl]
  exact ⟨ib8, fun _ => main, fun n => absurd (hc y) n⟩
theorem cm160_op {A : Int32 → zH → Prop} (h : zTk (lx_t B s q) (lx_v B s q) G) (K : ∀ x, 6 ≤ x → x < 13 → lx_t B s q = tkN x → zP X (d + 1) 160 97 [some (.ref 82), none] [.int (nI x)] z_S0 G (zI A)) (K0 : (∀ x, 6 ≤ x → x < 13 → ¬ lx_t B s q = tkN x) → A 0 G) : zP X (d + 1) 160 0 (z_ent [.ref 82] 2) [] z_S0 G (zI A) := by
  refine b160 (cm154 (c := 43) (by decide) h (zsw (fun n1 => cm154 (c := 45) (by decide) h (zsw (fun n2 => cm154 (c := 42) (by decide) h (zsw (fun n3 => cm154 (c := 60) (by decide) h (zsw (fun n4 => cm154 (c := 61) (by decide) h (zsw (fun n5 => cm155 (c := 4) (by decide) h (zsw (fun n6 => cm155 (c := 3) (by decide) h (zsw (fun n7 => b160_97 ⟨fun _ => K0 ?_, fun z => absurd rfl z⟩) (fun y => K 12 (by decide) (by decide) y))) (fun y => K 11 (by decide) (by decide) y))) (fun y => K 10 (by decide) (by decide) y))) (fun y => K 9 (by decide) (by decide) y))) (fun y => K 8 (by decide) (by decide) y))) (fun y => K 7 (by decide) (by decide) y))) (fun y => K 6 (by decide) (by decide) y)))
  intro x h1 h2
  match x, h1, h2 with
  | 6, _, _ => exact n1
  | 7, _, _ => exact n2
  | 8, _, _ => exact n3
  | 9, _, _ => exact n4
  | 10, _, _ => exact n5
  | 11, _, _ => exact n6
  | 12, _, _ => exact n7
  | x + 13, _, q => omega
end ZPM

/-! fewer locals known: the same run -/
def z_lels : zL → zL → Prop
  | [], [] => True
  | none :: a, _ :: b => z_lels a b
  | some v :: a, o :: b => o = some v ∧ z_lels a b
  | _, _ => False
theorem z_lels_get : ∀ (a b : zL) (i : Nat) (v : Value), z_lels a b → z_get a i = some v → z_get b i = some v
  | [], [], i, v, _, h => by simp [z_get] at h
  | [], _ :: _, i, v, hl, h => by cases hl
  | none :: a, [], i, v, hl, h => by cases hl
  | some _ :: a, [], i, v, hl, h => by cases hl
  | none :: a, o :: b, 0, v, hl, h => by simp [z_get] at h
  | none :: a, o :: b, i + 1, v, hl, h => by
    have h1 : z_get a i = some v := h
    exact z_lels_get a b i v hl h1
  | some w :: a, o :: b, 0, v, hl, h => by
    obtain ⟨rfl, -⟩ := hl
    exact h
  | some w :: a, o :: b, i + 1, v, hl, h => by
    have h1 : z_get a i = some v := h
    exact z_lels_get a b i v hl.2 h1
theorem z_lels_len : ∀ (a b : zL), z_lels a b → a.length = b.length
  | [], [], _ => rfl
  | [], _ :: _, h => by cases h
  | none :: a, [], h => by cases h
  | some _ :: a, [], h => by cases h
  | none :: a, o :: b, h => by
    have := z_lels_len a b h
    simp [this]
  | some w :: a, o :: b, h => by
    have := z_lels_len a b h.2
    simp [this]
theorem z_lels_set : ∀ (a b : zL) (i : Nat) (o : Option Value), z_lels a b → z_lels (a.set i o) (b.set i o)
  | [], [], i, o, _ => trivial
  | [], _ :: _, i, o, h => by cases h
  | none :: a, [], i, o, h => by cases h
  | some _ :: a, [], i, o, h => by cases h
  | none :: a, p :: b, 0, none, h => h
  | none :: a, p :: b, 0, some v, h => ⟨rfl, h⟩
  | some w :: a, p :: b, 0, none, h => h.2
  | some w :: a, p :: b, 0, some v, h => ⟨rfl, h.2⟩
  | none :: a, p :: b, i + 1, o, h => z_lels_set a b i o h
  | some w :: a, p :: b, i + 1, o, h => ⟨h.1, z_lels_set a b i o h.2⟩
theorem z_lels_setN : ∀ (a b : zL) (i : Nat), z_lels a b → z_get a i = none → z_lels a (b.set i none)
  | [], [], i, _, _ => trivial
  | [], _ :: _, i, h, _ => by cases h
  | none :: a, [], i, h, _ => by cases h
  | some _ :: a, [], i, h, _ => by cases h
  | none :: a, p :: b, 0, h, _ => h
  | some w :: a, p :: b, 0, h, hn => by simp [z_get] at hn
  | none :: a, p :: b, i + 1, h, hn => by
    have h1 : z_get a i = none := hn
    exact z_lels_setN a b i h h1
  | some w :: a, p :: b, i + 1, h, hn => by
    have h1 : z_get a i = none := hn
    exact ⟨h.1, z_lels_setN a b i h.2 h1⟩
theorem z_lels_clr {a b : zL} (i : Nat) (h : z_lels a b) : z_lels (z_clr a i) (z_clr b i) := by
  unfold z_clr
  cases i with
  | zero => exact h
  | succ j =>
    dsimp only
    cases ha : z_get a j with
    | some v =>
      rw [z_lels_get a b j v h ha]
      split
      · exact z_lels_set a b j none h
      · exact h
    | none =>
      rw [if_neg (by simp [z_is2])]
      split
      · exact z_lels_setN a b j h ha
      · exact h
theorem z_lels_st1 {a b : zL} (i : Nat) (v : Value) (h : z_lels a b) : z_lels (z_st1 a i v) (z_st1 b i v) := z_lels_set _ _ i _ (z_lels_clr i h)
theorem z_lels_st2 {a b : zL} (i : Nat) (v : Value) (h : z_lels a b) : z_lels (z_st2 a i v) (z_st2 b i v) := z_lels_set _ _ _ _ (z_lels_set _ _ i _ (z_lels_clr i h))
theorem z_ld_w {t k len pc i : Nat} {a b : zL} {st : List Value} {q : Nat × zL × List Value} (h : z_lels a b) (hz : z_ld t k len pc a st i = some q) : ∃ b', z_ld t k len pc b st i = some (q.1, b', q.2.2) ∧ z_lels q.2.1 b' := by
  unfold z_ld at hz ⊢
  split at hz
  · next v hv =>
    rw [z_lels_get a b i v h hv]
    split at hz
    · next hc => cases hz; exact ⟨b, by simp only [if_pos hc], h⟩
    · cases hz
  · cases hz
theorem z_sto_w {t k len pc i : Nat} {a b : zL} {st : List Value} {q : Nat × zL × List Value} (h : z_lels a b) (hz : z_sto t k len pc a st i = some q) : ∃ b', z_sto t k len pc b st i = some (q.1, b', q.2.2) ∧ z_lels q.2.1 b' := by
  have hlen := z_lels_len a b h
  unfold z_sto at hz ⊢
  split at hz
  · next v r =>
    split at hz
    · next hc =>
      rw [if_pos hc]
      split at hz
      · next h1 =>
        rw [if_pos h1]
        split at hz
        · next h2 => cases hz; exact ⟨z_st2 b i v, by rw [if_pos (by rw [← hlen]; exact h2)], z_lels_st2 i v h⟩
        · cases hz
      · next h1 =>
        rw [if_neg h1]
        split at hz
        · next h2 => cases hz; exact ⟨z_st1 b i v, by rw [if_pos (by rw [← hlen]; exact h2)], z_lels_st1 i v h⟩
        · cases hz
    · cases hz
  · cases hz
theorem z_push_w {k len pc : Nat} {v : Value} {a b : zL} {st : List Value} {q : Nat × zL × List Value} (h : z_lels a b) (hz : z_push k len pc a st v = some q) : ∃ b', z_push k len pc b st v = some (q.1, b', q.2.2) ∧ z_lels q.2.1 b' := by
  unfold z_push at hz ⊢
  split at hz
  · next hc => cases hz; exact ⟨b, by rw [if_pos hc], h⟩
  · cases hz
theorem z_ii_w {f : Int32 → Int32 → Int32} {len pc : Nat} {a b : zL} {st : List Value} {q : Nat × zL × List Value} (h : z_lels a b) (hz : z_ii f len pc a st = some q) : ∃ b', z_ii f len pc b st = some (q.1, b', q.2.2) ∧ z_lels q.2.1 b' := by
  unfold z_ii at hz ⊢
  split at hz
  · split at hz
    · next hc => cases hz; exact ⟨b, by simp only [if_pos hc], h⟩
    · cases hz
  · cases hz
theorem z_dv_w {f : Int32 → Int32 → Int32} {len pc : Nat} {a b : zL} {st : List Value} {q : Nat × zL × List Value} (h : z_lels a b) (hz : z_dv f len pc a st = some q) : ∃ b', z_dv f len pc b st = some (q.1, b', q.2.2) ∧ z_lels q.2.1 b' := by
  unfold z_dv at hz ⊢
  split at hz
  · split at hz
    · next hc => cases hz; exact ⟨b, by simp only [if_pos hc], h⟩
    · cases hz
  · cases hz
theorem z_ll_w {f : Int64 → Int64 → Int64} {len pc : Nat} {a b : zL} {st : List Value} {q : Nat × zL × List Value} (h : z_lels a b) (hz : z_ll f len pc a st = some q) : ∃ b', z_ll f len pc b st = some (q.1, b', q.2.2) ∧ z_lels q.2.1 b' := by
  unfold z_ll at hz ⊢
  split at hz
  · split at hz
    · next hc => cases hz; exact ⟨b, by simp only [if_pos hc], h⟩
    · cases hz
  · cases hz
theorem z_li_w {f : Int64 → Int32 → Int64} {len pc : Nat} {a b : zL} {st : List Value} {q : Nat × zL × List Value} (h : z_lels a b) (hz : z_li f len pc a st = some q) : ∃ b', z_li f len pc b st = some (q.1, b', q.2.2) ∧ z_lels q.2.1 b' := by
  unfold z_li at hz ⊢
  split at hz
  · split at hz
    · next hc => cases hz; exact ⟨b, by simp only [if_pos hc], h⟩
    · cases hz
  · cases hz
theorem z_i1_w {f : Int32 → Value} {len pc : Nat} {a b : zL} {st : List Value} {q : Nat × zL × List Value} (h : z_lels a b) (hz : z_i1 f len pc a st = some q) : ∃ b', z_i1 f len pc b st = some (q.1, b', q.2.2) ∧ z_lels q.2.1 b' := by
  unfold z_i1 at hz ⊢
  split at hz
  · split at hz
    · next hc => cases hz; exact ⟨b, by simp only [if_pos hc], h⟩
    · cases hz
  · cases hz
theorem z_l1_w {f : Int64 → Value} {len pc : Nat} {a b : zL} {st : List Value} {q : Nat × zL × List Value} (h : z_lels a b) (hz : z_l1 f len pc a st = some q) : ∃ b', z_l1 f len pc b st = some (q.1, b', q.2.2) ∧ z_lels q.2.1 b' := by
  unfold z_l1 at hz ⊢
  split at hz
  · split at hz
    · next hc => cases hz; exact ⟨b, by simp only [if_pos hc], h⟩
    · cases hz
  · cases hz
theorem z_jmp_w {off : Int} {x : Bool} {pc : Nat} {a b : zL} {st : List Value} {q : Nat × zL × List Value} (h : z_lels a b) (hz : z_jmp pc x off a st = some q) : ∃ b', z_jmp pc x off b st = some (q.1, b', q.2.2) ∧ z_lels q.2.1 b' := by
  unfold z_jmp at hz ⊢
  split at hz
  · cases hz; exact ⟨b, rfl, h⟩
  · cases hz
theorem z_tsw_w {dflt lo hi : Int} {offs : Array Int} {pc : Nat} {a b : zL} {st : List Value} {q : Nat × zL × List Value} (h : z_lels a b) (hz : z_tsw dflt lo hi offs pc a st = some q) : ∃ b', z_tsw dflt lo hi offs pc b st = some (q.1, b', q.2.2) ∧ z_lels q.2.1 b' := by
  unfold z_tsw at hz ⊢
  split at hz
  · split at hz
    · next hc =>
      simp only [if_pos hc]
      split at hz
      · cases hz; exact ⟨b, rfl, h⟩
      · cases hz
    · next hc =>
      simp only [if_neg hc]
      split at hz
      · split at hz
        · cases hz; exact ⟨b, rfl, h⟩
        · cases hz
      · cases hz
  · cases hz
set_option maxHeartbeats 2000000 in
theorem z_loc_w {ins : Instr} {len pc : Nat} {a b : zL} {st : List Value} {q : Nat × zL × List Value} (h : z_lels a b) (hz : z_loc ins len pc a st = some q) : ∃ b', z_loc ins len pc b st = some (q.1, b', q.2.2) ∧ z_lels q.2.1 b' := by
  unfold z_loc at hz ⊢
  split at hz
  · exact z_push_w h hz
  · exact z_push_w h hz
  · exact z_push_w h hz
  · exact z_push_w h hz
  · exact z_push_w h hz
  · exact z_ld_w h hz
  · exact z_ld_w h hz
  · exact z_ld_w h hz
  · exact z_ld_w h hz
  · exact z_ld_w h hz
  · exact z_ld_w h hz
  · exact z_sto_w h hz
  · exact z_sto_w h hz
  · exact z_sto_w h hz
  · exact z_sto_w h hz
  · exact z_sto_w h hz
  · exact z_sto_w h hz
  · split at hz
    · next x hx =>
      rw [z_lels_get a b _ _ h hx]
      split at hz
      · next hc => cases hz; exact ⟨z_st1 b _ _, by simp only [if_pos (show _ ∧ _ < b.length by rw [← z_lels_len a b h]; exact hc)], z_lels_st1 _ _ h⟩
      · cases hz
    · cases hz
  · exact z_ii_w h hz
  · exact z_ii_w h hz
  · exact z_ii_w h hz
  · exact z_ii_w h hz
  · exact z_ii_w h hz
  · exact z_ii_w h hz
  · exact z_ii_w h hz
  · exact z_ii_w h hz
  · exact z_ii_w h hz
  · exact z_dv_w h hz
  · exact z_dv_w h hz
  · exact z_ll_w h hz
  · exact z_ll_w h hz
  · exact z_ll_w h hz
  · exact z_ll_w h hz
  · exact z_ll_w h hz
  · exact z_ll_w h hz
  · exact z_li_w h hz
  · exact z_li_w h hz
  · exact z_li_w h hz
  · exact z_i1_w h hz
  · exact z_i1_w h hz
  · exact z_i1_w h hz
  · exact z_i1_w h hz
  · exact z_i1_w h hz
  · exact z_l1_w h hz
  · split at hz
    · split at hz
      · next hc => cases hz; exact ⟨b, by simp only [if_pos hc], h⟩
      · cases hz
    · cases hz
  · split at hz
    · split at hz
      · next hc => cases hz; exact ⟨b, by simp only [if_pos hc], h⟩
      · cases hz
    · cases hz
  · split at hz
    · split at hz
      · next hc => cases hz; exact ⟨b, by simp only [if_pos hc], h⟩
      · cases hz
    · cases hz
  · split at hz
    · split at hz
      · next hc => cases hz; exact ⟨b, by simp only [if_pos hc], h⟩
      · cases hz
    · cases hz
  · split at hz
    · split at hz
      · next hc => cases hz; exact ⟨b, by simp only [if_pos hc], h⟩
      · cases hz
    · cases hz
  · split at hz
    · next hc => simp only [if_pos hc]; exact z_jmp_w h hz
    · cases hz
  · split at hz
    · split at hz
      · next hc => simp only [if_pos hc]; exact z_jmp_w h hz
      · cases hz
    · cases hz
  · split at hz
    · split at hz
      · next hc => simp only [if_pos hc]; exact z_jmp_w h hz
      · cases hz
    · cases hz
  · exact z_tsw_w h hz
  · cases hz
theorem z_loc_wn {ins : Instr} {len pc : Nat} {a b : zL} {st : List Value} {X : Option (List Int32)} {d own : Nat} {i : Bool} {S : zS} {h : zH} {ret : Option FieldType} (hz : z_loc ins len pc a st = none) (hr : z_mem X d own i ins len st S h ≠ none ∨ z_ret ret ins len st ≠ none ∨ z_inv own ins len st S ≠ none) : z_loc ins len pc b st = none := by
  cases ins <;> first
    | rfl
    | (exfalso; rcases hr with h | h | h <;> exact h rfl)
theorem z_x_w (X : Option (List Int32)) : ∀ (n d M pc : Nat) (a b : zL) (st : List Value) (S : zS) (h : zH) (o : Option Value × zS × zH), z_lels a b → z_x X n d M pc a st S h = some o → z_x X n d M pc b st S h = some o
  | 0, d, M, pc, a, b, st, S, h, o, hl, hx => by simp [z_x] at hx
  | n + 1, d, M, pc, a, b, st, S, h, o, hl, hx => by
    rw [z_x] at hx
    rw [z_x]
    cases h1 : z_M[M]? with
    | none => simp only [h1] at hx; cases hx
    | some e =>
      simp only [h1] at hx ⊢
      cases h2 : e.2.2.2.2.2.lookup pc with
      | none => simp only [h2] at hx; cases hx
      | some q =>
        obtain ⟨ins, len⟩ := q
        simp only [h2] at hx ⊢
        cases h3 : z_loc ins len pc a st with
        | some q =>
          obtain ⟨pc', ls', st'⟩ := q
          simp only [h3] at hx
          obtain ⟨b', hb, hl'⟩ := z_loc_w hl h3
          simp only [hb]
          exact z_x_w X n _ _ _ _ _ _ _ _ _ hl' hx
        | none =>
          simp only [h3] at hx
          cases h4 : z_mem X d e.2.2.2.2.1 (decide (e.1.name = "<init>")) ins len st S h with
          | some q =>
            obtain ⟨st', S', h'⟩ := q
            simp only [h4] at hx
            simp only [z_loc_wn (b := b) (ret := none) h3 (Or.inl (by rw [h4]; simp)), h4]
            exact z_x_w X n _ _ _ _ _ _ _ _ _ hl hx
          | none =>
            simp only [h4] at hx
            cases h5 : z_ret e.2.2.2.1 ins len st with
            | some r =>
              simp only [h5] at hx
              simp only [z_loc_wn (b := b) (X := X) (d := d) (own := 0) (i := true) (S := S) (h := h) h3 (Or.inr (Or.inl (by rw [h5]; simp))), h4, h5]
              exact hx
            | none =>
              simp only [h5] at hx
              cases h6 : z_inv e.2.2.2.2.1 ins len st S with
              | none => simp only [h6] at hx; cases hx
              | some q =>
                obtain ⟨M', vs, rest⟩ := q
                simp only [z_loc_wn (b := b) (X := X) (d := d) (i := true) (h := h) (ret := none) h3 (Or.inr (Or.inr (by rw [h6]; simp))), h4, h5]
                cases d with
                | zero => simp only [h6] at hx; cases hx
                | succ d' =>
                  simp only [h6] at hx ⊢
                  cases h7 : z_M[M']? with
                  | none => simp only [h7] at hx; cases hx
                  | some e' =>
                    simp only [h7] at hx ⊢
                    split at hx
                    · next hsl =>
                      simp only [if_pos hsl]
                      cases h8 : z_x X n d' M' 0 (z_ent vs e'.2.2.1) [] S h with
                      | none => simp only [h8] at hx; cases hx
                      | some q =>
                        obtain ⟨r, S1, h1'⟩ := q
                        simp only [h8] at hx ⊢
                        exact z_x_w X n _ _ _ _ _ _ _ _ _ hl hx
                    · cases hx
theorem zweak {X : Option (List Int32)} {d M pc : Nat} {a b : zL} {st : List Value} {S : zS} {h : zH} {Q : Option Value → zH → Prop} (hl : z_lels a b) (k : zP X d M pc a st S h Q) : zP X d M pc b st S h Q := by
  obtain ⟨n, r, h', hx, hq⟩ := k
  exact ⟨n, r, h', z_x_w X n _ _ _ _ _ _ _ _ _ hl hx, hq⟩

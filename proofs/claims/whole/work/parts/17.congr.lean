theorem z_mem_c {X : Option (List Int32)} {S S' : zS} {h g h' : zH} {st st' : List Value} {d own len : Nat} {b : Bool} {ins : Instr} (a : z_eqv S h g) (hz : z_mem X d own b ins len st S h = some (st', S', h')) : ∃ g', z_mem X d own b ins len st S g = some (st', S', g') ∧ z_eqv S' h' g' := by
  unfold z_mem at hz ⊢
  split at hz
  · split at hz
    · split at hz
      · next hl => simp only [if_pos hl]; exact z_getf_c a hz
      · cases hz
    · cases hz
  · split at hz
    · split at hz
      · next hl => simp only [if_pos hl]; exact z_putf_c a hz
      · cases hz
    · cases hz
  · split at hz
    · next v hv =>
      split at hz
      · next hl => simp only [if_pos hl]; cases hz; exact ⟨g, rfl, a⟩
      · cases hz
    · cases hz
  · split at hz
    · next hl =>
      simp only [if_pos hl]
      split at hz
      · cases hz; exact ⟨g, rfl, a⟩
      · cases hz
      · split at hz
        · cases hz; exact ⟨g, rfl, a⟩
        · cases hz
    · cases hz
  · split at hz
    · next hl =>
      simp only [if_pos hl]
      split at hz
      · cases hz; exact ⟨g, rfl, a⟩
      · cases hz
    · cases hz
  · split at hz
    · next hl =>
      simp only [if_pos hl]
      split at hz
      · cases hz; exact ⟨g, rfl, a⟩
      · cases hz
    · cases hz
  · split at hz
    · split at hz
      · next hl => simp only [if_pos hl]; exact z_ald_c a hz
      · cases hz
    · cases hz
  · split at hz
    · split at hz
      · next hl => simp only [if_pos hl]; exact z_ald_c a hz
      · cases hz
    · cases hz
  · split at hz
    · split at hz
      · next hl => simp only [if_pos hl]; exact z_ald_c a hz
      · cases hz
    · cases hz
  · split at hz
    · split at hz
      · next hl => simp only [if_pos hl]; exact z_ast_c a hz
      · cases hz
    · cases hz
  · split at hz
    · split at hz
      · next hl => simp only [if_pos hl]; exact z_ast_c a hz
      · cases hz
    · cases hz
  · split at hz
    · split at hz
      · next hl => simp only [if_pos hl]; exact z_ast_c a hz
      · cases hz
    · cases hz
  · split at hz
    · split at hz
      · next hl => simp only [if_pos hl]; exact z_aln_c a hz
      · cases hz
    · cases hz
  · split at hz
    · split at hz
      · next hl => simp only [if_pos hl]; exact z_aal_c a hz
      · cases hz
    · cases hz
  · split at hz
    · split at hz
      · next hl => simp only [if_pos hl]; exact z_aas_c a hz
      · cases hz
    · cases hz
  · split at hz
    · split at hz
      · next hl => simp only [if_pos hl]; exact z_newa_c a hz
      · cases hz
    · cases hz
  · split at hz
    · split at hz
      · next hl => simp only [if_pos hl]; exact z_newq_c a hz
      · cases hz
    · cases hz
  · split at hz
    · next hl => simp only [if_pos hl]; exact z_newc_c a hz
    · cases hz
  · split at hz
    · split at hz
      · next hl => simp only [if_pos hl]; cases hz; exact ⟨g, rfl, a⟩
      · cases hz
    · cases hz
  · split at hz
    · split at hz
      · next hl => simp only [if_pos hl]; exact z_copy_c a hz
      · cases hz
    · cases hz
  · cases hz
theorem z_getf_n {own idx k : Nat} {r : List Value} {S : zS} {h g : zH} (hz : z_getf own idx k r S h = none) : z_getf own idx k r S g = none := by
  unfold z_getf at hz ⊢
  by_cases hk : k < 100000
  · rw [if_pos hk] at hz ⊢
    cases hfl : z_fl own idx with
    | none => rfl
    | some q =>
      obtain ⟨ci, j⟩ := q
      rw [hfl] at hz
      cases hob : z_obj S k with
      | none => rfl
      | some q =>
        obtain ⟨cj, fs⟩ := q
        rw [hob] at hz
        dsimp only at hz ⊢
        by_cases hc : ci = cj
        · rw [if_pos hc] at hz ⊢
          cases hj : fs[j]? with
          | none => rfl
          | some o =>
            rw [hj] at hz
            cases o with
            | none => cases hz
            | some o => cases hz
        · rw [if_neg hc]
  · rw [if_neg hk] at hz ⊢
    split at hz
    · next h1 =>
      rw [if_pos h1]
      split at hz
      · cases hz
      · next h2 =>
        rw [if_neg h2]
        split at hz
        · cases hz
        · next h3 => rw [if_neg h3]
    · next h1 => rw [if_neg h1]
theorem z_copy_n {n dp sp : Int32} {x y : Nat} {r : List Value} {S : zS} {h g : zH} (hz : z_copy n dp y sp x r S h = none) : z_copy n dp y sp x r S g = none := by
  unfold z_copy at hz ⊢
  by_cases hk : x < 100000 ∧ y < 100000
  · rw [if_pos hk] at hz ⊢
    cases h0 : z_arr S x with
    | none => rfl
    | some q0 =>
      cases h1 : z_arr S y with
      | none => rfl
      | some q1 =>
        obtain ⟨t0, n0⟩ := q0
        obtain ⟨t1, n1⟩ := q1
        rw [h0, h1] at hz
        dsimp only at hz ⊢
        split at hz
        · cases hz
        · next h2 => rw [if_neg h2]
  · rw [if_neg hk]
/-- an instruction that returns or calls does nothing to the heap by itself, in whichever heap -/
theorem z_mem_n {X : Option (List Int32)} {S : zS} {h g : zH} {st : List Value} {d own len : Nat} {b : Bool} {ins : Instr} {ret : Option FieldType} (hz : z_mem X d own b ins len st S h = none) (hr : z_ret ret ins len st ≠ none ∨ z_inv own ins len st S ≠ none) : z_mem X d own b ins len st S g = none := by
  cases ins <;> first
    | (exfalso; rcases hr with h | h <;> exact h rfl)
    | rfl
    | (simp only [z_mem] at hz ⊢
       split at hz
       · split at hz
         · first | (cases hz; done) | (next hl => rw [if_pos hl]; exact z_copy_n hz)
         · next hl => rw [if_neg hl]
       · rfl)
theorem z_x_c (X : Option (List Int32)) : ∀ (n d M pc : Nat) (ls : zL) (st : List Value) (S : zS) (h g : zH) (r : Option Value) (S' : zS) (h' : zH), z_eqv S h g → z_x X n d M pc ls st S h = some (r, S', h') → ∃ g', z_x X n d M pc ls st S g = some (r, S', g') ∧ z_eqv S' h' g'
  | 0, d, M, pc, ls, st, S, h, g, r, S', h', a, hx => by simp [z_x] at hx
  | n + 1, d, M, pc, ls, st, S, h, g, r, S', h', a, hx => by
    rw [z_x] at hx
    rw [z_x]
    cases h1 : z_M[M]? with
    | none => simp only [h1] at hx; cases hx
    | some e =>
      simp only [h1] at hx ⊢
      cases h2 : e.2.2.2.2.2.lookup pc with
      | none => simp only [h2] at hx; cases hx
      | some q =>
        obtain ⟨ins, len⟩ := q
        simp only [h2] at hx ⊢
        cases h3 : z_loc ins len pc ls st with
        | some q =>
          obtain ⟨pc', ls', st'⟩ := q
          simp only [h3] at hx ⊢
          exact z_x_c X n _ _ _ _ _ _ _ _ _ _ _ a hx
        | none =>
          simp only [h3] at hx ⊢
          cases h4 : z_mem X d e.2.2.2.2.1 (decide (e.1.name = "<init>")) ins len st S h with
          | some q =>
            obtain ⟨st', S1, h1'⟩ := q
            simp only [h4] at hx
            obtain ⟨g1, hg1, a1⟩ := z_mem_c a h4
            simp only [hg1]
            exact z_x_c X n _ _ _ _ _ _ _ _ _ _ _ a1 hx
          | none =>
            simp only [h4] at hx
            cases h5 : z_ret e.2.2.2.1 ins len st with
            | some r' =>
              simp only [h5] at hx
              simp only [z_mem_n (g := g) h4 (ret := e.2.2.2.1) (Or.inl (by rw [h5]; simp)), h5]
              cases hx
              exact ⟨g, rfl, a⟩
            | none =>
              simp only [h5] at hx
              cases h6 : z_inv e.2.2.2.2.1 ins len st S with
              | none => simp only [h6] at hx; cases hx
              | some q =>
                obtain ⟨M', vs, rest⟩ := q
                simp only [z_mem_n (g := g) h4 (ret := none) (Or.inr (by rw [h6]; simp)), h5]
                cases d with
                | zero => simp only [h6] at hx; cases hx
                | succ d' =>
                  simp only [h6] at hx ⊢
                  cases h7 : z_M[M']? with
                  | none => simp only [h7] at hx; cases hx
                  | some e' =>
                    simp only [h7] at hx ⊢
                    split at hx
                    · next hsl =>
                      simp only [if_pos hsl]
                      cases h8 : z_x X n d' M' 0 (z_ent vs e'.2.2.1) [] S h with
                      | none => simp only [h8] at hx; cases hx
                      | some q =>
                        obtain ⟨r1, S1, h1'⟩ := q
                        simp only [h8] at hx
                        obtain ⟨g1, hg1, a1⟩ := z_x_c X n _ _ _ _ _ _ _ _ _ _ _ a h8
                        simp only [hg1]
                        exact z_x_c X n _ _ _ _ _ _ _ _ _ _ _ a1 hx
                    · cases hx

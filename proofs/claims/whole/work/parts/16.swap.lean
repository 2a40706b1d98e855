/-! a run without a script is a run with one; what lies outside the shape doesn't count -/
theorem z_ald_X {tys : List FieldType} {i : Int32} {k : Nat} {r : List Value} {S : zS} {h : zH} {l : List Int32} {q : List Value × zS × zH} (hz : z_ald tys i k r none S h = some q) : z_ald tys i k r (some l) S h = some q := by
  unfold z_ald at hz ⊢
  by_cases hk : k < 100000
  · rw [if_pos hk] at hz ⊢
    exact hz
  · rw [if_neg hk] at hz ⊢
    cases he : k - 100000 with
    | zero => rw [he] at hz; cases hz
    | succ n => rw [he] at hz; exact hz
theorem z_aln_X {k : Nat} {r : List Value} {S : zS} {h : zH} {l : List Int32} {q : List Value × zS × zH} (hz : z_aln k r none S h = some q) : z_aln k r (some l) S h = some q := by
  unfold z_aln at hz ⊢
  by_cases hk : k < 100000
  · rw [if_pos hk] at hz ⊢
    exact hz
  · rw [if_neg hk] at hz ⊢
    cases he : k - 100000 with
    | zero => rw [he] at hz; cases hz
    | succ n => rw [he] at hz; exact hz
theorem z_mem_X {d own len : Nat} {b : Bool} {ins : Instr} {st : List Value} {S : zS} {h : zH} {l : List Int32} {q : List Value × zS × zH} (hz : z_mem none d own b ins len st S h = some q) : z_mem (some l) d own b ins len st S h = some q := by
  unfold z_mem at hz ⊢
  split at hz
  · exact hz
  · exact hz
  · exact hz
  · exact hz
  · exact hz
  · exact hz
  · split at hz
    · split at hz
      · next hl => rw [if_pos hl]; exact z_ald_X hz
      · cases hz
    · cases hz
  · split at hz
    · split at hz
      · next hl => rw [if_pos hl]; exact z_ald_X hz
      · cases hz
    · cases hz
  · split at hz
    · split at hz
      · next hl => rw [if_pos hl]; exact z_ald_X hz
      · cases hz
    · cases hz
  · exact hz
  · exact hz
  · exact hz
  · split at hz
    · split at hz
      · next hl => rw [if_pos hl]; exact z_aln_X hz
      · cases hz
    · cases hz
  · exact hz
  · exact hz
  · exact hz
  · exact hz
  · exact hz
  · exact hz
  · exact hz
  · cases hz
theorem z_mem_N {d own len : Nat} {b : Bool} {ins : Instr} {st : List Value} {S : zS} {h : zH} {l : List Int32} {ret : Option FieldType} (hz : z_mem none d own b ins len st S h = none) (hr : z_ret ret ins len st ≠ none ∨ z_inv own ins len st S ≠ none) : z_mem (some l) d own b ins len st S h = none := by
  cases ins <;> first
    | (exfalso; rcases hr with h | h <;> exact h rfl)
    | exact hz
theorem z_x_X (l : List Int32) : ∀ (n d M pc : Nat) (ls : zL) (st : List Value) (S : zS) (h : zH) (o : Option Value × zS × zH), z_x none n d M pc ls st S h = some o → z_x (some l) n d M pc ls st S h = some o
  | 0, d, M, pc, ls, st, S, h, o, hx => by simp [z_x] at hx
  | n + 1, d, M, pc, ls, st, S, h, o, hx => by
    rw [z_x] at hx
    rw [z_x]
    cases h1 : z_M[M]? with
    | none => simp only [h1] at hx; cases hx
    | some e =>
      simp only [h1] at hx ⊢
      cases h2 : e.2.2.2.2.2.lookup pc with
      | none => simp only [h2] at hx; cases hx
      | some q =>
        obtain ⟨ins, len⟩ := q
        simp only [h2] at hx ⊢
        cases h3 : z_loc ins len pc ls st with
        | some q =>
          obtain ⟨pc', ls', st'⟩ := q
          simp only [h3] at hx ⊢
          exact z_x_X l n _ _ _ _ _ _ _ _ hx
        | none =>
          simp only [h3] at hx ⊢
          cases h4 : z_mem none d e.2.2.2.2.1 (decide (e.1.name = "<init>")) ins len st S h with
          | some q =>
            obtain ⟨st', S', h'⟩ := q
            simp only [h4] at hx
            simp only [z_mem_X (l := l) h4]
            exact z_x_X l n _ _ _ _ _ _ _ _ hx
          | none =>
            simp only [h4] at hx
            cases h5 : z_ret e.2.2.2.1 ins len st with
            | some r =>
              simp only [h5] at hx
              simp only [z_mem_N (l := l) h4 (ret := e.2.2.2.1) (Or.inl (by rw [h5]; simp)), h5]
              exact hx
            | none =>
              simp only [h5] at hx
              cases h6 : z_inv e.2.2.2.2.1 ins len st S with
              | none => simp only [h6] at hx; cases hx
              | some q =>
                obtain ⟨M', vs, rest⟩ := q
                simp only [z_mem_N (l := l) h4 (ret := none) (Or.inr (by rw [h6]; simp)), h5]
                cases d with
                | zero => simp only [h6] at hx; cases hx
                | succ d' =>
                  simp only [h6] at hx ⊢
                  cases h7 : z_M[M']? with
                  | none => simp only [h7] at hx; cases hx
                  | some e' =>
                    simp only [h7] at hx ⊢
                    split at hx
                    · next hsl =>
                      rw [if_pos hsl]
                      cases h8 : z_x none n d' M' 0 (z_ent vs e'.2.2.1) [] S h with
                      | none => simp only [h8] at hx; cases hx
                      | some q =>
                        obtain ⟨r, S1, h1'⟩ := q
                        simp only [h8] at hx
                        simp only [z_x_X l n _ _ _ _ _ _ _ _ h8]
                        exact z_x_X l n _ _ _ _ _ _ _ _ hx
                    · cases hx
/-- two heaps that agree inside the shape -/
def z_io (c : zC) (j : Nat) : Prop := match c with
  | .inl (_, n) => j < n
  | .inr (.inl _) => False
  | .inr (.inr (_, fs)) => fs[j]? = some none
def z_eqv (S : zS) (h g : zH) : Prop := ∀ (k j : Nat) (c : zC), S[k]? = some c → z_io c j → h k j = g k j
theorem z_eqv.up {S : zS} {h g : zH} (a : z_eqv S h g) (k j : Nat) (v : Int32) : z_eqv S (z_up h k j v) (z_up g k j v) := by
  intro k' j' c hc hj
  unfold z_up
  by_cases hk : k' = k
  · subst hk
    rw [if_pos rfl, if_pos rfl]
    unfold upd
    by_cases hj2 : j' = j
    · rw [if_pos hj2, if_pos hj2]
    · rw [if_neg hj2, if_neg hj2]
      exact a k' j' c hc hj
  · rw [if_neg hk, if_neg hk]
    exact a k' j' c hc hj
theorem z_eqv.push {S : zS} {h g : zH} (a : z_eqv S h g) (c : zC) : z_eqv (S ++ [c]) (z_zero h S.length) (z_zero g S.length) := by
  intro k j c' hc hj
  unfold z_zero
  by_cases hk : k = S.length
  · rw [if_pos hk, if_pos hk]
  · rw [if_neg hk, if_neg hk]
    have hlt : k < S.length := by
      have := (List.getElem?_eq_some_iff.mp hc).1
      simp at this
      omega
    rw [List.getElem?_append_left hlt] at hc
    exact a k j c' hc hj
theorem z_eqv.pushR {S : zS} {h g : zH} (a : z_eqv S h g) (q : FieldType × List (Option Nat)) : z_eqv (S ++ [.inr (.inl q)]) h g := by
  intro k j c' hc hj
  by_cases hlt : k < S.length
  · rw [List.getElem?_append_left hlt] at hc
    exact a k j c' hc hj
  · rw [List.getElem?_append_right (by omega)] at hc
    have hz : k - S.length < 1 := (List.getElem?_eq_some_iff.mp hc).1
    rw [show k - S.length = 0 by omega] at hc
    cases hc
    exact absurd hj id
theorem z_eqv.set {S : zS} {h g : zH} (a : z_eqv S h g) {k : Nat} {c c' : zC} (hk : S[k]? = some c) (hs : ∀ j, z_io c' j → z_io c j) : z_eqv (S.set k c') h g := by
  intro k' j c2 hc hj
  by_cases he : k' = k
  · subst he
    rw [List.getElem?_set_self (List.getElem?_eq_some_iff.mp hk).1] at hc
    cases hc
    exact a k' j c hk (hs j hj)
  · rw [List.getElem?_set_ne (fun q => he q.symm)] at hc
    exact a k' j c2 hc hj
section ZCG
variable {X : Option (List Int32)} {S S' : zS} {h g h' : zH} {st st' r : List Value}
theorem z_getf_c {own idx k : Nat} (a : z_eqv S h g) (hz : z_getf own idx k r S h = some (st', S', h')) : ∃ g', z_getf own idx k r S g = some (st', S', g') ∧ z_eqv S' h' g' := by
  unfold z_getf at hz ⊢
  by_cases hk : k < 100000
  · rw [if_pos hk] at hz ⊢
    cases hfl : z_fl own idx with
    | none => rw [hfl] at hz; cases hz
    | some q =>
      obtain ⟨ci, j⟩ := q
      rw [hfl] at hz
      cases hob : z_obj S k with
      | none => rw [hob] at hz; cases hz
      | some q =>
        obtain ⟨cj, fs⟩ := q
        rw [hob] at hz
        dsimp only at hz ⊢
        split at hz
        · next hc =>
          rw [if_pos hc]
          cases hj : fs[j]? with
          | none => rw [hj] at hz; cases hz
          | some o =>
            rw [hj] at hz
            cases o with
            | none =>
              cases hz
              exact ⟨g, by rw [a k j _ (z_obj_ok hob) hj], a⟩
            | some o =>
              cases hz
              exact ⟨g, rfl, a⟩
        · cases hz
  · rw [if_neg hk] at hz ⊢
    split at hz
    · next h1 =>
      rw [if_pos h1]
      split at hz
      · next h2 => rw [if_pos h2]; cases hz; exact ⟨g, rfl, a⟩
      · next h2 =>
        rw [if_neg h2]
        split at hz
        · next h3 => rw [if_pos h3]; cases hz; exact ⟨g, rfl, a⟩
        · cases hz
    · cases hz
theorem z_putf_c {own idx k : Nat} {v : Value} {b : Bool} (a : z_eqv S h g) (hz : z_putf own b idx v k r S h = some (st', S', h')) : ∃ g', z_putf own b idx v k r S g = some (st', S', g') ∧ z_eqv S' h' g' := by
  unfold z_putf at hz ⊢
  by_cases hk : k < 100000
  · rw [if_pos hk] at hz ⊢
    cases hfl : z_fl own idx with
    | none => rw [hfl] at hz; cases hz
    | some q =>
      obtain ⟨ci, j⟩ := q
      rw [hfl] at hz
      cases hob : z_obj S k with
      | none => rw [hob] at hz; cases hz
      | some q =>
        obtain ⟨cj, fs⟩ := q
        rw [hob] at hz
        dsimp only at hz ⊢
        split at hz
        · next hc =>
          rw [if_pos hc]
          split at hz
          · split at hz
            · next ht => cases hz; exact ⟨z_up g k j _, by simp only [if_pos ht], a.up _ _ _⟩
            · cases hz
          · next a1 b1 hfj =>
            split at hz
            · next hin =>
              cases hz
              refine ⟨g, by simp only [if_pos hin], a.set (z_obj_ok hob) (fun i hi => ?_)⟩
              dsimp only [z_io] at hi ⊢
              by_cases hij : i = j
              · subst hij
                rw [List.getElem?_set_self (List.getElem?_eq_some_iff.mp hfj).1] at hi
                cases hi
              · rw [List.getElem?_set_ne (fun q => hij q.symm)] at hi
                exact hi
            · cases hz
          · cases hz
        · cases hz
  · rw [if_neg hk] at hz
    cases hz
theorem z_ald_c {tys : List FieldType} {i : Int32} {k : Nat} (a : z_eqv S h g) (hz : z_ald tys i k r X S h = some (st', S', h')) : ∃ g', z_ald tys i k r X S g = some (st', S', g') ∧ z_eqv S' h' g' := by
  unfold z_ald at hz ⊢
  by_cases hk : k < 100000
  · rw [if_pos hk] at hz ⊢
    cases hob : z_arr S k with
    | none => rw [hob] at hz; cases hz
    | some q =>
      obtain ⟨ty, n⟩ := q
      rw [hob] at hz
      dsimp only at hz ⊢
      split at hz
      · next hc =>
        rw [if_pos hc]
        cases hz
        refine ⟨g, ?_, a⟩
        rw [a k i.toNatClampNeg _ (z_arr_ok hob) (Nat.not_le.mp fun q => hc.2 (Or.inr q))]
      · cases hz
  · rw [if_neg hk] at hz ⊢
    cases hro : z_roA X (k - 100000) with
    | none => rw [hro] at hz; cases hz
    | some q =>
      obtain ⟨ty, l⟩ := q
      rw [hro] at hz
      dsimp only at hz ⊢
      split at hz
      · next hc => rw [if_pos hc]; cases hz; exact ⟨g, rfl, a⟩
      · cases hz
theorem z_ast_c {tys : List FieldType} {x i : Int32} {k : Nat} (a : z_eqv S h g) (hz : z_ast tys x i k r S h = some (st', S', h')) : ∃ g', z_ast tys x i k r S g = some (st', S', g') ∧ z_eqv S' h' g' := by
  unfold z_ast at hz ⊢
  by_cases hk : k < 100000
  · rw [if_pos hk] at hz ⊢
    cases hob : z_arr S k with
    | none => rw [hob] at hz; cases hz
    | some q =>
      obtain ⟨ty, n⟩ := q
      rw [hob] at hz
      dsimp only at hz ⊢
      split at hz
      · next hc =>
        rw [if_pos hc]
        cases hz
        exact ⟨_, rfl, a.up _ _ _⟩
      · cases hz
  · rw [if_neg hk] at hz
    cases hz
theorem z_aln_c {k : Nat} (a : z_eqv S h g) (hz : z_aln k r X S h = some (st', S', h')) : ∃ g', z_aln k r X S g = some (st', S', g') ∧ z_eqv S' h' g' := by
  unfold z_aln at hz ⊢
  by_cases hk : k < 100000
  · rw [if_pos hk] at hz ⊢
    split at hz
    · split at hz
      · next h2 => cases hz; exact ⟨g, by simp only [if_pos h2], a⟩
      · cases hz
    · cases hz
  · rw [if_neg hk] at hz ⊢
    split at hz
    · cases hz; exact ⟨g, rfl, a⟩
    · cases hz
theorem z_aal_c {i : Int32} {k : Nat} (a : z_eqv S h g) (hz : z_aal i k r S h = some (st', S', h')) : ∃ g', z_aal i k r S g = some (st', S', g') ∧ z_eqv S' h' g' := by
  unfold z_aal at hz ⊢
  split at hz
  · next hk =>
    rw [if_pos hk]
    split at hz
    · split at hz
      · next h2 => cases hz; exact ⟨g, by simp only [if_pos h2], a⟩
      · cases hz
    · cases hz
  · cases hz
theorem z_aas_c {i : Int32} {v k : Nat} (a : z_eqv S h g) (hz : z_aas v i k r S h = some (st', S', h')) : ∃ g', z_aas v i k r S g = some (st', S', g') ∧ z_eqv S' h' g' := by
  unfold z_aas at hz ⊢
  split at hz
  · next hk =>
    rw [if_pos hk]
    split at hz
    · next ty rs ci fs hn hv =>
      split at hz
      · next h2 =>
        cases hz
        exact ⟨g, by simp only [if_pos h2], a.set (z_rar_ok hn) (fun j hj => absurd hj id)⟩
      · cases hz
    · cases hz
  · cases hz
theorem z_newa_c {ty : FieldType} {n : Int32} (a : z_eqv S h g) (hz : z_newa ty n r S h = some (st', S', h')) : ∃ g', z_newa ty n r S g = some (st', S', g') ∧ z_eqv S' h' g' := by
  unfold z_newa at hz ⊢
  split at hz
  · next hk => rw [if_pos hk]; cases hz; exact ⟨_, rfl, a.push _⟩
  · cases hz
theorem z_newq_c {own idx : Nat} {n : Int32} (a : z_eqv S h g) (hz : z_newq own idx n r S h = some (st', S', h')) : ∃ g', z_newq own idx n r S g = some (st', S', g') ∧ z_eqv S' h' g' := by
  unfold z_newq at hz ⊢
  split at hz
  · split at hz
    · next hk => rw [if_pos hk]; cases hz; exact ⟨_, rfl, a.pushR _⟩
    · cases hz
  · cases hz
theorem z_newc_c {own idx : Nat} (a : z_eqv S h g) (hz : z_newc own idx r S h = some (st', S', h')) : ∃ g', z_newc own idx r S g = some (st', S', g') ∧ z_eqv S' h' g' := by
  unfold z_newc at hz ⊢
  split at hz
  · split at hz
    · split at hz
      · next hk => rw [if_pos hk]; cases hz; exact ⟨_, rfl, a.push _⟩
      · cases hz
    · cases hz
  · cases hz
theorem z_copy_c {n dp sp : Int32} {x y : Nat} (a : z_eqv S h g) (hz : z_copy n dp y sp x r S h = some (st', S', h')) : ∃ g', z_copy n dp y sp x r S g = some (st', S', g') ∧ z_eqv S' h' g' := by
  unfold z_copy at hz ⊢
  split at hz
  · next hk =>
    rw [if_pos hk]
    split at hz
    · next t0 n0 t1 n1 h0 h1 =>
      split at hz
      · next h2 =>
        cases hz
        refine ⟨_, by simp only [if_pos h2]; rfl, ?_⟩
        intro k j c hc hj
        unfold z_cpy
        by_cases hk2 : k = y
        · subst hk2
          rw [if_pos rfl, if_pos rfl]
          unfold va_cpy
          by_cases hr : dp.toNatClampNeg ≤ j ∧ j < dp.toNatClampNeg + n.toNatClampNeg
          · rw [if_pos hr, if_pos hr]
            exact a x _ _ (z_arr_ok h0) (show sp.toNatClampNeg + (j - dp.toNatClampNeg) < n0 by omega)
          · rw [if_neg hr, if_neg hr]
            exact a k j c hc hj
        · rw [if_neg hk2, if_neg hk2]
          exact a k j c hc hj
      · cases hz
    · cases hz
  · cases hz
end ZCG

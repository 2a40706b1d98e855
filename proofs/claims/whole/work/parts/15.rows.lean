/-! runs of my own machine, goal first: the shape stays, the fuel is hidden -/
theorem z_x_more (X : Option (List Int32)) : ∀ (n d M pc : Nat) (ls : zL) (st : List Value) (S : zS) (h : zH) (o : Option Value × zS × zH), z_x X n d M pc ls st S h = some o → z_x X (n + 1) d M pc ls st S h = some o
  | 0, d, M, pc, ls, st, S, h, o, hx => by simp [z_x] at hx
  | n + 1, d, M, pc, ls, st, S, h, o, hx => by
    rw [z_x] at hx
    rw [z_x]
    cases h1 : z_M[M]? with
    | none => simp only [h1] at hx; cases hx
    | some e =>
      simp only [h1] at hx ⊢
      cases h2 : e.2.2.2.2.2.lookup pc with
      | none => simp only [h2] at hx; cases hx
      | some q =>
        obtain ⟨ins, len⟩ := q
        simp only [h2] at hx ⊢
        cases h3 : z_loc ins len pc ls st with
        | some q =>
          obtain ⟨pc', ls', st'⟩ := q
          simp only [h3] at hx ⊢
          exact z_x_more X n _ _ _ _ _ _ _ _ hx
        | none =>
          simp only [h3] at hx ⊢
          cases h4 : z_mem X d e.2.2.2.2.1 (decide (e.1.name = "<init>")) ins len st S h with
          | some q =>
            obtain ⟨st', S', h'⟩ := q
            simp only [h4] at hx ⊢
            exact z_x_more X n _ _ _ _ _ _ _ _ hx
          | none =>
            simp only [h4] at hx ⊢
            cases h5 : z_ret e.2.2.2.1 ins len st with
            | some r =>
              simp only [h5] at hx ⊢
              exact hx
            | none =>
              simp only [h5] at hx ⊢
              cases h6 : z_inv e.2.2.2.2.1 ins len st S with
              | none => simp only [h6] at hx; cases hx
              | some q =>
                obtain ⟨M', vs, rest⟩ := q
                cases d with
                | zero => simp only [h6] at hx; cases hx
                | succ d' =>
                  simp only [h6] at hx ⊢
                  cases h7 : z_M[M']? with
                  | none => simp only [h7] at hx; cases hx
                  | some e' =>
                    simp only [h7] at hx ⊢
                    split at hx
                    · next hsl =>
                      rw [if_pos hsl]
                      cases h8 : z_x X n d' M' 0 (z_ent vs e'.2.2.1) [] S h with
                      | none => simp only [h8] at hx; cases hx
                      | some q =>
                        obtain ⟨r, S1, h1'⟩ := q
                        simp only [h8] at hx
                        simp only [z_x_more X n _ _ _ _ _ _ _ _ h8]
                        exact z_x_more X n _ _ _ _ _ _ _ _ hx
                    · cases hx
theorem z_x_le_n (X : Option (List Int32)) {n n' d M pc : Nat} {ls : zL} {st : List Value} {S : zS} {h : zH} {o : Option Value × zS × zH} (hn : n ≤ n') (hx : z_x X n d M pc ls st S h = some o) : z_x X n' d M pc ls st S h = some o := by
  induction hn with
  | refl => exact hx
  | step _ ih => exact z_x_more X _ _ _ _ _ _ _ _ _ ih
def zP (X : Option (List Int32)) (d M pc : Nat) (ls : zL) (st : List Value) (S : zS) (h : zH) (Q : Option Value → zH → Prop) : Prop := ∃ (n : Nat) (r : Option Value) (h' : zH), z_x X n d M pc ls st S h = some (r, S, h') ∧ Q r h'
section ZROW
variable {X : Option (List Int32)} {d M pc len pc' idx : Nat} {ls ls' : zL} {st st' r : List Value} {S : zS} {h h' : zH} {Q : Option Value → zH → Prop} {e : zM} {ins : Instr}
theorem zP.mono {Q' : Option Value → zH → Prop} (k : zP X d M pc ls st S h Q) (hq : ∀ r h', Q r h' → Q' r h') : zP X d M pc ls st S h Q' := by
  obtain ⟨n, r, h', hx, hQ⟩ := k
  exact ⟨n, r, h', hx, hq r h' hQ⟩
theorem zl (he : z_M[M]? = some e) (hf : e.2.2.2.2.2.lookup pc = some (ins, len)) (hl : z_loc ins len pc ls st = some (pc', ls', st')) (k : zP X d M pc' ls' st' S h Q) : zP X d M pc ls st S h Q := by
  obtain ⟨n, r, h', hx, hq⟩ := k
  refine ⟨n + 1, r, h', ?_, hq⟩
  rw [z_x]
  simp only [he, hf, hl]
  exact hx
theorem zm (he : z_M[M]? = some e) (hf : e.2.2.2.2.2.lookup pc = some (ins, len)) (hl : z_loc ins len pc ls st = none) (hm : z_mem X d e.2.2.2.2.1 (decide (e.1.name = "<init>")) ins len st S h = some (st', S, h')) (k : zP X d M (pc + len) ls st' S h' Q) : zP X d M pc ls st S h Q := by
  obtain ⟨n, r, h2, hx, hq⟩ := k
  refine ⟨n + 1, r, h2, ?_, hq⟩
  rw [z_x]
  simp only [he, hf, hl, hm]
  exact hx
theorem zret {rv : Option Value} (he : z_M[M]? = some e) (hf : e.2.2.2.2.2.lookup pc = some (ins, len)) (hl : z_loc ins len pc ls st = none) (hm : z_mem X d e.2.2.2.2.1 (decide (e.1.name = "<init>")) ins len st S h = none) (hr : z_ret e.2.2.2.1 ins len st = some rv) (k : Q rv h) : zP X d M pc ls st S h Q := by
  refine ⟨1, rv, h, ?_, k⟩
  rw [z_x]
  simp only [he, hf, hl, hm, hr]
theorem zcall {M' d' : Nat} {vs rest : List Value} {e' : zM} (he : z_M[M]? = some e) (hf : e.2.2.2.2.2.lookup pc = some (ins, len)) (hl : z_loc ins len pc ls st = none) (hm : z_mem X (d' + 1) e.2.2.2.2.1 (decide (e.1.name = "<init>")) ins len st S h = none) (hr : z_ret e.2.2.2.1 ins len st = none) (hv : z_inv e.2.2.2.2.1 ins len st S = some (M', vs, rest)) (he' : z_M[M']? = some e') (hsl : (z_sl vs).length ≤ e'.2.2.1)
    (k : zP X d' M' 0 (z_ent vs e'.2.2.1) [] S h (fun r h1 => zP X (d' + 1) M (pc + 3) ls (r.toList ++ rest) S h1 Q)) : zP X (d' + 1) M pc ls st S h Q := by
  obtain ⟨n1, r1, h1, hx1, n2, r2, h2, hx2, hq⟩ := k
  refine ⟨max n1 n2 + 1, r2, h2, ?_, hq⟩
  rw [z_x]
  simp only [he, hf, hl, hm, hr, hv, he', if_pos hsl, z_x_le_n X (Nat.le_max_left n1 n2) hx1]
  exact z_x_le_n X (Nat.le_max_right n1 n2) hx2
/-! branches -/
theorem z_br_if {off : Int} {tgt : Nat} (ht : z_br pc off = some tgt) (b : Bool) : z_jmp pc b off ls st = some (if b = true then tgt else pc + 3, ls, st) := by unfold z_jmp; rw [ht]
theorem zif1 {c : Jvm.ClassFile.Cond} {off : Int} {tgt : Nat} {x : Int32} (he : z_M[M]? = some e) (hf : e.2.2.2.2.2.lookup pc = some (.ifCond c off, 3)) (ht : z_br pc off = some tgt) (kt : z_cond c x 0 = true → zP X d M tgt ls st S h Q) (kf : z_cond c x 0 = false → zP X d M (pc + 3) ls st S h Q) : zP X d M pc ls (.int x :: st) S h Q := by
  refine zl he hf (pc' := if z_cond c x 0 = true then tgt else pc + 3) (ls' := ls) (st' := st) ?_ ?_
  · show (if 3 = 3 then z_jmp pc (z_cond c x 0) off ls st else none) = _
    rw [if_pos rfl, z_br_if ht]
  · cases hb : z_cond c x 0 with
    | true => exact kt hb
    | false => exact kf hb
theorem zif2 {c : Jvm.ClassFile.Cond} {off : Int} {tgt : Nat} {x y : Int32} (he : z_M[M]? = some e) (hf : e.2.2.2.2.2.lookup pc = some (.if_icmp c off, 3)) (ht : z_br pc off = some tgt) (kt : z_cond c x y = true → zP X d M tgt ls st S h Q) (kf : z_cond c x y = false → zP X d M (pc + 3) ls st S h Q) : zP X d M pc ls (.int y :: .int x :: st) S h Q := by
  refine zl he hf (pc' := if z_cond c x y = true then tgt else pc + 3) (ls' := ls) (st' := st) ?_ ?_
  · show (if 3 = 3 then z_jmp pc (z_cond c x y) off ls st else none) = _
    rw [if_pos rfl, z_br_if ht]
  · cases hb : z_cond c x y with
    | true => exact kt hb
    | false => exact kf hb
/-! fields and arrays, by what is known of the shape -/
theorem zgi {k ci j : Nat} {fs : List (Option (Option Nat))} (he : z_M[M]? = some e) (hf : e.2.2.2.2.2.lookup pc = some (.getfield idx, 3)) (hk : k < 100000) (hfl : z_fl e.2.2.2.2.1 idx = some (ci, j)) (hS : S[k]? = some (.inr (.inr (ci, fs)))) (hj : fs[j]? = some none) (kk : zP X d M (pc + 3) ls (.int (h k j) :: st) S h Q) : zP X d M pc ls (.ref k :: st) S h Q := by
  refine zm he hf rfl (st' := .int (h k j) :: st) (h' := h) ?_ kk
  show (if 3 = 3 then z_getf e.2.2.2.2.1 idx k st S h else none) = _
  rw [if_pos rfl]
  unfold z_getf
  rw [if_pos hk, hfl]
  simp only [z_obj, hS, if_pos, hj]
theorem zgr {k ci j : Nat} {a : Option Nat} {fs : List (Option (Option Nat))} (he : z_M[M]? = some e) (hf : e.2.2.2.2.2.lookup pc = some (.getfield idx, 3)) (hk : k < 100000) (hfl : z_fl e.2.2.2.2.1 idx = some (ci, j)) (hS : S[k]? = some (.inr (.inr (ci, fs)))) (hj : fs[j]? = some (some a)) (kk : zP X d M (pc + 3) ls (z_rf a :: st) S h Q) : zP X d M pc ls (.ref k :: st) S h Q := by
  refine zm he hf rfl (st' := z_rf a :: st) (h' := h) ?_ kk
  show (if 3 = 3 then z_getf e.2.2.2.2.1 idx k st S h else none) = _
  rw [if_pos rfl]
  unfold z_getf
  rw [if_pos hk, hfl]
  simp only [z_obj, hS, if_pos, hj]
theorem zpi {k ci j : Nat} {x : Int32} {fs : List (Option (Option Nat))} (he : z_M[M]? = some e) (hf : e.2.2.2.2.2.lookup pc = some (.putfield idx, 3)) (hk : k < 100000) (hfl : z_fl e.2.2.2.2.1 idx = some (ci, j)) (hS : S[k]? = some (.inr (.inr (ci, fs)))) (hj : fs[j]? = some none) (ht : z_fty ci j = .int) (kk : zP X d M (pc + 3) ls st S (z_up h k j x) Q) : zP X d M pc ls (.int x :: .ref k :: st) S h Q := by
  refine zm he hf rfl (st' := st) (h' := z_up h k j x) ?_ kk
  show (if 3 = 3 then z_putf e.2.2.2.2.1 _ idx (.int x) k st S h else none) = _
  rw [if_pos rfl]
  unfold z_putf
  rw [if_pos hk, hfl]
  simp only [z_obj, hS, if_pos, hj, ht]
theorem zia {k n : Nat} {i : Int32} (he : z_M[M]? = some e) (hf : e.2.2.2.2.2.lookup pc = some (.iaload, 1)) (hk : k < 100000) (hS : S[k]? = some (.inl (.int, n))) (hi : vp_in i n) (kk : zP X d M (pc + 1) ls (.int (h k i.toNatClampNeg) :: st) S h Q) : zP X d M pc ls (.int i :: .ref k :: st) S h Q := by
  refine zm he hf rfl (st' := .int (h k i.toNatClampNeg) :: st) (h' := h) ?_ kk
  show (if 1 = 1 then z_ald [.int] i k st X S h else none) = _
  rw [if_pos rfl]
  unfold z_ald
  rw [if_pos hk]
  simp only [z_arr, hS]
  rw [if_pos ⟨List.mem_singleton.mpr rfl, hi⟩]
theorem zro {k : Nat} {l : List Int32} {i : Int32} (he : z_M[M]? = some e) (hf : e.2.2.2.2.2.lookup pc = some (.iaload, 1)) (hk : ¬ k < 100000) (hS : z_roA X (k - 100000) = some (.int, l)) (hi : vp_in i l.length) (kk : zP X d M (pc + 1) ls (.int (l.getD i.toNatClampNeg 0) :: st) S h Q) : zP X d M pc ls (.int i :: .ref k :: st) S h Q := by
  refine zm he hf rfl (st' := .int (l.getD i.toNatClampNeg 0) :: st) (h' := h) ?_ kk
  show (if 1 = 1 then z_ald [.int] i k st X S h else none) = _
  rw [if_pos rfl]
  unfold z_ald
  rw [if_neg hk]
  simp only [hS]
  rw [if_pos ⟨List.mem_singleton.mpr rfl, hi⟩]
theorem zba {k n : Nat} {ty : FieldType} {i : Int32} (he : z_M[M]? = some e) (hf : e.2.2.2.2.2.lookup pc = some (.baload, 1)) (hk : k < 100000) (hS : S[k]? = some (.inl (ty, n))) (ht : ty ∈ ([.byte, .boolean] : List FieldType)) (hi : vp_in i n) (kk : zP X d M (pc + 1) ls (.int (h k i.toNatClampNeg) :: st) S h Q) : zP X d M pc ls (.int i :: .ref k :: st) S h Q := by
  refine zm he hf rfl (st' := .int (h k i.toNatClampNeg) :: st) (h' := h) ?_ kk
  show (if 1 = 1 then z_ald [.byte, .boolean] i k st X S h else none) = _
  rw [if_pos rfl]
  unfold z_ald
  rw [if_pos hk]
  simp only [z_arr, hS]
  rw [if_pos ⟨ht, hi⟩]
theorem zca {k n : Nat} {i : Int32} (he : z_M[M]? = some e) (hf : e.2.2.2.2.2.lookup pc = some (.caload, 1)) (hk : k < 100000) (hS : S[k]? = some (.inl (.char, n))) (hi : vp_in i n) (kk : zP X d M (pc + 1) ls (.int (h k i.toNatClampNeg) :: st) S h Q) : zP X d M pc ls (.int i :: .ref k :: st) S h Q := by
  refine zm he hf rfl (st' := .int (h k i.toNatClampNeg) :: st) (h' := h) ?_ kk
  show (if 1 = 1 then z_ald [.char] i k st X S h else none) = _
  rw [if_pos rfl]
  unfold z_ald
  rw [if_pos hk]
  simp only [z_arr, hS]
  rw [if_pos ⟨List.mem_singleton.mpr rfl, hi⟩]
theorem zis {k n : Nat} {x i : Int32} (he : z_M[M]? = some e) (hf : e.2.2.2.2.2.lookup pc = some (.iastore, 1)) (hk : k < 100000) (hS : S[k]? = some (.inl (.int, n))) (hi : vp_in i n) (kk : zP X d M (pc + 1) ls st S (z_up h k i.toNatClampNeg x) Q) : zP X d M pc ls (.int x :: .int i :: .ref k :: st) S h Q := by
  refine zm he hf rfl (st' := st) (h' := z_up h k i.toNatClampNeg x) ?_ kk
  show (if 1 = 1 then z_ast [.int] x i k st S h else none) = _
  rw [if_pos rfl]
  unfold z_ast
  rw [if_pos hk]
  simp only [z_arr, hS]
  rw [if_pos ⟨List.mem_singleton.mpr rfl, hi⟩]
  simp only [if_pos]
theorem zbs {k n : Nat} {ty : FieldType} {x i : Int32} (he : z_M[M]? = some e) (hf : e.2.2.2.2.2.lookup pc = some (.bastore, 1)) (hk : k < 100000) (hS : S[k]? = some (.inl (ty, n))) (ht : ty ∈ ([.byte, .boolean] : List FieldType)) (hi : vp_in i n) (kk : zP X d M (pc + 1) ls st S (z_up h k i.toNatClampNeg (vp_nar ty x)) Q) : zP X d M pc ls (.int x :: .int i :: .ref k :: st) S h Q := by
  refine zm he hf rfl (st' := st) (h' := z_up h k i.toNatClampNeg (vp_nar ty x)) ?_ kk
  show (if 1 = 1 then z_ast [.byte, .boolean] x i k st S h else none) = _
  rw [if_pos rfl]
  unfold z_ast
  rw [if_pos hk]
  simp only [z_arr, hS]
  rw [if_pos ⟨ht, hi⟩, if_neg (by rintro rfl; revert ht; decide)]
theorem zaa {k : Nat} {ty : FieldType} {rs : List (Option Nat)} {i : Int32} (he : z_M[M]? = some e) (hf : e.2.2.2.2.2.lookup pc = some (.aaload, 1)) (hk : k < 100000) (hS : S[k]? = some (.inr (.inl (ty, rs)))) (ht : ty ∈ z_rty) (hi : vp_in i rs.length) (kk : zP X d M (pc + 1) ls (z_rf (rs.getD i.toNatClampNeg none) :: st) S h Q) : zP X d M pc ls (.int i :: .ref k :: st) S h Q := by
  refine zm he hf rfl (st' := z_rf (rs.getD i.toNatClampNeg none) :: st) (h' := h) ?_ kk
  show (if 1 = 1 then z_aal i k st S h else none) = _
  rw [if_pos rfl]
  unfold z_aal
  rw [if_pos hk]
  simp only [z_rar, hS]
  rw [if_pos ⟨ht, hi⟩]
theorem zln {k n : Nat} {ty : FieldType} (he : z_M[M]? = some e) (hf : e.2.2.2.2.2.lookup pc = some (.arraylength, 1)) (hk : k < 100000) (hS : S[k]? = some (.inl (ty, n))) (ht : ty ∈ ([.int, .boolean, .byte, .char] : List FieldType)) (kk : zP X d M (pc + 1) ls (.int (Int32.ofNat n) :: st) S h Q) : zP X d M pc ls (.ref k :: st) S h Q := by
  refine zm he hf rfl (st' := .int (Int32.ofNat n) :: st) (h' := h) ?_ kk
  show (if 1 = 1 then z_aln k st X S h else none) = _
  rw [if_pos rfl]
  unfold z_aln
  rw [if_pos hk]
  simp only [hS]
  rw [if_pos ht]
end ZROW

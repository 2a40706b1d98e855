/-! reading a text, the class: rows of codes, what is put, what comes next -/
theorem z_ht_app : ∀ (L R : List Nat) (n : Nat), z_ht (L ++ R) n = (match z_ht L n with
    | some m => z_ht R m
    | none => none)
  | [], R, n => rfl
  | c :: L, R, n => by
    rw [List.cons_append, z_ht, z_ht]
    by_cases h1 : c < 6 ∨ 100 ≤ c
    · rw [if_pos h1, if_pos h1]
      exact z_ht_app L R (n + 1)
    · rw [if_neg h1, if_neg h1]
      by_cases h2 : c = 13 ∨ c = 14
      · rw [if_pos h2, if_pos h2]
        by_cases h3 : n < 1
        · rw [if_pos h3, if_pos h3]
        · rw [if_neg h3, if_neg h3]
          exact z_ht_app L R n
      · rw [if_neg h2, if_neg h2]
        by_cases h3 : n < 2
        · rw [if_pos h3, if_pos h3]
        · rw [if_neg h3, if_neg h3]
          exact z_ht_app L R (n - 1)
theorem zW_one {c : Nat} (h : c < 6 ∨ (100 ≤ c ∧ c < 10100)) : zW [c] := by
  refine ⟨fun x hx => ?_, fun n => ?_⟩
  · rw [List.mem_singleton.mp hx]
    omega
  · show (if c < 6 ∨ 100 ≤ c then z_ht [] (n + 1) else _) = some (n + 1)
    rw [if_pos (by omega)]
    rfl
theorem zW_un {L : List Nat} {c : Nat} (h : zW L) (hc : c = 13 ∨ c = 14) : zW (L ++ [c]) := by
  refine ⟨fun x hx => ?_, fun n => ?_⟩
  · rcases List.mem_append.mp hx with q | q
    · exact h.1 x q
    · rw [List.mem_singleton.mp q]
      omega
  · rw [z_ht_app, h.2 n]
    show (if c < 6 ∨ 100 ≤ c then _ else if c = 13 ∨ c = 14 then (if n + 1 < 1 then none else z_ht [] (n + 1)) else _) = some (n + 1)
    rw [if_neg (by omega), if_pos hc, if_neg (by omega)]
    rfl
theorem zW_jn {L R : List Nat} {c : Nat} (h : zW L) (h2 : zW R) (hc : 6 ≤ c ∧ c < 13) : zW (L ++ R ++ [c]) := by
  refine ⟨fun x hx => ?_, fun n => ?_⟩
  · rcases List.mem_append.mp hx with q | q
    · rcases List.mem_append.mp q with q | q
      · exact h.1 x q
      · exact h2.1 x q
    · rw [List.mem_singleton.mp q]
      omega
  · rw [z_ht_app, z_ht_app, h.2 n]
    show (match z_ht R (n + 1) with
      | some m => z_ht [c] m
      | none => none) = _
    rw [h2.2 (n + 1)]
    show (if c < 6 ∨ 100 ≤ c then _ else if c = 13 ∨ c = 14 then _ else (if n + 1 + 1 < 2 then none else z_ht [] (n + 1 + 1 - 1))) = some (n + 1)
    rw [if_neg (by omega), if_neg (by omega), if_neg (by omega)]
    rfl
abbrev mX (t c j : Nat) : Prop := (c = 18 ∧ 2 ≤ j) ∨ (c = t ∧ j = 2) ∨ c = t + 1
abbrev zTL (t : Nat) : Prop := t ∈ ([25, 28, 31, 34, 37, 40] : List Nat)
theorem zTL_ge {t : Nat} (h : zTL t) : 25 ≤ t ∧ t ≤ 40 := by
  simp only [zTL, List.mem_cons, List.not_mem_nil, or_false] at h
  omega
def zSX (B : Nat → Nat) (s t : Nat) (g : zH) (q k : Nat) (G : zH) : Prop := zFr (mX t) g G ∧ G 18 2 = nI (lx_s B s q) ∧ G 18 3 = nI (lx_n B s q) ∧ G 18 4 = nI (lx_t B s q) ∧ (lx_t B s q = 258 → G 18 5 = nI (lx_v B s q)) ∧ G t 2 = nI k
theorem zBX_X {B : Nat → Nat} {s t : Nat} {g G : zH} (ht : zTL t) (h : zBX B s g) (f : zFr (mX t) g G) : zBX B s G := by
  have := zTL_ge ht
  refine ⟨h.1, ?_, fun i hi => ⟨(h.2.2 i hi).1, ?_⟩⟩
  · rw [f 18 1 (by omega)]
    exact h.2.1
  · rw [f 19 i (by omega)]
    exact (h.2.2 i hi).2
section ZPX
variable {X : Option (List Int32)} {d : Nat} {S : zS} {B : Nat → Nat} {s t k q : Nat} {g G : zH}
theorem cx52 {A : zH → Prop} (hS : zCS S) (ht : zTL t) (hB : zBX B s g) (hq : q ≤ s) (h : zSX B s t g q k G) (K : ∀ G', zSX B s t g (lx_n B s q) k G' → G' (t + 1) = G (t + 1) → A G') : zP X (d + 6) 52 0 (z_ent [.ref 18] 1) [] S G (zV A) := by
  have := zTL_ge ht
  obtain ⟨h1, h2, h3, h4, h5, h6⟩ := h
  refine cc52 hS (lx_n_le hq) (zBX_X ht hB h1) h3 (fun G' f1 f2 f3 f4 f5 => ?_)
  refine K G' ⟨fun c j q => ?_, f2, f3, f4, f5, ?_⟩ ?_
  · rw [f1 c j (by omega)]
    exact h1 c j q
  · rw [f1 t 2 (by omega)]
    exact h6
  · funext j
    exact f1 (t + 1) j (by omega)
theorem z_upN (h : zH) {k j a : Nat} {v : Int32} (q : ¬ a = k) : z_up h k j v a = h a := if_neg q
theorem z_upS (h : zH) (k j : Nat) (v : Int32) : z_up h k j v k = upd (h k) j v := if_pos rfl
theorem cx62 {A : zH → Prop} {c : Int32} (hS : zCS S) (ht : zTL t) (hk : k < 160) (h : zSX B s t g q k G) (K : ∀ G', zSX B s t g q (k + 1) G' → G' (t + 1) = upd (G (t + 1)) k c → A G') : zP X d 62 0 (z_ent [.ref t, .int c] 2) [] S G (zV A) := by
  have := zTL_ge ht
  obtain ⟨h1, h2, h3, h4, h5, h6⟩ := h
  refine e62 hS ht ⟨fun _ => ?_, fun g => ?_⟩
  · rw [h6, nI_clamp (show k < 2 ^ 31 by omega), z_upN _ (show ¬ t = t + 1 by omega), h6, nI_1]
    refine ⟨vp_in_nI hk (by decide), K _ ⟨zFr_up (zFr_up h1 (Or.inr (Or.inr rfl))) (Or.inr (Or.inl ⟨rfl, rfl⟩)), ?_, ?_, ?_, ?_, ?_⟩ ?_⟩
    · rw [z_upN _ (by omega), z_upN _ (by omega)]; exact h2
    · rw [z_upN _ (by omega), z_upN _ (by omega)]; exact h3
    · rw [z_upN _ (by omega), z_upN _ (by omega)]; exact h4
    · rw [z_upN _ (by omega), z_upN _ (by omega)]; exact h5
    · rw [z_upS, upd_S]
    · rw [z_upN _ (by omega), z_upS]
  · refine absurd ?_ g
    rw [h6, show (160 : Int32) = nI 160 from rfl, nI_ltI (by omega) (by decide)]
    exact hk
theorem cx51 {A : Int32 → zH → Prop} {u : Nat} (hu : u < 2 ^ 30) (hS : zCS S) (ht : zTL t) (hB : zBX B s g) (hq : q ≤ s) (h : zSX B s t g q k G) (K1 : lx_t B s q = u → ∀ G', zSX B s t g (lx_n B s q) k G' → G' (t + 1) = G (t + 1) → A 1 G') (K0 : ¬ lx_t B s q = u → A 0 G) : zP X (d + 7) 51 0 (z_ent [.ref 18, .int (nI u)] 2) [] S G (zI A) := by
  have hr := lx_t_ok B s q
  have e : nI (lx_t B s q) = nI u ↔ lx_t B s q = u := nI_eq (by omega) (by omega)
  refine e51 hS ?_
  rw [h.2.2.2.1, e]
  exact ⟨fun g => cx52 hS ht hB hq h (K1 g), K0⟩
end ZPX
/-- what a reading of the class does -/
def zCL (B : Nat → Nat) (s M nl D q o : Nat) (ok : Bool) (q' : Nat) (L : List Nat) : Prop := ∀ (X : Option (List Int32)) (d : Nat) (S : zS) (t k : Nat) (g G : zH) (A : Int32 → zH → Prop), zCS S → zTL t → zBX B s g → k ≤ q → zSX B s t g q k G → (ok = true → ∀ G', zSX B s t g q' (k + L.length) G' → (∀ j, j < k → G' (t + 1) j = G (t + 1) j) → (∀ j, j < L.length → G' (t + 1) (k + j) = z_xc (L.getD j 0)) → A 1 G') → (ok = false → ∀ G' k', zSX B s t g q' k' G' → A 0 G') → zP X (d + D) M 0 (z_ent [.ref t, .ref 18, .int (nI o)] nl) [] S G (zI A)
def zRS (B : Nat → Nat) (s q : Nat) (ok : Bool) (q' : Nat) (L : List Nat) : Prop := q' ≤ s ∧ (ok = true → q + L.length ≤ q' ∧ q < q' ∧ zW L)
/-- rows that grow -/
theorem z_gt {f f1 f2 : Nat → Int32} {k : Nat} {L R : List Nat} (h1 : ∀ j, j < k → f1 j = f j) (h2 : ∀ j, j < L.length → f1 (k + j) = z_xc (L.getD j 0)) (h3 : ∀ j, j < k + L.length → f2 j = f1 j) (h4 : ∀ j, j < R.length → f2 (k + L.length + j) = z_xc (R.getD j 0)) : (∀ j, j < k → f2 j = f j) ∧ (∀ j, j < (L ++ R).length → f2 (k + j) = z_xc ((L ++ R).getD j 0)) := by
  refine ⟨fun j hj => by rw [h3 j (by omega), h1 j hj], fun j hj => ?_⟩
  rw [List.length_append] at hj
  by_cases q : j < L.length
  · rw [h3 (k + j) (by omega), h2 j q, List.getD_eq_getElem?_getD, List.getD_eq_getElem?_getD, List.getElem?_append_left q]
  · have e : k + j = k + L.length + (j - L.length) := by omega
    rw [e, h4 _ (by omega), List.getD_eq_getElem?_getD, List.getD_eq_getElem?_getD, List.getElem?_append_right (by omega)]
theorem z_gu {f f1 : Nat → Int32} {k c : Nat} {L : List Nat} (h1 : ∀ j, j < k → f1 j = f j) (h2 : ∀ j, j < L.length → f1 (k + j) = z_xc (L.getD j 0)) : (∀ j, j < k → upd f1 (k + L.length) (z_xc c) j = f j) ∧ (∀ j, j < (L ++ [c]).length → upd f1 (k + L.length) (z_xc c) (k + j) = z_xc ((L ++ [c]).getD j 0)) := by
  refine z_gt (f1 := f1) (L := L) (R := [c]) h1 h2 (fun j hj => upd_N _ _ (by omega)) (fun j hj => ?_)
  have : j = 0 := by
    have : j < 1 := hj
    omega
  subst this
  exact upd_S _ _ _

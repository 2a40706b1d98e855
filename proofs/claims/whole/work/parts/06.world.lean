/-! the real heap that my own machine's heap stands for -/
def z_ad (B : Nat) (ro : Nat → Nat) (k : Nat) : Nat := if k < 100000 then B + k else ro k
def z_fv (f : Nat → Nat) (h : zH) (k j : Nat) (o : Option (Option Nat)) : Value := match o with
  | none => .int (h k j)
  | some r => va_rf (r.map f)
def z_cell (cA : FieldType → ClassId) (f : Nat → Nat) (h : zH) (k : Nat) (c : zC) : va_E := match c with
  | .inl (ty, n) => .inl (cA ty, n, .inl (h k))
  | .inr (.inl (ty, rs)) => .inl (cA ty, rs.length, .inr (.inr (.inr (.inr (fun j => (rs.getD j none).map f)))))
  | .inr (.inr (ci, fs)) => .inr (ci, fs.mapIdx (fun j o => z_fv f h k j o))
def z_w (cA : FieldType → ClassId) (f : Nat → Nat) (B : Nat) (S : zS) (h : zH) : va_W := S.mapIdx (fun k c => (B + k, z_cell cA f h k c))
def z_sz (c : zC) : Nat := match c with
  | .inl (_, n) => n
  | .inr (.inl (_, rs)) => rs.length
  | .inr (.inr (_, fs)) => fs.length
def z_tot (S : zS) : Nat := (S.map z_sz).sum
section ZWL
variable {cA : FieldType → ClassId} {f : Nat → Nat} {B : Nat} {S : zS} {h h' : zH} {k : Nat} {c c' : zC}
theorem z_w_at (hk : S[k]? = some c) : (z_w cA f B S h)[k]? = some (B + k, z_cell cA f h k c) := by
  simp [z_w, List.getElem?_mapIdx, hk]
theorem z_w_get {q : Nat × va_E} (hq : (z_w cA f B S h)[k]? = some q) : ∃ c, S[k]? = some c ∧ q = (B + k, z_cell cA f h k c) := by
  simp only [z_w, List.getElem?_mapIdx] at hq
  cases hc : S[k]? with
  | none => rw [hc] at hq; cases hq
  | some c =>
    rw [hc] at hq
    exact ⟨c, rfl, (Option.some.inj hq).symm⟩
theorem z_wD : va_D (fun q => B ≤ q) (z_w cA f B S h) := by
  refine ⟨fun i j p q hi hj e => ?_, fun k q hk => ?_⟩
  · obtain ⟨c1, -, rfl⟩ := z_w_get hi
    obtain ⟨c2, -, rfl⟩ := z_w_get hj
    dsimp only at e
    omega
  · obtain ⟨c1, -, rfl⟩ := z_w_get hk
    exact Nat.le_add_right _ _
theorem z_cell_h (e : h' k = h k) : z_cell cA f h' k c = z_cell cA f h k c := by
  unfold z_cell
  split
  · rw [e]
  · rfl
  · next ci fs =>
    have : (fun j o => z_fv f h' k j o) = fun j o => z_fv f h k j o := by
      funext j o
      unfold z_fv
      rw [e]
    rw [this]
theorem z_w_seth {e' : va_E} (hk : S[k]? = some c) (he : e' = z_cell cA f h' k c) (ho : ∀ q, q ≠ k → h' q = h q) : (z_w cA f B S h).set k (B + k, e') = z_w cA f B S h' := by
  apply List.ext_getElem?
  intro i
  have hlt : k < S.length := (List.getElem?_eq_some_iff.mp hk).1
  by_cases hi : i = k
  · subst hi
    rw [List.getElem?_set_self (by simpa [z_w] using hlt), z_w_at hk, he]
  · rw [List.getElem?_set_ne (fun q => hi q.symm)]
    simp only [z_w, List.getElem?_mapIdx]
    cases S[i]? with
    | none => rfl
    | some c2 =>
      show some (B + i, z_cell cA f h i c2) = some (B + i, z_cell cA f h' i c2)
      rw [z_cell_h (ho i hi)]
theorem z_w_setS {e' : va_E} (hk : S[k]? = some c) (he : e' = z_cell cA f h k c') : (z_w cA f B S h).set k (B + k, e') = z_w cA f B (S.set k c') h := by
  apply List.ext_getElem?
  intro i
  have hlt : k < S.length := (List.getElem?_eq_some_iff.mp hk).1
  by_cases hi : i = k
  · subst hi
    rw [List.getElem?_set_self (by simpa [z_w] using hlt), z_w_at (List.getElem?_set_self hlt), he]
  · rw [List.getElem?_set_ne (fun q => hi q.symm)]
    simp only [z_w, List.getElem?_mapIdx]
    rw [List.getElem?_set_ne (fun q => hi q.symm)]
theorem z_w_push (ho : ∀ q, q < S.length → h' q = h q) : z_w cA f B (S ++ [c]) h' = z_w cA f B S h ++ [(B + S.length, z_cell cA f h' S.length c)] := by
  have e1 : S.mapIdx (fun k c => (B + k, z_cell cA f h' k c)) = S.mapIdx (fun k c => (B + k, z_cell cA f h k c)) := by
    apply List.ext_getElem?
    intro i
    simp only [List.getElem?_mapIdx]
    cases hc : S[i]? with
    | none => rfl
    | some c2 =>
      show some (B + i, z_cell cA f h' i c2) = some (B + i, z_cell cA f h i c2)
      rw [z_cell_h (ho i (List.getElem?_eq_some_iff.mp hc).1)]
  unfold z_w
  rw [List.mapIdx_append, e1]
  simp
theorem z_tot_set (hk : S[k]? = some c) (he : z_sz c' = z_sz c) : z_tot (S.set k c') = z_tot S := by
  unfold z_tot
  congr 1
  apply List.ext_getElem?
  intro i
  have hlt : k < S.length := (List.getElem?_eq_some_iff.mp hk).1
  by_cases hi : i = k
  · subst hi
    simp only [List.getElem?_map]
    rw [List.getElem?_set_self hlt, hk]
    simp [he]
  · simp only [List.getElem?_map]
    rw [List.getElem?_set_ne (fun q => hi q.symm)]
theorem z_tot_push : z_tot (S ++ [c]) = z_tot S + z_sz c := by simp [z_tot]
end ZWL
theorem z_rv_rf (f : Nat → Nat) (r : Option Nat) : z_rv f (z_rf r) = va_rf (r.map f) := by cases r <;> rfl
/-- the array classes -/
def z_tys (cA : FieldType → ClassId) : List (ClassId × FieldType) := ([.int, .boolean, .byte, .char, .object "DustYards$Text", .object "DustYards$Sheet"] : List FieldType).map fun t => (cA t, t)
/-- what is only read: tables, statics, texts, the script -/
def z_RO (X : Option (List Int32)) (B : Nat) (ro : Nat → Nat) (U : State) (H : Heap) : Prop :=
  (∀ (i : Nat) (ty : FieldType) (l : List Int32), z_roA X i = some (ty, l) → va_T ty (ro (100000 + i)) l.length (fun j => .int (l.getD j 0)) (fun q => B ≤ q) U H) ∧
  (∀ (i : Nat) (q : String × String × String), z_gN[i]? = some q → va_Z q.1 q.2.1 q.2.2 (z_rv (z_ad B ro) (z_gval i)) (fun q => B ≤ q) U H) ∧
  (∀ i : Nat, i < 13 → va_O "java/lang/String" (ro (100100 + i)) (fun q => B ≤ q) U H ∧ va_OF "java/lang/String" "coder" "B" (.int 0) (ro (100100 + i)) (fun q => B ≤ q) U H ∧ va_OF "java/lang/String" "value" "[B" (.ref (ro (100004 + i))) (ro (100100 + i)) (fun q => B ≤ q) U H) ∧
  (∀ e ∈ z_sT, vk_R (z_ow e.1) e.2.1 e.2.2.2 (ro (100100 + e.2.2.1)) U) ∧
  (∀ e ∈ z_cT, (e.2.2.2.1 = 3 ∨ e.2.2.2.1 = 4) → va_Nw (.methodLinkNest (z_ow e.1) e.2.1 (z_nm1 e.2.2.1) "DustYards") U) ∧
  va_AO "DustYards$Text" U ∧ va_AO "DustYards$Sheet" U
theorem z_RO.kept {X : Option (List Int32)} {B : Nat} {ro : Nat → Nat} {U : State} {H H1 : Heap} (h : z_RO X B ro U H) (hq : ∀ a : Nat, a < H.size → ¬ B ≤ a → H1[a]? = H[a]?) : z_RO X B ro U H1 :=
  ⟨fun i ty l hi => (h.1 i ty l hi).kept hq, fun i q hi => (h.2.1 i q hi).kept hq, fun i hi => ⟨(h.2.2.1 i hi).1.kept hq, (h.2.2.1 i hi).2.1.kept hq, (h.2.2.1 i hi).2.2.kept hq⟩, h.2.2.2⟩
theorem z_RO.warm {X : Option (List Int32)} {B : Nat} {ro : Nat → Nat} {s U : State} {H : Heap} (hW : s.WarmedH U.vm) (h : z_RO X B ro s H) : z_RO X B ro U H :=
  ⟨fun i ty l hi => (h.1 i ty l hi).moved hW.alike, fun i q hi => (h.2.1 i q hi).moved hW.alike, fun i hi => ⟨(h.2.2.1 i hi).1.moved hW.alike, (h.2.2.1 i hi).2.1.moved hW.alike, (h.2.2.1 i hi).2.2.moved hW.alike⟩, fun e he => (h.2.2.2.1 e he).warm hW, fun e he hk => va_Nw.warmM hW (h.2.2.2.2.1 e he hk), va_AO.moved hW.alike h.2.2.2.2.2.1, va_AO.moved hW.alike h.2.2.2.2.2.2⟩
theorem z_RO.same {X : Option (List Int32)} {B : Nat} {ro : Nat → Nat} {s U : State} {H : Heap} (hv : U.vm = s.vm) (h : z_RO X B ro s H) : z_RO X B ro U H := by
  have ha : s.vm.Alike U.vm := by rw [hv]; exact Vm.Alike.refl _
  exact ⟨fun i ty l hi => (h.1 i ty l hi).moved ha, fun i q hi => (h.2.1 i q hi).moved ha, fun i hi => ⟨(h.2.2.1 i hi).1.moved ha, (h.2.2.1 i hi).2.1.moved ha, (h.2.2.1 i hi).2.2.moved ha⟩, fun e he => (h.2.2.2.1 e he).same hv, fun e he hk => va_Nw.same rfl hv.symm (h.2.2.2.2.1 e he hk), va_AO.moved ha h.2.2.2.2.2.1, va_AO.moved ha h.2.2.2.2.2.2⟩
/-- the world in the midst of a method that began in s -/
def z_In (D : va_G) (cA : FieldType → ClassId) (B : Nat) (ro : Nat → Nat) (s : State) (S : zS) (h : zH) (H : Heap) (locs : List Loc) : Prop :=
  va_P D z_cls (z_w cA (z_ad B ro) B S h) H ∧ va_S (fun q => B ≤ q) s.heap H locs
/-- what stays in a method -/
def z_Cx (D : va_G) (cA : FieldType → ClassId) (B : Nat) (ro : Nat → Nat) (X : Option (List Int32)) (p : Program) (s : State) (m : MethodId) (args : Array Value) (meth : Method) (c : Code) (e : zM) : Prop :=
  p.tables.exec = Jvm.exec ∧ c.code = e.2.1 ∧ c.maxLocals = e.2.2.1 ∧ s.vm.findClass (z_ow e.2.2.2.2.1) = some m.cls ∧ (∀ w ∈ z_tbl, w.before args s = true) ∧ (e.1.name = "<init>" → meth.name = "<init>") ∧ va_K D z_cls (z_tys cA) s ∧ z_RO X B ro s s.heap ∧ B ≤ s.heap.size
theorem z_find {α : Type} {l : List (Nat × Nat × α)} {own idx : Nat} {e : Nat × Nat × α} (h : l.find? (fun e => e.1 == own && e.2.1 == idx) = some e) : e ∈ l ∧ e.1 = own ∧ e.2.1 = idx := by
  have h1 := List.find?_some h
  simp only [Bool.and_eq_true, beq_iff_eq] at h1
  exact ⟨List.mem_of_find?_eq_some h, h1.1, h1.2⟩
theorem z_fl_ok {own idx ci k : Nat} (h : z_fl own idx = some (ci, k)) : ∃ q, z_cls[ci]? = some q ∧ k < q.2.2 ∧ Cond.fieldLink (z_ow own) idx (q.2.1 k).1 (q.2.1 k).2.1 (q.2.1 k).2.2.1 ∈ z_tbl := by
  unfold z_fl at h
  split at h
  · next e he =>
    obtain ⟨h1, h2, h3⟩ := z_find he
    have h4 := List.all_eq_true.mp z_flT_ok e h1
    unfold z_okF at h4
    cases h
    split at h4
    · next q hq =>
      simp only [Bool.and_eq_true, decide_eq_true_eq] at h4
      refine ⟨q, hq, h4.2, z_in (z_of1 (List.mem_of_getElem? (i := e.2.2.2.2) ?_)) rfl⟩
      rw [← h2, ← h3]
      exact h4.1
    · cases h4
  · cases h
theorem z_con_ok {own idx : Nat} {v : Value} (h : z_con own idx = some v) : (∀ x, v = .int x → Cond.constant (z_ow own) idx x ∈ z_tbl) ∧ ∀ x, v = .long x → Cond.constantLong (z_ow own) idx x ∈ z_tbl := by
  unfold z_con at h
  split at h
  · next e he =>
    obtain ⟨h1, h2, h3⟩ := z_find he
    have h4 := List.all_eq_true.mp z_kT_ok e h1
    unfold z_okK at h4
    cases h
    refine ⟨fun x hx => ?_, fun x hx => ?_⟩
    · rw [hx] at h4
      simp only [decide_eq_true_eq] at h4
      refine z_in (z_of1 (List.mem_of_getElem? (i := e.2.2.2) ?_)) rfl
      rw [← h2, ← h3]
      exact h4
    · rw [hx] at h4
      simp only [decide_eq_true_eq] at h4
      refine z_in (z_of1 (List.mem_of_getElem? (i := e.2.2.2) ?_)) rfl
      rw [← h2, ← h3]
      exact h4
  · cases h
theorem z_sta_ok {own idx : Nat} {v : Value} (h : z_sta own idx = some v) : ∃ i q, z_gN[i]? = some q ∧ v = z_gval i ∧ Cond.fieldLink (z_ow own) idx q.1 q.2.1 q.2.2 ∈ z_tbl := by
  unfold z_sta at h
  split at h
  · next e he =>
    obtain ⟨h1, h2, h3⟩ := z_find he
    have h4 := List.all_eq_true.mp z_gT_ok e h1
    unfold z_okG at h4
    cases h
    split at h4
    · next q hq =>
      simp only [decide_eq_true_eq] at h4
      refine ⟨_, q, hq, rfl, z_in (z_of1 (List.mem_of_getElem? (i := e.2.2.2) ?_)) rfl⟩
      rw [← h2, ← h3]
      exact h4
    · cases h4
  · cases h
theorem z_cln_ok {own idx : Nat} {C : String} (h : z_cln own idx = some C) : Cond.classLink (z_ow own) idx C ∈ z_tbl := by
  unfold z_cln at h
  split at h
  · next e he =>
    obtain ⟨h1, h2, h3⟩ := z_find he
    have h4 := List.all_eq_true.mp z_nT_ok e h1
    unfold z_okN at h4
    cases h
    simp only [decide_eq_true_eq] at h4
    refine z_in (z_of1 (List.mem_of_getElem? (i := e.2.2.2) ?_)) rfl
    rw [← h2, ← h3]
    exact h4
  · cases h
theorem z_isO_ok {own idx : Nat} (h : z_isO own idx = true) : Cond.methodLink (z_ow own) idx objectInit ∈ z_tbl := by
  unfold z_isO at h
  obtain ⟨e, he⟩ := Option.isSome_iff_exists.mp h
  obtain ⟨h1, h2, h3⟩ := z_find he
  have h4 := List.all_eq_true.mp z_oT_ok e h1
  simp only [decide_eq_true_eq] at h4
  refine z_in (z_of1 (List.mem_of_getElem? (i := e.2.2) ?_)) rfl
  rw [← h2, ← h3]
  exact h4
theorem z_isY_ok {own idx : Nat} (h : z_isY own idx = true) : Cond.methodLink (z_ow own) idx arraycopyName ∈ z_tbl := by
  unfold z_isY at h
  obtain ⟨e, he⟩ := Option.isSome_iff_exists.mp h
  obtain ⟨h1, h2, h3⟩ := z_find he
  have h4 := List.all_eq_true.mp z_yT_ok e h1
  simp only [decide_eq_true_eq] at h4
  refine z_in (z_of1 (List.mem_of_getElem? (i := e.2.2) ?_)) rfl
  rw [← h2, ← h3]
  exact h4
set_option maxRecDepth 100000 in
theorem z_lkv : Cond.fieldLink (z_ow 15) 9 "java/lang/String" "value" "[B" ∈ z_tbl := z_in (z_of1 (List.mem_of_getElem? (i := 1531) (by decide +kernel))) rfl
set_option maxRecDepth 100000 in
theorem z_lkc : Cond.fieldLink (z_ow 15) 15 "java/lang/String" "coder" "B" ∈ z_tbl := z_in (z_of1 (List.mem_of_getElem? (i := 1532) (by decide +kernel))) rfl
set_option maxRecDepth 100000 in
theorem z_oi : Cond.instanceMethod objectInit ∈ z_tbl := z_in (z_of1 (List.mem_of_getElem? (i := 28) (by decide +kernel))) rfl
set_option maxRecDepth 100000 in
theorem z_oc : Cond.code objectInit ⟨#[0xb1]⟩ 1 none ∈ z_tbl := z_in (z_of1 (List.mem_of_getElem? (i := 29) (by decide +kernel))) rfl
set_option maxRecDepth 100000 in
theorem z_yn : Cond.native arraycopyName ∈ z_tbl := z_in (z_of1 (List.mem_of_getElem? (i := 823) (by decide +kernel))) rfl
set_option maxRecDepth 100000 in
theorem z_ys : Cond.static arraycopyName ∈ z_tbl := z_in (z_of1 (List.mem_of_getElem? (i := 822) (by decide +kernel))) rfl
set_option maxRecDepth 100000 in
theorem z_yi : Cond.initialized "java/lang/System" ∈ z_tbl := z_in (z_of1 (List.mem_of_getElem? (i := 20) (by decide +kernel))) rfl
set_option maxRecDepth 100000 in
theorem z_ac (ty : FieldType) (h : ty ∈ ([.int, .boolean, .byte, .char] : List FieldType)) : Cond.arrayClass ty ∈ z_tbl := by
  simp only [List.mem_cons, List.not_mem_nil, or_false] at h
  rcases h with rfl | rfl | rfl | rfl
  · exact z_in (z_of1 (List.mem_of_getElem? (i := 80) (by decide +kernel))) (by decide +kernel)
  · exact z_in (z_of1 (List.mem_of_getElem? (i := 81) (by decide +kernel))) (by decide +kernel)
  · exact z_in (z_of1 (List.mem_of_getElem? (i := 539) (by decide +kernel))) (by decide +kernel)
  · exact z_in (z_of1 (List.mem_of_getElem? (i := 1342) (by decide +kernel))) (by decide +kernel)

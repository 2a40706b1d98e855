/-! THE CLAIM OUT OF ONE WALK OF THE LAW'S BODY. Your part is whole_start (and what it stands on); all else here is the same for every law, but numbers. -/
def R_law : String := "DustYardsLaw"
def lw_P (b : Addr) (xs : List Int32) (args : Array Value) (s : State) : Prop := args = #[.ref b] ∧ s.IntsAt b xs ∧ xs.length ≤ 448 ∧ (Jvm.Cond.and given_1 narrow_1).before args s = true
def lw_Q (_ : Array Value) (s : State) (o : Outcome) (t : State) : Prop := o = .returned (some (.int 1)) ∧ Framed s o t [] 600000 7302249
def lw_Z (below : List Frame) (a : Array Value) (s : State) : State → Prop := fun t => ∃ o, t.status = .running ∧ Ended t below o ∧ lw_Q a s o t
/-- the law's own end, with 1 on the stack, nothing written that was there before, its room as the claim has it -/
theorem lw_ret {p : Program} {l : Launch} {e : Env} {s : State} {m : MethodId} {below : List Frame} {meth : Method} {c : Code} {b : Nat} (hx : p.tables.exec = Jvm.exec) (hb : c.code = code) (hr : meth.sig.returnType = ret) (hlocks : meth.locks = false) {pc : Nat} {H : Heap} {ls : Array Slot} (hdg : decode code pc = .ok (.ireturn, 1)) : W p l e room_1 s m #[Value.ref b] below meth c H [] 600000 7302249 (lw_Z below #[Value.ref b] s) (F0 m pc ls [.int 1]) := by
  intro T hT X
  obtain ⟨fs, hret, hrun, hended, hW, hframe⟩ := X.leave (v := some (.int 1)) (hlocks := hlocks) (fun h => by rw [hr] at h; cases h)
  have hmeth' : T.vm.method? m = some meth := X.method'
  refine ⟨T.setFrames fs, ?_, .returned (some (.int 1)), hrun, hended, rfl, ⟨_, rfl⟩, hW, hframe⟩
  jvm_step X.here [X.here.top, hx, hb, hdg, hmeth', hr, ret, narrow_b1]
  (try refine ⟨rfl, ?_⟩); (try refine ⟨rfl, ?_⟩)
  first | (intro acts; rw [hret _ acts rfl rfl rfl]) | rw [hret _ _ rfl rfl rfl]
  exact Steps.refl _
/-- what holds at the law's entry: the machine, the code, the tables' words (any of lw_tbl by 'hts w (by decide +kernel)'), the script of L ints xs at the cell b, what the Statement gives of the start (any of its parts by flat_of_before) -/
def lw_At (p : Program) (s : State) (m : MethodId) (meth : Method) (c : Code) (b L : Nat) (xs : Nat → Int32) : Prop :=
  p.tables.exec = Jvm.exec ∧ c.code = code ∧ meth.sig.returnType = ret ∧ c.maxLocals = 4 ∧ s.vm.findClass R_law = some m.cls ∧ (∀ w ∈ lw_tbl, w.before #[Value.ref b] s = true) ∧ va_X b L xs s s.heap ∧ b < s.heap.size ∧ meth.locks = false ∧ (Jvm.Cond.and given_1 narrow_1).before #[Value.ref b] s = true
/-! what the start gives: the classes, the arrays' classes, tables, statics, texts, the script -/
abbrev z_fl0 : List Cond := flatC (Jvm.Cond.and given_1 narrow_1)
def z_sO : List (String × Nat) := [("DustYards", 95), ("DustYards$Tape", 50), ("DustYards$Tape", 56), ("DustYards$Tape", 58), ("DustYards$Tape", 60), ("DustYards$Tape", 62), ("DustYards$Tape", 64), ("DustYards$Tape", 66), ("DustYards$Tape", 68), ("DustYards$Tape", 70), ("DustYards$Tape", 72), ("DustYards$Tape", 74), ("DustYards$Tape", 76)]
def z_sP : List Nat := [80, 127, 135, 145, 156, 166, 178, 191, 208, 223, 239, 257, 278]
def z_tm (i : Nat) : Term := Term.string (z_sO.getD i ("", 0)).1 (z_sO.getD i ("", 0)).2
def z_tv (i : Nat) : Term := Term.field (z_tm i) "java/lang/String" "value" "[B"
def z_sC (i : Nat) : List Cond := [Cond.exactly (z_tm i) "java/lang/String", Cond.eq (.field (z_tm i) "java/lang/String" "coder" "B") (.int 0), Cond.arrayOf (z_tv i) .byte, Cond.eq (.length (z_tv i)) (.int (Int32.ofNat (z_str.getD i []).length))] ++ (List.range (z_str.getD i []).length).map fun j => Cond.eq (.elem (z_tv i) (.int (Int32.ofNat j))) (.int ((z_str.getD i []).getD j 0))
set_option maxRecDepth 100000 in
theorem z_sC0 : z_sC 0 = (z_fl0.drop 80).take (z_sC 0).length := by decide +kernel
set_option maxRecDepth 100000 in
theorem z_sC1 : z_sC 1 = (z_fl0.drop 127).take (z_sC 1).length := by decide +kernel
set_option maxRecDepth 100000 in
theorem z_sC2 : z_sC 2 = (z_fl0.drop 135).take (z_sC 2).length := by decide +kernel
set_option maxRecDepth 100000 in
theorem z_sC3 : z_sC 3 = (z_fl0.drop 145).take (z_sC 3).length := by decide +kernel
set_option maxRecDepth 100000 in
theorem z_sC4 : z_sC 4 = (z_fl0.drop 156).take (z_sC 4).length := by decide +kernel
set_option maxRecDepth 100000 in
theorem z_sC5 : z_sC 5 = (z_fl0.drop 166).take (z_sC 5).length := by decide +kernel
set_option maxRecDepth 100000 in
theorem z_sC6 : z_sC 6 = (z_fl0.drop 178).take (z_sC 6).length := by decide +kernel
set_option maxRecDepth 100000 in
theorem z_sC7 : z_sC 7 = (z_fl0.drop 191).take (z_sC 7).length := by decide +kernel
set_option maxRecDepth 100000 in
theorem z_sC8 : z_sC 8 = (z_fl0.drop 208).take (z_sC 8).length := by decide +kernel
set_option maxRecDepth 100000 in
theorem z_sC9 : z_sC 9 = (z_fl0.drop 223).take (z_sC 9).length := by decide +kernel
set_option maxRecDepth 100000 in
theorem z_sC10 : z_sC 10 = (z_fl0.drop 239).take (z_sC 10).length := by decide +kernel
set_option maxRecDepth 100000 in
theorem z_sC11 : z_sC 11 = (z_fl0.drop 257).take (z_sC 11).length := by decide +kernel
set_option maxRecDepth 100000 in
theorem z_sC12 : z_sC 12 = (z_fl0.drop 278).take (z_sC 12).length := by decide +kernel
theorem z_sC_in {i : Nat} (hi : i < 13) : ∀ w ∈ z_sC i, w ∈ z_fl0 := by
  intro w hw
  match i, hi, hw with
  | 0, _, hw => rw [z_sC0] at hw; exact List.mem_of_mem_drop (List.mem_of_mem_take hw)
  | 1, _, hw => rw [z_sC1] at hw; exact List.mem_of_mem_drop (List.mem_of_mem_take hw)
  | 2, _, hw => rw [z_sC2] at hw; exact List.mem_of_mem_drop (List.mem_of_mem_take hw)
  | 3, _, hw => rw [z_sC3] at hw; exact List.mem_of_mem_drop (List.mem_of_mem_take hw)
  | 4, _, hw => rw [z_sC4] at hw; exact List.mem_of_mem_drop (List.mem_of_mem_take hw)
  | 5, _, hw => rw [z_sC5] at hw; exact List.mem_of_mem_drop (List.mem_of_mem_take hw)
  | 6, _, hw => rw [z_sC6] at hw; exact List.mem_of_mem_drop (List.mem_of_mem_take hw)
  | 7, _, hw => rw [z_sC7] at hw; exact List.mem_of_mem_drop (List.mem_of_mem_take hw)
  | 8, _, hw => rw [z_sC8] at hw; exact List.mem_of_mem_drop (List.mem_of_mem_take hw)
  | 9, _, hw => rw [z_sC9] at hw; exact List.mem_of_mem_drop (List.mem_of_mem_take hw)
  | 10, _, hw => rw [z_sC10] at hw; exact List.mem_of_mem_drop (List.mem_of_mem_take hw)
  | 11, _, hw => rw [z_sC11] at hw; exact List.mem_of_mem_drop (List.mem_of_mem_take hw)
  | 12, _, hw => rw [z_sC12] at hw; exact List.mem_of_mem_drop (List.mem_of_mem_take hw)
def z_gC (i : Nat) : List Cond := [Cond.arrayOf (.static "DustYards$Carts" (z_gN.getD i ("", "", "")).2.1 "[I") .int, Cond.eq (.length (.static "DustYards$Carts" (z_gN.getD i ("", "", "")).2.1 "[I")) (.int (Int32.ofNat (z_ro0.getD i (.int, [])).2.length))] ++ (List.range (z_ro0.getD i (.int, [])).2.length).map fun j => Cond.eq (.elem (.static "DustYards$Carts" (z_gN.getD i ("", "", "")).2.1 "[I") (.int (Int32.ofNat j))) (.int ((z_ro0.getD i (.int, [])).2.getD j 0))
set_option maxRecDepth 100000 in
theorem z_gC0 : z_gC 0 = (z_fl0.drop 10).take (z_gC 0).length := by decide +kernel
set_option maxRecDepth 100000 in
theorem z_gC1 : z_gC 1 = (z_fl0.drop 37).take (z_gC 1).length := by decide +kernel
set_option maxRecDepth 100000 in
theorem z_gC2 : z_gC 2 = (z_fl0.drop 46).take (z_gC 2).length := by decide +kernel
theorem z_gC_in {i : Nat} (hi : i < 3) : ∀ w ∈ z_gC i, w ∈ z_fl0 := by
  intro w hw
  match i, hi, hw with
  | 0, _, hw => rw [z_gC0] at hw; exact List.mem_of_mem_drop (List.mem_of_mem_take hw)
  | 1, _, hw => rw [z_gC1] at hw; exact List.mem_of_mem_drop (List.mem_of_mem_take hw)
  | 2, _, hw => rw [z_gC2] at hw; exact List.mem_of_mem_drop (List.mem_of_mem_take hw)
set_option maxRecDepth 100000 in
theorem z_ls0 : Cond.laysStatic "DustYards$Carts" "HUNDREDTHS" "[I" ∈ lw_tbl := z_of1 (List.mem_of_getElem? (i := 579) (by decide +kernel))
set_option maxRecDepth 100000 in
theorem z_ls1 : Cond.laysStatic "DustYards$Carts" "EYES" "[I" ∈ lw_tbl := z_of1 (List.mem_of_getElem? (i := 590) (by decide +kernel))
set_option maxRecDepth 100000 in
theorem z_ls2 : Cond.laysStatic "DustYards$Carts" "UNDER" "[I" ∈ lw_tbl := z_of1 (List.mem_of_getElem? (i := 933) (by decide +kernel))
set_option maxRecDepth 100000 in
theorem z_ls3 : Cond.laysStatic "java/lang/String" "COMPACT_STRINGS" "Z" ∈ lw_tbl := z_of1 (List.mem_of_getElem? (i := 342) (by decide +kernel))
set_option maxRecDepth 100000 in
theorem z_ls4 : Cond.laysStatic "jdk/internal/util/Preconditions" "SIOOBE_FORMATTER" "Ljava/util/function/BiFunction;" ∈ lw_tbl := z_of1 (List.mem_of_getElem? (i := 358) (by decide +kernel))
set_option maxRecDepth 100000 in
theorem z_inC : Cond.initialized "DustYards$Carts" ∈ lw_tbl := z_of1 (List.mem_of_getElem? (i := 2) (by decide +kernel))
set_option maxRecDepth 100000 in
theorem z_inS : Cond.initialized "java/lang/String" ∈ lw_tbl := z_of1 (List.mem_of_getElem? (i := 13) (by decide +kernel))
set_option maxRecDepth 100000 in
theorem z_inP : Cond.initialized "jdk/internal/util/Preconditions" ∈ lw_tbl := z_of1 (List.mem_of_getElem? (i := 15) (by decide +kernel))
set_option maxRecDepth 100000 in
theorem z_f3 : Cond.eq (.static "java/lang/String" "COMPACT_STRINGS" "Z") (.int 1) ∈ z_fl0 := List.mem_of_getElem? (i := 4) (by decide +kernel)
set_option maxRecDepth 100000 in
theorem z_f4 : Cond.isRef (.static "jdk/internal/util/Preconditions" "SIOOBE_FORMATTER" "Ljava/util/function/BiFunction;") ∈ z_fl0 := List.mem_of_getElem? (i := 5) (by decide +kernel)
set_option maxRecDepth 100000 in
theorem z_aoT : Cond.arrayOver (.object "DustYards$Text") ∈ lw_tbl := z_of1 (List.mem_of_getElem? (i := 141) (by decide +kernel))
set_option maxRecDepth 100000 in
theorem z_aoS : Cond.arrayOver (.object "DustYards$Sheet") ∈ lw_tbl := z_of1 (List.mem_of_getElem? (i := 313) (by decide +kernel))
set_option maxRecDepth 100000 in
theorem z_sR : ∀ q ∈ z_sT, Cond.stringRef (z_ow q.1) q.2.1 q.2.2.2 ∈ lw_tbl := by
  have h : z_sT.map (fun q => some (Cond.stringRef (z_ow q.1) q.2.1 q.2.2.2)) = ([332, 407, 414, 415, 416, 417, 418, 419, 420, 421, 422, 423, 424] : List Nat).map fun i => tables_1[i]? := by decide +kernel
  intro q hq
  have h1 : some (Cond.stringRef (z_ow q.1) q.2.1 q.2.2.2) ∈ z_sT.map (fun q => some (Cond.stringRef (z_ow q.1) q.2.1 q.2.2.2)) := List.mem_map.mpr ⟨q, hq, rfl⟩
  rw [h] at h1
  obtain ⟨j, -, hj⟩ := List.mem_map.mp h1
  exact z_of1 (List.mem_of_getElem? hj)
theorem z_sT_tm : ∀ q ∈ z_sT, q.2.2.1 < 13 ∧ Term.string (z_ow q.1) q.2.1 = z_tm q.2.2.1 := by decide +kernel
set_option maxRecDepth 100000 in
theorem z_nestW : ∀ q ∈ z_cT, (q.2.2.2.1 = 3 ∨ q.2.2.2.1 = 4) → Cond.methodLinkNest (z_ow q.1) q.2.1 (z_nm1 q.2.2.1) "DustYards" ∈ lw_tbl := by
  rintro ⟨o, i, M, k, n, p1, p2, p3⟩ hq hk
  have hok := List.all_eq_true.mp z_cT_ok _ hq
  simp only [z_okQ, Bool.and_eq_true, decide_eq_true_eq] at hok
  dsimp only at hk
  rcases hk with rfl | rfl
  · have h3 := hok.2
    simp only [Bool.and_eq_true, decide_eq_true_eq] at h3
    exact z_of1 (List.mem_of_getElem? h3.1)
  · have h3 := hok.2
    simp only [Bool.and_eq_true, decide_eq_true_eq] at h3
    exact z_of1 (List.mem_of_getElem? h3.1.1)
def z_cA (s : State) (ty : FieldType) : ClassId := (s.vm.findClass ("[" ++ ty.toString)).getD 0
theorem z_prim {args : Array Value} {s : State} {ty : FieldType} (h : (Cond.arrayClass ty).before args s = true) (hra : va_RA s (z_cA s ty) ty = (s.vm.findClass ("[" ++ ty.toString) = some (z_cA s ty))) : ArrOfT s (z_cA s ty) ty ∧ va_RA s (z_cA s ty) ty := by
  obtain ⟨c, k, comp, h1, h2, h3⟩ := Cond.arrayClass_spec (args := args) (first := s) (o := none) (s := s) (idx := []) h
  have e : z_cA s ty = c := by unfold z_cA; rw [h1]; rfl
  rw [hra]
  rw [e]
  exact ⟨fun n z => ⟨fun k h => (by cases h), k, h2, comp, h3⟩, h1⟩
theorem z_objA {args : Array Value} {s : State} {C : String} (h : (Cond.arrayOver (.object C)).before args s = true) : ArrOfT s (z_cA s (.object C)) (.object C) ∧ va_RA s (z_cA s (.object C)) (.object C) := by
  obtain ⟨comp, c, k, h1, h2, h3, h4, h5⟩ := Cond.arrayOver_spec (args := args) (first := s) (o := none) (s := s) (idx := []) h
  have e : z_cA s (.object C) = c := by unfold z_cA; rw [h5]; rfl
  rw [e]
  exact ⟨fun n z => ⟨fun k h => (by cases h), k, h3, comp, h4⟩, k, comp, h3, h4, h1, h5⟩
theorem z_tys_ok {args : Array Value} {s : State} (hts : ∀ w ∈ lw_tbl, w.before args s = true) : ∀ (k : Nat) (q : ClassId × FieldType), (z_tys (z_cA s))[k]? = some q → ArrOfT s q.1 q.2 ∧ va_RA s q.1 q.2 := by
  have hz : ∀ w ∈ z_tbl, w.before args s = true := fun w hw => hts w (List.mem_filter.mp hw).1
  intro k q hq
  match k, hq with
  | 0, hq => cases hq; exact z_prim (hz _ (z_ac .int (by decide))) rfl
  | 1, hq => cases hq; exact z_prim (hz _ (z_ac .boolean (by decide))) rfl
  | 2, hq => cases hq; exact z_prim (hz _ (z_ac .byte (by decide))) rfl
  | 3, hq => cases hq; exact z_prim (hz _ (z_ac .char (by decide))) rfl
  | 4, hq => cases hq; exact z_objA (hts _ z_aoT)
  | 5, hq => cases hq; exact z_objA (hts _ z_aoS)
  | k + 6, hq => simp [z_tys] at hq
theorem z_known {args : Array Value} {s : State} (hts : ∀ w ∈ lw_tbl, w.before args s = true) : ∃ D : va_G, va_K D z_cls (z_tys (z_cA s)) s := by
  have hz : ∀ w ∈ z_tbl, w.before args s = true := fun w hw => hts w (List.mem_filter.mp hw).1
  have h0 : ∀ ci : Nat, ∃ d : ClassId × (Nat → Nat), ∀ q, z_cls[ci]? = some q → u_Kn s q.1 q.2.1 q.2.2 d.1 d.2 := by
    intro ci
    cases hc : z_cls[ci]? with
    | none => exact ⟨(0, fun _ => 0), fun q hq => by cases hq⟩
    | some q =>
      obtain ⟨o1, o2, o3, o4, -⟩ := z_cls_ok hc
      obtain ⟨c0, iS, hKn⟩ := u_known (C := q.1) (T := q.2.1) (N := q.2.2) (n := q.2.2) hz o1 (hz _ o4)
      exact ⟨(c0, iS), fun q' hq' => by cases hq'; exact hKn⟩
  obtain ⟨F, hF⟩ := Classical.axiomOfChoice h0
  exact ⟨(fun k => (F k).1, fun k => (F k).2), fun c q hq => hF c q hq, z_tys_ok hts⟩
theorem z_start_s {args : Array Value} {s : State} {A : Nat → Prop} (hfl : ∀ w ∈ z_fl0, w.before args s = true) (hA : ∀ a : Nat, a < s.heap.size → ¬ A a) : ∃ F : Nat → Nat × Nat, ∀ i : Nat, i < 13 → (z_tm i).eval args s none [] s = some (.ref (F i).1) ∧ va_O "java/lang/String" (F i).1 A s s.heap ∧ va_OF "java/lang/String" "coder" "B" (.int 0) (F i).1 A s s.heap ∧ va_OF "java/lang/String" "value" "[B" (.ref (F i).2) (F i).1 A s s.heap ∧ va_T .byte (F i).2 (z_str.getD i []).length (fun j => .int ((z_str.getD i []).getD j 0)) A s s.heap := by
  have h0 : ∀ i : Nat, ∃ q : Nat × Nat, i < 13 → (z_tm i).eval args s none [] s = some (.ref q.1) ∧ va_O "java/lang/String" q.1 A s s.heap ∧ va_OF "java/lang/String" "coder" "B" (.int 0) q.1 A s s.heap ∧ va_OF "java/lang/String" "value" "[B" (.ref q.2) q.1 A s s.heap ∧ va_T .byte q.2 (z_str.getD i []).length (fun j => .int ((z_str.getD i []).getD j 0)) A s s.heap := by
    intro i
    by_cases hi : i < 13
    · have hw := fun w hw => hfl w (z_sC_in hi w hw)
      have hex := hw (Cond.exactly (z_tm i) "java/lang/String") (List.mem_append_left _ (by simp))
      have hco := hw (Cond.eq (.field (z_tm i) "java/lang/String" "coder" "B") (.int 0)) (List.mem_append_left _ (by simp))
      have har := hw (Cond.arrayOf (z_tv i) .byte) (List.mem_append_left _ (by simp))
      have hle := hw (Cond.eq (.length (z_tv i)) (.int (Int32.ofNat (z_str.getD i []).length))) (List.mem_append_left _ (by simp))
      have hel : ∀ j : Nat, j < (z_str.getD i []).length → (Cond.eq (.elem (z_tv i) (.int (Int32.ofNat j))) (.int ((z_str.getD i []).getD j 0))).before args s = true := fun j hj => hw _ (List.mem_append_right _ (List.mem_map.mpr ⟨j, List.mem_range.mpr hj, rfl⟩))
      have hN : (z_str.getD i []).length < 2 ^ 31 := by
        have h9 : ∀ i, i < 13 → (z_str.getD i []).length < 100 := by decide +kernel
        have := h9 i hi
        omega
      obtain ⟨a, c, cA, kA, q1, q2, q3, q4, q5, q6, -⟩ := Cond.exactly_spec (args := args) (first := s) (o := none) (s := s) (idx := []) (t := z_tm i) (cls := "java/lang/String") hex
      obtain ⟨t, ht, hT⟩ := va_Tof (f := fun j => .int ((z_str.getD i []).getD j 0)) (A := A) hN har (va_eqt hle) (fun j hj => va_eqt (hel j hj)) hA
      exact ⟨(a, t), fun _ => ⟨q1, ⟨cA, q3, q5, by rw [q6]; exact q2, hA a (Array.getElem?_eq_some_iff.mp q3).1⟩, vk_OFof q1 (va_eqt hco) hA, vk_OFof q1 ht hA, hT⟩⟩
    · exact ⟨(0, 0), fun h => absurd h hi⟩
  obtain ⟨F, hF⟩ := Classical.axiomOfChoice h0
  exact ⟨F, hF⟩
theorem z_start_g {args : Array Value} {s : State} {A : Nat → Prop} (hts : ∀ w ∈ lw_tbl, w.before args s = true) (hfl : ∀ w ∈ z_fl0, w.before args s = true) (hA : ∀ a : Nat, a < s.heap.size → ¬ A a) {i : Nat} (hi : i < 3) (hls : Cond.laysStatic "DustYards$Carts" (z_gN.getD i ("", "", "")).2.1 "[I" ∈ lw_tbl) : ∃ t : Nat, va_Z "DustYards$Carts" (z_gN.getD i ("", "", "")).2.1 "[I" (.ref t) A s s.heap ∧ va_T .int t (z_ro0.getD i (.int, [])).2.length (fun j => .int ((z_ro0.getD i (.int, [])).2.getD j 0)) A s s.heap := by
  have hw := fun w hw => hfl w (z_gC_in hi w hw)
  have har := hw (Cond.arrayOf (.static "DustYards$Carts" (z_gN.getD i ("", "", "")).2.1 "[I") .int) (List.mem_append_left _ (by simp))
  have hle := hw (Cond.eq (.length (.static "DustYards$Carts" (z_gN.getD i ("", "", "")).2.1 "[I")) (.int (Int32.ofNat (z_ro0.getD i (.int, [])).2.length))) (List.mem_append_left _ (by simp))
  have hel : ∀ j : Nat, j < (z_ro0.getD i (.int, [])).2.length → (Cond.eq (.elem (.static "DustYards$Carts" (z_gN.getD i ("", "", "")).2.1 "[I") (.int (Int32.ofNat j))) (.int ((z_ro0.getD i (.int, [])).2.getD j 0))).before args s = true := fun j hj => hw _ (List.mem_append_right _ (List.mem_map.mpr ⟨j, List.mem_range.mpr hj, rfl⟩))
  have hN : (z_ro0.getD i (.int, [])).2.length < 2 ^ 31 := by
    have h9 : ∀ i, i < 3 → (z_ro0.getD i (.int, [])).2.length < 100 := by decide +kernel
    have := h9 i hi
    omega
  obtain ⟨t, ht, hT⟩ := va_Tof (f := fun j => .int ((z_ro0.getD i (.int, [])).2.getD j 0)) (A := A) hN har (va_eqt hle) (fun j hj => va_eqt (hel j hj)) hA
  exact ⟨t, va_Zref (hts _ hls) (hts _ z_inC) ht hA, hT⟩

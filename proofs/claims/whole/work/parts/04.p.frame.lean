/-! a machine of my own over frames: one step of an instruction that touches its frame alone -/
abbrev zL : Type := List (Option Value)
def z_get (ls : zL) (i : Nat) : Option Value := match ls[i]? with
  | some (some v) => some v
  | _ => none
def z_prs : Nat → zL → List (Nat × Value)
  | _, [] => []
  | k, none :: t => z_prs (k + 1) t
  | k, some v :: t => (k, v) :: z_prs (k + 1) t
def z_is2 (o : Option Value) : Bool := match o with
  | some (.long _) => true
  | some (.double _) => true
  | _ => false
def z_clr (ls : zL) (i : Nat) : zL := match i with
  | 0 => ls
  | j + 1 => if z_is2 (z_get ls j) = true then ls.set j none else ls
def z_st1 (ls : zL) (i : Nat) (v : Value) : zL := (z_clr ls i).set i (some v)
def z_st2 (ls : zL) (i : Nat) (v : Value) : zL := ((z_clr ls i).set i (some v)).set (i + 1) none
def z_br (pc : Nat) (off : Int) : Option Nat := if 0 ≤ (pc : Int) + off then some ((pc : Int) + off).toNat else none
def z_cond (c : Jvm.ClassFile.Cond) (x y : Int32) : Bool := match c with
  | .eq => decide (x = y)
  | .ne => decide (¬ x = y)
  | .lt => decide (x < y)
  | .ge => decide (y ≤ x)
  | .gt => decide (y < x)
  | .le => decide (x ≤ y)
abbrev zF : Type := Option (Nat × zL × List Value)
def z_push (k len pc : Nat) (ls : zL) (st : List Value) (v : Value) : zF := if len = k then some (pc + k, ls, v :: st) else none
/-- kinds: 0 int, 1 long, 2 a reference or null (or one that is only carried) -/
def z_kind (t : Nat) (v : Value) : Bool := match t, v with
  | 0, .int _ => true
  | 1, .long _ => true
  | 2, .ref _ => true
  | 2, .null => true
  | 2, .retAddr _ => true
  | _, _ => false
def z_ld (t k len pc : Nat) (ls : zL) (st : List Value) (i : Nat) : zF := match z_get ls i with
  | some v => if len = k ∧ z_kind t v = true then some (pc + k, ls, v :: st) else none
  | none => none
def z_sto (t k len pc : Nat) (ls : zL) (st : List Value) (i : Nat) : zF := match st with
  | v :: r => if len = k ∧ z_kind t v = true then
      (if t = 1 then (if i + 1 < ls.length then some (pc + k, z_st2 ls i v, r) else none) else (if i < ls.length then some (pc + k, z_st1 ls i v, r) else none)) else none
  | [] => none
def z_ii (f : Int32 → Int32 → Int32) (len pc : Nat) (ls : zL) (st : List Value) : zF := match st with
  | .int y :: .int x :: r => if len = 1 then some (pc + 1, ls, .int (f x y) :: r) else none
  | _ => none
def z_dv (f : Int32 → Int32 → Int32) (len pc : Nat) (ls : zL) (st : List Value) : zF := match st with
  | .int y :: .int x :: r => if len = 1 ∧ ¬ y = 0 then some (pc + 1, ls, .int (f x y) :: r) else none
  | _ => none
def z_ll (f : Int64 → Int64 → Int64) (len pc : Nat) (ls : zL) (st : List Value) : zF := match st with
  | .long y :: .long x :: r => if len = 1 then some (pc + 1, ls, .long (f x y) :: r) else none
  | _ => none
def z_li (f : Int64 → Int32 → Int64) (len pc : Nat) (ls : zL) (st : List Value) : zF := match st with
  | .int y :: .long x :: r => if len = 1 then some (pc + 1, ls, .long (f x y) :: r) else none
  | _ => none
def z_i1 (f : Int32 → Value) (len pc : Nat) (ls : zL) (st : List Value) : zF := match st with
  | .int x :: r => if len = 1 then some (pc + 1, ls, f x :: r) else none
  | _ => none
def z_l1 (f : Int64 → Value) (len pc : Nat) (ls : zL) (st : List Value) : zF := match st with
  | .long x :: r => if len = 1 then some (pc + 1, ls, f x :: r) else none
  | _ => none
def z_jmp (pc : Nat) (b : Bool) (off : Int) (ls : zL) (st : List Value) : zF := match z_br pc off with
  | some tgt => some (if b = true then tgt else pc + 3, ls, st)
  | none => none
def z_tsw (dflt lo hi : Int) (offs : Array Int) (pc : Nat) (ls : zL) (st : List Value) : zF := match st with
  | .int x :: r =>
    if x.toInt < lo ∨ hi < x.toInt then (match z_br pc dflt with
      | some tgt => some (tgt, ls, r)
      | none => none) else (match offs[(x.toInt - lo).toNat]? with
      | some off => (match z_br pc off with
        | some tgt => some (tgt, ls, r)
        | none => none)
      | none => none)
  | _ => none
def z_loc (ins : Instr) (len pc : Nat) (ls : zL) (st : List Value) : zF := match ins with
  | .iconst n => z_push 1 len pc ls st (.int (Int32.ofInt n))
  | .bipush n => z_push 2 len pc ls st (.int (Int8.ofInt n).toInt32)
  | .sipush n => z_push 3 len pc ls st (.int (Int16.ofInt n).toInt32)
  | .lconst n => z_push 1 len pc ls st (.long (Int64.ofNat (n : Nat)))
  | .aconst_null => z_push 1 len pc ls st .null
  | .iload_n k => z_ld 0 1 len pc ls st (k : Nat)
  | .iload i => z_ld 0 2 len pc ls st i
  | .lload_n k => z_ld 1 1 len pc ls st (k : Nat)
  | .lload i => z_ld 1 2 len pc ls st i
  | .aload_n k => z_ld 2 1 len pc ls st (k : Nat)
  | .aload i => z_ld 2 2 len pc ls st i
  | .istore_n k => z_sto 0 1 len pc ls st (k : Nat)
  | .istore i => z_sto 0 2 len pc ls st i
  | .lstore_n k => z_sto 1 1 len pc ls st (k : Nat)
  | .lstore i => z_sto 1 2 len pc ls st i
  | .astore_n k => z_sto 2 1 len pc ls st (k : Nat)
  | .astore i => z_sto 2 2 len pc ls st i
  | .iinc i n => (match z_get ls i with
    | some (.int x) => if len = 3 ∧ i < ls.length then some (pc + 3, z_st1 ls i (.int (x + Int32.ofInt n)), st) else none
    | _ => none)
  | .iadd => z_ii (fun x y => x + y) len pc ls st
  | .isub => z_ii (fun x y => x - y) len pc ls st
  | .imul => z_ii (fun x y => x * y) len pc ls st
  | .iand => z_ii (fun x y => x &&& y) len pc ls st
  | .ior => z_ii (fun x y => x ||| y) len pc ls st
  | .ixor => z_ii (fun x y => x ^^^ y) len pc ls st
  | .ishl => z_ii (fun x y => x <<< (y &&& 31)) len pc ls st
  | .ishr => z_ii (fun x y => x >>> (y &&& 31)) len pc ls st
  | .iushr => z_ii (fun x y => (x.toUInt32 >>> (y.toUInt32 &&& Int32.toUInt32 31)).toInt32) len pc ls st
  | .idiv => z_dv (fun x y => x / y) len pc ls st
  | .irem => z_dv (fun x y => x - x / y * y) len pc ls st
  | .ladd => z_ll (fun x y => x + y) len pc ls st
  | .lsub => z_ll (fun x y => x - y) len pc ls st
  | .lmul => z_ll (fun x y => x * y) len pc ls st
  | .land => z_ll (fun x y => x &&& y) len pc ls st
  | .lor => z_ll (fun x y => x ||| y) len pc ls st
  | .lxor => z_ll (fun x y => x ^^^ y) len pc ls st
  | .lshl => z_li (fun x y => x <<< (y.toInt64 &&& 63)) len pc ls st
  | .lshr => z_li (fun x y => x >>> (y.toInt64 &&& 63)) len pc ls st
  | .lushr => z_li (fun x y => (x.toUInt64 >>> (y.toInt64.toUInt64 &&& Int64.toUInt64 63)).toInt64) len pc ls st
  | .ineg => z_i1 (fun x => .int (-x)) len pc ls st
  | .i2l => z_i1 (fun x => .long x.toInt64) len pc ls st
  | .i2b => z_i1 (fun x => .int x.toInt8.toInt32) len pc ls st
  | .i2s => z_i1 (fun x => .int x.toInt16.toInt32) len pc ls st
  | .i2c => z_i1 (fun x => .int (x.toUInt32 % 65536).toInt32) len pc ls st
  | .l2i => z_l1 (fun x => .int x.toInt32) len pc ls st
  | .lcmp => (match st with
    | .long y :: .long x :: r => if len = 1 then some (pc + 1, ls, .int (lg_cmp x y) :: r) else none
    | _ => none)
  | .dup => (match st with
    | v :: r => if len = 1 ∧ v.category = 1 then some (pc + 1, ls, v :: v :: r) else none
    | _ => none)
  | .pop => (match st with
    | v :: r => if len = 1 ∧ v.category = 1 then some (pc + 1, ls, r) else none
    | _ => none)
  | .dup2 => (match st with
    | v :: w :: r => if len = 1 ∧ v.category = 1 ∧ w.category = 1 then some (pc + 1, ls, v :: w :: v :: w :: r) else none
    | _ => none)
  | .dup_x1 => (match st with
    | v :: w :: r => if len = 1 ∧ v.category = 1 ∧ w.category = 1 then some (pc + 1, ls, v :: w :: v :: r) else none
    | _ => none)
  | .goto off => if len = 3 then z_jmp pc true off ls st else none
  | .ifCond c off => (match st with
    | .int x :: r => if len = 3 then z_jmp pc (z_cond c x 0) off ls r else none
    | _ => none)
  | .if_icmp c off => (match st with
    | .int y :: .int x :: r => if len = 3 then z_jmp pc (z_cond c x y) off ls r else none
    | _ => none)
  | .tableswitch dflt lo hi offs => z_tsw dflt lo hi offs pc ls st
  | _ => none
/-! what the real frame holds -/
/-- a reference or null that is only carried: my machine writes it as .retAddr -/
def z_op (n : Nat) : Value := match n with
  | 0 => .null
  | t + 1 => .ref t
def z_rv (f : Nat → Nat) (v : Value) : Value := match v with
  | .ref k => .ref (f k)
  | .retAddr k => z_op (f k)
  | w => w
theorem z_op_cat (n : Nat) : (z_op n).category = 1 := by cases n <;> rfl
theorem z_rv_cat (f : Nat → Nat) (v : Value) : (z_rv f v).category = v.category := by
  cases v with
  | retAddr k => exact z_op_cat (f k)
  | _ => rfl
def z_LV (f : Nat → Nat) (ls : zL) (real : Array Slot) (nL : Nat) : Prop := ls.length = nL ∧ lv_has real nL ((z_prs 0 ls).map fun q => (q.1, z_rv f q.2))
theorem z_prs_mem : ∀ (ls : zL) (k : Nat) (i : Nat) (v : Value), (i, v) ∈ z_prs k ls ↔ k ≤ i ∧ ls[i - k]? = some (some v)
  | [], k, i, v => by simp [z_prs]
  | none :: t, k, i, v => by
    rw [z_prs, z_prs_mem t (k + 1) i v]
    constructor
    · rintro ⟨h1, h2⟩
      refine ⟨by omega, ?_⟩
      rw [show i - k = (i - (k + 1)) + 1 by omega, List.getElem?_cons_succ]
      exact h2
    · rintro ⟨h1, h2⟩
      by_cases h : i = k
      · subst h
        simp at h2
      · refine ⟨by omega, ?_⟩
        rw [show i - k = (i - (k + 1)) + 1 by omega, List.getElem?_cons_succ] at h2
        exact h2
  | some w :: t, k, i, v => by
    rw [z_prs, List.mem_cons, z_prs_mem t (k + 1) i v]
    constructor
    · rintro (h | ⟨h1, h2⟩)
      · cases h
        simp
      · refine ⟨by omega, ?_⟩
        rw [show i - k = (i - (k + 1)) + 1 by omega, List.getElem?_cons_succ]
        exact h2
    · rintro ⟨h1, h2⟩
      by_cases h : i = k
      · subst h
        simp at h2
        exact Or.inl (by rw [h2])
      · refine Or.inr ⟨by omega, ?_⟩
        rw [show i - k = (i - (k + 1)) + 1 by omega, List.getElem?_cons_succ] at h2
        exact h2
theorem z_get_iff {ls : zL} {i : Nat} {v : Value} : z_get ls i = some v ↔ ls[i]? = some (some v) := by
  unfold z_get
  split
  · next w h => rw [h]; simp
  · next h =>
    constructor
    · intro h1; cases h1
    · intro h1; exact absurd h1 (h v)
theorem z_LV.at {f : Nat → Nat} {ls : zL} {real : Array Slot} {nL i : Nat} {v : Value} (h : z_LV f ls real nL) (hg : z_get ls i = some v) : real[i]? = some (.val (z_rv f v)) := by
  refine h.2.2.2 (i, z_rv f v) (List.mem_map.mpr ⟨(i, v), (z_prs_mem ls 0 i v).mpr ⟨Nat.zero_le _, ?_⟩, rfl⟩)
  exact z_get_iff.mp hg
theorem z_lv_mono {real : Array Slot} {nL : Nat} {l l' : List (Nat × Value)} (h : lv_has real nL l) (hm : ∀ q ∈ l', q ∈ l) : lv_has real nL l' := ⟨h.1, h.2.1, fun q hq => h.2.2 q (hm q hq)⟩
theorem z_clr_len (ls : zL) (i : Nat) : (z_clr ls i).length = ls.length := by
  unfold z_clr
  split
  · rfl
  · split
    · simp
    · rfl
theorem z_clr_get {ls : zL} {i k : Nat} {w : Value} (h : (z_clr ls i)[k]? = some (some w)) : ls[k]? = some (some w) ∧ ¬ (k + 1 = i ∧ w.category = 2) := by
  unfold z_clr at h
  split at h
  · exact ⟨h, by omega⟩
  · next j =>
    split at h
    · next h2 =>
      by_cases hk : k = j
      · subst hk
        by_cases hl : k < ls.length
        · rw [List.getElem?_set_self hl] at h
          cases h
        · rw [List.getElem?_eq_none (by simp; omega)] at h
          cases h
      · rw [List.getElem?_set_ne (fun q => hk q.symm)] at h
        exact ⟨h, by omega⟩
    · next h2 =>
      refine ⟨h, ?_⟩
      rintro ⟨h3, h4⟩
      have : k = j := by omega
      subst this
      apply h2
      rw [z_get_iff.mpr h]
      cases w <;> first | rfl | (simp [Value.category] at h4)
theorem z_LV.st1 {f : Nat → Nat} {ls : zL} {real : Array Slot} {nL i : Nat} {v : Value} (hl : ls.length = nL)
    (h : lv_has real nL ((i, z_rv f v) :: ((z_prs 0 ls).map fun q => (q.1, z_rv f q.2)).filter (fun q => !(q.1 == i) && !(q.1 + 1 == i && q.2.category == 2)))) : z_LV f (z_st1 ls i v) real nL := by
  refine ⟨by unfold z_st1; rw [List.length_set, z_clr_len]; exact hl, z_lv_mono h ?_⟩
  intro q hq
  obtain ⟨⟨k, w⟩, hk, rfl⟩ := List.mem_map.mp hq
  obtain ⟨-, hk⟩ := (z_prs_mem _ 0 k w).mp hk
  rw [Nat.sub_zero] at hk
  unfold z_st1 at hk
  by_cases hki : k = i
  · subst hki
    have hlt : k < (z_clr ls k).length := by
      have h9 := (List.getElem?_eq_some_iff.mp hk).1
      simpa using h9
    rw [List.getElem?_set_self hlt] at hk
    cases hk
    exact List.mem_cons_self
  · rw [List.getElem?_set_ne (fun q => hki q.symm)] at hk
    obtain ⟨h1, h2⟩ := z_clr_get hk
    refine List.mem_cons_of_mem _ (List.mem_filter.mpr ⟨List.mem_map.mpr ⟨(k, w), (z_prs_mem ls 0 k w).mpr ⟨Nat.zero_le _, h1⟩, rfl⟩, ?_⟩)
    simp only [z_rv_cat, Bool.and_eq_true, Bool.not_eq_true', beq_eq_false_iff_ne, ne_eq, Bool.and_eq_false_iff]
    refine ⟨hki, ?_⟩
    by_cases h3 : k + 1 = i
    · exact Or.inr (fun h4 => h2 ⟨h3, h4⟩)
    · exact Or.inl h3
theorem z_LV.st2 {f : Nat → Nat} {ls : zL} {real : Array Slot} {nL i : Nat} {v : Value} (hl : ls.length = nL)
    (h : lv_has real nL ((i, z_rv f v) :: ((z_prs 0 ls).map fun q => (q.1, z_rv f q.2)).filter (fun q => !(q.1 == i) && (!(q.1 == i + 1) && !(q.1 + 1 == i && q.2.category == 2))))) : z_LV f (z_st2 ls i v) real nL := by
  refine ⟨by unfold z_st2; rw [List.length_set, List.length_set, z_clr_len]; exact hl, z_lv_mono h ?_⟩
  intro q hq
  obtain ⟨⟨k, w⟩, hk, rfl⟩ := List.mem_map.mp hq
  obtain ⟨-, hk⟩ := (z_prs_mem _ 0 k w).mp hk
  rw [Nat.sub_zero] at hk
  unfold z_st2 at hk
  have hk1 : k ≠ i + 1 := by
    intro e
    subst e
    have h9 := (List.getElem?_eq_some_iff.mp hk).1
    rw [List.getElem?_set_self (by simpa using h9)] at hk
    cases hk
  rw [List.getElem?_set_ne (fun q => hk1 q.symm)] at hk
  by_cases hki : k = i
  · subst hki
    have hlt : k < (z_clr ls k).length := by
      have h9 := (List.getElem?_eq_some_iff.mp hk).1
      simpa using h9
    rw [List.getElem?_set_self hlt] at hk
    cases hk
    exact List.mem_cons_self
  · rw [List.getElem?_set_ne (fun q => hki q.symm)] at hk
    obtain ⟨h1, h2⟩ := z_clr_get hk
    refine List.mem_cons_of_mem _ (List.mem_filter.mpr ⟨List.mem_map.mpr ⟨(k, w), (z_prs_mem ls 0 k w).mpr ⟨Nat.zero_le _, h1⟩, rfl⟩, ?_⟩)
    simp only [z_rv_cat, Bool.and_eq_true, Bool.not_eq_true', beq_eq_false_iff_ne, ne_eq, Bool.and_eq_false_iff]
    refine ⟨hki, hk1, ?_⟩
    by_cases h3 : k + 1 = i
    · exact Or.inr (fun h4 => h2 ⟨h3, h4⟩)
    · exact Or.inl h3
theorem z_br_ok {pc tgt : Nat} {off : Int} (h : z_br pc off = some tgt) : (pc : Int) + off = (tgt : Int) := by
  unfold z_br at h
  split at h
  · cases h
    omega
  · cases h
section ZLOC
variable {p : Program} {l : Launch} {e : Env} {R : Room} {s : State} {m : MethodId} {args : Array Value} {below : List Frame} {meth : Method} {c : Code} {H : Heap} {locs : List Loc} {cells slots : Nat} {Q : State → Prop}
variable {cc : ByteArray} {f : Nat → Nat}
theorem z_push_ok {k len pc pc' : Nat} {ls ls' : zL} {st st' : List Value} {v : Value} {real : Array Slot} {nL : Nat} {ins : Instr} (h : z_push k len pc ls st v = some (pc', ls', st')) (hd : decode cc pc = .ok (ins, len)) (hl : z_LV f ls real nL)
    (row : decode cc pc = .ok (ins, k) → W p l e R s m args below meth c H locs cells slots Q (F0 m (pc + k) real (z_rv f v :: st.map (z_rv f))) → W p l e R s m args below meth c H locs cells slots Q (F0 m pc real (st.map (z_rv f))))
    (kk : ∀ real', z_LV f ls' real' nL → W p l e R s m args below meth c H locs cells slots Q (F0 m pc' real' (st'.map (z_rv f)))) : W p l e R s m args below meth c H locs cells slots Q (F0 m pc real (st.map (z_rv f))) := by
  unfold z_push at h
  split at h
  · next hk =>
    subst hk
    cases h
    exact row hd (kk real hl)
  · cases h
theorem z_ii_ok {g : Int32 → Int32 → Int32} {len pc pc' : Nat} {ls ls' : zL} {st st' : List Value} {real : Array Slot} {nL : Nat} {ins : Instr} (h : z_ii g len pc ls st = some (pc', ls', st')) (hd : decode cc pc = .ok (ins, len)) (hl : z_LV f ls real nL)
    (row : ∀ (x y : Int32) (rest : List Value), decode cc pc = .ok (ins, 1) → W p l e R s m args below meth c H locs cells slots Q (F0 m (pc + 1) real (.int (g x y) :: rest)) → W p l e R s m args below meth c H locs cells slots Q (F0 m pc real (.int y :: .int x :: rest)))
    (kk : ∀ real', z_LV f ls' real' nL → W p l e R s m args below meth c H locs cells slots Q (F0 m pc' real' (st'.map (z_rv f)))) : W p l e R s m args below meth c H locs cells slots Q (F0 m pc real (st.map (z_rv f))) := by
  unfold z_ii at h
  split at h
  · split at h
    · next hk =>
      subst hk
      cases h
      exact row _ _ _ hd (kk real hl)
    · cases h
  · cases h
theorem z_dv_ok {g : Int32 → Int32 → Int32} {len pc pc' : Nat} {ls ls' : zL} {st st' : List Value} {real : Array Slot} {nL : Nat} {ins : Instr} (h : z_dv g len pc ls st = some (pc', ls', st')) (hd : decode cc pc = .ok (ins, len)) (hl : z_LV f ls real nL)
    (row : ∀ (x y : Int32) (rest : List Value), ¬ y = 0 → decode cc pc = .ok (ins, 1) → W p l e R s m args below meth c H locs cells slots Q (F0 m (pc + 1) real (.int (g x y) :: rest)) → W p l e R s m args below meth c H locs cells slots Q (F0 m pc real (.int y :: .int x :: rest)))
    (kk : ∀ real', z_LV f ls' real' nL → W p l e R s m args below meth c H locs cells slots Q (F0 m pc' real' (st'.map (z_rv f)))) : W p l e R s m args below meth c H locs cells slots Q (F0 m pc real (st.map (z_rv f))) := by
  unfold z_dv at h
  split at h
  · split at h
    · next hk =>
      obtain ⟨rfl, hy⟩ := hk
      cases h
      exact row _ _ _ hy hd (kk real hl)
    · cases h
  · cases h
theorem z_ll_ok {g : Int64 → Int64 → Int64} {len pc pc' : Nat} {ls ls' : zL} {st st' : List Value} {real : Array Slot} {nL : Nat} {ins : Instr} (h : z_ll g len pc ls st = some (pc', ls', st')) (hd : decode cc pc = .ok (ins, len)) (hl : z_LV f ls real nL)
    (row : ∀ (x y : Int64) (rest : List Value), decode cc pc = .ok (ins, 1) → W p l e R s m args below meth c H locs cells slots Q (F0 m (pc + 1) real (.long (g x y) :: rest)) → W p l e R s m args below meth c H locs cells slots Q (F0 m pc real (.long y :: .long x :: rest)))
    (kk : ∀ real', z_LV f ls' real' nL → W p l e R s m args below meth c H locs cells slots Q (F0 m pc' real' (st'.map (z_rv f)))) : W p l e R s m args below meth c H locs cells slots Q (F0 m pc real (st.map (z_rv f))) := by
  unfold z_ll at h
  split at h
  · split at h
    · next hk =>
      subst hk
      cases h
      exact row _ _ _ hd (kk real hl)
    · cases h
  · cases h
theorem z_li_ok {g : Int64 → Int32 → Int64} {len pc pc' : Nat} {ls ls' : zL} {st st' : List Value} {real : Array Slot} {nL : Nat} {ins : Instr} (h : z_li g len pc ls st = some (pc', ls', st')) (hd : decode cc pc = .ok (ins, len)) (hl : z_LV f ls real nL)
    (row : ∀ (x : Int64) (y : Int32) (rest : List Value), decode cc pc = .ok (ins, 1) → W p l e R s m args below meth c H locs cells slots Q (F0 m (pc + 1) real (.long (g x y) :: rest)) → W p l e R s m args below meth c H locs cells slots Q (F0 m pc real (.int y :: .long x :: rest)))
    (kk : ∀ real', z_LV f ls' real' nL → W p l e R s m args below meth c H locs cells slots Q (F0 m pc' real' (st'.map (z_rv f)))) : W p l e R s m args below meth c H locs cells slots Q (F0 m pc real (st.map (z_rv f))) := by
  unfold z_li at h
  split at h
  · split at h
    · next hk =>
      subst hk
      cases h
      exact row _ _ _ hd (kk real hl)
    · cases h
  · cases h
theorem z_i1_ok {g : Int32 → Value} {len pc pc' : Nat} {ls ls' : zL} {st st' : List Value} {real : Array Slot} {nL : Nat} {ins : Instr} (h : z_i1 g len pc ls st = some (pc', ls', st')) (hd : decode cc pc = .ok (ins, len)) (hl : z_LV f ls real nL)
    (row : ∀ (x : Int32) (rest : List Value), decode cc pc = .ok (ins, 1) → W p l e R s m args below meth c H locs cells slots Q (F0 m (pc + 1) real (z_rv f (g x) :: rest)) → W p l e R s m args below meth c H locs cells slots Q (F0 m pc real (.int x :: rest)))
    (kk : ∀ real', z_LV f ls' real' nL → W p l e R s m args below meth c H locs cells slots Q (F0 m pc' real' (st'.map (z_rv f)))) : W p l e R s m args below meth c H locs cells slots Q (F0 m pc real (st.map (z_rv f))) := by
  unfold z_i1 at h
  split at h
  · split at h
    · next hk =>
      subst hk
      cases h
      exact row _ _ hd (kk real hl)
    · cases h
  · cases h
theorem z_l1_ok {g : Int64 → Value} {len pc pc' : Nat} {ls ls' : zL} {st st' : List Value} {real : Array Slot} {nL : Nat} {ins : Instr} (h : z_l1 g len pc ls st = some (pc', ls', st')) (hd : decode cc pc = .ok (ins, len)) (hl : z_LV f ls real nL)
    (row : ∀ (x : Int64) (rest : List Value), decode cc pc = .ok (ins, 1) → W p l e R s m args below meth c H locs cells slots Q (F0 m (pc + 1) real (z_rv f (g x) :: rest)) → W p l e R s m args below meth c H locs cells slots Q (F0 m pc real (.long x :: rest)))
    (kk : ∀ real', z_LV f ls' real' nL → W p l e R s m args below meth c H locs cells slots Q (F0 m pc' real' (st'.map (z_rv f)))) : W p l e R s m args below meth c H locs cells slots Q (F0 m pc real (st.map (z_rv f))) := by
  unfold z_l1 at h
  split at h
  · split at h
    · next hk =>
      subst hk
      cases h
      exact row _ _ hd (kk real hl)
    · cases h
  · cases h
theorem z_ld_ok {t k len pc pc' i : Nat} {ls ls' : zL} {st st' : List Value} {real : Array Slot} {nL : Nat} {ins : Instr} (h : z_ld t k len pc ls st i = some (pc', ls', st')) (hd : decode cc pc = .ok (ins, len)) (hl : z_LV f ls real nL)
    (row : ∀ v : Value, z_kind t v = true → real[i]? = some (.val (z_rv f v)) → decode cc pc = .ok (ins, k) → W p l e R s m args below meth c H locs cells slots Q (F0 m (pc + k) real (z_rv f v :: st.map (z_rv f))) → W p l e R s m args below meth c H locs cells slots Q (F0 m pc real (st.map (z_rv f))))
    (kk : ∀ real', z_LV f ls' real' nL → W p l e R s m args below meth c H locs cells slots Q (F0 m pc' real' (st'.map (z_rv f)))) : W p l e R s m args below meth c H locs cells slots Q (F0 m pc real (st.map (z_rv f))) := by
  unfold z_ld at h
  split at h
  · next v hv =>
    split at h
    · next hk =>
      obtain ⟨rfl, hk⟩ := hk
      cases h
      exact row v hk (hl.at hv) hd (kk real hl)
    · cases h
  · cases h
theorem z_sto_ok {t k len pc pc' i : Nat} {ls ls' : zL} {st st' : List Value} {real : Array Slot} {nL : Nat} {ins : Instr} (h : z_sto t k len pc ls st i = some (pc', ls', st')) (hd : decode cc pc = .ok (ins, len)) (hl : z_LV f ls real nL)
    (row1 : ∀ (v : Value) (rest : List Value), t ≠ 1 → z_kind t v = true → i < nL → decode cc pc = .ok (ins, k) → (∀ real', z_LV f (z_st1 ls i v) real' nL → W p l e R s m args below meth c H locs cells slots Q (F0 m (pc + k) real' rest)) → W p l e R s m args below meth c H locs cells slots Q (F0 m pc real (z_rv f v :: rest)))
    (row2 : ∀ (v : Value) (rest : List Value), t = 1 → z_kind t v = true → i + 1 < nL → decode cc pc = .ok (ins, k) → (∀ real', z_LV f (z_st2 ls i v) real' nL → W p l e R s m args below meth c H locs cells slots Q (F0 m (pc + k) real' rest)) → W p l e R s m args below meth c H locs cells slots Q (F0 m pc real (z_rv f v :: rest)))
    (kk : ∀ real', z_LV f ls' real' nL → W p l e R s m args below meth c H locs cells slots Q (F0 m pc' real' (st'.map (z_rv f)))) : W p l e R s m args below meth c H locs cells slots Q (F0 m pc real (st.map (z_rv f))) := by
  unfold z_sto at h
  split at h
  · split at h
    · next hk =>
      obtain ⟨rfl, hk⟩ := hk
      split at h
      · next ht =>
        split at h
        · next hi =>
          cases h
          exact row2 _ _ ht hk (by rw [← hl.1]; exact hi) hd kk
        · cases h
      · next ht =>
        split at h
        · next hi =>
          cases h
          exact row1 _ _ ht hk (by rw [← hl.1]; exact hi) hd kk
        · cases h
    · cases h
  · cases h
end ZLOC

/-! the heap of my own machine: shapes of cells, and the ints in them -/
abbrev zC : Type := (FieldType × Nat) ⊕ ((FieldType × List (Option Nat)) ⊕ (Nat × List (Option (Option Nat))))
abbrev zS : Type := List zC
abbrev zH : Type := Nat → Nat → Int32
def z_up (h : zH) (k j : Nat) (v : Int32) : zH := fun a => if a = k then upd (h k) j v else h a
def z_zero (h : zH) (k : Nat) : zH := fun a => if a = k then (fun _ => 0) else h a
def z_cpy (h : zH) (a b sp dp n : Nat) : zH := fun q => if q = b then va_cpy (h a) (h b) sp dp n else h q
def z_fl (own idx : Nat) : Option (Nat × Nat) := match z_flT.find? (fun e => e.1 == own && e.2.1 == idx) with
  | some e => some (e.2.2.1, e.2.2.2.1)
  | none => none
def z_con (own idx : Nat) : Option Value := match z_kT.find? (fun e => e.1 == own && e.2.1 == idx) with
  | some e => some e.2.2.1
  | none => none
def z_sno (own idx : Nat) : Option Nat := match z_sT.find? (fun e => e.1 == own && e.2.1 == idx) with
  | some e => some e.2.2.1
  | none => none
/-- the statics: three tables of ints, the flag, the formatter -/
def z_gval (i : Nat) : Value := match i with
  | 0 => .ref 100001
  | 1 => .ref 100002
  | 2 => .ref 100003
  | 3 => .int 1
  | _ => .retAddr 100200
def z_sta (own idx : Nat) : Option Value := match z_gT.find? (fun e => e.1 == own && e.2.1 == idx) with
  | some e => some (z_gval e.2.2.1)
  | none => none
def z_cln (own idx : Nat) : Option String := match z_nT.find? (fun e => e.1 == own && e.2.1 == idx) with
  | some e => some e.2.2.1
  | none => none
def z_cal (own idx : Nat) : Option (Nat × Nat × Nat) := match z_cT.find? (fun e => e.1 == own && e.2.1 == idx) with
  | some e => some (e.2.2.1, e.2.2.2.1, e.2.2.2.2.1)
  | none => none
def z_isO (own idx : Nat) : Bool := (z_oT.find? (fun e => e.1 == own && e.2.1 == idx)).isSome
def z_isY (own idx : Nat) : Bool := (z_yT.find? (fun e => e.1 == own && e.2.1 == idx)).isSome
def z_obj (S : zS) (k : Nat) : Option (Nat × List (Option (Option Nat))) := match S[k]? with
  | some (.inr (.inr o)) => some o
  | _ => none
def z_arr (S : zS) (k : Nat) : Option (FieldType × Nat) := match S[k]? with
  | some (.inl a) => some a
  | _ => none
def z_rar (S : zS) (k : Nat) : Option (FieldType × List (Option Nat)) := match S[k]? with
  | some (.inr (.inl a)) => some a
  | _ => none
def z_roA (X : Option (List Int32)) (i : Nat) : Option (FieldType × List Int32) := match i with
  | 0 => (match X with
    | some l => some (.int, l)
    | none => none)
  | i + 1 => z_ro0[i]?
def z_rty : List FieldType := [.object "DustYards$Text", .object "DustYards$Sheet"]
def z_rf (r : Option Nat) : Value := match r with
  | none => .null
  | some k => .ref k
abbrev zG : Type := Option (List Value × zS × zH)
def z_getf (own idx k : Nat) (r : List Value) (S : zS) (h : zH) : zG :=
  if k < 100000 then (match z_fl own idx, z_obj S k with
    | some (ci, j), some (cj, fs) => if ci = cj then (match fs[j]? with
      | some none => some (.int (h k j) :: r, S, h)
      | some (some a) => some (z_rf a :: r, S, h)
      | none => none) else none
    | _, _ => none)
  else if 100100 ≤ k ∧ k < 100113 ∧ own = 15 then (if idx = 9 then some (.ref (k - 96) :: r, S, h) else if idx = 15 then some (.int 0 :: r, S, h) else none) else none
def z_putf (own : Nat) (init : Bool) (idx : Nat) (v : Value) (k : Nat) (r : List Value) (S : zS) (h : zH) : zG :=
  if k < 100000 then (match z_fl own idx, z_obj S k with
    | some (ci, j), some (cj, fs) => if ci = cj then (match fs[j]?, v with
      | some none, .int x => if z_fty ci j = .int then some (r, S, z_up h k j x) else none
      | some (some _), .ref a => if init = true ∧ own = ci ∧ z_okT (z_fty ci j) = true then some (r, S.set k (.inr (.inr (ci, fs.set j (some (some a))))), h) else none
      | _, _ => none) else none
    | _, _ => none)
  else none
def z_ald (tys : List FieldType) (i : Int32) (k : Nat) (r : List Value) (X : Option (List Int32)) (S : zS) (h : zH) : zG :=
  if k < 100000 then (match z_arr S k with
    | some (ty, n) => if ty ∈ tys ∧ ¬ (i < 0 ∨ n ≤ i.toNatClampNeg) then some (.int (h k i.toNatClampNeg) :: r, S, h) else none
    | none => none)
  else (match z_roA X (k - 100000) with
    | some (ty, l) => if ty ∈ tys ∧ ¬ (i < 0 ∨ l.length ≤ i.toNatClampNeg) then some (.int (l.getD i.toNatClampNeg 0) :: r, S, h) else none
    | none => none)
def z_ast (tys : List FieldType) (x i : Int32) (k : Nat) (r : List Value) (S : zS) (h : zH) : zG :=
  if k < 100000 then (match z_arr S k with
    | some (ty, n) => if ty ∈ tys ∧ ¬ (i < 0 ∨ n ≤ i.toNatClampNeg) then some (r, S, z_up h k i.toNatClampNeg (if ty = .int then x else vp_nar ty x)) else none
    | none => none)
  else none
def z_aln (k : Nat) (r : List Value) (X : Option (List Int32)) (S : zS) (h : zH) : zG :=
  if k < 100000 then (match S[k]? with
    | some (.inl (ty, n)) => if ty ∈ ([.int, .boolean, .byte, .char] : List FieldType) then some (.int (Int32.ofNat n) :: r, S, h) else none
    | _ => none)
  else (match z_roA X (k - 100000) with
    | some (_, l) => some (.int (Int32.ofNat l.length) :: r, S, h)
    | none => none)
def z_aal (i : Int32) (k : Nat) (r : List Value) (S : zS) (h : zH) : zG :=
  if k < 100000 then (match z_rar S k with
    | some (ty, rs) => if ty ∈ z_rty ∧ ¬ (i < 0 ∨ rs.length ≤ i.toNatClampNeg) then some (z_rf (rs.getD i.toNatClampNeg none) :: r, S, h) else none
    | none => none)
  else none
def z_aas (v : Nat) (i : Int32) (k : Nat) (r : List Value) (S : zS) (h : zH) : zG :=
  if k < 100000 ∧ v < 100000 then (match z_rar S k, z_obj S v with
    | some (ty, rs), some (ci, _) => if ty = .object (z_ow ci) ∧ ty ∈ z_rty ∧ ¬ (i < 0 ∨ rs.length ≤ i.toNatClampNeg) then some (r, S.set k (.inr (.inl (ty, rs.set i.toNatClampNeg (some v)))), h) else none
    | _, _ => none)
  else none
def z_newa (ty : FieldType) (n : Int32) (r : List Value) (S : zS) (h : zH) : zG :=
  if ty ∈ ([.int, .boolean, .byte, .char] : List FieldType) ∧ ¬ n < 0 ∧ n.toNatClampNeg ≤ 100000 ∧ S.length < 100000 then some (.ref S.length :: r, S ++ [.inl (ty, n.toNatClampNeg)], z_zero h S.length) else none
def z_newq (own idx : Nat) (n : Int32) (r : List Value) (S : zS) (h : zH) : zG := match z_cln own idx with
  | some C => if C ∈ (["DustYards$Text", "DustYards$Sheet"] : List String) ∧ ¬ n < 0 ∧ n.toNatClampNeg ≤ 100000 ∧ S.length < 100000 then some (.ref S.length :: r, S ++ [.inr (.inl (.object C, List.replicate n.toNatClampNeg none))], h) else none
  | none => none
def z_newc (own idx : Nat) (r : List Value) (S : zS) (h : zH) : zG := match z_cln own idx with
  | some C => (match (List.range 13).find? (fun ci => z_ow ci == C) with
    | some ci => if S.length < 100000 then some (.ref S.length :: r, S ++ [.inr (.inr (ci, z_df ci))], z_zero h S.length) else none
    | none => none)
  | none => none
def z_copy (n dp : Int32) (b : Nat) (sp : Int32) (a : Nat) (r : List Value) (S : zS) (h : zH) : zG :=
  if a < 100000 ∧ b < 100000 then (match z_arr S a, z_arr S b with
    | some (t0, n0), some (t1, n1) => if t0 = .int ∧ t1 = .int ∧ ¬ sp < 0 ∧ ¬ dp < 0 ∧ ¬ n < 0 ∧ sp.toNatClampNeg + n.toNatClampNeg ≤ n0 ∧ dp.toNatClampNeg + n.toNatClampNeg ≤ n1 then some (r, S, z_cpy h a b sp.toNatClampNeg dp.toNatClampNeg n.toNatClampNeg) else none
    | _, _ => none)
  else none
def z_sum (r : List Value) : Nat := (r.map fun v => v.category).sum
def z_mem (X : Option (List Int32)) (d own : Nat) (init : Bool) (ins : Instr) (len : Nat) (st : List Value) (S : zS) (h : zH) : zG := match ins with
  | .getfield idx => (match st with
    | .ref k :: r => if len = 3 then z_getf own idx k r S h else none
    | _ => none)
  | .putfield idx => (match st with
    | v :: .ref k :: r => if len = 3 then z_putf own init idx v k r S h else none
    | _ => none)
  | .getstatic idx => (match z_sta own idx with
    | some v => if len = 3 then some (v :: st, S, h) else none
    | none => none)
  | .ldc idx => if len = 2 then (match z_con own idx with
    | some (.int v) => some (.int v :: st, S, h)
    | some _ => none
    | none => (match z_sno own idx with
      | some i => some (.ref (100100 + i) :: st, S, h)
      | none => none)) else none
  | .ldc_w idx => if len = 3 then (match z_con own idx with
    | some (.int v) => some (.int v :: st, S, h)
    | _ => none) else none
  | .ldc2_w idx => if len = 3 then (match z_con own idx with
    | some (.long v) => some (.long v :: st, S, h)
    | _ => none) else none
  | .iaload => (match st with
    | .int i :: .ref k :: r => if len = 1 then z_ald [.int] i k r X S h else none
    | _ => none)
  | .baload => (match st with
    | .int i :: .ref k :: r => if len = 1 then z_ald [.byte, .boolean] i k r X S h else none
    | _ => none)
  | .caload => (match st with
    | .int i :: .ref k :: r => if len = 1 then z_ald [.char] i k r X S h else none
    | _ => none)
  | .iastore => (match st with
    | .int x :: .int i :: .ref k :: r => if len = 1 then z_ast [.int] x i k r S h else none
    | _ => none)
  | .bastore => (match st with
    | .int x :: .int i :: .ref k :: r => if len = 1 then z_ast [.byte, .boolean] x i k r S h else none
    | _ => none)
  | .castore => (match st with
    | .int x :: .int i :: .ref k :: r => if len = 1 then z_ast [.char] x i k r S h else none
    | _ => none)
  | .arraylength => (match st with
    | .ref k :: r => if len = 1 then z_aln k r X S h else none
    | _ => none)
  | .aaload => (match st with
    | .int i :: .ref k :: r => if len = 1 then z_aal i k r S h else none
    | _ => none)
  | .aastore => (match st with
    | .ref v :: .int i :: .ref k :: r => if len = 1 then z_aas v i k r S h else none
    | _ => none)
  | .newarray t => (match st with
    | .int n :: r => if len = 2 then z_newa (newarray.typeOf t) n r S h else none
    | _ => none)
  | .anewarray idx => (match st with
    | .int n :: r => if len = 3 then z_newq own idx n r S h else none
    | _ => none)
  | .new idx => if len = 3 then z_newc own idx st S h else none
  | .invokespecial idx => (match st with
    | .ref _ :: r => if len = 3 ∧ z_isO own idx = true ∧ 1 ≤ d ∧ z_sum r ≤ 8 then some (r, S, h) else none
    | _ => none)
  | .invokestatic idx => (match st with
    | .int n :: .int dp :: .ref b :: .int sp :: .ref a :: r => if len = 3 ∧ z_isY own idx = true ∧ 1 ≤ d ∧ z_sum r ≤ 8 then z_copy n dp b sp a r S h else none
    | _ => none)
  | _ => none
def z_ret (ret : Option FieldType) (ins : Instr) (len : Nat) (st : List Value) : Option (Option Value) := match ins with
  | .ireturn => (match st, ret with
    | [.int v], some ty => if len = 1 ∧ narrow ty (.int v) = .int v then some (some (.int v)) else none
    | _, _ => none)
  | .lreturn => (match st, ret with
    | [.long v], some .long => if len = 1 then some (some (.long v)) else none
    | _, _ => none)
  | .return_ => (match st, ret with
    | [], none => if len = 1 then some none else none
    | _, _ => none)
  | _ => none
def z_sl (vs : List Value) : zL := vs.flatMap fun v => if v.category = 2 then [some v, none] else [some v]
def z_ent (vs : List Value) (n : Nat) : zL := z_sl vs ++ List.replicate (n - (z_sl vs).length) none
/-- the receiver is of the class that is asked -/
def z_rcv (S : zS) (b own : Nat) : Bool := if b < 100000 then (match z_obj S b with
    | some (ci, _) => decide (ci = own)
    | none => false) else (decide (100100 ≤ b) && decide (b < 100113) && decide (own = 15))
def z_ownOf (M : Nat) : Nat := match z_M[M]? with
  | some e => e.2.2.2.2.1
  | none => 1000
/-- a call: the method, its arguments, what is left on the stack -/
def z_inv (own : Nat) (ins : Instr) (len : Nat) (st : List Value) (S : zS) : Option (Nat × List Value × List Value) := match ins with
  | .invokevirtual idx => (match z_cal own idx with
    | some (M, 0, n) => (match st.drop n with
      | .ref b :: r => if len = 3 ∧ (st.take n).length = n ∧ z_sum r ≤ 8 ∧ z_rcv S b (z_ownOf M) = true then some (M, .ref b :: (st.take n).reverse, r) else none
      | _ => none)
    | _ => none)
  | .invokestatic idx => (match z_cal own idx with
    | some (M, kd, n) => if len = 3 ∧ (kd = 1 ∨ kd = 3) ∧ (st.take n).length = n ∧ z_sum (st.drop n) ≤ 8 then some (M, (st.take n).reverse, st.drop n) else none
    | _ => none)
  | .invokespecial idx => (match z_cal own idx with
    | some (M, kd, n) => (match st.drop n with
      | .ref b :: r => if len = 3 ∧ (kd = 2 ∨ kd = 4) ∧ (st.take n).length = n ∧ z_sum r ≤ 8 then some (M, .ref b :: (st.take n).reverse, r) else none
      | _ => none)
    | _ => none)
  | _ => none
abbrev zO : Type := Option (Option Value × zS × zH)
/-- the machine: n steps at most, d frames at most -/
def z_x (X : Option (List Int32)) : Nat → Nat → Nat → Nat → zL → List Value → zS → zH → zO
  | 0, _, _, _, _, _, _, _ => none
  | n + 1, d, M, pc, ls, st, S, h => match z_M[M]? with
    | none => none
    | some e => match e.2.2.2.2.2.lookup pc with
      | none => none
      | some (ins, len) => match z_loc ins len pc ls st with
        | some (pc', ls', st') => z_x X n d M pc' ls' st' S h
        | none => match z_mem X d e.2.2.2.2.1 (decide (e.1.name = "<init>")) ins len st S h with
          | some (st', S', h') => z_x X n d M (pc + len) ls st' S' h'
          | none => match z_ret e.2.2.2.1 ins len st with
            | some r => some (r, S, h)
            | none => match z_inv e.2.2.2.2.1 ins len st S, d with
              | some (M', args, rest), d' + 1 => (match z_M[M']? with
                | none => none
                | some e' => if (z_sl args).length ≤ e'.2.2.1 then (match z_x X n d' M' 0 (z_ent args e'.2.2.1) [] S h with
                  | some (r, S', h') => z_x X n (d' + 1) M (pc + 3) ls (r.toList ++ rest) S' h'
                  | none => none) else none)
              | _, _ => none

/-! runs whose shape grows: the constructors -/
def zN (X : Option (List Int32)) (d M pc : Nat) (ls : zL) (st : List Value) (S : zS) (h : zH) (Q : Option Value → zS → zH → Prop) : Prop := ∃ (n : Nat) (r : Option Value) (S' : zS) (h' : zH), z_x X n d M pc ls st S h = some (r, S', h') ∧ Q r S' h'
theorem z_zero_id {h : zH} {a : Nat} (e : h a = fun _ => 0) : z_zero h a = h := by
  funext c
  unfold z_zero
  split
  · next q => rw [q, e]
  · rfl
theorem zgk {S0 T : zS} {c : zC} {n : Nat} (hn : S0.length = n) : (S0 ++ c :: T)[n]? = some c := by
  rw [List.getElem?_append_right (by omega), hn, Nat.sub_self]
  rfl
theorem zsk {S0 T : zS} {c c' : zC} {n : Nat} (hn : S0.length = n) : (S0 ++ c :: T).set n c' = S0 ++ c' :: T := by
  rw [List.set_append_right _ _ (by omega), hn, Nat.sub_self]
  rfl
theorem zlk {S0 L : zS} {n m : Nat} (hn : S0.length = n) (hL : L.length = m) : (S0 ++ L).length = n + m := by rw [List.length_append, hn, hL]
theorem zgj {S0 T : zS} {c : zC} {n j : Nat} (hn : S0.length = n) (h : T[j]? = some c) : (S0 ++ T)[n + j]? = some c := by
  rw [List.getElem?_append_right (by omega), hn, Nat.add_sub_cancel_left]
  exact h
theorem zsj {S0 T : zS} {c' : zC} {n j : Nat} (hn : S0.length = n) : (S0 ++ T).set (n + j) c' = S0 ++ T.set j c' := by
  rw [List.set_append_right _ _ (by omega), hn, Nat.add_sub_cancel_left]
section ZNR
variable {X : Option (List Int32)} {d M pc len pc' idx : Nat} {ls ls' : zL} {st st' : List Value} {S S' : zS} {h h' : zH} {Q : Option Value → zS → zH → Prop} {e : zM} {ins : Instr}
theorem nl (he : z_M[M]? = some e) (hf : e.2.2.2.2.2.lookup pc = some (ins, len)) (hl : z_loc ins len pc ls st = some (pc', ls', st')) (k : zN X d M pc' ls' st' S h Q) : zN X d M pc ls st S h Q := by
  obtain ⟨n, r, S1, h1, hx, hq⟩ := k
  refine ⟨n + 1, r, S1, h1, ?_, hq⟩
  rw [z_x]
  simp only [he, hf, hl]
  exact hx
theorem nm (he : z_M[M]? = some e) (hf : e.2.2.2.2.2.lookup pc = some (ins, len)) (hl : z_loc ins len pc ls st = none) (hm : z_mem X d e.2.2.2.2.1 (decide (e.1.name = "<init>")) ins len st S h = some (st', S', h')) (k : zN X d M (pc + len) ls st' S' h' Q) : zN X d M pc ls st S h Q := by
  obtain ⟨n, r, S1, h1, hx, hq⟩ := k
  refine ⟨n + 1, r, S1, h1, ?_, hq⟩
  rw [z_x]
  simp only [he, hf, hl, hm]
  exact hx
theorem nret {rv : Option Value} (he : z_M[M]? = some e) (hf : e.2.2.2.2.2.lookup pc = some (ins, len)) (hl : z_loc ins len pc ls st = none) (hm : z_mem X d e.2.2.2.2.1 (decide (e.1.name = "<init>")) ins len st S h = none) (hr : z_ret e.2.2.2.1 ins len st = some rv) (k : Q rv S h) : zN X d M pc ls st S h Q := by
  refine ⟨1, rv, S, h, ?_, k⟩
  rw [z_x]
  simp only [he, hf, hl, hm, hr]
theorem nrv (he : z_M[M]? = some e) (hf : e.2.2.2.2.2.lookup pc = some (.return_, 1)) (hr : e.2.2.2.1 = none) (k : Q none S h) : zN X d M pc ls [] S h Q := by
  refine nret (rv := none) he hf rfl rfl ?_ k
  rw [hr]
  rfl
theorem ncall {M' d' : Nat} {vs rest : List Value} {e' : zM} (he : z_M[M]? = some e) (hf : e.2.2.2.2.2.lookup pc = some (ins, len)) (hl : z_loc ins len pc ls st = none) (hm : z_mem X (d' + 1) e.2.2.2.2.1 (decide (e.1.name = "<init>")) ins len st S h = none) (hr : z_ret e.2.2.2.1 ins len st = none) (hv : z_inv e.2.2.2.2.1 ins len st S = some (M', vs, rest)) (he' : z_M[M']? = some e') (hsl : (z_sl vs).length ≤ e'.2.2.1)
    (k : zN X d' M' 0 (z_ent vs e'.2.2.1) [] S h (fun r S1 h1 => zN X (d' + 1) M (pc + 3) ls (r.toList ++ rest) S1 h1 Q)) : zN X (d' + 1) M pc ls st S h Q := by
  obtain ⟨n1, r1, S1, h1, hx1, n2, r2, S2, h2, hx2, hq⟩ := k
  refine ⟨max n1 n2 + 1, r2, S2, h2, ?_, hq⟩
  rw [z_x]
  simp only [he, hf, hl, hm, hr, hv, he', if_pos hsl, z_x_le_n X (Nat.le_max_left n1 n2) hx1]
  exact z_x_le_n X (Nat.le_max_right n1 n2) hx2
theorem nP {Q' : Option Value → zH → Prop} (k : zP X d M pc ls st S h Q') (f : ∀ r h', Q' r h' → Q r S h') : zN X d M pc ls st S h Q := by
  obtain ⟨n, r, h', hx, hq⟩ := k
  exact ⟨n, r, S, h', hx, f r h' hq⟩
theorem nkI {n : Int} {v : Int32} (he : z_M[M]? = some e) (hf : e.2.2.2.2.2.lookup pc = some (.iconst n, 1)) (hv : Int32.ofInt n = v) (k : zN X d M (pc + 1) ls (.int v :: st) S h Q) : zN X d M pc ls st S h Q := nl he hf (by rw [← hv]; rfl) k
theorem nkB {n : Int} {v : Int32} (he : z_M[M]? = some e) (hf : e.2.2.2.2.2.lookup pc = some (.bipush n, 2)) (hv : (Int8.ofInt n).toInt32 = v) (k : zN X d M (pc + 2) ls (.int v :: st) S h Q) : zN X d M pc ls st S h Q := nl he hf (by rw [← hv]; rfl) k
theorem nkS {n : Int} {v : Int32} (he : z_M[M]? = some e) (hf : e.2.2.2.2.2.lookup pc = some (.sipush n, 3)) (hv : (Int16.ofInt n).toInt32 = v) (k : zN X d M (pc + 3) ls (.int v :: st) S h Q) : zN X d M pc ls st S h Q := nl he hf (by rw [← hv]; rfl) k
theorem nO {b : Nat} {r : List Value} (he : z_M[M]? = some e) (hf : e.2.2.2.2.2.lookup pc = some (.invokespecial idx, 3)) (hO : z_isO e.2.2.2.2.1 idx = true) (hs : z_sum r ≤ 8) (k : zN X (d + 1) M (pc + 3) ls r S h Q) : zN X (d + 1) M pc ls (.ref b :: r) S h Q := by
  refine nm he hf rfl (st' := r) (S' := S) (h' := h) ?_ k
  simp only [z_mem]
  rw [if_pos ⟨trivial, hO, by omega, hs⟩]
theorem nNa {ty : FieldType} {N : Int32} {m a : Nat} {t : Jvm.ClassFile.ArrayType} (he : z_M[M]? = some e) (hf : e.2.2.2.2.2.lookup pc = some (.newarray t, 2)) (hty : newarray.typeOf t = ty) (hin : ty ∈ ([.int, .boolean, .byte, .char] : List FieldType)) (hN : ¬ N < 0) (hm : N.toNatClampNeg = m) (hm2 : m ≤ 100000) (ha : S.length = a) (hal : a < 100000) (hz : h a = fun _ => 0) (hS : S ++ [.inl (ty, m)] = S') (k : zN X d M (pc + 2) ls (.ref a :: st) S' h Q) : zN X d M pc ls (.int N :: st) S h Q := by
  refine nm he hf rfl (st' := .ref a :: st) (S' := S') (h' := h) ?_ k
  simp only [z_mem, hty]
  rw [if_pos trivial]
  unfold z_newa
  rw [hm, ha, if_pos ⟨hin, hN, hm2, hal⟩, z_zero_id hz, hS]
theorem nNc {C : String} {ci a : Nat} {fs : List (Option (Option Nat))} (he : z_M[M]? = some e) (hf : e.2.2.2.2.2.lookup pc = some (.new idx, 3)) (hc : z_cln e.2.2.2.2.1 idx = some C) (hci : (List.range 13).find? (fun ci => z_ow ci == C) = some ci) (hdf : z_df ci = fs) (ha : S.length = a) (hal : a < 100000) (hz : h a = fun _ => 0) (hS : S ++ [.inr (.inr (ci, fs))] = S') (k : zN X d M (pc + 3) ls (.ref a :: st) S' h Q) : zN X d M pc ls st S h Q := by
  refine nm he hf rfl (st' := .ref a :: st) (S' := S') (h' := h) ?_ k
  simp only [z_mem]
  rw [if_pos trivial]
  unfold z_newc
  simp only [hc, hci]
  rw [ha, if_pos hal, z_zero_id hz, hdf, hS]
theorem nNq {C : String} {N : Int32} {m a : Nat} (he : z_M[M]? = some e) (hf : e.2.2.2.2.2.lookup pc = some (.anewarray idx, 3)) (hc : z_cln e.2.2.2.2.1 idx = some C) (hC : C ∈ (["DustYards$Text", "DustYards$Sheet"] : List String)) (hN : ¬ N < 0) (hm : N.toNatClampNeg = m) (hm2 : m ≤ 100000) (ha : S.length = a) (hal : a < 100000) (hS : S ++ [.inr (.inl (.object C, List.replicate m none))] = S') (k : zN X d M (pc + 3) ls (.ref a :: st) S' h Q) : zN X d M pc ls (.int N :: st) S h Q := by
  refine nm he hf rfl (st' := .ref a :: st) (S' := S') (h' := h) ?_ k
  simp only [z_mem]
  rw [if_pos trivial]
  unfold z_newq
  simp only [hc]
  rw [hm, ha, if_pos ⟨hC, hN, hm2, hal⟩, hS]
theorem nPr {k a ci j : Nat} {fs : List (Option (Option Nat))} {o : Option Nat} (he : z_M[M]? = some e) (hf : e.2.2.2.2.2.lookup pc = some (.putfield idx, 3)) (hini : decide (e.1.name = "<init>") = true) (hk : k < 100000) (hfl : z_fl e.2.2.2.2.1 idx = some (ci, j)) (hS : S[k]? = some (.inr (.inr (ci, fs)))) (hj : fs[j]? = some (some o)) (how : e.2.2.2.2.1 = ci) (hok : z_okT (z_fty ci j) = true) (hS' : S.set k (.inr (.inr (ci, fs.set j (some (some a))))) = S') (kk : zN X d M (pc + 3) ls st S' h Q) : zN X d M pc ls (.ref a :: .ref k :: st) S h Q := by
  refine nm he hf rfl (st' := st) (S' := S') (h' := h) ?_ kk
  show (if 3 = 3 then z_putf e.2.2.2.2.1 (decide (e.1.name = "<init>")) idx (.ref a) k st S h else none) = _
  rw [if_pos rfl]
  unfold z_putf
  rw [if_pos hk, hfl]
  simp only [z_obj, hS, if_pos, hj]
  rw [if_pos ⟨hini, how, hok⟩, hS']
theorem nPi {k ci j : Nat} {x : Int32} {fs : List (Option (Option Nat))} (he : z_M[M]? = some e) (hf : e.2.2.2.2.2.lookup pc = some (.putfield idx, 3)) (hk : k < 100000) (hfl : z_fl e.2.2.2.2.1 idx = some (ci, j)) (hS : S[k]? = some (.inr (.inr (ci, fs)))) (hj : fs[j]? = some none) (ht : z_fty ci j = .int) (kk : zN X d M (pc + 3) ls st S (z_up h k j x) Q) : zN X d M pc ls (.int x :: .ref k :: st) S h Q := by
  refine nm he hf rfl (st' := st) (S' := S) (h' := z_up h k j x) ?_ kk
  show (if 3 = 3 then z_putf e.2.2.2.2.1 _ idx (.int x) k st S h else none) = _
  rw [if_pos rfl]
  unfold z_putf
  rw [if_pos hk, hfl]
  simp only [z_obj, hS, if_pos, hj, ht]
theorem nGr {k ci j a : Nat} {fs : List (Option (Option Nat))} (he : z_M[M]? = some e) (hf : e.2.2.2.2.2.lookup pc = some (.getfield idx, 3)) (hk : k < 100000) (hfl : z_fl e.2.2.2.2.1 idx = some (ci, j)) (hS : S[k]? = some (.inr (.inr (ci, fs)))) (hj : fs[j]? = some (some (some a))) (kk : zN X d M (pc + 3) ls (.ref a :: st) S h Q) : zN X d M pc ls (.ref k :: st) S h Q := by
  refine nm he hf rfl (st' := .ref a :: st) (S' := S) (h' := h) ?_ kk
  show (if 3 = 3 then z_getf e.2.2.2.2.1 idx k st S h else none) = _
  rw [if_pos rfl]
  unfold z_getf
  rw [if_pos hk, hfl]
  simp only [z_obj, hS, if_pos, hj]
  rfl
theorem nIs {k n j : Nat} {x i : Int32} (he : z_M[M]? = some e) (hf : e.2.2.2.2.2.lookup pc = some (.iastore, 1)) (hk : k < 100000) (hS : S[k]? = some (.inl (.int, n))) (hi : z_ib i n) (hj : i.toNatClampNeg = j) (kk : zN X d M (pc + 1) ls st S (z_up h k j x) Q) : zN X d M pc ls (.int x :: .int i :: .ref k :: st) S h Q := by
  refine nm he hf rfl (st' := st) (S' := S) (h' := z_up h k j x) ?_ kk
  show (if 1 = 1 then z_ast [.int] x i k st S h else none) = _
  rw [if_pos rfl]
  unfold z_ast
  rw [if_pos hk]
  simp only [z_arr, hS]
  rw [if_pos ⟨List.mem_singleton.mpr rfl, hi⟩, hj]
  simp only [if_pos]
theorem nCs {k n j : Nat} {x i w : Int32} (he : z_M[M]? = some e) (hf : e.2.2.2.2.2.lookup pc = some (.castore, 1)) (hk : k < 100000) (hS : S[k]? = some (.inl (.char, n))) (hi : z_ib i n) (hj : i.toNatClampNeg = j) (hw : vp_nar .char x = w) (kk : zN X d M (pc + 1) ls st S (z_up h k j w) Q) : zN X d M pc ls (.int x :: .int i :: .ref k :: st) S h Q := by
  refine nm he hf rfl (st' := st) (S' := S) (h' := z_up h k j w) ?_ kk
  show (if 1 = 1 then z_ast [.char] x i k st S h else none) = _
  rw [if_pos rfl]
  unfold z_ast
  rw [if_pos hk]
  simp only [z_arr, hS]
  rw [if_pos ⟨List.mem_singleton.mpr rfl, hi⟩, hj, if_neg (by decide), hw]
theorem nAs {k v ci j : Nat} {i : Int32} {ty : FieldType} {rs : List (Option Nat)} {fs : List (Option (Option Nat))} (he : z_M[M]? = some e) (hf : e.2.2.2.2.2.lookup pc = some (.aastore, 1)) (hk : k < 100000) (hv : v < 100000) (hS : S[k]? = some (.inr (.inl (ty, rs)))) (hV : S[v]? = some (.inr (.inr (ci, fs)))) (hty : ty = .object (z_ow ci)) (hty2 : ty ∈ z_rty) (hi : z_ib i rs.length) (hj : i.toNatClampNeg = j) (hS' : S.set k (.inr (.inl (ty, rs.set j (some v)))) = S') (kk : zN X d M (pc + 1) ls st S' h Q) : zN X d M pc ls (.ref v :: .int i :: .ref k :: st) S h Q := by
  refine nm he hf rfl (st' := st) (S' := S') (h' := h) ?_ kk
  show (if 1 = 1 then z_aas v i k st S h else none) = _
  rw [if_pos rfl]
  unfold z_aas
  rw [if_pos ⟨hk, hv⟩]
  simp only [z_rar, z_obj, hS, hV]
  rw [if_pos ⟨hty, hty2, hi⟩, hj, hS']
theorem ncI {M' kd b : Nat} {r0 : List Value} {e' : zM} (he : z_M[M]? = some e) (hf : e.2.2.2.2.2.lookup pc = some (.invokespecial idx, 3)) (hO : z_isO e.2.2.2.2.1 idx = false) (hc : z_cal e.2.2.2.2.1 idx = some (M', kd, 0)) (hkd : kd = 2 ∨ kd = 4) (hs : z_sum r0 ≤ 8) (he' : z_M[M']? = some e') (hsl : (z_sl [.ref b]).length ≤ e'.2.2.1) (k : zN X d M' 0 (z_ent [.ref b] e'.2.2.1) [] S h (fun r S1 h1 => zN X (d + 1) M (pc + 3) ls (r.toList ++ r0) S1 h1 Q)) : zN X (d + 1) M pc ls (.ref b :: r0) S h Q := by
  refine ncall he hf rfl ?_ rfl (M' := M') (vs := [.ref b]) (rest := r0) ?_ he' hsl k
  · simp only [z_mem]
    rw [if_neg (by rw [hO]; simp)]
  · simp only [z_inv, hc, List.drop_zero, List.take_zero]
    rw [if_pos ⟨trivial, hkd, rfl, hs⟩]
    rfl
end ZNR
theorem zz0 (a : Nat) : (fun (_ _ : Nat) => (0 : Int32)) a = fun _ => 0 := rfl

/-! rows that a program's text uses -/
abbrev z_ib (i : Int32) (n : Nat) : Prop := ¬ (i < 0 ∨ n ≤ i.toNatClampNeg)
def zI (A : Int32 → zH → Prop) : Option Value → zH → Prop := fun r h => ∃ v, r = some (.int v) ∧ A v h
def zJ (A : Int64 → zH → Prop) : Option Value → zH → Prop := fun r h => ∃ v, r = some (.long v) ∧ A v h
def zV (A : zH → Prop) : Option Value → zH → Prop := fun r h => r = none ∧ A h
section ZR2
variable {X : Option (List Int32)} {d M pc idx : Nat} {ls : zL} {st : List Value} {S : zS} {h : zH} {Q : Option Value → zH → Prop} {e : zM}
theorem zkI {n : Int} {v : Int32} (he : z_M[M]? = some e) (hf : e.2.2.2.2.2.lookup pc = some (.iconst n, 1)) (hv : Int32.ofInt n = v) (k : zP X d M (pc + 1) ls (.int v :: st) S h Q) : zP X d M pc ls st S h Q := by
  subst hv; exact zl he hf rfl k
theorem zkB {n : Int} {v : Int32} (he : z_M[M]? = some e) (hf : e.2.2.2.2.2.lookup pc = some (.bipush n, 2)) (hv : (Int8.ofInt n).toInt32 = v) (k : zP X d M (pc + 2) ls (.int v :: st) S h Q) : zP X d M pc ls st S h Q := by
  subst hv; exact zl he hf rfl k
theorem zkS {n : Int} {v : Int32} (he : z_M[M]? = some e) (hf : e.2.2.2.2.2.lookup pc = some (.sipush n, 3)) (hv : (Int16.ofInt n).toInt32 = v) (k : zP X d M (pc + 3) ls (.int v :: st) S h Q) : zP X d M pc ls st S h Q := by
  subst hv; exact zl he hf rfl k
theorem zkC {v : Int32} (he : z_M[M]? = some e) (hf : e.2.2.2.2.2.lookup pc = some (.ldc idx, 2)) (hc : z_con e.2.2.2.2.1 idx = some (.int v)) (k : zP X d M (pc + 2) ls (.int v :: st) S h Q) : zP X d M pc ls st S h Q := by
  refine zm he hf rfl (st' := .int v :: st) (h' := h) ?_ k
  simp only [z_mem, hc, if_pos]
theorem zkW {v : Int32} (he : z_M[M]? = some e) (hf : e.2.2.2.2.2.lookup pc = some (.ldc_w idx, 3)) (hc : z_con e.2.2.2.2.1 idx = some (.int v)) (k : zP X d M (pc + 3) ls (.int v :: st) S h Q) : zP X d M pc ls st S h Q := by
  refine zm he hf rfl (st' := .int v :: st) (h' := h) ?_ k
  simp only [z_mem, hc, if_pos]
theorem zkJ {v : Int64} (he : z_M[M]? = some e) (hf : e.2.2.2.2.2.lookup pc = some (.ldc2_w idx, 3)) (hc : z_con e.2.2.2.2.1 idx = some (.long v)) (k : zP X d M (pc + 3) ls (.long v :: st) S h Q) : zP X d M pc ls st S h Q := by
  refine zm he hf rfl (st' := .long v :: st) (h' := h) ?_ k
  simp only [z_mem, hc, if_pos]
theorem zkL {n : Fin 2} {v : Int64} (he : z_M[M]? = some e) (hf : e.2.2.2.2.2.lookup pc = some (.lconst n, 1)) (hv : Int64.ofNat (n : Nat) = v) (k : zP X d M (pc + 1) ls (.long v :: st) S h Q) : zP X d M pc ls st S h Q := by
  subst hv; exact zl he hf rfl k
theorem zks {i : Nat} (he : z_M[M]? = some e) (hf : e.2.2.2.2.2.lookup pc = some (.ldc idx, 2)) (hc : z_con e.2.2.2.2.1 idx = none) (hs : z_sno e.2.2.2.2.1 idx = some i) (k : zP X d M (pc + 2) ls (.ref (100100 + i) :: st) S h Q) : zP X d M pc ls st S h Q := by
  refine zm he hf rfl (st' := .ref (100100 + i) :: st) (h' := h) ?_ k
  simp only [z_mem, hc, hs, if_pos]
theorem zgs {v : Value} (he : z_M[M]? = some e) (hf : e.2.2.2.2.2.lookup pc = some (.getstatic idx, 3)) (hc : z_sta e.2.2.2.2.1 idx = some v) (k : zP X d M (pc + 3) ls (v :: st) S h Q) : zP X d M pc ls st S h Q := by
  refine zm he hf rfl (st' := v :: st) (h' := h) ?_ k
  simp only [z_mem, hc, if_pos]
/-! fields with a value that is named -/
theorem zgI {k ci j : Nat} {v : Int32} {fs : List (Option (Option Nat))} (he : z_M[M]? = some e) (hf : e.2.2.2.2.2.lookup pc = some (.getfield idx, 3)) (hk : k < 100000) (hfl : z_fl e.2.2.2.2.1 idx = some (ci, j)) (hS : S[k]? = some (.inr (.inr (ci, fs)))) (hj : fs[j]? = some none) (hv : h k j = v) (kk : zP X d M (pc + 3) ls (.int v :: st) S h Q) : zP X d M pc ls (.ref k :: st) S h Q := by
  subst hv; exact zgi he hf hk hfl hS hj kk
theorem zgR {k ci j a : Nat} {fs : List (Option (Option Nat))} (he : z_M[M]? = some e) (hf : e.2.2.2.2.2.lookup pc = some (.getfield idx, 3)) (hk : k < 100000) (hfl : z_fl e.2.2.2.2.1 idx = some (ci, j)) (hS : S[k]? = some (.inr (.inr (ci, fs)))) (hj : fs[j]? = some (some (some a))) (kk : zP X d M (pc + 3) ls (.ref a :: st) S h Q) : zP X d M pc ls (.ref k :: st) S h Q := zgr he hf hk hfl hS hj kk
theorem ziA {k n : Nat} {i v : Int32} (he : z_M[M]? = some e) (hf : e.2.2.2.2.2.lookup pc = some (.iaload, 1)) (hk : k < 100000) (hS : S[k]? = some (.inl (.int, n))) (hi : z_ib i n) (hv : h k i.toNatClampNeg = v) (kk : zP X d M (pc + 1) ls (.int v :: st) S h Q) : zP X d M pc ls (.int i :: .ref k :: st) S h Q := by
  subst hv; exact zia he hf hk hS hi kk
theorem zbA {k n : Nat} {ty : FieldType} {i v : Int32} (he : z_M[M]? = some e) (hf : e.2.2.2.2.2.lookup pc = some (.baload, 1)) (hk : k < 100000) (hS : S[k]? = some (.inl (ty, n))) (ht : ty ∈ ([.byte, .boolean] : List FieldType)) (hi : z_ib i n) (hv : h k i.toNatClampNeg = v) (kk : zP X d M (pc + 1) ls (.int v :: st) S h Q) : zP X d M pc ls (.int i :: .ref k :: st) S h Q := by
  subst hv; exact zba he hf hk hS ht hi kk
theorem zcA {k n : Nat} {i v : Int32} (he : z_M[M]? = some e) (hf : e.2.2.2.2.2.lookup pc = some (.caload, 1)) (hk : k < 100000) (hS : S[k]? = some (.inl (.char, n))) (hi : z_ib i n) (hv : h k i.toNatClampNeg = v) (kk : zP X d M (pc + 1) ls (.int v :: st) S h Q) : zP X d M pc ls (.int i :: .ref k :: st) S h Q := by
  subst hv; exact zca he hf hk hS hi kk
theorem ziS {k n j : Nat} {x i : Int32} (he : z_M[M]? = some e) (hf : e.2.2.2.2.2.lookup pc = some (.iastore, 1)) (hk : k < 100000) (hS : S[k]? = some (.inl (.int, n))) (hi : z_ib i n) (hj : i.toNatClampNeg = j) (kk : zP X d M (pc + 1) ls st S (z_up h k j x) Q) : zP X d M pc ls (.int x :: .int i :: .ref k :: st) S h Q := by
  subst hj; exact zis he hf hk hS hi kk
theorem zbS {k n j : Nat} {ty : FieldType} {x i w : Int32} (he : z_M[M]? = some e) (hf : e.2.2.2.2.2.lookup pc = some (.bastore, 1)) (hk : k < 100000) (hS : S[k]? = some (.inl (ty, n))) (ht : ty ∈ ([.byte, .boolean] : List FieldType)) (hi : z_ib i n) (hj : i.toNatClampNeg = j) (hw : vp_nar ty x = w) (kk : zP X d M (pc + 1) ls st S (z_up h k j w) Q) : zP X d M pc ls (.int x :: .int i :: .ref k :: st) S h Q := by
  subst hj; subst hw; exact zbs he hf hk hS ht hi kk
/-! branches -/
theorem zb1_eq {off : Int} {tgt : Nat} {x : Int32} (he : z_M[M]? = some e) (hf : e.2.2.2.2.2.lookup pc = some (.ifCond .eq off, 3)) (ht : z_br pc off = some tgt) (kt : x = 0 → zP X d M tgt ls st S h Q) (kf : ¬ x = 0 → zP X d M (pc + 3) ls st S h Q) : zP X d M pc ls (.int x :: st) S h Q := zif1 he hf ht (fun q => kt (by simpa [z_cond] using q)) (fun q => kf (by simpa [z_cond] using q))
theorem zb1_ne {off : Int} {tgt : Nat} {x : Int32} (he : z_M[M]? = some e) (hf : e.2.2.2.2.2.lookup pc = some (.ifCond .ne off, 3)) (ht : z_br pc off = some tgt) (kt : ¬ x = 0 → zP X d M tgt ls st S h Q) (kf : x = 0 → zP X d M (pc + 3) ls st S h Q) : zP X d M pc ls (.int x :: st) S h Q := zif1 he hf ht (fun q => kt (by simpa [z_cond] using q)) (fun q => kf (by simpa [z_cond] using q))
theorem z_nle {x y : Int32} : (¬ y ≤ x) ↔ x < y := Int32.not_le
theorem zb1_lt {off : Int} {tgt : Nat} {x : Int32} (he : z_M[M]? = some e) (hf : e.2.2.2.2.2.lookup pc = some (.ifCond .lt off, 3)) (ht : z_br pc off = some tgt) (kt : x < 0 → zP X d M tgt ls st S h Q) (kf : ¬ x < 0 → zP X d M (pc + 3) ls st S h Q) : zP X d M pc ls (.int x :: st) S h Q := zif1 he hf ht (fun q => kt (of_decide_eq_true q)) (fun q => kf (of_decide_eq_false q))
theorem zb1_ge {off : Int} {tgt : Nat} {x : Int32} (he : z_M[M]? = some e) (hf : e.2.2.2.2.2.lookup pc = some (.ifCond .ge off, 3)) (ht : z_br pc off = some tgt) (kt : ¬ x < 0 → zP X d M tgt ls st S h Q) (kf : x < 0 → zP X d M (pc + 3) ls st S h Q) : zP X d M pc ls (.int x :: st) S h Q := zif1 he hf ht (fun q => kt (Int32.not_lt.mpr (of_decide_eq_true q))) (fun q => kf (z_nle.mp (of_decide_eq_false q)))
theorem zb1_gt {off : Int} {tgt : Nat} {x : Int32} (he : z_M[M]? = some e) (hf : e.2.2.2.2.2.lookup pc = some (.ifCond .gt off, 3)) (ht : z_br pc off = some tgt) (kt : 0 < x → zP X d M tgt ls st S h Q) (kf : ¬ 0 < x → zP X d M (pc + 3) ls st S h Q) : zP X d M pc ls (.int x :: st) S h Q := zif1 he hf ht (fun q => kt (of_decide_eq_true q)) (fun q => kf (of_decide_eq_false q))
theorem zb1_le {off : Int} {tgt : Nat} {x : Int32} (he : z_M[M]? = some e) (hf : e.2.2.2.2.2.lookup pc = some (.ifCond .le off, 3)) (ht : z_br pc off = some tgt) (kt : ¬ 0 < x → zP X d M tgt ls st S h Q) (kf : 0 < x → zP X d M (pc + 3) ls st S h Q) : zP X d M pc ls (.int x :: st) S h Q := zif1 he hf ht (fun q => kt (Int32.not_lt.mpr (of_decide_eq_true q))) (fun q => kf (z_nle.mp (of_decide_eq_false q)))
theorem zb2_eq {off : Int} {tgt : Nat} {x y : Int32} (he : z_M[M]? = some e) (hf : e.2.2.2.2.2.lookup pc = some (.if_icmp .eq off, 3)) (ht : z_br pc off = some tgt) (kt : x = y → zP X d M tgt ls st S h Q) (kf : ¬ x = y → zP X d M (pc + 3) ls st S h Q) : zP X d M pc ls (.int y :: .int x :: st) S h Q := zif2 he hf ht (fun q => kt (by simpa [z_cond] using q)) (fun q => kf (by simpa [z_cond] using q))
theorem zb2_ne {off : Int} {tgt : Nat} {x y : Int32} (he : z_M[M]? = some e) (hf : e.2.2.2.2.2.lookup pc = some (.if_icmp .ne off, 3)) (ht : z_br pc off = some tgt) (kt : ¬ x = y → zP X d M tgt ls st S h Q) (kf : x = y → zP X d M (pc + 3) ls st S h Q) : zP X d M pc ls (.int y :: .int x :: st) S h Q := zif2 he hf ht (fun q => kt (by simpa [z_cond] using q)) (fun q => kf (by simpa [z_cond] using q))
theorem zb2_lt {off : Int} {tgt : Nat} {x y : Int32} (he : z_M[M]? = some e) (hf : e.2.2.2.2.2.lookup pc = some (.if_icmp .lt off, 3)) (ht : z_br pc off = some tgt) (kt : x < y → zP X d M tgt ls st S h Q) (kf : ¬ x < y → zP X d M (pc + 3) ls st S h Q) : zP X d M pc ls (.int y :: .int x :: st) S h Q := zif2 he hf ht (fun q => kt (of_decide_eq_true q)) (fun q => kf (of_decide_eq_false q))
theorem zb2_ge {off : Int} {tgt : Nat} {x y : Int32} (he : z_M[M]? = some e) (hf : e.2.2.2.2.2.lookup pc = some (.if_icmp .ge off, 3)) (ht : z_br pc off = some tgt) (kt : ¬ x < y → zP X d M tgt ls st S h Q) (kf : x < y → zP X d M (pc + 3) ls st S h Q) : zP X d M pc ls (.int y :: .int x :: st) S h Q := zif2 he hf ht (fun q => kt (Int32.not_lt.mpr (of_decide_eq_true q))) (fun q => kf (z_nle.mp (of_decide_eq_false q)))
theorem zb2_gt {off : Int} {tgt : Nat} {x y : Int32} (he : z_M[M]? = some e) (hf : e.2.2.2.2.2.lookup pc = some (.if_icmp .gt off, 3)) (ht : z_br pc off = some tgt) (kt : y < x → zP X d M tgt ls st S h Q) (kf : ¬ y < x → zP X d M (pc + 3) ls st S h Q) : zP X d M pc ls (.int y :: .int x :: st) S h Q := zif2 he hf ht (fun q => kt (of_decide_eq_true q)) (fun q => kf (of_decide_eq_false q))
theorem zb2_le {off : Int} {tgt : Nat} {x y : Int32} (he : z_M[M]? = some e) (hf : e.2.2.2.2.2.lookup pc = some (.if_icmp .le off, 3)) (ht : z_br pc off = some tgt) (kt : ¬ y < x → zP X d M tgt ls st S h Q) (kf : y < x → zP X d M (pc + 3) ls st S h Q) : zP X d M pc ls (.int y :: .int x :: st) S h Q := zif2 he hf ht (fun q => kt (Int32.not_lt.mpr (of_decide_eq_true q))) (fun q => kf (z_nle.mp (of_decide_eq_false q)))
theorem zts {dflt lo hi off : Int} {offs : Array Int} {len tgt : Nat} {x : Int32} (v : Int32) (hx : x = v) (he : z_M[M]? = some e) (hf : e.2.2.2.2.2.lookup pc = some (.tableswitch dflt lo hi offs, len)) (h1 : ¬ (v.toInt < lo ∨ hi < v.toInt)) (ho : offs[(v.toInt - lo).toNat]? = some off) (ht : z_br pc off = some tgt) (k : zP X d M tgt ls st S h Q) : zP X d M pc ls (.int x :: st) S h Q := by
  subst hx
  refine zl he hf (pc' := tgt) (ls' := ls) (st' := st) ?_ k
  simp only [z_loc, z_tsw, if_neg h1, ho, ht]
theorem ztd {dflt lo hi : Int} {offs : Array Int} {len tgt : Nat} {x : Int32} (h1 : x.toInt < lo ∨ hi < x.toInt) (he : z_M[M]? = some e) (hf : e.2.2.2.2.2.lookup pc = some (.tableswitch dflt lo hi offs, len)) (ht : z_br pc dflt = some tgt) (k : zP X d M tgt ls st S h Q) : zP X d M pc ls (.int x :: st) S h Q := by
  refine zl he hf (pc' := tgt) (ls' := ls) (st' := st) ?_ k
  simp only [z_loc, z_tsw, if_pos h1, ht]
theorem z_neI {x v : Int32} (h : ¬ x = v) : x.toInt ≠ v.toInt := fun q => h (Int32.toInt_inj.mp q)
/-! ends -/
theorem zri {v : Int32} {ty : FieldType} {A : Int32 → zH → Prop} (he : z_M[M]? = some e) (hf : e.2.2.2.2.2.lookup pc = some (.ireturn, 1)) (hr : e.2.2.2.1 = some ty) (hn : narrow ty (.int v) = .int v) (k : A v h) : zP X d M pc ls [.int v] S h (zI A) := by
  refine zret he hf rfl rfl (rv := some (.int v)) ?_ ⟨v, rfl, k⟩
  unfold z_ret
  rw [hr]
  simp only [hn, and_self, if_pos]
theorem zrj {v : Int64} {A : Int64 → zH → Prop} (he : z_M[M]? = some e) (hf : e.2.2.2.2.2.lookup pc = some (.lreturn, 1)) (hr : e.2.2.2.1 = some .long) (k : A v h) : zP X d M pc ls [.long v] S h (zJ A) := by
  refine zret he hf rfl rfl (rv := some (.long v)) ?_ ⟨v, rfl, k⟩
  unfold z_ret
  rw [hr]
  simp only [if_pos]
theorem zrv {A : zH → Prop} (he : z_M[M]? = some e) (hf : e.2.2.2.2.2.lookup pc = some (.return_, 1)) (hr : e.2.2.2.1 = none) (k : A h) : zP X d M pc ls [] S h (zV A) := by
  refine zret he hf rfl rfl (rv := none) ?_ ⟨rfl, k⟩
  unfold z_ret
  rw [hr]
  simp only [if_pos]
theorem z_nb {v : Int32} (h : v = 0 ∨ v = 1) : narrow .boolean (.int v) = .int v := by
  rcases h with rfl | rfl <;> rfl
/-! calls -/
theorem zcS {M' kd n : Nat} {e' : zM} (he : z_M[M]? = some e) (hf : e.2.2.2.2.2.lookup pc = some (.invokestatic idx, 3)) (hY : z_isY e.2.2.2.2.1 idx = false) (hc : z_cal e.2.2.2.2.1 idx = some (M', kd, n)) (hk : kd = 1 ∨ kd = 3) (hn : (st.take n).length = n) (hs : z_sum (st.drop n) ≤ 8) (he' : z_M[M']? = some e') (hsl : (z_sl (st.take n).reverse).length ≤ e'.2.2.1)
    (k : zP X d M' 0 (z_ent (st.take n).reverse e'.2.2.1) [] S h (fun r h1 => zP X (d + 1) M (pc + 3) ls (r.toList ++ st.drop n) S h1 Q)) : zP X (d + 1) M pc ls st S h Q := by
  refine zcall he hf rfl ?_ rfl (M' := M') (vs := (st.take n).reverse) (rest := st.drop n) ?_ he' hsl k
  · simp only [z_mem]
    split
    · rw [if_neg (by rw [hY]; simp)]
    · rfl
  · simp only [z_inv, hc]
    rw [if_pos ⟨trivial, hk, hn, hs⟩]
theorem zcV {M' n b : Nat} {r0 : List Value} {e' : zM} (he : z_M[M]? = some e) (hf : e.2.2.2.2.2.lookup pc = some (.invokevirtual idx, 3)) (hc : z_cal e.2.2.2.2.1 idx = some (M', 0, n)) (hd : st.drop n = .ref b :: r0) (hn : (st.take n).length = n) (hs : z_sum r0 ≤ 8) (hr : z_rcv S b (z_ownOf M') = true) (he' : z_M[M']? = some e') (hsl : (z_sl (.ref b :: (st.take n).reverse)).length ≤ e'.2.2.1)
    (k : zP X d M' 0 (z_ent (.ref b :: (st.take n).reverse) e'.2.2.1) [] S h (fun r h1 => zP X (d + 1) M (pc + 3) ls (r.toList ++ r0) S h1 Q)) : zP X (d + 1) M pc ls st S h Q := by
  refine zcall he hf rfl rfl rfl (M' := M') (vs := .ref b :: (st.take n).reverse) (rest := r0) ?_ he' hsl k
  simp only [z_inv, hc, hd]
  rw [if_pos ⟨trivial, hn, hs, hr⟩]
end ZR2
theorem zidiv {X : Option (List Int32)} {d M pc : Nat} {ls : zL} {st : List Value} {S : zS} {h : zH} {Q : Option Value → zH → Prop} {e : zM} {x y : Int32} (he : z_M[M]? = some e) (hf : e.2.2.2.2.2.lookup pc = some (.idiv, 1)) (hy : ¬ y = 0) (k : zP X d M (pc + 1) ls (.int (x / y) :: st) S h Q) : zP X d M pc ls (.int y :: .int x :: st) S h Q := by
  refine zl he hf (pc' := pc + 1) (ls' := ls) (st' := .int (x / y) :: st) ?_ k
  simp only [z_loc, z_dv]
  rw [if_pos ⟨trivial, hy⟩]
theorem zirem {X : Option (List Int32)} {d M pc : Nat} {ls : zL} {st : List Value} {S : zS} {h : zH} {Q : Option Value → zH → Prop} {e : zM} {x y : Int32} (he : z_M[M]? = some e) (hf : e.2.2.2.2.2.lookup pc = some (.irem, 1)) (hy : ¬ y = 0) (k : zP X d M (pc + 1) ls (.int (x - x / y * y) :: st) S h Q) : zP X d M pc ls (.int y :: .int x :: st) S h Q := by
  refine zl he hf (pc' := pc + 1) (ls' := ls) (st' := .int (x - x / y * y) :: st) ?_ k
  simp only [z_loc, z_dv]
  rw [if_pos ⟨trivial, hy⟩]
theorem z_rcvStr {i M : Nat} (hi : i < 13) (hM : z_ownOf M = 15 := by rfl) : z_rcv z_S0 (100100 + i) (z_ownOf M) = true := by
  unfold z_rcv
  rw [if_neg (by omega), hM]
  simp only [Bool.and_eq_true, decide_eq_true_eq]
  exact ⟨⟨by omega, by omega⟩, trivial⟩
theorem zcp {X : Option (List Int32)} {d M pc idx a b n0 n1 : Nat} {ls : zL} {st : List Value} {S : zS} {h : zH} {Q : Option Value → zH → Prop} {e : zM} {n dp sp : Int32} (he : z_M[M]? = some e) (hf : e.2.2.2.2.2.lookup pc = some (.invokestatic idx, 3)) (hY : z_isY e.2.2.2.2.1 idx = true) (hs : z_sum st ≤ 8) (ha : a < 100000) (hb : b < 100000) (hSa : S[a]? = some (.inl (.int, n0))) (hSb : S[b]? = some (.inl (.int, n1))) (hg : ¬ sp < 0 ∧ ¬ dp < 0 ∧ ¬ n < 0 ∧ sp.toNatClampNeg + n.toNatClampNeg ≤ n0 ∧ dp.toNatClampNeg + n.toNatClampNeg ≤ n1)
    (k : zP X (d + 1) M (pc + 3) ls st S (z_cpy h a b sp.toNatClampNeg dp.toNatClampNeg n.toNatClampNeg) Q) : zP X (d + 1) M pc ls (.int n :: .int dp :: .ref b :: .int sp :: .ref a :: st) S h Q := by
  refine zm he hf rfl (st' := st) (h' := z_cpy h a b sp.toNatClampNeg dp.toNatClampNeg n.toNatClampNeg) ?_ k
  simp only [z_mem]
  rw [if_pos ⟨trivial, hY, Nat.le_add_left 1 d, hs⟩]
  unfold z_copy
  rw [if_pos ⟨ha, hb⟩]
  simp only [z_arr, hSa, hSb]
  rw [if_pos ⟨trivial, trivial, hg⟩]

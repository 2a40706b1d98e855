/-! the machine is sound: what it answers the real one answers -/
def z_Gd (D : va_G) (cA : FieldType → ClassId) (B : Nat) (ro : Nat → Nat) (X : Option (List Int32)) (S : zS) (h : zH) (U : State) : Prop :=
  U.heap.size = B + S.length ∧ va_P D z_cls (z_w cA (z_ad B ro) B S h) U.heap ∧ va_K D z_cls (z_tys cA) U ∧ z_RO X B ro U U.heap
def z_Qc (D : va_G) (cA : FieldType → ClassId) (B : Nat) (ro : Nat → Nat) (r : Option Value) (S : zS) (h : zH) : Array Value → State → Outcome → State → Prop := fun _ st oc t =>
  oc = .returned (r.map (z_rv (z_ad B ro))) ∧ va_P D z_cls (z_w cA (z_ad B ro) B S h) t.heap ∧ va_F (fun q => B ≤ q) st t
abbrev z_ws (em : zM) : List Cond := Cond.code em.1 em.2.1 em.2.2.1 em.2.2.2.1 :: z_tbl
def z_rm (d : Nat) (S S' : zS) : Room := { frames := d, cells := S'.length - S.length, slots := z_tot S' - z_tot S, locals := 40 * d }
theorem z_good {w : Cond} (h : w ∈ z_tbl) : (w.onTables && w.keeps) = true ∨ ∃ ty, w = .arrayClass ty := good_of_word (List.mem_filter.mp h).2
theorem z_goodIn {em : zM} (hO : z_okM em) : GoodIn z_tbl (z_ws em) := by
  intro w hw
  rcases List.mem_cons.mp hw with rfl | hw
  · exact ⟨hO.1, z_good hO.1⟩
  · exact ⟨hw, z_good hw⟩
def z_Snd (X : Option (List Int32)) (n : Nat) : Prop := ∀ (d M pc : Nat) (ls : zL) (st : List Value) (S : zS) (h : zH) (r : Option Value) (S' : zS) (h' : zH), z_x X n d M pc ls st S h = some (r, S', h') →
  ∀ em : zM, z_M[M]? = some em → ∀ (D : va_G) (cA : FieldType → ClassId) (B : Nat) (ro : Nat → Nat) (p : Program) (l : Launch) (e : Env) (R : Room) (s : State) (m : MethodId) (args : Array Value) (below : List Frame) (meth : Method) (c : Code) (H : Heap) (locs : List Loc) (cells slots : Nat) (Q : State → Prop) (real : Array Slot),
  z_Cx D cA B ro X p s m args meth c em → z_In D cA B ro s S h H locs → s.heap.size + cells = B + S.length → z_LV (z_ad B ro) ls real em.2.2.1 → d ≤ R.frames → 40 * d ≤ R.locals → (cells + (S'.length - S.length) ≤ R.cells ∧ slots + (z_tot S' - z_tot S) ≤ R.slots) →
  (∀ (H' : Heap) (locs' : List Loc) (cells' slots' pc' : Nat) (real' : Array Slot) (ins : Instr) (st' : List Value), cells' = cells + (S'.length - S.length) → slots' = slots + (z_tot S' - z_tot S) → z_In D cA B ro s S' h' H' locs' → decode em.2.1 pc' = .ok (ins, 1) → z_ret em.2.2.2.1 ins 1 st' = some r → W p l e R s m args below meth c H' locs' cells' slots' Q (F0 m pc' real' (st'.map (z_rv (z_ad B ro))))) →
  W p l e R s m args below meth c H locs cells slots Q (F0 m pc real (st.map (z_rv (z_ad B ro))))
theorem z_ret_len {ret : Option FieldType} {ins : Instr} {len : Nat} {st : List Value} {r : Option Value} (h : z_ret ret ins len st = some r) : len = 1 := by
  unfold z_ret at h
  repeat' split at h
  all_goals (first | (cases h; done) | (next hc => exact hc.1) | (next hc => exact hc))
theorem z_sl_len (f : Nat → Nat) : ∀ vs : List Value, (lg_sl (vs.map (z_rv f))).length = (z_sl vs).length
  | [] => rfl
  | v :: vs => by
    have ih := z_sl_len f vs
    simp only [lg_sl, z_sl, List.map_cons, List.flatMap_cons, List.length_append] at ih ⊢
    rw [ih, z_rv_cat]
    split <;> rfl
theorem z_sl_args (f : Nat → Nat) : ∀ (vs : List Value) (k i : Nat) (v : Value), (z_sl vs)[i]? = some (some v) → (k + i, z_rv f v) ∈ lv_args k (vs.map (z_rv f))
  | [], k, i, v, h => by simp [z_sl] at h
  | w :: vs, k, i, v, h => by
    have e0 : z_sl (w :: vs) = (if w.category = 2 then [some w, none] else [some w]) ++ z_sl vs := rfl
    rw [e0] at h
    show (k + i, z_rv f v) ∈ (k, z_rv f w) :: lv_args (if (z_rv f w).category = 2 then k + 2 else k + 1) (vs.map (z_rv f))
    rw [z_rv_cat]
    by_cases hc : w.category = 2
    · rw [if_pos hc] at h ⊢
      match i, h with
      | 0, h =>
        simp at h
        subst h
        exact List.mem_cons_self
      | 1, h => simp at h
      | i + 2, h =>
        have h2 : (z_sl vs)[i]? = some (some v) := by simpa using h
        have h3 := z_sl_args f vs (k + 2) i v h2
        rw [show k + (i + 2) = k + 2 + i by omega]
        exact List.mem_cons_of_mem _ h3
    · rw [if_neg hc] at h ⊢
      match i, h with
      | 0, h =>
        simp at h
        subst h
        exact List.mem_cons_self
      | i + 1, h =>
        have h2 : (z_sl vs)[i]? = some (some v) := by simpa using h
        have h3 := z_sl_args f vs (k + 1) i v h2
        rw [show k + (i + 1) = k + 1 + i by omega]
        exact List.mem_cons_of_mem _ h3
theorem z_ent_ok (f : Nat → Nat) (vs : List Value) {n : Nat} (hn : (z_sl vs).length ≤ n) : z_LV f (z_ent vs n) ((lg_sl (vs.map (z_rv f)) ++ List.replicate (n - (lg_sl (vs.map (z_rv f))).length) Slot.unset).toArray) n := by
  refine ⟨by unfold z_ent; simp; omega, z_lv_mono (lv_entry (vs.map (z_rv f)) (by rw [z_sl_len]; exact hn)) ?_⟩
  intro q hq
  obtain ⟨⟨i, v⟩, hi, rfl⟩ := List.mem_map.mp hq
  obtain ⟨-, hi⟩ := (z_prs_mem _ 0 i v).mp hi
  rw [Nat.sub_zero] at hi
  unfold z_ent at hi
  have h2 : (z_sl vs)[i]? = some (some v) := by
    by_cases hl : i < (z_sl vs).length
    · rw [List.getElem?_append_left hl] at hi
      exact hi
    · rw [List.getElem?_append_right (by omega), List.getElem?_replicate] at hi
      split at hi <;> cases hi
  have h3 := z_sl_args f vs 0 i v h2
  rw [Nat.zero_add] at h3
  exact h3
theorem z_met {X : Option (List Int32)} {n d M : Nat} {vs : List Value} {S S' : zS} {h h' : zH} {r : Option Value} {em : zM} (hS : z_Snd X n) (hM : M ≠ 0) (he : z_M[M]? = some em) (hl : (z_sl vs).length ≤ em.2.2.1) (hx : z_x X n d M 0 (z_ent vs em.2.2.1) [] S h = some (r, S', h')) (D : va_G) (cA : FieldType → ClassId) (B : Nat) (ro : Nat → Nat) (l : Launch) :
    Met l em.1 (z_ws em) (z_rm d S S') (va_Pc (vs.map (z_rv (z_ad B ro))) (z_Gd D cA B ro X S h)) (z_Qc D cA B ro r S' h') (S'.length - S.length) (z_tot S' - z_tot S) (fun q => B ≤ q) := by
  have hO := z_M_ok hM he
  refine va_MetF (cc := em.2.1) (maxL := em.2.2.1) (ret := em.2.2.2.1) hO.2.2.2.2.2.2 rfl ?_
  intro p e s m args below meth c s₁ Bd hml hv
  obtain ⟨rfl, hsz, hP, hK, hRO⟩ := hv
  have hexec := Bd.exec
  have hb := Bd.bytes
  have hr := Bd.returns
  have hts0 := atoms_spec (ws := z_ws em) Bd.pre
  have hts : ∀ w ∈ z_tbl, w.before (vs.map (z_rv (z_ad B ro))).toArray s = true := fun w hw => hts0 w (List.mem_cons_of_mem _ hw)
  have hown : s.vm.findClass (z_ow em.2.2.2.2.1) = some m.cls := by
    rw [← hO.2.2.2.1]
    exact findClass_of_methodNamed Bd.named
  have hlocks := Bd.notSynchronized
  have hnm : em.1.name = "<init>" → meth.name = "<init>" := fun h => ((name_of_methodNamed Bd.named Bd.method).1).trans h
  rw [lg_entry_eq]
  have hI : z_In D cA B ro s S h s.heap [] := ⟨hP, va_S.rf⟩
  refine hS d M 0 _ [] S h r S' h' hx em he D cA B ro p l e _ s m _ below meth c s.heap [] 0 0 _ _ ⟨hexec, hb, hml, hown, hts, hnm, hK, hRO, by omega⟩ hI (by omega) (z_ent_ok _ vs hl) (Nat.le_refl _) (Nat.le_refl _) ⟨by show 0 + _ ≤ S'.length - S.length; omega, by show 0 + _ ≤ z_tot S' - z_tot S; omega⟩ ?_
  intro H' locs' cells' slots' pc' real' ins st' hc1 hc2 hI' hd hret
  have hc3 : cells' = S'.length - S.length := by omega
  have hc4 : slots' = z_tot S' - z_tot S := by omega
  subst hc3
  subst hc4
  have hq : ∀ (o : Option Value), o = r → ∀ t : State, t.heap = H' → z_Qc D cA B ro r S' h' (vs.map (z_rv (z_ad B ro))).toArray s (.returned (o.map (z_rv (z_ad B ro)))) t := by
    intro o ho t ht
    subst ho
    exact ⟨rfl, by rw [ht]; exact hI'.1, hI'.2.F ht⟩
  unfold z_ret at hret
  split at hret
  · split at hret
    · next v ty hty =>
      split at hret
      · next hn =>
        cases hret
        exact W.zret hexec hb (hr.trans hty) hn.2 (fun t ht _ => hq _ rfl t ht) hI'.2.2.2 hd
      · cases hret
    · cases hret
  · split at hret
    · next v hty =>
      split at hret
      · cases hret
        exact W.lret hexec hb (hr.trans hty) (fun t ht _ => hq _ rfl t ht) hI'.2.2.2 hd
      · cases hret
    · cases hret
  · split at hret
    · next hty =>
      split at hret
      · cases hret
        exact W.vret hexec hb (hr.trans hty) (fun t ht _ => hq _ rfl t ht) hI'.2.2.2 hd
      · cases hret
    · cases hret
  · cases hret
section ZCALL
variable {D : va_G} {cA : FieldType → ClassId} {B : Nat} {ro : Nat → Nat} {X : Option (List Int32)}
variable {p : Program} {l : Launch} {e : Env} {R : Room} {s : State} {m : MethodId} {args : Array Value} {below : List Frame} {meth : Method} {c : Code} {H : Heap} {locs : List Loc} {cells slots : Nat} {Q : State → Prop} {em em' : zM}
variable {S S1 : zS} {h h1 : zH} {st rest vs : List Value} {r1 : Option Value} {pc : Nat} {real : Array Slot}
theorem z_callK {mc ms : Nat} {st0 : List Value} {a : Array Value} (hr : va_Run p l e R s m args below meth c H locs cells slots mc ms (F0 m pc real st0) (rest.map (z_rv (z_ad B ro))) (z_Qc D cA B ro r1 S1 h1 a) (fun q => B ≤ q)) (hI : z_In D cA B ro s S h H locs)
    (kk : ∀ (H1 : Heap) (locs1 : List Loc), z_In D cA B ro s S1 h1 H1 locs1 → W p l e R s m args below meth c H1 locs1 (cells + mc) (slots + ms) Q (F0 m (pc + 3) real ((r1.toList ++ rest).map (z_rv (z_ad B ro))))) : W p l e R s m args below meth c H locs cells slots Q (F0 m pc real st0) := by
  intro T hT X'
  obtain ⟨v, st₀, t, T', L, h0, X2, hL, e1, e2, ⟨hv, hp, hF⟩, st⟩ := hr T hT X'
  cases hv
  obtain ⟨hz, hk⟩ := hF
  rw [h0] at hz hk
  obtain ⟨hP, hS⟩ := hI
  obtain ⟨t2, a1, b1⟩ := kk T'.heap (locs ++ L) ⟨by rw [e1]; exact hp, ⟨Nat.le_trans hS.1 (by rw [e1]; exact hz), fun q h1 h2 => by rw [e1, hk q (Nat.lt_of_lt_of_le h1 hS.1) h2]; exact hS.2.1 q h1 h2, fun q hq => by
      rcases List.mem_append.mp hq with h | h
      · exact hS.2.2 q h
      · exact hL q h⟩⟩ T' rfl X2
  refine ⟨t2, st t2 ?_, b1⟩
  have e3 : ((r1.toList ++ rest).map (z_rv (z_ad B ro))) = (r1.map (z_rv (z_ad B ro))).toList ++ rest.map (z_rv (z_ad B ro)) := by
    cases r1 <;> simp
  rw [e3] at a1
  exact a1
theorem z_blind : FrameBlind (va_Pc (vs.map (z_rv (z_ad B ro))) (z_Gd D cA B ro X S h)) := by
  intro a U g mk hq
  obtain ⟨q0, q1, q2, q3, q4⟩ := hq
  exact ⟨q0, q1, q2, va_K.moved (u := U) (U := U.calling g mk a) (Vm.Alike.refl U.vm) q3, z_RO.same (s := U) rfl q4⟩
theorem z_gd (C : z_Cx D cA B ro X p s m args meth c em) (hI : z_In D cA B ro s S h H locs) (hsz : H.size = B + S.length) {U : State} (hU : U.heap = H) (hW : s.WarmedH U.vm) : z_Gd D cA B ro X S h U := by
  obtain ⟨hx, hb, hml, hown, hts, hnm, hK, hRO, hBs⟩ := C
  refine ⟨by rw [hU]; exact hsz, by rw [hU]; exact hI.1, va_K.moved hW.alike hK, ?_⟩
  rw [hU]
  exact (hRO.kept hI.2.2.1).warm hW
theorem z_cal_ok {own idx M kd n : Nat} (hz : z_cal own idx = some (M, kd, n)) : ∃ q ∈ z_cT, q.1 = own ∧ q.2.1 = idx ∧ q.2.2.1 = M ∧ q.2.2.2.1 = kd ∧ q.2.2.2.2.1 = n ∧ z_okQ q = true := by
  unfold z_cal at hz
  split at hz
  · next q he =>
    obtain ⟨h1, h2, h3⟩ := z_find he
    cases hz
    exact ⟨q, h1, h2, h3, rfl, rfl, rfl, List.all_eq_true.mp z_cT_ok q h1⟩
  · cases hz
theorem z_nm1_eq {M : Nat} (he : z_M[M]? = some em) : z_nm1 M = em.1 := by unfold z_nm1; rw [he]
/-- the words of a call -/
theorem z_calW {own idx M kd n : Nat} (hz : z_cal own idx = some (M, kd, n)) (he : z_M[M]? = some em) : M ≠ 0 ∧ (parseMethodDescriptor em.1.desc).map (fun d => d.parameters.length) = some n ∧
    (kd = 0 → Cond.methodLink (z_ow own) idx em.1 ∈ z_tbl ∧ Cond.instanceMethod em.1 ∈ z_tbl ∧ Cond.selects em.1.cls em.1 em.1 ∈ z_tbl) ∧
    (kd = 1 → Cond.methodLink (z_ow own) idx em.1 ∈ z_tbl ∧ Cond.static em.1 ∈ z_tbl) ∧
    (kd = 2 → Cond.methodLink (z_ow own) idx em.1 ∈ z_tbl ∧ Cond.instanceMethod em.1 ∈ z_tbl ∧ em.1.name = "<init>") ∧
    (kd = 3 → Cond.static em.1 ∈ z_tbl) ∧ (kd = 4 → Cond.instanceMethod em.1 ∈ z_tbl ∧ em.1.name = "<init>") ∧
    (∀ (B : Nat) (ro : Nat → Nat) (X : Option (List Int32)) (U : State) (H : Heap), z_RO X B ro U H → (kd = 3 ∨ kd = 4) → va_Nw (.methodLinkNest (z_ow own) idx em.1 "DustYards") U) := by
  obtain ⟨⟨o, i, M', k', n', p1, p2, p3⟩, hq, e1, e2, e3, e4, e5, hok⟩ := z_cal_ok hz
  dsimp only at e1 e2 e3 e4 e5
  subst e1; subst e2; subst e3; subst e4; subst e5
  simp only [z_okQ, z_nm1_eq he, Bool.and_eq_true, decide_eq_true_eq] at hok
  obtain ⟨⟨h1, h2⟩, h3⟩ := hok
  refine ⟨h1, h2, fun hk => ?_, fun hk => ?_, fun hk => ?_, fun hk => ?_, fun hk => ?_, fun B ro X U H hRO hk => ?_⟩
  · subst hk
    simp only [Bool.and_eq_true, decide_eq_true_eq] at h3
    exact ⟨z_in (z_of1 (List.mem_of_getElem? h3.1.1)) rfl, z_in (z_of1 (List.mem_of_getElem? h3.1.2)) rfl, z_in (List.mem_of_getElem? h3.2) rfl⟩
  · subst hk
    simp only [Bool.and_eq_true, decide_eq_true_eq] at h3
    exact ⟨z_in (z_of1 (List.mem_of_getElem? h3.1)) rfl, z_in (z_of1 (List.mem_of_getElem? h3.2)) rfl⟩
  · subst hk
    simp only [Bool.and_eq_true, decide_eq_true_eq] at h3
    exact ⟨z_in (z_of1 (List.mem_of_getElem? h3.1.1)) rfl, z_in (z_of1 (List.mem_of_getElem? h3.1.2)) rfl, h3.2⟩
  · subst hk
    simp only [Bool.and_eq_true, decide_eq_true_eq] at h3
    exact z_in (z_of1 (List.mem_of_getElem? h3.2)) rfl
  · subst hk
    simp only [Bool.and_eq_true, decide_eq_true_eq] at h3
    exact ⟨z_in (z_of1 (List.mem_of_getElem? h3.1.2)) rfl, h3.2⟩
  · have := hRO.2.2.2.2.1 _ hq hk
    rw [z_nm1_eq he] at this
    exact this
theorem z_goodV {own : String} {idx : Nat} (hO : z_okM em) (h1 : Cond.methodLink own idx em.1 ∈ z_tbl) (h2 : Cond.instanceMethod em.1 ∈ z_tbl) (h3 : Cond.selects em.1.cls em.1 em.1 ∈ z_tbl) : GoodIn z_tbl (wsV own idx em.1.cls em.1 (z_ws em)) := by
  intro w hw
  unfold wsV at hw
  rcases List.mem_append.mp hw with hw | hw
  · simp only [List.mem_cons, List.not_mem_nil, or_false] at hw
    rcases hw with rfl | rfl | rfl | rfl
    · exact ⟨h1, z_good h1⟩
    · exact ⟨h2, z_good h2⟩
    · exact ⟨h3, z_good h3⟩
    · exact ⟨hO.2.2.2.2.1, z_good hO.2.2.2.2.1⟩
  · exact z_goodIn hO w hw
theorem z_goodS {own : String} {idx : Nat} (hO : z_okM em) (h1 : Cond.methodLink own idx em.1 ∈ z_tbl) (h2 : Cond.static em.1 ∈ z_tbl) : GoodIn z_tbl (va_wsS own idx em.1 (z_ws em)) := by
  intro w hw
  unfold va_wsS at hw
  rcases List.mem_append.mp hw with hw | hw
  · simp only [List.mem_cons, List.not_mem_nil, or_false] at hw
    rcases hw with rfl | rfl | rfl
    · exact ⟨h1, z_good h1⟩
    · exact ⟨h2, z_good h2⟩
    · exact ⟨hO.2.2.2.2.1, z_good hO.2.2.2.2.1⟩
  · exact z_goodIn hO w hw
end ZCALL

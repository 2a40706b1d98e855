section ZNEW
variable {D : va_G} {cA : FieldType → ClassId} {B : Nat} {ro : Nat → Nat} {X : Option (List Int32)}
variable {p : Program} {l : Launch} {e : Env} {R : Room} {s : State} {m : MethodId} {args : Array Value} {below : List Frame} {meth : Method} {c : Code} {H : Heap} {locs : List Loc} {cells slots : Nat} {Q : State → Prop} {em : zM}
variable {S S' : zS} {h h' : zH} {st' r : List Value} {pc : Nat} {real : Array Slot}
theorem z_size {g : JFrame} (hcn : s.heap.size + cells = B + S.length) (hBs : B ≤ s.heap.size) (hI : z_In D cA B ro s S h H locs) (k : H.size = B + S.length → W p l e R s m args below meth c H locs cells slots Q g) : W p l e R s m args below meth c H locs cells slots Q g := by
  intro T hT X
  refine k ?_ T hT X
  have h1 := X.heapSize
  rw [hT] at h1
  have h2 : B + S.length ≤ H.size := by
    by_cases h0 : S.length = 0
    · have := hI.2.1
      omega
    · have h3 : S[S.length - 1]? = some (S[S.length - 1]'(by omega)) := List.getElem?_eq_getElem (by omega)
      have h4 := (hI.1 _ _ (z_w_at h3)).lt
      dsimp only at h4
      omega
  omega
/-- a cell more: what holds of the world then -/
theorem z_grow {H1 : Heap} {cn : zC} (hI : z_In D cA B ro s S h H locs) (hsz : H.size = B + S.length) (z1 : H1.size = H.size + 1) (o1 : ∀ q, q < H.size → H1[q]? = H[q]?) (ho : ∀ q, q < S.length → h' q = h q) (hn : va_at D z_cls (B + S.length, z_cell cA (z_ad B ro) h' S.length cn) H1) : z_In D cA B ro s (S ++ [cn]) h' H1 locs := by
  obtain ⟨hP, hS⟩ := hI
  refine ⟨?_, Nat.le_trans hS.1 (by omega), fun x h1 h2 => (o1 x (Nat.lt_of_lt_of_le h1 hS.1)).trans (hS.2.1 x h1 h2), hS.2.2⟩
  rw [z_w_push ho]
  refine (hP.kept (fun k x hx => o1 x.1 ((hP k x hx).lt))).app (fun k x hx => ?_)
  have hz : k < 1 := (List.getElem?_eq_some_iff.mp hx).1
  rw [show k = 0 by omega] at hx
  cases hx
  exact hn
theorem z_newa_one {t : ArrayType} {ty : FieldType} {t0 : Nat} {n : Int32} (C : z_Cx D cA B ro X p s m args meth c em) (hI : z_In D cA B ro s S h H locs) (hcn : s.heap.size + cells = B + S.length) (hd : decode em.2.1 pc = .ok (.newarray t, 2)) (hty : newarray.typeOf t = ty) (hac : Cond.arrayClass ty ∈ z_tbl) (ht : (z_tys cA)[t0]? = some (cA ty, ty)) (hra : va_RA s (cA ty) ty = (s.vm.findClass ("[" ++ ty.toString) = some (cA ty))) (hdv : defaultValue ty = .int 0) (hcb : componentBytes ty ≤ 8)
    (hn : ¬ n < 0) (hN : n.toNatClampNeg ≤ 100000) (hS : S.length < 100000) (hroom : cells + 1 ≤ R.cells ∧ slots + n.toNatClampNeg ≤ R.slots) (kk : zKK D cA B ro p l e R s m args below meth c cells slots Q S (S ++ [.inl (ty, n.toNatClampNeg)]) (z_zero h S.length) (pc + 2) real (.ref S.length :: r)) : W p l e R s m args below meth c H locs cells slots Q (F0 m pc real ((Value.int n :: r).map (z_rv (z_ad B ro)))) := by
  obtain ⟨hx, hb, hml, hown, hts, hnm, hK, hRO, hBs⟩ := C
  refine z_size hcn hBs hI (fun hsz => ?_)
  subst hty
  refine va_newaK hx hb (hts _ hac) rfl hd rfl hn rfl ?_ hroom.1 hroom.2 rfl fun H1 cA' e1 z1 o1 hAr hNm => ?_
  · have h2 : n.toNatClampNeg * componentBytes (newarray.typeOf t) ≤ 100000 * 8 := Nat.mul_le_mul hN hcb
    omega
  · have hca : cA' = cA (newarray.typeOf t) := by
      have h1 := (hK.2 t0 _ ht).2
      dsimp only at h1
      rw [hra] at h1
      exact Option.some.inj (hNm.symm.trans h1)
    subst hca
    have kw := kk H1 locs (cells + 1) (slots + n.toNatClampNeg) (by simp) (by rw [z_tot_push]; simp [z_sz]) (z_grow (cn := .inl (newarray.typeOf t, n.toNatClampNeg)) (h' := z_zero h S.length) hI hsz z1 o1 (fun q hq => if_neg (Nat.ne_of_lt hq)) ?_)
    · have e2 : (Value.ref S.length :: r).map (z_rv (z_ad B ro)) = .ref H.size :: r.map (z_rv (z_ad B ro)) := by
        show Value.ref (z_ad B ro S.length) :: _ = _
        rw [z_ad_lo hS, hsz]
      rw [e2] at kw
      exact kw
    · show H1[B + S.length]? = some (vp_cell _ (_, .inl (z_zero h S.length S.length)))
      rw [← hsz, e1, vp_cell_i, hdv]
      simp [z_zero]
theorem z_newa_ok {t : ArrayType} {n : Int32} (C : z_Cx D cA B ro X p s m args meth c em) (hI : z_In D cA B ro s S h H locs) (hcn : s.heap.size + cells = B + S.length) (hd : decode em.2.1 pc = .ok (.newarray t, 2)) (hz : z_newa (newarray.typeOf t) n r S h = some (st', S', h')) (hroom : cells + (S'.length - S.length) ≤ R.cells ∧ slots + (z_tot S' - z_tot S) ≤ R.slots) (kk : zKK D cA B ro p l e R s m args below meth c cells slots Q S S' h' (pc + 2) real st') : W p l e R s m args below meth c H locs cells slots Q (F0 m pc real ((Value.int n :: r).map (z_rv (z_ad B ro)))) := by
  unfold z_newa at hz
  split at hz
  · next hc =>
    cases hz
    obtain ⟨hty, hn, hN, hS⟩ := hc
    have hac := z_ac _ hty
    rw [z_tot_push] at hroom
    have hroom' : cells + 1 ≤ R.cells ∧ slots + n.toNatClampNeg ≤ R.slots := by
      simp [z_sz] at hroom
      omega
    generalize hte : newarray.typeOf t = ty at *
    simp only [List.mem_cons, List.not_mem_nil, or_false] at hty
    rcases hty with rfl | rfl | rfl | rfl
    · exact z_newa_one (t0 := 0) C hI hcn hd hte hac rfl rfl rfl (by decide) hn hN hS hroom' kk
    · exact z_newa_one (t0 := 1) C hI hcn hd hte hac rfl rfl rfl (by decide) hn hN hS hroom' kk
    · exact z_newa_one (t0 := 2) C hI hcn hd hte hac rfl rfl rfl (by decide) hn hN hS hroom' kk
    · exact z_newa_one (t0 := 3) C hI hcn hd hte hac rfl rfl rfl (by decide) hn hN hS hroom' kk
  · cases hz
theorem z_newq_one {idx t0 : Nat} {n : Int32} {Cn : String} (C : z_Cx D cA B ro X p s m args meth c em) (hI : z_In D cA B ro s S h H locs) (hcn : s.heap.size + cells = B + S.length) (hd : decode em.2.1 pc = .ok (.anewarray idx, 3)) (hlk : Cond.classLink (z_ow em.2.2.2.2.1) idx Cn ∈ z_tbl) (hao : va_AO Cn s) (ht : (z_tys cA)[t0]? = some (cA (.object Cn), .object Cn))
    (hn : ¬ n < 0) (hN : n.toNatClampNeg ≤ 100000) (hS : S.length < 100000) (hroom : cells + 1 ≤ R.cells ∧ slots + n.toNatClampNeg ≤ R.slots) (kk : zKK D cA B ro p l e R s m args below meth c cells slots Q S (S ++ [.inr (.inl (.object Cn, List.replicate n.toNatClampNeg none))]) h (pc + 3) real (.ref S.length :: r)) : W p l e R s m args below meth c H locs cells slots Q (F0 m pc real ((Value.int n :: r).map (z_rv (z_ad B ro)))) := by
  obtain ⟨hx, hb, hml, hown, hts, hnm, hK, hRO, hBs⟩ := C
  refine z_size hcn hBs hI (fun hsz => ?_)
  refine W.anew hx hb hown (hts _ hlk) (va_AO.use hao) rfl hd rfl hn (by omega) hroom.1 hroom.2 fun cA' kA comp f1 f2 f3 f4 => ?_
  generalize hH1 : H.push ({ cls := cA', slots := Array.replicate n.toNatClampNeg .null, vm := .none } : Cell) = H1
  have z1 : H1.size = H.size + 1 := by rw [← hH1, Array.size_push]
  have e1 : H1[H.size]? = some (arrV cA' n.toNatClampNeg (fun _ => .null)) := by rw [← hH1, Array.getElem?_push_size, ← arrV_new]
  have o1 : ∀ q : Nat, q < H.size → H1[q]? = H[q]? := fun q hq => by rw [← hH1, Array.getElem?_push, if_neg (Nat.ne_of_lt hq)]
  have hca : cA' = cA (.object Cn) := by
    obtain ⟨kA2, comp2, k1, k2, k3, k4⟩ := (hK.2 t0 _ ht).2
    exact Option.some.inj (f1.symm.trans k4)
  subst hca
  have kw := kk H1 locs (cells + 1) (slots + n.toNatClampNeg) (by simp) (by rw [z_tot_push]; simp [z_sz]) (z_grow (cn := .inr (.inl (.object Cn, List.replicate n.toNatClampNeg none))) (h' := h) hI hsz z1 o1 (fun q hq => rfl) ?_)
  · have e2 : (Value.ref S.length :: r).map (z_rv (z_ad B ro)) = .ref H.size :: r.map (z_rv (z_ad B ro)) := by
      show Value.ref (z_ad B ro S.length) :: _ = _
      rw [z_ad_lo hS, hsz]
    rw [e2] at kw
    exact kw
  · show H1[B + S.length]? = some (vp_cell _ ((List.replicate n.toNatClampNeg none).length, .inr (.inr (.inr (.inr (fun j => ((List.replicate n.toNatClampNeg (none : Option Nat)).getD j none).map (z_ad B ro)))))))
    rw [← hsz, e1, vp_cell_q, List.length_replicate]
    congr 2
    funext j
    have : (List.replicate n.toNatClampNeg (none : Option Nat)).getD j none = none := by
      rw [List.getD_eq_getElem?_getD, List.getElem?_replicate]
      split <;> rfl
    rw [this]
    rfl
theorem z_newq_ok {idx : Nat} {n : Int32} (C : z_Cx D cA B ro X p s m args meth c em) (hI : z_In D cA B ro s S h H locs) (hcn : s.heap.size + cells = B + S.length) (hd : decode em.2.1 pc = .ok (.anewarray idx, 3)) (hz : z_newq em.2.2.2.2.1 idx n r S h = some (st', S', h')) (hroom : cells + (S'.length - S.length) ≤ R.cells ∧ slots + (z_tot S' - z_tot S) ≤ R.slots) (kk : zKK D cA B ro p l e R s m args below meth c cells slots Q S S' h' (pc + 3) real st') : W p l e R s m args below meth c H locs cells slots Q (F0 m pc real ((Value.int n :: r).map (z_rv (z_ad B ro)))) := by
  unfold z_newq at hz
  split at hz
  · next Cn hCn =>
    split at hz
    · next hc =>
      cases hz
      obtain ⟨hty, hn, hN, hS⟩ := hc
      have hlk := z_cln_ok hCn
      rw [z_tot_push] at hroom
      have hroom' : cells + 1 ≤ R.cells ∧ slots + n.toNatClampNeg ≤ R.slots := by
        simp [z_sz] at hroom
        omega
      have hRO := C.2.2.2.2.2.2.2.1
      simp only [List.mem_cons, List.not_mem_nil, or_false] at hty
      rcases hty with rfl | rfl
      · exact z_newq_one (t0 := 4) C hI hcn hd hlk hRO.2.2.2.2.2.1 rfl hn hN hS hroom' kk
      · exact z_newq_one (t0 := 5) C hI hcn hd hlk hRO.2.2.2.2.2.2 rfl hn hN hS hroom' kk
    · cases hz
  · cases hz
theorem z_ref_dv {t : FieldType} (ht : z_okT t = true) : defaultValue t = .null := by
  cases t <;> first | (cases ht; done) | rfl
theorem z_newc_ok {idx : Nat} (C : z_Cx D cA B ro X p s m args meth c em) (hI : z_In D cA B ro s S h H locs) (hcn : s.heap.size + cells = B + S.length) (hd : decode em.2.1 pc = .ok (.new idx, 3)) (hz : z_newc em.2.2.2.2.1 idx r S h = some (st', S', h')) (hroom : cells + (S'.length - S.length) ≤ R.cells ∧ slots + (z_tot S' - z_tot S) ≤ R.slots) (kk : zKK D cA B ro p l e R s m args below meth c cells slots Q S S' h' (pc + 3) real st') : W p l e R s m args below meth c H locs cells slots Q (F0 m pc real (r.map (z_rv (z_ad B ro)))) := by
  obtain ⟨hx, hb, hml, hown, hts, hnm, hK, hRO, hBs⟩ := C
  refine z_size hcn hBs hI (fun hsz => ?_)
  unfold z_newc at hz
  split at hz
  · next Cn hCn =>
    split at hz
    · next ci hci =>
      split at hz
      · next hS =>
        cases hz
        have hlk := z_cln_ok hCn
        have hlt : ci < 13 := List.mem_range.mp (List.mem_of_find?_eq_some hci)
        have hnmC : z_ow ci = Cn := by
          have h0 := List.find?_some hci
          exact eq_of_beq h0
        obtain ⟨q, hq⟩ : ∃ q, z_cls[ci]? = some q := ⟨_, List.getElem?_eq_getElem (show ci < z_cls.length from hlt)⟩
        obtain ⟨o1, o2, o3, o4, o5, o6, o7, o8⟩ := z_cls_ok hq
        have hqn : q.1 = Cn := (z_nm hq).trans hnmC
        have hKn := hK.1 ci _ hq
        rw [z_tot_push] at hroom
        have hroom' : cells + 1 ≤ R.cells ∧ slots + q.2.2 ≤ R.slots := by
          simp [z_sz, o7] at hroom
          omega
        refine W.newcK (C := q.1) (n := q.2.2) hx hb hown (by rw [hqn]; exact hts _ hlk) (hts _ o4) (hts _ o5) rfl hd hroom'.1 hroom'.2 hKn.2.1 rfl fun H1 kC hkC e1 z1 oq => ?_
        have kw := kk H1 locs (cells + 1) (slots + q.2.2) (by simp) (by rw [z_tot_push]; simp [z_sz, o7]) (z_grow (cn := .inr (.inr (ci, z_df ci))) (h' := z_zero h S.length) hI hsz z1 oq (fun q hq => if_neg (Nat.ne_of_lt hq)) ?_)
        · have e2 : (Value.ref S.length :: r).map (z_rv (z_ad B ro)) = .ref H.size :: r.map (z_rv (z_ad B ro)) := by
            show Value.ref (z_ad B ro S.length) :: _ = _
            rw [z_ad_lo hS, hsz]
          rw [e2] at kw
          exact kw
        · refine ⟨q, hq, ?_⟩
          rw [hsz] at e1
          refine (u_born (z_fty ci) hts o1 hKn hkC e1 o3).to (fun j hj => ?_)
          unfold vp_V
          rw [List.getD_eq_getElem?_getD, List.getElem?_mapIdx]
          rcases o8 j hj with ⟨h1, -, h3⟩ | ⟨h1, -, h3⟩
          · rw [h3, h1]
            simp [z_fv, z_zero]
            rfl
          · rw [h3, z_ref_dv h1]
            rfl
      · cases hz
    · cases hz
  · cases hz
end ZNEW

section ZMEM
variable {D : va_G} {cA : FieldType → ClassId} {B : Nat} {ro : Nat → Nat} {X : Option (List Int32)}
variable {p : Program} {l : Launch} {e : Env} {R : Room} {s : State} {m : MethodId} {args : Array Value} {below : List Frame} {meth : Method} {c : Code} {H : Heap} {locs : List Loc} {cells slots : Nat} {Q : State → Prop} {em : zM}
variable {S S' : zS} {h h' : zH} {st' r : List Value} {pc : Nat} {real : Array Slot}
abbrev zKK (D : va_G) (cA : FieldType → ClassId) (B : Nat) (ro : Nat → Nat) (p : Program) (l : Launch) (e : Env) (R : Room) (s : State) (m : MethodId) (args : Array Value) (below : List Frame) (meth : Method) (c : Code) (cells slots : Nat) (Q : State → Prop) (S S' : zS) (h' : zH) (pc' : Nat) (real : Array Slot) (st' : List Value) : Prop :=
  ∀ (H' : Heap) (locs' : List Loc) (cells' slots' : Nat), cells' = cells + (S'.length - S.length) → slots' = slots + (z_tot S' - z_tot S) → z_In D cA B ro s S' h' H' locs' → W p l e R s m args below meth c H' locs' cells' slots' Q (F0 m pc' real (st'.map (z_rv (z_ad B ro))))
theorem z_obj_ok {k : Nat} {o : Nat × List (Option (Option Nat))} (h : z_obj S k = some o) : S[k]? = some (.inr (.inr o)) := by
  unfold z_obj at h
  split at h
  · next o' ho => cases h; exact ho
  · cases h
theorem z_arr_ok {k : Nat} {o : FieldType × Nat} (h : z_arr S k = some o) : S[k]? = some (.inl o) := by
  unfold z_arr at h
  split at h
  · next o' ho => cases h; exact ho
  · cases h
theorem z_rar_ok {k : Nat} {o : FieldType × List (Option Nat)} (h : z_rar S k = some o) : S[k]? = some (.inr (.inl o)) := by
  unfold z_rar at h
  split at h
  · next o' ho => cases h; exact ho
  · cases h
theorem z_getf_ok {idx k : Nat} (C : z_Cx D cA B ro X p s m args meth c em) (hI : z_In D cA B ro s S h H locs) (hd : decode em.2.1 pc = .ok (.getfield idx, 3)) (hz : z_getf em.2.2.2.2.1 idx k r S h = some (st', S', h')) (kk : zKK D cA B ro p l e R s m args below meth c cells slots Q S S' h' (pc + 3) real st') : W p l e R s m args below meth c H locs cells slots Q (F0 m pc real ((Value.ref k :: r).map (z_rv (z_ad B ro)))) := by
  obtain ⟨hx, hb, hml, hown, hts, hnm, hK, hRO, hBs⟩ := C
  have hI' := hI
  obtain ⟨hP, hS⟩ := hI
  unfold z_getf at hz
  split at hz
  · next hk =>
    have hf : z_ad B ro k = B + k := if_pos hk
    show W p l e R s m args below meth c H locs cells slots Q (F0 m pc real (.ref (z_ad B ro k) :: r.map (z_rv (z_ad B ro))))
    rw [hf]
    split at hz
    · next ci j cj fs hfl hob =>
      split at hz
      · next hcc =>
        subst hcc
        obtain ⟨q, hq, hj, hlk⟩ := z_fl_ok hfl
        have hSk := z_obj_ok hob
        have hO := z_cls_ok hq
        split at hz
        · next hfj =>
          cases hz
          refine va_get (C := q.1) (T := q.2.1) (N := q.2.2) (ref := (q.2.1 j).1) hx hb hts hO.1 hown hK hP k (z_w_at hSk) hq j hj (hts _ hlk) (fun _ h => h) (v := .int (h k j)) ?_ hd (kk H locs cells slots (by omega) (by omega) hI')
          simp [List.getElem?_mapIdx, hfj, z_fv]
        · next a hfj =>
          cases hz
          refine va_get (C := q.1) (T := q.2.1) (N := q.2.2) (ref := (q.2.1 j).1) hx hb hts hO.1 hown hK hP k (z_w_at hSk) hq j hj (hts _ hlk) (fun _ h => h) (v := z_rv (z_ad B ro) (z_rf a)) ?_ hd (kk H locs cells slots (by omega) (by omega) hI')
          rw [z_rv_rf]
          simp [List.getElem?_mapIdx, hfj, z_fv]
        · cases hz
      · cases hz
    · cases hz
  · next hk =>
    have hf : z_ad B ro k = ro k := if_neg hk
    show W p l e R s m args below meth c H locs cells slots Q (F0 m pc real (.ref (z_ad B ro k) :: r.map (z_rv (z_ad B ro))))
    rw [hf]
    split at hz
    · next hk2 =>
      obtain ⟨k1, k2, ho⟩ := hk2
      obtain ⟨i, rfl⟩ : ∃ i, k = 100100 + i := ⟨k - 100100, by omega⟩
      have hi : i < 13 := by omega
      obtain ⟨g1, g2, g3⟩ := hRO.2.2.1 i hi
      rw [ho] at hown
      split at hz
      · next hidx =>
        subst hidx
        cases hz
        refine vk_getf hx hb g3 hS hown (hts (.fieldLink (z_ow 15) 9 "java/lang/String" "value" "[B") z_lkv) (fun _ h => h) hd ?_
        have := kk H locs cells slots (by omega) (by omega) hI'
        have e1 : z_ad B ro (100100 + i - 96) = ro (100004 + i) := by
          rw [show 100100 + i - 96 = 100004 + i by omega]
          exact if_neg (by omega)
        have e2 : (Value.ref (100100 + i - 96) :: r).map (z_rv (z_ad B ro)) = .ref (ro (100004 + i)) :: r.map (z_rv (z_ad B ro)) := by
          show Value.ref (z_ad B ro (100100 + i - 96)) :: _ = _
          rw [e1]
        rw [e2] at this
        exact this
      · split at hz
        · next hidx =>
          subst hidx
          cases hz
          exact vk_getf hx hb g2 hS hown (hts (.fieldLink (z_ow 15) 15 "java/lang/String" "coder" "B") z_lkc) (fun _ h => h) hd (kk H locs cells slots (by omega) (by omega) hI')
        · cases hz
    · cases hz
theorem z_mapset {f : Nat → Nat} {k j : Nat} {x : Int32} {fs : List (Option (Option Nat))} (hj : fs[j]? = some none) : (fs.mapIdx (fun i o => z_fv f h k i o)).set j (.int x) = fs.mapIdx (fun i o => z_fv f (z_up h k j x) k i o) := by
  apply List.ext_getElem?
  intro i
  have hlt : j < fs.length := (List.getElem?_eq_some_iff.mp hj).1
  by_cases hi : i = j
  · subst hi
    rw [List.getElem?_set_self (by simpa using hlt)]
    simp [List.getElem?_mapIdx, hj, z_fv, z_up, upd]
  · rw [List.getElem?_set_ne (fun q => hi q.symm)]
    simp only [List.getElem?_mapIdx]
    cases fs[i]? with
    | none => rfl
    | some o =>
      cases o with
      | none => simp [z_fv, z_up, upd, hi]
      | some r => rfl
theorem z_mapsetR {f : Nat → Nat} {k j a : Nat} {fs : List (Option (Option Nat))} (hlt : j < fs.length) : (fs.mapIdx (fun i o => z_fv f h k i o)).set j (.ref (f a)) = (fs.set j (some (some a))).mapIdx (fun i o => z_fv f h k i o) := by
  apply List.ext_getElem?
  intro i
  by_cases hi : i = j
  · subst hi
    rw [List.getElem?_set_self (by simpa using hlt)]
    simp only [List.getElem?_mapIdx]
    rw [List.getElem?_set_self hlt]
    rfl
  · rw [List.getElem?_set_ne (fun q => hi q.symm)]
    simp only [List.getElem?_mapIdx]
    rw [List.getElem?_set_ne (fun q => hi q.symm)]
theorem z_okT_ref {t : FieldType} (ht : z_okT t = true) (a : Nat) : narrow t (.ref a) = .ref a ∧ fits t (.ref a) = true := by
  cases t <;> first | (cases ht; done) | exact ⟨rfl, rfl⟩
theorem z_putf_ok {idx k : Nat} {v : Value} (C : z_Cx D cA B ro X p s m args meth c em) (hI : z_In D cA B ro s S h H locs) (hd : decode em.2.1 pc = .ok (.putfield idx, 3)) (hz : z_putf em.2.2.2.2.1 (decide (em.1.name = "<init>")) idx v k r S h = some (st', S', h')) (kk : zKK D cA B ro p l e R s m args below meth c cells slots Q S S' h' (pc + 3) real st') : W p l e R s m args below meth c H locs cells slots Q (F0 m pc real ((v :: Value.ref k :: r).map (z_rv (z_ad B ro)))) := by
  obtain ⟨hx, hb, hml, hown, hts, hnm, hK, hRO, hBs⟩ := C
  obtain ⟨hP, hS⟩ := hI
  unfold z_putf at hz
  split at hz
  · next hk =>
    have hf : z_ad B ro k = B + k := if_pos hk
    show W p l e R s m args below meth c H locs cells slots Q (F0 m pc real (z_rv (z_ad B ro) v :: .ref (z_ad B ro k) :: r.map (z_rv (z_ad B ro))))
    rw [hf]
    split at hz
    · next ci j cj fs hfl hob =>
      split at hz
      · next hcc =>
        subst hcc
        obtain ⟨q, hq, hj, hlk⟩ := z_fl_ok hfl
        have hSk := z_obj_ok hob
        obtain ⟨o1, o2, o3, o4, o5, o6, o7, o8⟩ := z_cls_ok hq
        have hdj : (fs.mapIdx (fun j o => z_fv (z_ad B ro) h k j o)).length = fs.length := by simp
        split at hz
        · next x hfj =>
          split at hz
          · next hint =>
            cases hz
            have hlt : j < fs.length := (List.getElem?_eq_some_iff.mp hfj).1
            have hfin : (q.2.1 j).2.2.2 = false := by
              rcases o8 j hj with ⟨-, h2, -⟩ | ⟨h2, -⟩
              · exact h2
              · rw [hint] at h2
                cases h2
            refine va_put (C := q.1) (T := q.2.1) (N := q.2.2) (ref := (q.2.1 j).1) hx hb hts o1 (z_fty ci) o3 o2 hown hK hP z_wD hS k (z_w_at hSk) hq j hj (hts _ hlk) (fun _ h => h) hfin (ty := .int) (v := .int x) (by rw [o3 j hj, hint]) rfl rfl (by rw [hdj]; exact hlt) hd (fun H1 locs1 hP1 hD1 hS1 => ?_)
            refine kk H1 locs1 cells slots (by omega) (by omega) ⟨?_, hS1⟩
            have e9 : (z_w cA (z_ad B ro) B S h).set k (B + k, Sum.inr (ci, fs.mapIdx (fun i o => z_fv (z_ad B ro) (z_up h k j x) k i o))) = z_w cA (z_ad B ro) B S (z_up h k j x) := z_w_seth hSk rfl (fun q hq => if_neg hq)
            rw [z_mapset hfj, e9] at hP1
            exact hP1
          · cases hz
        · next a b hfj =>
          split at hz
          · next hin =>
            obtain ⟨hi1, hi2, hi3⟩ := hin
            cases hz
            have hlt : j < fs.length := (List.getElem?_eq_some_iff.mp hfj).1
            have hfin : (q.2.1 j).2.2.2 = true := by
              rcases o8 j hj with ⟨h2, -⟩ | ⟨-, h2, -⟩
              · rw [h2] at hi3
                cases hi3
              · exact h2
            have hsl : (S.set k (.inr (.inr (ci, fs.set j (some (some b)))))).length = S.length := List.length_set ..
            have hst : z_tot (S.set k (.inr (.inr (ci, fs.set j (some (some b)))))) = z_tot S := z_tot_set hSk (by simp [z_sz])
            obtain ⟨t1, t2⟩ := z_okT_ref hi3 (z_ad B ro b)
            refine va_putF (C := q.1) (T := q.2.1) (N := q.2.2) (ref := (q.2.1 j).1) hx hb hts o1 (z_fty ci) o3 o2 hown hK hP z_wD hS k (z_w_at hSk) hq j hj (hts _ hlk) (fun _ h => h) hfin (hnm (by simpa using hi1)) (by rw [o6 j hj, z_nm hq, hi2]) (ty := z_fty ci j) (v := .ref (z_ad B ro b)) (o3 j hj) t1 t2 (by rw [hdj]; exact hlt) hd (fun H1 locs1 hP1 hD1 hS1 => ?_)
            refine kk H1 locs1 cells slots (by rw [hsl]; omega) (by rw [hst]; omega) ⟨?_, hS1⟩
            have e9 : (z_w cA (z_ad B ro) B S h).set k (B + k, Sum.inr (ci, (fs.set j (some (some b))).mapIdx (fun i o => z_fv (z_ad B ro) h k i o))) = z_w cA (z_ad B ro) B (S.set k (.inr (.inr (ci, fs.set j (some (some b)))))) h := z_w_setS hSk rfl
            rw [z_mapsetR hlt, e9] at hP1
            exact hP1
          · cases hz
        · cases hz
      · cases hz
    · cases hz
  · cases hz
end ZMEM

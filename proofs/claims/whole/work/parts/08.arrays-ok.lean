section ZARR
variable {D : va_G} {cA : FieldType → ClassId} {B : Nat} {ro : Nat → Nat} {X : Option (List Int32)}
variable {p : Program} {l : Launch} {e : Env} {R : Room} {s : State} {m : MethodId} {args : Array Value} {below : List Frame} {meth : Method} {c : Code} {H : Heap} {locs : List Loc} {cells slots : Nat} {Q : State → Prop} {em : zM}
variable {S S' : zS} {h h' : zH} {st' r : List Value} {pc : Nat} {real : Array Slot}
theorem z_ad_lo {k : Nat} (hk : k < 100000) : z_ad B ro k = B + k := if_pos hk
theorem z_ad_hi {k : Nat} (hk : ¬ k < 100000) : z_ad B ro k = ro k := if_neg hk
theorem z_ald_ok {tys : List FieldType} {ins : Instr} {i : Int32} {k : Nat} (hI : z_In D cA B ro s S h H locs)
    (row : ∀ ty ∈ tys, ∀ n, S[k]? = some (.inl (ty, n)) → vp_in i n → W p l e R s m args below meth c H locs cells slots Q (F0 m (pc + 1) real (.int (h k i.toNatClampNeg) :: r.map (z_rv (z_ad B ro)))) → W p l e R s m args below meth c H locs cells slots Q (F0 m pc real (.int i :: .ref (B + k) :: r.map (z_rv (z_ad B ro)))))
    (row2 : ∀ ty ∈ tys, ∀ li : List Int32, z_roA X (k - 100000) = some (ty, li) → vp_in i li.length → W p l e R s m args below meth c H locs cells slots Q (F0 m (pc + 1) real (.int (li.getD i.toNatClampNeg 0) :: r.map (z_rv (z_ad B ro)))) → W p l e R s m args below meth c H locs cells slots Q (F0 m pc real (.int i :: .ref (ro (100000 + (k - 100000))) :: r.map (z_rv (z_ad B ro)))))
    (hz : z_ald tys i k r X S h = some (st', S', h')) (kk : zKK D cA B ro p l e R s m args below meth c cells slots Q S S' h' (pc + 1) real st') : W p l e R s m args below meth c H locs cells slots Q (F0 m pc real ((Value.int i :: Value.ref k :: r).map (z_rv (z_ad B ro)))) := by
  unfold z_ald at hz
  split at hz
  · next hk =>
    show W p l e R s m args below meth c H locs cells slots Q (F0 m pc real (.int i :: .ref (z_ad B ro k) :: r.map (z_rv (z_ad B ro))))
    rw [z_ad_lo hk]
    split at hz
    · next ty n hn =>
      split at hz
      · next hc =>
        cases hz
        exact row ty hc.1 n (z_arr_ok hn) hc.2 (kk H locs cells slots (by omega) (by omega) hI)
      · cases hz
    · cases hz
  · next hk =>
    show W p l e R s m args below meth c H locs cells slots Q (F0 m pc real (.int i :: .ref (z_ad B ro k) :: r.map (z_rv (z_ad B ro))))
    rw [z_ad_hi hk, show ro k = ro (100000 + (k - 100000)) from congrArg ro (Nat.add_sub_of_le (Nat.not_lt.mp hk)).symm]
    split at hz
    · next ty li hli =>
      split at hz
      · next hc =>
        cases hz
        exact row2 ty hc.1 li hli hc.2 (kk H locs cells slots (by omega) (by omega) hI)
      · cases hz
    · cases hz
theorem z_iald_ok {i : Int32} {k : Nat} (C : z_Cx D cA B ro X p s m args meth c em) (hI : z_In D cA B ro s S h H locs) (hd : decode em.2.1 pc = .ok (.iaload, 1)) (hz : z_ald [.int] i k r X S h = some (st', S', h')) (kk : zKK D cA B ro p l e R s m args below meth c cells slots Q S S' h' (pc + 1) real st') : W p l e R s m args below meth c H locs cells slots Q (F0 m pc real ((Value.int i :: Value.ref k :: r).map (z_rv (z_ad B ro)))) := by
  obtain ⟨hx, hb, hml, hown, hts, hnm, hK, hRO, hBs⟩ := C
  refine z_ald_ok (ins := .iaload) hI (fun ty hty n hn hin kw => ?_) (fun ty hty li hli hin kw => ?_) hz kk
  · cases List.mem_singleton.mp hty
    exact va_iald hx hb hK hI.1 k 0 (z_w_at hn) rfl hin hd kw
  · cases List.mem_singleton.mp hty
    exact va_ti hx hb (hRO.1 _ _ _ hli) hI.2 hin rfl hd kw
theorem z_bald_ok {i : Int32} {k : Nat} (C : z_Cx D cA B ro X p s m args meth c em) (hI : z_In D cA B ro s S h H locs) (hd : decode em.2.1 pc = .ok (.baload, 1)) (hz : z_ald [.byte, .boolean] i k r X S h = some (st', S', h')) (kk : zKK D cA B ro p l e R s m args below meth c cells slots Q S S' h' (pc + 1) real st') : W p l e R s m args below meth c H locs cells slots Q (F0 m pc real ((Value.int i :: Value.ref k :: r).map (z_rv (z_ad B ro)))) := by
  obtain ⟨hx, hb, hml, hown, hts, hnm, hK, hRO, hBs⟩ := C
  refine z_ald_ok (ins := .baload) hI (fun ty hty n hn hin kw => ?_) (fun ty hty li hli hin kw => ?_) hz kk
  · simp only [List.mem_cons, List.not_mem_nil, or_false] at hty
    rcases hty with rfl | rfl
    · exact va_bald hx hb hK hI.1 k 2 (z_w_at hn) rfl hin hd kw
    · exact va_zald hx hb hK hI.1 k 1 (z_w_at hn) rfl hin hd kw
  · simp only [List.mem_cons, List.not_mem_nil, or_false] at hty
    rcases hty with rfl | rfl
    · exact va_tb hx hb (hRO.1 _ _ _ hli) hI.2 hin rfl hd kw
    · exact va_tz hx hb (hRO.1 _ _ _ hli) hI.2 hin rfl hd kw
theorem z_cald_ok {i : Int32} {k : Nat} (C : z_Cx D cA B ro X p s m args meth c em) (hI : z_In D cA B ro s S h H locs) (hd : decode em.2.1 pc = .ok (.caload, 1)) (hz : z_ald [.char] i k r X S h = some (st', S', h')) (kk : zKK D cA B ro p l e R s m args below meth c cells slots Q S S' h' (pc + 1) real st') : W p l e R s m args below meth c H locs cells slots Q (F0 m pc real ((Value.int i :: Value.ref k :: r).map (z_rv (z_ad B ro)))) := by
  obtain ⟨hx, hb, hml, hown, hts, hnm, hK, hRO, hBs⟩ := C
  refine z_ald_ok (ins := .caload) hI (fun ty hty n hn hin kw => ?_) (fun ty hty li hli hin kw => ?_) hz kk
  · cases List.mem_singleton.mp hty
    exact va_cald hx hb hK hI.1 k 3 (z_w_at hn) rfl hin hd kw
  · cases List.mem_singleton.mp hty
    exact va_tc hx hb (hRO.1 _ _ _ hli) hI.2 hin rfl hd kw
theorem z_up_self (h : zH) (k j : Nat) (v : Int32) : z_up h k j v k = upd (h k) j v := if_pos rfl
theorem z_ast_ok {tys : List FieldType} {x i : Int32} {k : Nat} (hI : z_In D cA B ro s S h H locs)
    (row : ∀ ty ∈ tys, ∀ n, S[k]? = some (.inl (ty, n)) → vp_in i n → (∀ (H1 : Heap) (locs1 : List Loc), va_P D z_cls ((z_w cA (z_ad B ro) B S h).set k (B + k, .inl (cA ty, n, .inl (upd (h k) i.toNatClampNeg (if ty = .int then x else vp_nar ty x))))) H1 → va_S (fun q => B ≤ q) s.heap H1 locs1 → W p l e R s m args below meth c H1 locs1 cells slots Q (F0 m (pc + 1) real (r.map (z_rv (z_ad B ro))))) → W p l e R s m args below meth c H locs cells slots Q (F0 m pc real (.int x :: .int i :: .ref (B + k) :: r.map (z_rv (z_ad B ro)))))
    (hz : z_ast tys x i k r S h = some (st', S', h')) (kk : zKK D cA B ro p l e R s m args below meth c cells slots Q S S' h' (pc + 1) real st') : W p l e R s m args below meth c H locs cells slots Q (F0 m pc real ((Value.int x :: Value.int i :: Value.ref k :: r).map (z_rv (z_ad B ro)))) := by
  unfold z_ast at hz
  split at hz
  · next hk =>
    show W p l e R s m args below meth c H locs cells slots Q (F0 m pc real (.int x :: .int i :: .ref (z_ad B ro k) :: r.map (z_rv (z_ad B ro))))
    rw [z_ad_lo hk]
    split at hz
    · next ty n hn =>
      split at hz
      · next hc =>
        cases hz
        refine row ty hc.1 n (z_arr_ok hn) hc.2 (fun H1 locs1 hP1 hS1 => kk H1 locs1 cells slots (by omega) (by omega) ⟨?_, hS1⟩)
        have e9 : (z_w cA (z_ad B ro) B S h).set k (B + k, Sum.inl (cA ty, n, Sum.inl (upd (h k) i.toNatClampNeg (if ty = .int then x else vp_nar ty x)))) = z_w cA (z_ad B ro) B S (z_up h k i.toNatClampNeg (if ty = .int then x else vp_nar ty x)) := z_w_seth (z_arr_ok hn) (by simp only [z_cell, z_up_self]) (fun q hq => if_neg hq)
        rw [e9] at hP1
        exact hP1
      · cases hz
    · cases hz
  · cases hz
theorem z_iast_ok {x i : Int32} {k : Nat} (C : z_Cx D cA B ro X p s m args meth c em) (hI : z_In D cA B ro s S h H locs) (hd : decode em.2.1 pc = .ok (.iastore, 1)) (hz : z_ast [.int] x i k r S h = some (st', S', h')) (kk : zKK D cA B ro p l e R s m args below meth c cells slots Q S S' h' (pc + 1) real st') : W p l e R s m args below meth c H locs cells slots Q (F0 m pc real ((Value.int x :: Value.int i :: Value.ref k :: r).map (z_rv (z_ad B ro)))) := by
  obtain ⟨hx, hb, hml, hown, hts, hnm, hK, hRO, hBs⟩ := C
  refine z_ast_ok hI (fun ty hty n hn hin kw => ?_) hz kk
  cases List.mem_singleton.mp hty
  rw [if_pos rfl] at kw
  exact va_iast hx hb hK hI.1 z_wD hI.2 k 0 (z_w_at hn) rfl hin hd (fun H1 locs1 hP1 hD1 hS1 => kw H1 locs1 hP1 hS1)
theorem z_bast_ok {x i : Int32} {k : Nat} (C : z_Cx D cA B ro X p s m args meth c em) (hI : z_In D cA B ro s S h H locs) (hd : decode em.2.1 pc = .ok (.bastore, 1)) (hz : z_ast [.byte, .boolean] x i k r S h = some (st', S', h')) (kk : zKK D cA B ro p l e R s m args below meth c cells slots Q S S' h' (pc + 1) real st') : W p l e R s m args below meth c H locs cells slots Q (F0 m pc real ((Value.int x :: Value.int i :: Value.ref k :: r).map (z_rv (z_ad B ro)))) := by
  obtain ⟨hx, hb, hml, hown, hts, hnm, hK, hRO, hBs⟩ := C
  refine z_ast_ok hI (fun ty hty n hn hin kw => ?_) hz kk
  simp only [List.mem_cons, List.not_mem_nil, or_false] at hty
  rcases hty with rfl | rfl
  · rw [if_neg (by decide)] at kw
    exact va_bast hx hb hK hI.1 z_wD hI.2 k 2 (z_w_at hn) rfl hin hd (fun H1 locs1 hP1 hD1 hS1 => kw H1 locs1 hP1 hS1)
  · rw [if_neg (by decide)] at kw
    exact va_zast hx hb hK hI.1 z_wD hI.2 k 1 (z_w_at hn) rfl hin hd (fun H1 locs1 hP1 hD1 hS1 => kw H1 locs1 hP1 hS1)
theorem z_cast_ok {x i : Int32} {k : Nat} (C : z_Cx D cA B ro X p s m args meth c em) (hI : z_In D cA B ro s S h H locs) (hd : decode em.2.1 pc = .ok (.castore, 1)) (hz : z_ast [.char] x i k r S h = some (st', S', h')) (kk : zKK D cA B ro p l e R s m args below meth c cells slots Q S S' h' (pc + 1) real st') : W p l e R s m args below meth c H locs cells slots Q (F0 m pc real ((Value.int x :: Value.int i :: Value.ref k :: r).map (z_rv (z_ad B ro)))) := by
  obtain ⟨hx, hb, hml, hown, hts, hnm, hK, hRO, hBs⟩ := C
  refine z_ast_ok hI (fun ty hty n hn hin kw => ?_) hz kk
  cases List.mem_singleton.mp hty
  rw [if_neg (by decide)] at kw
  exact va_cast hx hb hK hI.1 z_wD hI.2 k 3 (z_w_at hn) rfl hin hd (fun H1 locs1 hP1 hD1 hS1 => kw H1 locs1 hP1 hS1)
theorem z_aln_ok {k : Nat} (C : z_Cx D cA B ro X p s m args meth c em) (hI : z_In D cA B ro s S h H locs) (hd : decode em.2.1 pc = .ok (.arraylength, 1)) (hz : z_aln k r X S h = some (st', S', h')) (kk : zKK D cA B ro p l e R s m args below meth c cells slots Q S S' h' (pc + 1) real st') : W p l e R s m args below meth c H locs cells slots Q (F0 m pc real ((Value.ref k :: r).map (z_rv (z_ad B ro)))) := by
  obtain ⟨hx, hb, hml, hown, hts, hnm, hK, hRO, hBs⟩ := C
  unfold z_aln at hz
  show W p l e R s m args below meth c H locs cells slots Q (F0 m pc real (.ref (z_ad B ro k) :: r.map (z_rv (z_ad B ro))))
  split at hz
  · next hk =>
    rw [z_ad_lo hk]
    split at hz
    · next ty n hn =>
      split at hz
      · next hc =>
        cases hz
        simp only [List.mem_cons, List.not_mem_nil, or_false] at hc
        have kw := kk H locs cells slots (by omega) (by omega) hI
        rcases hc with rfl | rfl | rfl | rfl
        · exact va_alen hx hb hK hI.1 k 0 (z_w_at hn) rfl rfl hd kw
        · exact va_alen hx hb hK hI.1 k 1 (z_w_at hn) rfl rfl hd kw
        · exact va_alen hx hb hK hI.1 k 2 (z_w_at hn) rfl rfl hd kw
        · exact va_alen hx hb hK hI.1 k 3 (z_w_at hn) rfl rfl hd kw
      · cases hz
    · cases hz
  · next hk =>
    rw [z_ad_hi hk, show ro k = ro (100000 + (k - 100000)) from congrArg ro (Nat.add_sub_of_le (Nat.not_lt.mp hk)).symm]
    split at hz
    · next ty li hli =>
      cases hz
      exact va_tlen hx hb (hRO.1 _ _ _ hli) hI.2 rfl hd (kk H locs cells slots (by omega) (by omega) hI)
    · cases hz
theorem z_aal_ok {i : Int32} {k : Nat} (C : z_Cx D cA B ro X p s m args meth c em) (hI : z_In D cA B ro s S h H locs) (hd : decode em.2.1 pc = .ok (.aaload, 1)) (hz : z_aal i k r S h = some (st', S', h')) (kk : zKK D cA B ro p l e R s m args below meth c cells slots Q S S' h' (pc + 1) real st') : W p l e R s m args below meth c H locs cells slots Q (F0 m pc real ((Value.int i :: Value.ref k :: r).map (z_rv (z_ad B ro)))) := by
  obtain ⟨hx, hb, hml, hown, hts, hnm, hK, hRO, hBs⟩ := C
  unfold z_aal at hz
  show W p l e R s m args below meth c H locs cells slots Q (F0 m pc real (.int i :: .ref (z_ad B ro k) :: r.map (z_rv (z_ad B ro))))
  split at hz
  · next hk =>
    rw [z_ad_lo hk]
    split at hz
    · next ty rs hn =>
      split at hz
      · next hc =>
        cases hz
        obtain ⟨hc, hin⟩ := hc
        simp only [z_rty, List.mem_cons, List.not_mem_nil, or_false] at hc
        have kw := kk H locs cells slots (by omega) (by omega) hI
        have e1 : (z_rf (rs.getD i.toNatClampNeg none) :: r).map (z_rv (z_ad B ro)) = va_rf ((rs.getD i.toNatClampNeg none).map (z_ad B ro)) :: r.map (z_rv (z_ad B ro)) := by
          rw [List.map_cons, z_rv_rf]
        rw [e1] at kw
        rcases hc with rfl | rfl
        · exact va_aldq hx hb hK hI.1 k 4 (z_w_at (z_rar_ok hn)) rfl hin hd kw
        · exact va_aldq hx hb hK hI.1 k 5 (z_w_at (z_rar_ok hn)) rfl hin hd kw
      · cases hz
    · cases hz
  · cases hz
theorem z_rset {f : Nat → Nat} {rs : List (Option Nat)} {i v : Nat} (hi : i < rs.length) : (fun j => ((rs.set i (some v)).getD j none).map f) = va_up (fun j => (rs.getD j none).map f) i (some (f v)) := by
  funext j
  by_cases hj : j = i
  · subst hj
    simp [va_up, List.getD_eq_getElem?_getD, List.getElem?_set_self hi]
  · simp [va_up, hj, List.getD_eq_getElem?_getD, List.getElem?_set_ne (fun q => hj q.symm)]
theorem z_aas_ok {i : Int32} {k v : Nat} (C : z_Cx D cA B ro X p s m args meth c em) (hI : z_In D cA B ro s S h H locs) (hd : decode em.2.1 pc = .ok (.aastore, 1)) (hz : z_aas v i k r S h = some (st', S', h')) (kk : zKK D cA B ro p l e R s m args below meth c cells slots Q S S' h' (pc + 1) real st') : W p l e R s m args below meth c H locs cells slots Q (F0 m pc real ((Value.ref v :: Value.int i :: Value.ref k :: r).map (z_rv (z_ad B ro)))) := by
  obtain ⟨hx, hb, hml, hown, hts, hnm, hK, hRO, hBs⟩ := C
  unfold z_aas at hz
  show W p l e R s m args below meth c H locs cells slots Q (F0 m pc real (.ref (z_ad B ro v) :: .int i :: .ref (z_ad B ro k) :: r.map (z_rv (z_ad B ro))))
  split at hz
  · next hk =>
    rw [z_ad_lo hk.1, z_ad_lo hk.2]
    split at hz
    · next ty rs ci fs hn hv =>
      split at hz
      · next hc =>
        cases hz
        obtain ⟨hc1, hc2, hin⟩ := hc
        have hSv := z_obj_ok hv
        have hSk := z_rar_ok hn
        obtain ⟨q, hq, -⟩ := hI.1 v _ (z_w_at hSv)
        have hlt : i.toNatClampNeg < rs.length := Nat.not_le.mp fun q => hin (Or.inr q)
        have hsl : (S.set k (.inr (.inl (ty, rs.set i.toNatClampNeg (some v))))).length = S.length := List.length_set ..
        have hst : z_tot (S.set k (.inr (.inl (ty, rs.set i.toNatClampNeg (some v))))) = z_tot S := z_tot_set hSk (by simp [z_sz])
        have kw : ∀ (H1 : Heap) (locs1 : List Loc), va_P D z_cls ((z_w cA (z_ad B ro) B S h).set k (B + k, .inl (cA ty, rs.length, .inr (.inr (.inr (.inr (va_up (fun j => (rs.getD j none).map (z_ad B ro)) i.toNatClampNeg (some (B + v))))))))) H1 → va_S (fun q => B ≤ q) s.heap H1 locs1 → W p l e R s m args below meth c H1 locs1 cells slots Q (F0 m (pc + 1) real (st'.map (z_rv (z_ad B ro)))) := by
          intro H1 locs1 hP1 hS1
          refine kk H1 locs1 cells slots (by rw [hsl]; omega) (by rw [hst]; omega) ⟨?_, hS1⟩
          have e9 : (z_w cA (z_ad B ro) B S h).set k (B + k, Sum.inl (cA ty, rs.length, Sum.inr (Sum.inr (Sum.inr (Sum.inr (va_up (fun j => (rs.getD j none).map (z_ad B ro)) i.toNatClampNeg (some (B + v)))))))) = z_w cA (z_ad B ro) B (S.set k (.inr (.inl (ty, rs.set i.toNatClampNeg (some v))))) h := by
            refine z_w_setS hSk ?_
            simp only [z_cell]
            rw [z_rset hlt, z_ad_lo hk.2, List.length_set]
          rw [e9] at hP1
          exact hP1
        simp only [z_rty, List.mem_cons, List.not_mem_nil, or_false] at hc2
        have hqn : q.1 = z_ow ci := z_nm hq
        rcases hc2 with rfl | rfl
        · exact va_astq (r := q) hx hb hK hI.1 z_wD hI.2 k 4 v ci (z_w_at hSk) (by rw [hqn, ← hc1]; rfl) (z_w_at hSv) hq hin hd (fun H1 locs1 hP1 hD1 hS1 => kw H1 locs1 hP1 hS1)
        · exact va_astq (r := q) hx hb hK hI.1 z_wD hI.2 k 5 v ci (z_w_at hSk) (by rw [hqn, ← hc1]; rfl) (z_w_at hSv) hq hin hd (fun H1 locs1 hP1 hD1 hS1 => kw H1 locs1 hP1 hS1)
      · cases hz
    · cases hz
  · cases hz
theorem z_sum_rv {f : Nat → Nat} (r : List Value) : ((r.map (z_rv f)).map fun v => v.category).sum = z_sum r := by
  unfold z_sum
  rw [List.map_map]
  congr 1
  apply List.map_congr_left
  intro v _
  exact z_rv_cat _ v
theorem z_copy_ok {n dp sp : Int32} {a b idx : Nat} (C : z_Cx D cA B ro X p s m args meth c em) (hI : z_In D cA B ro s S h H locs) (hd : decode em.2.1 pc = .ok (.invokestatic idx, 3)) (hY : z_isY em.2.2.2.2.1 idx = true) (hsize : real.size = em.2.2.1) (hfr : 1 ≤ R.frames) (hlo : 40 ≤ R.locals) (hr : z_sum r ≤ 8) (hz : z_copy n dp b sp a r S h = some (st', S', h')) (kk : zKK D cA B ro p l e R s m args below meth c cells slots Q S S' h' (pc + 3) real st') : W p l e R s m args below meth c H locs cells slots Q (F0 m pc real ((Value.int n :: Value.int dp :: Value.ref b :: Value.int sp :: Value.ref a :: r).map (z_rv (z_ad B ro)))) := by
  obtain ⟨hx, hb, hml, hown, hts, hnm, hK, hRO, hBs⟩ := C
  have hsum : ((r.map (z_rv (z_ad B ro))).map fun v => v.category).sum = z_sum r := z_sum_rv r
  unfold z_copy at hz
  show W p l e R s m args below meth c H locs cells slots Q (F0 m pc real (.int n :: .int dp :: .ref (z_ad B ro b) :: .int sp :: .ref (z_ad B ro a) :: r.map (z_rv (z_ad B ro))))
  split at hz
  · next hk =>
    rw [z_ad_lo hk.1, z_ad_lo hk.2]
    split at hz
    · next t0 n0 t1 n1 ha hbb =>
      split at hz
      · next hc =>
        cases hz
        obtain ⟨rfl, rfl, h1, h2, h3, h4, h5⟩ := hc
        refine va_copyi (ty := .int) hx hb (by rw [hml, hsize]) hown (hts _ (z_isY_ok hY)) (hts _ z_yn) (hts _ z_ys) (hts _ z_yi) hK hI.1 z_wD hI.2 a b 0 0 (z_w_at (z_arr_ok ha)) (z_w_at (z_arr_ok hbb)) rfl rfl rfl h1 h2 h3 h4 h5 (fun _ _ => rfl) hfr ?_ hd (fun H1 locs1 hP1 hD1 hS1 => kk H1 locs1 cells slots (by omega) (by omega) ⟨?_, hS1⟩)
        · rw [hsum]
          have : nativeFrameWords "java/lang/System" "arraycopy" 5 ≤ 21 := by decide +kernel
          omega
        · have e9 : (z_w cA (z_ad B ro) B S h).set b (B + b, Sum.inl (cA .int, n1, Sum.inl (va_cpy (h a) (h b) sp.toNatClampNeg dp.toNatClampNeg n.toNatClampNeg))) = z_w cA (z_ad B ro) B S (z_cpy h a b sp.toNatClampNeg dp.toNatClampNeg n.toNatClampNeg) := z_w_seth (z_arr_ok hbb) (by simp only [z_cell, z_cpy, if_pos]) (fun q hq => if_neg hq)
          rw [e9] at hP1
          exact hP1
      · cases hz
    · cases hz
  · cases hz
end ZARR

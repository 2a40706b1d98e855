set_option maxRecDepth 100000 in
theorem z_init_all : (z_M.all fun em => decide (em.1.name = "<init>" → em.2.2.2.1 = none)) = true := by decide +kernel
theorem z_init_none {M : Nat} {em : zM} (_ : M ≠ 0) (he : z_M[M]? = some em) (hn : em.1.name = "<init>") : em.2.2.2.1 = none := by
  have h := List.all_eq_true.mp z_init_all em (List.mem_of_getElem? he)
  simp only [decide_eq_true_eq] at h
  exact h hn
section ZCS
variable {D : va_G} {cA : FieldType → ClassId} {B : Nat} {ro : Nat → Nat} {X : Option (List Int32)}
variable {p : Program} {l : Launch} {e : Env} {R : Room} {s : State} {m : MethodId} {args : Array Value} {below : List Frame} {meth : Method} {c : Code} {H : Heap} {locs : List Loc} {cells slots : Nat} {Q : State → Prop} {em em' : zM}
variable {S S1 : zS} {h h1 : zH} {st rest vs : List Value} {r1 : Option Value} {pc : Nat} {real : Array Slot}
theorem z_inv_ok {n d M' len : Nat} {ins : Instr} (hS : z_Snd X n) (C : z_Cx D cA B ro X p s m args meth c em) (hI : z_In D cA B ro s S h H locs) (hcn : s.heap.size + cells = B + S.length) (hsize : real.size = em.2.2.1) (hd : decode em.2.1 pc = .ok (ins, len)) (hv : z_inv em.2.2.2.2.1 ins len st S = some (M', vs, rest)) (he' : z_M[M']? = some em') (hl : (z_sl vs).length ≤ em'.2.2.1) (hx1 : z_x X n d M' 0 (z_ent vs em'.2.2.1) [] S h = some (r1, S1, h1)) (hfr : d + 1 ≤ R.frames) (hlo : 40 * (d + 1) ≤ R.locals) (hroom : cells + (S1.length - S.length) ≤ R.cells ∧ slots + (z_tot S1 - z_tot S) ≤ R.slots)
    (kk : ∀ (H1 : Heap) (locs1 : List Loc), z_In D cA B ro s S1 h1 H1 locs1 → W p l e R s m args below meth c H1 locs1 (cells + (S1.length - S.length)) (slots + (z_tot S1 - z_tot S)) Q (F0 m (pc + 3) real ((r1.toList ++ rest).map (z_rv (z_ad B ro))))) : W p l e R s m args below meth c H locs cells slots Q (F0 m pc real (st.map (z_rv (z_ad B ro)))) := by
  have C' := C
  obtain ⟨hx, hb, hml, hown, hts, hnm, hK, hRO, hBs⟩ := C
  refine z_size hcn hBs hI (fun hsz => ?_)
  have hF : CallFix p m c em.2.1 em.2.2.1 s args z_tbl (z_ow em.2.2.2.2.1) := ⟨hx, hb, hml, hown, hts⟩
  have hsum : ∀ r : List Value, z_sum r ≤ 8 → 2 * (F0 m pc real (st.map (z_rv (z_ad B ro)))).monitorRoom + ((r.map (z_rv (z_ad B ro))).map fun v => v.category).sum ≤ 8 := fun r hr => by
    have : ((r.map (z_rv (z_ad B ro))).map fun v => v.category).sum ≤ 8 := by rw [z_sum_rv]; exact hr
    exact lv_room this
  unfold z_inv at hv
  split at hv
  · -- virtual
    next idx =>
    split at hv
    · next M n0 hcal =>
      split at hv
      · next b r0 hdrop =>
        split at hv
        · next hc =>
          obtain ⟨rfl, hn, h8, hrc⟩ := hc
          cases hv
          obtain ⟨hM, hpar, hw0, -, -, -, -, -⟩ := z_calW hcal he'
          obtain ⟨w1, w2, w3⟩ := hw0 rfl
          have hO := z_M_ok hM he'
          have hmet := z_met hS hM he' hl hx1 D cA B ro l
          have hst : st.map (z_rv (z_ad B ro)) = (((st.take n0).reverse).map (z_rv (z_ad B ro))).reverse ++ .ref (z_ad B ro b) :: rest.map (z_rv (z_ad B ro)) := by
            rw [← List.map_reverse, List.reverse_reverse]
            conv => lhs; rw [← List.take_append_drop n0 st, hdrop, List.map_append]
            rfl
          refine z_callK (va_runV (As := ((st.take n0).reverse).map (z_rv (z_ad B ro))) (b := z_ad B ro b) (rest := rest.map (z_rv (z_ad B ro))) hF hmet (cwV n0 hts (z_goodV hO w1 w2 w3) rfl rfl rfl ⟨rfl, hO.2.2.2.2.2.1.1, hO.2.2.2.2.2.1.2, hpar⟩ ⟨hfr, ?_⟩) ⟨z_blind, ?_, fun U hU hW => ⟨rfl, z_gd C' hI hsz hU hW⟩⟩ rfl (by simpa using hn) hsize hst (hsum _ h8) hd hroom) hI kk
          · have := hO.2.2.1
            show 8 + (em'.2.2.1 + 11) + 40 * d ≤ R.locals
            omega
          · unfold z_rcv at hrc
            split at hrc
            · next hb1 =>
              rw [z_ad_lo hb1]
              split at hrc
              · next ci fs hob =>
                have hci : ci = z_ownOf M' := by simpa using hrc
                obtain ⟨q, hq, -⟩ := hI.1 b _ (z_w_at (z_obj_ok hob))
                obtain ⟨cell, g1, g2, g3⟩ := va_recv hK hI.1 hq (z_w_at (z_obj_ok hob))
                refine ⟨cell, g1, g2, ?_⟩
                rw [hO.2.2.2.1]
                have : z_ownOf M' = em'.2.2.2.2.1 := by unfold z_ownOf; rw [he']
                rw [← this, ← hci, ← z_nm hq]
                exact g3
              · cases hrc
            · next hb1 =>
              rw [z_ad_hi hb1]
              simp only [Bool.and_eq_true, decide_eq_true_eq] at hrc
              obtain ⟨⟨k1, k2⟩, k3⟩ := hrc
              obtain ⟨i, rfl⟩ : ∃ i : Nat, b = 100100 + i := ⟨b - 100100, (Nat.add_sub_of_le k1).symm⟩
              have k4 : i < 13 := Nat.lt_of_add_lt_add_left (show 100100 + i < 100100 + 13 from k2)
              obtain ⟨cell, g1, g2, g3, -⟩ := ((hRO.2.2.1 i k4).1).kept hI.2.2.1
              refine ⟨cell, g1, g2, ?_⟩
              rw [hO.2.2.2.1]
              have : z_ownOf M' = em'.2.2.2.2.1 := by unfold z_ownOf; rw [he']
              rw [← this, k3]
              exact g3
        · cases hv
      · cases hv
    · cases hv
  · -- static
    next idx =>
    split at hv
    · next M kd n0 hcal =>
      split at hv
      · next hc =>
        obtain ⟨rfl, hkd, hn, h8⟩ := hc
        cases hv
        obtain ⟨hM, hpar, -, hw1, -, hw3, -, hnest⟩ := z_calW hcal he'
        have hO := z_M_ok hM he'
        have hmet := z_met hS hM he' hl hx1 D cA B ro l
        have hst : st.map (z_rv (z_ad B ro)) = (((st.take n0).reverse).map (z_rv (z_ad B ro))).reverse ++ (st.drop n0).map (z_rv (z_ad B ro)) := by
          rw [← List.map_reverse, List.reverse_reverse, ← List.map_append, List.take_append_drop]
        have hrm : (z_rm d S S1).frames + 1 ≤ R.frames ∧ 8 + (em'.2.2.1 + 11) + (z_rm d S S1).locals ≤ R.locals := by
          have := hO.2.2.1
          refine ⟨hfr, ?_⟩
          show 8 + (em'.2.2.1 + 11) + 40 * d ≤ R.locals
          omega
        rcases hkd with rfl | rfl
        · obtain ⟨w1, w2⟩ := hw1 rfl
          exact z_callK (va_runS (As := ((st.take n0).reverse).map (z_rv (z_ad B ro))) (rest := (st.drop n0).map (z_rv (z_ad B ro))) hF hmet (va_cwS n0 hts (z_goodS hO w1 w2) rfl rfl rfl ⟨hO.2.2.2.2.2.1.1, hO.2.2.2.2.2.1.2, hpar⟩ hrm) ⟨z_blind, fun U hU hW => ⟨rfl, z_gd C' hI hsz hU hW⟩⟩ rfl (by simpa using hn) hsize hst (hsum _ h8) hd hroom) hI kk
        · have w2 := hw3 rfl
          exact z_callK (va_runSN (As := ((st.take n0).reverse).map (z_rv (z_ad B ro))) (rest := (st.drop n0).map (z_rv (z_ad B ro))) hF hmet ⟨va_cnB n0 hts (z_goodIn hO) rfl rfl rfl (hnest B ro X s s.heap hRO (Or.inl rfl)) (hts _ hO.2.2.2.2.1) ⟨hO.2.2.2.2.2.1.1, hO.2.2.2.2.2.1.2, hpar⟩ hrm, hts _ w2, trivial⟩ ⟨z_blind, fun U hU hW => ⟨rfl, z_gd C' hI hsz hU hW⟩⟩ rfl (by simpa using hn) hsize hst (hsum _ h8) hd hroom) hI kk
      · cases hv
    · cases hv
  · -- init
    next idx =>
    split at hv
    · next M kd n0 hcal =>
      split at hv
      · next b r0 hdrop =>
        split at hv
        · next hc =>
          obtain ⟨rfl, hkd, hn, h8⟩ := hc
          cases hv
          obtain ⟨hM, hpar, -, -, hw2, -, hw4, hnest⟩ := z_calW hcal he'
          have hO := z_M_ok hM he'
          have hmet := z_met hS hM he' hl hx1 D cA B ro l
          have hst : st.map (z_rv (z_ad B ro)) = (((st.take n0).reverse).map (z_rv (z_ad B ro))).reverse ++ .ref (z_ad B ro b) :: rest.map (z_rv (z_ad B ro)) := by
            rw [← List.map_reverse, List.reverse_reverse]
            conv => lhs; rw [← List.take_append_drop n0 st, hdrop, List.map_append]
            rfl
          have hrm : (z_rm d S S1).frames + 1 ≤ R.frames ∧ 8 + (em'.2.2.1 + 11) + (z_rm d S S1).locals ≤ R.locals := by
            have := hO.2.2.1
            refine ⟨hfr, ?_⟩
            show 8 + (em'.2.2.1 + 11) + 40 * d ≤ R.locals
            omega
          have hretn : em'.2.2.2.1 = none := z_init_none hM he' (by
            rcases hkd with rfl | rfl
            · exact (hw2 rfl).2.2
            · exact (hw4 rfl).2)
          have hG : GoodIn z_tbl (z_ws em') := z_goodIn hO
          have hwsn : z_ws em' = Cond.code em'.1 em'.2.1 em'.2.2.1 none :: z_tbl := by unfold z_ws; rw [hretn]
          rcases hkd with rfl | rfl
          · obtain ⟨w1, w2, w3⟩ := hw2 rfl
            exact z_callK (va_runI (As := ((st.take n0).reverse).map (z_rv (z_ad B ro))) (b := z_ad B ro b) (rest := rest.map (z_rv (z_ad B ro))) hF hmet (cwI n0 hts hG hwsn rfl rfl (hts _ hO.2.2.2.2.1) (hts _ w1) (hts _ w2) w3 ⟨hO.2.2.2.2.2.1.1, hO.2.2.2.2.2.1.2, hpar⟩ hrm) ⟨z_blind, fun U hU hW => ⟨rfl, z_gd C' hI hsz hU hW⟩⟩ rfl (by simpa using hn) hsize hst (hsum _ h8) hd hroom) hI kk
          · obtain ⟨w2, w3⟩ := hw4 rfl
            exact z_callK (va_runIN (As := ((st.take n0).reverse).map (z_rv (z_ad B ro))) (b := z_ad B ro b) (rest := rest.map (z_rv (z_ad B ro))) hF hmet ⟨va_cnB n0 hts hG hwsn rfl rfl (hnest B ro X s s.heap hRO (Or.inr rfl)) (hts _ hO.2.2.2.2.1) ⟨hO.2.2.2.2.2.1.1, hO.2.2.2.2.2.1.2, hpar⟩ hrm, w3, hts _ w2⟩ ⟨z_blind, fun U hU hW => ⟨rfl, z_gd C' hI hsz hU hW⟩⟩ rfl (by simpa using hn) hsize hst (hsum _ h8) hd hroom) hI kk
        · cases hv
      · cases hv
    · cases hv
  · cases hv
end ZCS
theorem z_snd (X : Option (List Int32)) : ∀ n, z_Snd X n
  | 0 => by
    intro d M pc ls st S h r S' h' hx
    simp [z_x] at hx
  | n + 1 => by
    have ih := z_snd X n
    intro d M pc ls st S h r S' h' hx em he D cA B ro p l e R s m args below meth c H locs cells slots Q real C hI hcn hL hfr hlo hroom hret
    unfold z_x at hx
    split at hx
    · cases hx
    · next em2 he2 =>
      cases he2.symm.trans he
      split at hx
      · cases hx
      · next ins len hlk =>
        have hd : decode em.2.1 pc = .ok (ins, len) := z_M0_ok he (pc, ins, len) (z_lookup_mem _ _ _ hlk)
        split at hx
        · next pc' ls' st' hloc =>
          exact z_loc_ok C.1 C.2.1 hd hloc hL (fun real' hL' => ih _ _ _ _ _ _ _ _ _ _ hx em he D cA B ro p l e R s m args below meth c H locs cells slots Q real' C hI hcn hL' hfr hlo hroom hret)
        · split at hx
          · next st' S1 h1 hm =>
            have hle1 := z_mem_le hm
            have hle2 := z_x_le X n _ _ _ _ _ _ _ _ _ _ hx
            have a1 := hle1.1
            have a2 := hle1.2
            have a3 := hle2.1
            have a4 := hle2.2
            refine z_mem_ok C hI hcn hd hL.2.1 hfr hlo hm ⟨by omega, by omega⟩ ?_
            intro H' locs' cells' slots' hc1 hc2 hI'
            refine ih _ _ _ _ _ _ _ _ _ _ hx em he D cA B ro p l e R s m args below meth c H' locs' cells' slots' Q real C hI' (by omega) hL hfr hlo ⟨by omega, by omega⟩ ?_
            intro H2 locs2 cells2 slots2 pc2 real2 ins2 st2 hd1 hd2
            exact hret H2 locs2 cells2 slots2 pc2 real2 ins2 st2 (by omega) (by omega)
          · split at hx
            · next r' hr =>
              cases hx
              have hlen := z_ret_len hr
              subst hlen
              exact hret H locs cells slots pc real ins st (by omega) (by omega) hI hd hr
            · cases hv : z_inv em.2.2.2.2.1 ins len st S with
              | none =>
                rw [hv] at hx
                cases hx
              | some q =>
                obtain ⟨M', vs, rest⟩ := q
                rw [hv] at hx
                cases d with
                | zero => cases hx
                | succ d' =>
                  dsimp only at hx
                  split at hx
                  · cases hx
                  · next em' he' =>
                    split at hx
                    · next hsl =>
                      split at hx
                      · next r1 S1 h1 hx1 =>
                        have hle1 := z_x_le X n _ _ _ _ _ _ _ _ _ _ hx1
                        have hle2 := z_x_le X n _ _ _ _ _ _ _ _ _ _ hx
                        have a1 := hle1.1
                        have a2 := hle1.2
                        have a3 := hle2.1
                        have a4 := hle2.2
                        refine z_inv_ok ih C hI hcn hL.2.1 hd hv he' hsl hx1 hfr hlo ⟨by omega, by omega⟩ ?_
                        intro H1 locs1 hI1
                        refine ih _ _ _ _ _ _ _ _ _ _ hx em he D cA B ro p l e R s m args below meth c H1 locs1 _ _ Q real C hI1 (by omega) hL hfr hlo ⟨by omega, by omega⟩ ?_
                        intro H2 locs2 cells2 slots2 pc2 real2 ins2 st2 hd1 hd2
                        exact hret H2 locs2 cells2 slots2 pc2 real2 ins2 st2 (by omega) (by omega)
                      · cases hx
                    · cases hx

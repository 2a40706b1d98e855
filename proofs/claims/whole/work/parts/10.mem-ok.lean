section ZMM
variable {D : va_G} {cA : FieldType → ClassId} {B : Nat} {ro : Nat → Nat} {X : Option (List Int32)}
variable {p : Program} {l : Launch} {e : Env} {R : Room} {s : State} {m : MethodId} {args : Array Value} {below : List Frame} {meth : Method} {c : Code} {H : Heap} {locs : List Loc} {cells slots : Nat} {Q : State → Prop} {em : zM}
variable {S S' : zS} {h h' : zH} {st st' r : List Value} {pc : Nat} {real : Array Slot}
theorem z_sno_ok {own idx i : Nat} (hz : z_sno own idx = some i) : ∃ e ∈ z_sT, e.1 = own ∧ e.2.1 = idx ∧ e.2.2.1 = i := by
  unfold z_sno at hz
  split at hz
  · next e he =>
    obtain ⟨h1, h2, h3⟩ := z_find he
    cases hz
    exact ⟨e, h1, h2, h3, rfl⟩
  · cases hz
theorem z_same (hI : z_In D cA B ro s S h H locs) (kk : zKK D cA B ro p l e R s m args below meth c cells slots Q S S h pc real st') : W p l e R s m args below meth c H locs cells slots Q (F0 m pc real (st'.map (z_rv (z_ad B ro)))) := kk H locs cells slots (by omega) (by omega) hI
set_option maxHeartbeats 4000000 in
theorem z_mem_ok {ins : Instr} {len d : Nat} (C : z_Cx D cA B ro X p s m args meth c em) (hI : z_In D cA B ro s S h H locs) (hcn : s.heap.size + cells = B + S.length) (hd : decode em.2.1 pc = .ok (ins, len)) (hsize : real.size = em.2.2.1) (hfr : d ≤ R.frames) (hlo : 40 * d ≤ R.locals) (hz : z_mem X d em.2.2.2.2.1 (decide (em.1.name = "<init>")) ins len st S h = some (st', S', h')) (hroom : cells + (S'.length - S.length) ≤ R.cells ∧ slots + (z_tot S' - z_tot S) ≤ R.slots) (kk : zKK D cA B ro p l e R s m args below meth c cells slots Q S S' h' (pc + len) real st') : W p l e R s m args below meth c H locs cells slots Q (F0 m pc real (st.map (z_rv (z_ad B ro)))) := by
  have C' := C
  obtain ⟨hx, hb, hml, hown, hts, hnm, hK, hRO, hBs⟩ := C
  unfold z_mem at hz
  split at hz
  · -- getfield
    split at hz
    · split at hz
      · next hl => subst hl; exact z_getf_ok C' hI hd hz kk
      · cases hz
    · cases hz
  · -- putfield
    split at hz
    · split at hz
      · next hl => subst hl; exact z_putf_ok C' hI hd hz kk
      · cases hz
    · cases hz
  · -- getstatic
    split at hz
    · next v hv =>
      split at hz
      · next hl =>
        subst hl
        cases hz
        obtain ⟨i, q, hq, rfl, hlk⟩ := z_sta_ok hv
        exact va_gets hx hb (hRO.2.1 i q hq) hI.2 hown (hts _ hlk) (fun _ h => h) hd (z_same hI kk)
      · cases hz
    · cases hz
  · -- ldc
    split at hz
    · next hl =>
      subst hl
      split at hz
      · next v hv =>
        cases hz
        exact lv_ldc hx hb hown (hts _ ((z_con_ok hv).1 v rfl)) hd (z_same hI kk)
      · cases hz
      · split at hz
        · next i hi =>
          cases hz
          obtain ⟨e1, he, e2, e3, e4⟩ := z_sno_ok hi
          have hR := hRO.2.2.2.1 e1 he
          rw [e2, e3, e4] at hR
          have kw := z_same hI kk
          have e5 : (Value.ref (100100 + i) :: st).map (z_rv (z_ad B ro)) = .ref (ro (100100 + i)) :: st.map (z_rv (z_ad B ro)) := by
            show Value.ref (z_ad B ro (100100 + i)) :: _ = _
            rw [z_ad_hi (by omega)]
          rw [e5] at kw
          exact va_ldcS hx hb hown hR hd kw
        · cases hz
    · cases hz
  · -- ldc_w
    split at hz
    · next hl =>
      subst hl
      split at hz
      · next v hv =>
        cases hz
        exact lv_ldcw hx hb hown (hts _ ((z_con_ok hv).1 v rfl)) hd (z_same hI kk)
      · cases hz
    · cases hz
  · -- ldc2_w
    split at hz
    · next hl =>
      subst hl
      split at hz
      · next v hv =>
        cases hz
        exact lv_ldc2 hx hb hown (hts _ ((z_con_ok hv).2 v rfl)) hd (z_same hI kk)
      · cases hz
    · cases hz
  · -- iaload
    split at hz
    · split at hz
      · next hl => subst hl; exact z_iald_ok C' hI hd hz kk
      · cases hz
    · cases hz
  · split at hz
    · split at hz
      · next hl => subst hl; exact z_bald_ok C' hI hd hz kk
      · cases hz
    · cases hz
  · split at hz
    · split at hz
      · next hl => subst hl; exact z_cald_ok C' hI hd hz kk
      · cases hz
    · cases hz
  · -- iastore
    split at hz
    · split at hz
      · next hl => subst hl; exact z_iast_ok C' hI hd hz kk
      · cases hz
    · cases hz
  · split at hz
    · split at hz
      · next hl => subst hl; exact z_bast_ok C' hI hd hz kk
      · cases hz
    · cases hz
  · split at hz
    · split at hz
      · next hl => subst hl; exact z_cast_ok C' hI hd hz kk
      · cases hz
    · cases hz
  · -- arraylength
    split at hz
    · split at hz
      · next hl => subst hl; exact z_aln_ok C' hI hd hz kk
      · cases hz
    · cases hz
  · -- aaload
    split at hz
    · split at hz
      · next hl => subst hl; exact z_aal_ok C' hI hd hz kk
      · cases hz
    · cases hz
  · -- aastore
    split at hz
    · split at hz
      · next hl => subst hl; exact z_aas_ok C' hI hd hz kk
      · cases hz
    · cases hz
  · -- newarray
    split at hz
    · split at hz
      · next hl => subst hl; exact z_newa_ok C' hI hcn hd hz hroom kk
      · cases hz
    · cases hz
  · -- anewarray
    split at hz
    · split at hz
      · next hl => subst hl; exact z_newq_ok C' hI hcn hd hz hroom kk
      · cases hz
    · cases hz
  · -- new
    split at hz
    · next hl => subst hl; exact z_newc_ok C' hI hcn hd hz hroom kk
    · cases hz
  · -- Object's own beginning
    split at hz
    · next a r0 =>
      split at hz
      · next hl =>
        obtain ⟨rfl, hO, h1, h8⟩ := hl
        cases hz
        refine W.objInit hx hb hown (hts _ (z_isO_ok hO)) (hts _ z_oi) (hts _ z_oc) rfl (by rw [hml]; exact hsize) rfl hd (by omega) ?_ (z_same hI kk)
        show 2 * 0 + _ + 12 ≤ R.locals
        rw [z_sum_rv]
        omega
      · cases hz
    · cases hz
  · -- arraycopy
    split at hz
    · split at hz
      · next hl =>
        obtain ⟨rfl, hY, h1, h8⟩ := hl
        exact z_copy_ok C' hI hd hY hsize (by omega) (by omega) h8 hz kk
      · cases hz
    · cases hz
  · cases hz
end ZMM
/-! the heap never shrinks -/
def z_le (S S' : zS) : Prop := S.length ≤ S'.length ∧ z_tot S ≤ z_tot S'
theorem z_le.rf (S : zS) : z_le S S := ⟨Nat.le_refl _, Nat.le_refl _⟩
theorem z_le.tr {S S1 S2 : zS} (a : z_le S S1) (b : z_le S1 S2) : z_le S S2 := ⟨Nat.le_trans a.1 b.1, Nat.le_trans a.2 b.2⟩
theorem z_le.set {S : zS} {k : Nat} {c c' : zC} (hk : S[k]? = some c) (he : z_sz c' = z_sz c) : z_le S (S.set k c') := ⟨by rw [List.length_set]; exact Nat.le_refl _, by rw [z_tot_set hk he]; exact Nat.le_refl _⟩
theorem z_le.push (S : zS) (c : zC) : z_le S (S ++ [c]) := ⟨by simp, by rw [z_tot_push]; omega⟩
theorem z_getf_le {own idx k : Nat} {r st' : List Value} {S S' : zS} {h h' : zH} (hz : z_getf own idx k r S h = some (st', S', h')) : z_le S S' := by
  unfold z_getf at hz
  repeat' split at hz
  all_goals (first | (cases hz; done) | (cases hz; exact z_le.rf _))
theorem z_putf_le {own idx k : Nat} {v : Value} {i : Bool} {r st' : List Value} {S S' : zS} {h h' : zH} (hz : z_putf own i idx v k r S h = some (st', S', h')) : z_le S S' := by
  unfold z_putf at hz
  split at hz
  · split at hz
    · next ci j cj fs hfl hob =>
      split at hz
      · split at hz
        · split at hz
          · cases hz; exact z_le.rf _
          · cases hz
        · split at hz
          · cases hz
            exact z_le.set (z_obj_ok hob) (by simp [z_sz])
          · cases hz
        · cases hz
      · cases hz
    · cases hz
  · cases hz
theorem z_ald_le {tys : List FieldType} {i : Int32} {k : Nat} {X : Option (List Int32)} {r st' : List Value} {S S' : zS} {h h' : zH} (hz : z_ald tys i k r X S h = some (st', S', h')) : z_le S S' := by
  unfold z_ald at hz
  repeat' split at hz
  all_goals (first | (cases hz; done) | (cases hz; exact z_le.rf _))
theorem z_ast_le {tys : List FieldType} {x i : Int32} {k : Nat} {r st' : List Value} {S S' : zS} {h h' : zH} (hz : z_ast tys x i k r S h = some (st', S', h')) : z_le S S' := by
  unfold z_ast at hz
  split at hz
  · split at hz
    · split at hz
      · cases hz; exact z_le.rf _
      · cases hz
    · cases hz
  · cases hz
theorem z_aln_le {k : Nat} {X : Option (List Int32)} {r st' : List Value} {S S' : zS} {h h' : zH} (hz : z_aln k r X S h = some (st', S', h')) : z_le S S' := by
  unfold z_aln at hz
  repeat' split at hz
  all_goals (first | (cases hz; done) | (cases hz; exact z_le.rf _))
theorem z_aal_le {i : Int32} {k : Nat} {r st' : List Value} {S S' : zS} {h h' : zH} (hz : z_aal i k r S h = some (st', S', h')) : z_le S S' := by
  unfold z_aal at hz
  repeat' split at hz
  all_goals (first | (cases hz; done) | (cases hz; exact z_le.rf _))
theorem z_aas_le {i : Int32} {v k : Nat} {r st' : List Value} {S S' : zS} {h h' : zH} (hz : z_aas v i k r S h = some (st', S', h')) : z_le S S' := by
  unfold z_aas at hz
  split at hz
  · split at hz
    · next ty rs ci fs hn hv =>
      split at hz
      · cases hz
        exact z_le.set (z_rar_ok hn) (by simp [z_sz])
      · cases hz
    · cases hz
  · cases hz
theorem z_mem_le {X : Option (List Int32)} {d own len : Nat} {i : Bool} {ins : Instr} {st st' : List Value} {S S' : zS} {h h' : zH} (hz : z_mem X d own i ins len st S h = some (st', S', h')) : z_le S S' := by
  unfold z_mem at hz
  split at hz
  · repeat' split at hz
    all_goals (first | (cases hz; done) | exact z_getf_le hz)
  · repeat' split at hz
    all_goals (first | (cases hz; done) | exact z_putf_le hz)
  · repeat' split at hz
    all_goals (first | (cases hz; done) | (cases hz; exact z_le.rf _))
  · repeat' split at hz
    all_goals (first | (cases hz; done) | (cases hz; exact z_le.rf _))
  · repeat' split at hz
    all_goals (first | (cases hz; done) | (cases hz; exact z_le.rf _))
  · repeat' split at hz
    all_goals (first | (cases hz; done) | (cases hz; exact z_le.rf _))
  · repeat' split at hz
    all_goals (first | (cases hz; done) | exact z_ald_le hz)
  · repeat' split at hz
    all_goals (first | (cases hz; done) | exact z_ald_le hz)
  · repeat' split at hz
    all_goals (first | (cases hz; done) | exact z_ald_le hz)
  · repeat' split at hz
    all_goals (first | (cases hz; done) | exact z_ast_le hz)
  · repeat' split at hz
    all_goals (first | (cases hz; done) | exact z_ast_le hz)
  · repeat' split at hz
    all_goals (first | (cases hz; done) | exact z_ast_le hz)
  · repeat' split at hz
    all_goals (first | (cases hz; done) | exact z_aln_le hz)
  · repeat' split at hz
    all_goals (first | (cases hz; done) | exact z_aal_le hz)
  · repeat' split at hz
    all_goals (first | (cases hz; done) | exact z_aas_le hz)
  · repeat' split at hz
    all_goals (first | (cases hz; done) | (unfold z_newa at hz; split at hz <;> first | (cases hz; done) | (cases hz; exact z_le.push _ _)))
  · repeat' split at hz
    all_goals (first | (cases hz; done) | (unfold z_newq at hz; repeat' split at hz))
    all_goals (first | (cases hz; done) | (cases hz; exact z_le.push _ _))
  · repeat' split at hz
    all_goals (first | (cases hz; done) | (unfold z_newc at hz; repeat' split at hz))
    all_goals (first | (cases hz; done) | (cases hz; exact z_le.push _ _))
  · repeat' split at hz
    all_goals (first | (cases hz; done) | (cases hz; exact z_le.rf _))
  · repeat' split at hz
    all_goals (first | (cases hz; done) | (unfold z_copy at hz; repeat' split at hz))
    all_goals (first | (cases hz; done) | (cases hz; exact z_le.rf _))
  · cases hz
theorem z_x_le (X : Option (List Int32)) : ∀ (n d M pc : Nat) (ls : zL) (st : List Value) (S : zS) (h : zH) (r : Option Value) (S' : zS) (h' : zH), z_x X n d M pc ls st S h = some (r, S', h') → z_le S S'
  | 0, d, M, pc, ls, st, S, h, r, S', h', hz => by simp [z_x] at hz
  | n + 1, d, M, pc, ls, st, S, h, r, S', h', hz => by
    unfold z_x at hz
    split at hz
    · cases hz
    · split at hz
      · cases hz
      · split at hz
        · exact z_x_le X n _ _ _ _ _ _ _ _ _ _ hz
        · split at hz
          · next hm => exact (z_mem_le hm).tr (z_x_le X n _ _ _ _ _ _ _ _ _ _ hz)
          · split at hz
            · cases hz
              exact z_le.rf _
            · split at hz
              · split at hz
                · cases hz
                · split at hz
                  · split at hz
                    · next h1 => exact (z_x_le X n _ _ _ _ _ _ _ _ _ _ h1).tr (z_x_le X n _ _ _ _ _ _ _ _ _ _ hz)
                    · cases hz
                  · cases hz
              · cases hz

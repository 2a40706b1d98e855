section ZLOK
variable {p : Program} {l : Launch} {e : Env} {R : Room} {s : State} {m : MethodId} {args : Array Value} {below : List Frame} {meth : Method} {c : Code} {H : Heap} {locs : List Loc} {cells slots : Nat} {Q : State → Prop}
variable {cc : ByteArray} {f : Nat → Nat}
theorem z_kind0 {v : Value} (h : z_kind 0 v = true) : ∃ x, v = .int x := by
  cases v <;> simp [z_kind] at h
  exact ⟨_, rfl⟩
theorem z_kind1 {v : Value} (h : z_kind 1 v = true) : ∃ x, v = .long x := by
  cases v <;> simp [z_kind] at h
  exact ⟨_, rfl⟩
theorem z_kind2 {f : Nat → Nat} {v : Value} (h : z_kind 2 v = true) : z_rv f v = .null ∨ ∃ x, z_rv f v = .ref x := by
  cases v with
  | null => exact Or.inl rfl
  | ref k => exact Or.inr ⟨_, rfl⟩
  | retAddr k =>
    show z_op (f k) = .null ∨ ∃ x, z_op (f k) = .ref x
    cases f k with
    | zero => exact Or.inl rfl
    | succ t => exact Or.inr ⟨t, rfl⟩
  | _ => simp [z_kind] at h
theorem z_jmp_ok {b : Bool} {off : Int} {pc pc' : Nat} {ls ls' : zL} {st st' r : List Value} {real : Array Slot} {nL : Nat} (h : z_jmp pc b off ls r = some (pc', ls', st')) (hl : z_LV f ls real nL)
    (row : ∀ tgt : Nat, (pc : Int) + off = (tgt : Int) → (b = true → W p l e R s m args below meth c H locs cells slots Q (F0 m tgt real (r.map (z_rv f)))) → (¬ b = true → W p l e R s m args below meth c H locs cells slots Q (F0 m (pc + 3) real (r.map (z_rv f)))) → W p l e R s m args below meth c H locs cells slots Q (F0 m pc real (st.map (z_rv f))))
    (kk : ∀ real', z_LV f ls' real' nL → W p l e R s m args below meth c H locs cells slots Q (F0 m pc' real' (st'.map (z_rv f)))) : W p l e R s m args below meth c H locs cells slots Q (F0 m pc real (st.map (z_rv f))) := by
  unfold z_jmp at h
  split at h
  · next tgt ht =>
    cases h
    refine row tgt (z_br_ok ht) (fun hb => ?_) (fun hb => ?_)
    · have := kk real hl
      rw [if_pos hb] at this
      exact this
    · have := kk real hl
      rw [if_neg hb] at this
      exact this
  · cases h
theorem z_if_ok (hexec : p.tables.exec = Jvm.exec) (hb : c.code = cc) {cd : Jvm.ClassFile.Cond} {off : Int} {pc pc' : Nat} {ls ls' : zL} {st' r : List Value} {real : Array Slot} {nL : Nat} {x : Int32} (hd : decode cc pc = .ok (.ifCond cd off, 3)) (h : z_jmp pc (z_cond cd x 0) off ls r = some (pc', ls', st')) (hl : z_LV f ls real nL)
    (kk : ∀ real', z_LV f ls' real' nL → W p l e R s m args below meth c H locs cells slots Q (F0 m pc' real' (st'.map (z_rv f)))) : W p l e R s m args below meth c H locs cells slots Q (F0 m pc real ((.int x :: r).map (z_rv f))) := by
  refine z_jmp_ok h hl (fun tgt ht k1 k2 => ?_) kk
  cases cd with
  | eq => exact lv_if_eq hexec hb hd ht (fun q => k1 (by simp [z_cond, q])) (fun q => k2 (by simp [z_cond, q]))
  | ne => exact lv_if_ne hexec hb hd ht (fun q => k1 (by simp [z_cond, q])) (fun q => k2 (by simp [z_cond, q]))
  | lt => exact lv_if_lt hexec hb hd ht (fun q => k1 (by simp only [z_cond, decide_eq_true_eq]; exact q)) (fun q => k2 (by simp only [z_cond, decide_eq_true_eq]; exact q))
  | ge => exact lv_if_ge hexec hb hd ht (fun q => k1 (by simp only [z_cond, decide_eq_true_eq]; exact q)) (fun q => k2 (by simp only [z_cond, decide_eq_true_eq]; exact q))
  | gt => exact lv_if_gt hexec hb hd ht (fun q => k1 (by simp only [z_cond, decide_eq_true_eq]; exact q)) (fun q => k2 (by simp only [z_cond, decide_eq_true_eq]; exact q))
  | le => exact lv_if_le hexec hb hd ht (fun q => k1 (by simp only [z_cond, decide_eq_true_eq]; exact q)) (fun q => k2 (by simp only [z_cond, decide_eq_true_eq]; exact q))
theorem z_icmp_ok (hexec : p.tables.exec = Jvm.exec) (hb : c.code = cc) {cd : Jvm.ClassFile.Cond} {off : Int} {pc pc' : Nat} {ls ls' : zL} {st' r : List Value} {real : Array Slot} {nL : Nat} {x y : Int32} (hd : decode cc pc = .ok (.if_icmp cd off, 3)) (h : z_jmp pc (z_cond cd x y) off ls r = some (pc', ls', st')) (hl : z_LV f ls real nL)
    (kk : ∀ real', z_LV f ls' real' nL → W p l e R s m args below meth c H locs cells slots Q (F0 m pc' real' (st'.map (z_rv f)))) : W p l e R s m args below meth c H locs cells slots Q (F0 m pc real ((.int y :: .int x :: r).map (z_rv f))) := by
  refine z_jmp_ok h hl (fun tgt ht k1 k2 => ?_) kk
  cases cd with
  | eq => exact lv_icmp_eq hexec hb hd ht (fun q => k1 (by simp [z_cond, q])) (fun q => k2 (by simp [z_cond, q]))
  | ne => exact lv_icmp_ne hexec hb hd ht (fun q => k1 (by simp [z_cond, q])) (fun q => k2 (by simp [z_cond, q]))
  | lt => exact lv_icmp_lt hexec hb hd ht (fun q => k1 (by simp only [z_cond, decide_eq_true_eq]; exact q)) (fun q => k2 (by simp only [z_cond, decide_eq_true_eq]; exact q))
  | ge => exact lv_icmp_ge hexec hb hd ht (fun q => k1 (by simp only [z_cond, decide_eq_true_eq]; exact q)) (fun q => k2 (by simp only [z_cond, decide_eq_true_eq]; exact q))
  | gt => exact lv_icmp_gt hexec hb hd ht (fun q => k1 (by simp only [z_cond, decide_eq_true_eq]; exact q)) (fun q => k2 (by simp only [z_cond, decide_eq_true_eq]; exact q))
  | le => exact lv_icmp_le hexec hb hd ht (fun q => k1 (by simp only [z_cond, decide_eq_true_eq]; exact q)) (fun q => k2 (by simp only [z_cond, decide_eq_true_eq]; exact q))
theorem z_tsw_ok (hexec : p.tables.exec = Jvm.exec) (hb : c.code = cc) {dflt lo hi : Int} {offs : Array Int} {len pc pc' : Nat} {ls ls' : zL} {st st' : List Value} {real : Array Slot} {nL : Nat} (hd : decode cc pc = .ok (.tableswitch dflt lo hi offs, len)) (h : z_tsw dflt lo hi offs pc ls st = some (pc', ls', st')) (hl : z_LV f ls real nL)
    (kk : ∀ real', z_LV f ls' real' nL → W p l e R s m args below meth c H locs cells slots Q (F0 m pc' real' (st'.map (z_rv f)))) : W p l e R s m args below meth c H locs cells slots Q (F0 m pc real (st.map (z_rv f))) := by
  unfold z_tsw at h
  split at h
  · split at h
    · next hout =>
      split at h
      · next tgt ht =>
        cases h
        exact lv_tableOut hexec hb hd hout (z_br_ok ht) (kk real hl)
      · cases h
    · next hin =>
      split at h
      · next off ho =>
        split at h
        · next tgt ht =>
          cases h
          exact lv_tableIn hexec hb hd (fun q => hin (Or.inl q)) (fun q => hin (Or.inr q)) ho (z_br_ok ht) (kk real hl)
        · cases h
      · cases h
  · cases h
set_option maxHeartbeats 4000000 in
theorem z_loc_ok (hexec : p.tables.exec = Jvm.exec) (hb : c.code = cc) {ins : Instr} {len pc pc' : Nat} {ls ls' : zL} {st st' : List Value} {real : Array Slot} {nL : Nat} (hd : decode cc pc = .ok (ins, len)) (h : z_loc ins len pc ls st = some (pc', ls', st')) (hl : z_LV f ls real nL)
    (kk : ∀ real', z_LV f ls' real' nL → W p l e R s m args below meth c H locs cells slots Q (F0 m pc' real' (st'.map (z_rv f)))) : W p l e R s m args below meth c H locs cells slots Q (F0 m pc real (st.map (z_rv f))) := by
  unfold z_loc at h
  split at h
  · exact z_push_ok h hd hl (fun hd k => lv_iconst hexec hb hd rfl k) kk
  · exact z_push_ok h hd hl (fun hd k => lv_bipush hexec hb hd rfl k) kk
  · exact z_push_ok h hd hl (fun hd k => lv_sipush hexec hb hd rfl k) kk
  · exact z_push_ok h hd hl (fun hd k => lv_lconst hexec hb hd rfl k) kk
  · exact z_push_ok h hd hl (fun hd k => lv_null hexec hb hd k) kk
  · exact z_ld_ok h hd hl (fun v hk hv hd k => by obtain ⟨x, rfl⟩ := z_kind0 hk; exact lv_iload_n hexec hb hd rfl hv k) kk
  · exact z_ld_ok h hd hl (fun v hk hv hd k => by obtain ⟨x, rfl⟩ := z_kind0 hk; exact lv_iload hexec hb hd hv k) kk
  · exact z_ld_ok h hd hl (fun v hk hv hd k => by obtain ⟨x, rfl⟩ := z_kind1 hk; exact lv_lload_n hexec hb hd rfl hv k) kk
  · exact z_ld_ok h hd hl (fun v hk hv hd k => by obtain ⟨x, rfl⟩ := z_kind1 hk; exact lv_lload hexec hb hd hv k) kk
  · exact z_ld_ok h hd hl (fun v hk hv hd k => by
      rcases z_kind2 (f := f) hk with e0 | ⟨x, e0⟩
      · rw [e0] at hv k
        exact lv_aload_nN hexec hb hd rfl hv k
      · rw [e0] at hv k
        exact lv_aload_n hexec hb hd rfl hv k) kk
  · exact z_ld_ok h hd hl (fun v hk hv hd k => by
      rcases z_kind2 (f := f) hk with e0 | ⟨x, e0⟩
      · rw [e0] at hv k
        exact lv_aloadN hexec hb hd hv k
      · rw [e0] at hv k
        exact lv_aload hexec hb hd hv k) kk
  · exact z_sto_ok h hd hl (fun v rest ht hk hi hd k => by obtain ⟨x, rfl⟩ := z_kind0 hk; exact lv_istore_n hexec hb hd rfl hl.2 hi rfl (fun r h => k r (z_LV.st1 (v := .int x) hl.1 h))) (fun v rest ht => absurd ht (by decide)) kk
  · exact z_sto_ok h hd hl (fun v rest ht hk hi hd k => by obtain ⟨x, rfl⟩ := z_kind0 hk; exact lv_istore hexec hb hd hl.2 hi rfl (fun r h => k r (z_LV.st1 (v := .int x) hl.1 h))) (fun v rest ht => absurd ht (by decide)) kk
  · exact z_sto_ok h hd hl (fun v rest ht => absurd rfl ht) (fun v rest ht hk hi hd k => by obtain ⟨x, rfl⟩ := z_kind1 hk; exact lv_lstore_n hexec hb hd rfl hl.2 hi rfl (fun r h => k r (z_LV.st2 (v := .long x) hl.1 h))) kk
  · exact z_sto_ok h hd hl (fun v rest ht => absurd rfl ht) (fun v rest ht hk hi hd k => by obtain ⟨x, rfl⟩ := z_kind1 hk; exact lv_lstore hexec hb hd hl.2 hi rfl (fun r h => k r (z_LV.st2 (v := .long x) hl.1 h))) kk
  · exact z_sto_ok h hd hl (fun v rest ht hk hi hd k => by
      rcases z_kind2 (f := f) hk with e0 | ⟨x, e0⟩
      · rw [e0]
        exact lv_astore_nN hexec hb hd rfl hl.2 hi rfl (fun r h => k r (z_LV.st1 (v := v) hl.1 (by rw [e0]; exact h)))
      · rw [e0]
        exact lv_astore_n hexec hb hd rfl hl.2 hi rfl (fun r h => k r (z_LV.st1 (v := v) hl.1 (by rw [e0]; exact h)))) (fun v rest ht => absurd ht (by decide)) kk
  · exact z_sto_ok h hd hl (fun v rest ht hk hi hd k => by
      rcases z_kind2 (f := f) hk with e0 | ⟨x, e0⟩
      · rw [e0]
        exact lv_astoreN hexec hb hd hl.2 hi rfl (fun r h => k r (z_LV.st1 (v := v) hl.1 (by rw [e0]; exact h)))
      · rw [e0]
        exact lv_astore hexec hb hd hl.2 hi rfl (fun r h => k r (z_LV.st1 (v := v) hl.1 (by rw [e0]; exact h)))) (fun v rest ht => absurd ht (by decide)) kk
  · split at h
    · next x hx =>
      split at h
      · next hc =>
        obtain ⟨rfl, hi⟩ := hc
        cases h
        obtain ⟨k0, hk0⟩ := List.getElem?_of_mem (List.mem_map.mpr ⟨(_, Value.int x), (z_prs_mem ls 0 _ _).mpr ⟨Nat.zero_le _, z_get_iff.mp hx⟩, rfl⟩ : _ ∈ (z_prs 0 ls).map fun q => (q.1, z_rv f q.2))
        exact lv_iinc (k := k0) hexec hb hd hl.2 hk0 rfl (by rw [← hl.1]; exact hi) rfl (fun r h => kk r (z_LV.st1 (v := .int _) hl.1 h))
      · cases h
    · cases h
  · exact z_ii_ok h hd hl (fun x y rest hd k => lv_iadd hexec hb hd k) kk
  · exact z_ii_ok h hd hl (fun x y rest hd k => lv_isub hexec hb hd k) kk
  · exact z_ii_ok h hd hl (fun x y rest hd k => lv_imul hexec hb hd k) kk
  · exact z_ii_ok h hd hl (fun x y rest hd k => lv_iand hexec hb hd k) kk
  · exact z_ii_ok h hd hl (fun x y rest hd k => lv_ior hexec hb hd k) kk
  · exact z_ii_ok h hd hl (fun x y rest hd k => lv_ixor hexec hb hd k) kk
  · exact z_ii_ok h hd hl (fun x y rest hd k => lv_ishl hexec hb hd k) kk
  · exact z_ii_ok h hd hl (fun x y rest hd k => lv_ishr hexec hb hd k) kk
  · exact z_ii_ok h hd hl (fun x y rest hd k => lv_iushr hexec hb hd rfl k) kk
  · exact z_dv_ok h hd hl (fun x y rest hy hd k => lv_idiv hexec hb hd hy k) kk
  · exact z_dv_ok h hd hl (fun x y rest hy hd k => lv_irem hexec hb hd hy k) kk
  · exact z_ll_ok h hd hl (fun x y rest hd k => lv_ladd hexec hb hd k) kk
  · exact z_ll_ok h hd hl (fun x y rest hd k => lv_lsub hexec hb hd k) kk
  · exact z_ll_ok h hd hl (fun x y rest hd k => lv_lmul hexec hb hd k) kk
  · exact z_ll_ok h hd hl (fun x y rest hd k => lv_land hexec hb hd k) kk
  · exact z_ll_ok h hd hl (fun x y rest hd k => lv_lor hexec hb hd k) kk
  · exact z_ll_ok h hd hl (fun x y rest hd k => lv_lxor hexec hb hd k) kk
  · exact z_li_ok h hd hl (fun x y rest hd k => lv_lshl hexec hb hd rfl k) kk
  · exact z_li_ok h hd hl (fun x y rest hd k => lv_lshr hexec hb hd rfl k) kk
  · exact z_li_ok h hd hl (fun x y rest hd k => lv_lushr hexec hb hd rfl k) kk
  · exact z_i1_ok h hd hl (fun x rest hd k => lv_ineg hexec hb hd k) kk
  · exact z_i1_ok h hd hl (fun x rest hd k => lv_i2l hexec hb hd rfl k) kk
  · exact z_i1_ok h hd hl (fun x rest hd k => lv_i2b hexec hb hd rfl k) kk
  · exact z_i1_ok h hd hl (fun x rest hd k => lv_i2s hexec hb hd rfl k) kk
  · exact z_i1_ok h hd hl (fun x rest hd k => lv_i2c hexec hb hd rfl k) kk
  · exact z_l1_ok h hd hl (fun x rest hd k => lv_l2i hexec hb hd rfl k) kk
  · split at h
    · split at h
      · next hk =>
        subst hk
        cases h
        exact W.lcmp hexec hb hd (kk real hl)
      · cases h
    · cases h
  · split at h
    · split at h
      · next hk =>
        obtain ⟨rfl, h1⟩ := hk
        cases h
        exact lv_dup hexec hb hd (by rw [z_rv_cat]; exact h1) (kk real hl)
      · cases h
    · cases h
  · split at h
    · split at h
      · next hk =>
        obtain ⟨rfl, h1⟩ := hk
        cases h
        exact lv_pop hexec hb hd (by rw [z_rv_cat]; exact h1) (kk real hl)
      · cases h
    · cases h
  · split at h
    · split at h
      · next hk =>
        obtain ⟨rfl, h1, h2⟩ := hk
        cases h
        exact lv_dup2_11 hexec hb hd (by rw [z_rv_cat]; exact h1) (by rw [z_rv_cat]; exact h2) (kk real hl)
      · cases h
    · cases h
  · split at h
    · split at h
      · next hk =>
        obtain ⟨rfl, h1, h2⟩ := hk
        cases h
        exact lv_dup_x1 hexec hb hd (by rw [z_rv_cat]; exact h1) (by rw [z_rv_cat]; exact h2) (kk real hl)
      · cases h
    · cases h
  · split at h
    · next hk =>
      subst hk
      exact z_jmp_ok h hl (fun tgt ht k1 k2 => lv_goto hexec hb hd ht (k1 rfl)) kk
    · cases h
  · split at h
    · split at h
      · next hk =>
        subst hk
        exact z_if_ok hexec hb hd h hl kk
      · cases h
    · cases h
  · split at h
    · split at h
      · next hk =>
        subst hk
        exact z_icmp_ok hexec hb hd h hl kk
      · cases h
    · cases h
  · exact z_tsw_ok hexec hb hd h hl kk
  · cases h
end ZLOK

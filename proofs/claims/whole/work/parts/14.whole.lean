/-- THE LAW, from its entry, out of a run of my own machine -/
theorem z_whole {p : Program} {e : Env} {s : State} {m : MethodId} {below : List Frame} {meth : Method} {c : Code} (l : Launch) {b L : Nat} {xs : Nat → Int32} (C0 : lw_At p s m meth c b L xs)
    (hp : ∃ (n : Nat) (S' : zS) (h' : zH), z_x (some ((List.range L).map xs)) n 2000 0 0 (z_ent [.ref 100000] 4) [] [] (fun _ _ => 0) = some (some (.int 1), S', h') ∧ S'.length ≤ 600000 ∧ z_tot S' ≤ 7302249) : W p l e room_1 s m #[Value.ref b] below meth c s.heap [] 0 0 (lw_Z below #[Value.ref b] s) (entryFrame m ([Value.ref b] : List Value).toArray 4) := by
  obtain ⟨hx, hb, hr, hml, hown, hts, hX, hbl, hlocks, hgv⟩ := C0
  obtain ⟨n, S', h', hrun, hc1, hc2⟩ := hp
  have hz : ∀ w ∈ z_tbl, w.before #[Value.ref b] s = true := fun w hw => hts w (List.mem_filter.mp hw).1
  have hfl : ∀ w ∈ z_fl0, w.before #[Value.ref b] s = true := flat_of_before _ hgv
  have hA : ∀ a : Nat, a < s.heap.size → ¬ (fun q : Nat => s.heap.size ≤ q) a := fun a h => Nat.not_le.mpr h
  obtain ⟨D, hK⟩ := z_known hts
  obtain ⟨F, hF⟩ := z_start_s (A := fun q => s.heap.size ≤ q) hfl hA
  obtain ⟨t0, hZ0, hT0⟩ := z_start_g (A := fun q => s.heap.size ≤ q) hts hfl hA (i := 0) (by decide) z_ls0
  obtain ⟨t1, hZ1, hT1⟩ := z_start_g (A := fun q => s.heap.size ≤ q) hts hfl hA (i := 1) (by decide) z_ls1
  obtain ⟨t2, hZ2, hT2⟩ := z_start_g (A := fun q => s.heap.size ≤ q) hts hfl hA (i := 2) (by decide) z_ls2
  have hZ3 := va_Zof (A := fun q => s.heap.size ≤ q) (hts _ z_ls3) (hts _ z_inS) (va_eqi (hfl _ z_f3)) hA
  obtain ⟨fm, hZ4⟩ : ∃ fm : Nat, va_Z "jdk/internal/util/Preconditions" "SIOOBE_FORMATTER" "Ljava/util/function/BiFunction;" (z_op fm) (fun q => s.heap.size ≤ q) s s.heap := by
    rcases va_Zqof (A := fun q => s.heap.size ≤ q) (hts _ z_ls4) (hts _ z_inP) (hfl _ z_f4) hA with h | ⟨t, h⟩
    · exact ⟨0, h⟩
    · exact ⟨t + 1, h⟩
  obtain ⟨ro, hr0⟩ : ∃ ro : Nat → Nat, ro = fun k => if k = 100000 then b else if k = 100001 then t0 else if k = 100002 then t1 else if k = 100003 then t2 else if k < 100050 then (F (k - 100004)).2 else if k < 100150 then (F (k - 100100)).1 else fm := ⟨_, rfl⟩
  have r0 : ro 100000 = b := by rw [hr0]; rfl
  have r1 : ro 100001 = t0 := by rw [hr0]; rfl
  have r2 : ro 100002 = t1 := by rw [hr0]; rfl
  have r3 : ro 100003 = t2 := by rw [hr0]; rfl
  have r4 : ∀ i : Nat, i < 13 → ro (100004 + i) = (F i).2 := by
    intro i hi
    rw [hr0]
    dsimp only
    rw [if_neg (by omega), if_neg (by omega), if_neg (by omega), if_neg (by omega), if_pos (by omega), Nat.add_sub_cancel_left]
  have r5 : ∀ i : Nat, i < 13 → ro (100100 + i) = (F i).1 := by
    intro i hi
    rw [hr0]
    dsimp only
    rw [if_neg (by omega), if_neg (by omega), if_neg (by omega), if_neg (by omega), if_neg (by omega), if_pos (by omega), Nat.add_sub_cancel_left]
  have r6 : ro 100200 = fm := by rw [hr0]; rfl
  have hxl : ((List.range L).map xs).length = L := by simp
  have hRO : z_RO (some ((List.range L).map xs)) s.heap.size ro s s.heap := by
    refine ⟨?_, ?_, ?_, ?_, ?_, va_AO.of (hts _ z_aoT), va_AO.of (hts _ z_aoS)⟩
    · intro i ty li hli
      match i, hli with
      | 0, hli =>
        cases hli
        rw [r0, hxl]
        obtain ⟨scr, g1, g2, g3, g4, g5⟩ := hX
        refine ⟨scr, g1, g2, g3, Nat.le_of_eq g4.symm, by rw [g4], fun j hj => ?_, hA b hbl⟩
        rw [g5 j hj]
        simp [List.getD_eq_getElem?_getD, List.getElem?_map, List.getElem?_range hj]
      | 1, hli =>
        cases hli
        rw [r1]
        exact hT0
      | 2, hli =>
        cases hli
        rw [r2]
        exact hT1
      | 3, hli =>
        cases hli
        rw [r3]
        exact hT2
      | i + 4, hli =>
        have h1 : (z_str.map fun l => (FieldType.byte, l))[i]? = some (ty, li) := hli
        rw [List.getElem?_map] at h1
        cases hs : z_str[i]? with
        | none => rw [hs] at h1; cases h1
        | some l2 =>
          rw [hs] at h1
          cases h1
          have hi : i < 13 := (List.getElem?_eq_some_iff.mp hs).1
          have e1 : z_str.getD i [] = li := by rw [List.getD_eq_getElem?_getD, hs]; rfl
          have h2 := (hF i hi).2.2.2.2
          rw [e1] at h2
          rw [show 100000 + (i + 4) = 100004 + i by omega, r4 i hi]
          exact h2
    · intro i q hq
      match i, hq with
      | 0, hq =>
        cases hq
        show va_Z _ _ _ (.ref (z_ad s.heap.size ro 100001)) _ _ _
        rw [z_ad_hi (by decide), r1]
        exact hZ0
      | 1, hq =>
        cases hq
        show va_Z _ _ _ (.ref (z_ad s.heap.size ro 100002)) _ _ _
        rw [z_ad_hi (by decide), r2]
        exact hZ1
      | 2, hq =>
        cases hq
        show va_Z _ _ _ (.ref (z_ad s.heap.size ro 100003)) _ _ _
        rw [z_ad_hi (by decide), r3]
        exact hZ2
      | 3, hq =>
        cases hq
        exact hZ3
      | 4, hq =>
        cases hq
        show va_Z _ _ _ (z_op (z_ad s.heap.size ro 100200)) _ _ _
        rw [z_ad_hi (by decide), r6]
        exact hZ4
      | i + 5, hq => simp [z_gN] at hq
    · intro i hi
      obtain ⟨g1, g2, g3, g4, g5⟩ := hF i hi
      rw [r5 i hi, r4 i hi]
      exact ⟨g2, g3, g4⟩
    · intro q hq
      obtain ⟨h1, h2⟩ := z_sT_tm q hq
      refine vk_R.of (A := #[Value.ref b]) (hts _ (z_sR q hq)) ?_
      rw [h2, r5 _ h1]
      exact (hF _ h1).1
    · intro q hq hk
      exact va_Nw.of rfl (hts _ (z_nestW q hq hk))
  rw [lg_entry_eq]
  have hI : z_In D (z_cA s) s.heap.size ro s [] (fun _ _ => 0) s.heap [] := ⟨fun k q h => by simp [z_w] at h, va_S.rf⟩
  have hEnt := z_ent_ok (z_ad s.heap.size ro) [.ref 100000] (n := 4) (by decide)
  have e0 : ([Value.ref 100000] : List Value).map (z_rv (z_ad s.heap.size ro)) = [Value.ref b] := by
    show [Value.ref (z_ad s.heap.size ro 100000)] = _
    rw [z_ad_hi (by decide), r0]
  rw [e0] at hEnt
  refine z_snd (some ((List.range L).map xs)) n 2000 0 0 _ [] [] _ _ S' h' hrun z_m0 rfl D (z_cA s) s.heap.size ro p l e room_1 s m _ below meth c s.heap [] 0 0 _ _ ⟨hx, hb, hml, hown, hz, (fun h => absurd h (by decide)), hK, hRO, Nat.le_refl _⟩ hI (by simp) hEnt (by decide) (by decide) ⟨?_, ?_⟩ ?_
  · show 0 + (S'.length - 0) ≤ 600000
    omega
  · show 0 + (z_tot S' - 0) ≤ 7302249
    omega
  · intro H' locs' cells' slots' pc' real' ins st' hk1 hk2 hI' hd hret
    have hst : ins = .ireturn ∧ st' = [.int 1] := by
      unfold z_ret at hret
      split at hret
      · split at hret
        · split at hret
          · cases hret
            exact ⟨rfl, rfl⟩
          · cases hret
        · cases hret
      · split at hret
        · split at hret
          · cases hret
          · cases hret
        · cases hret
      · split at hret
        · split at hret
          · cases hret
          · cases hret
        · cases hret
      · cases hret
    obtain ⟨rfl, rfl⟩ := hst
    refine va_forget (fun q hq => hI'.2.2.2 q hq) ?_
    refine W.widen (k := 600000) (n := 7302249) ?_ ?_ ?_
    · rw [hk1]
      show 0 + (S'.length - 0) ≤ 600000
      omega
    · rw [hk2]
      show 0 + (z_tot S' - 0) ≤ 7302249
      omega
    · exact lw_ret hx hb hr hlocks hd

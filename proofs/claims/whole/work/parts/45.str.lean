/-! the texts' own: length, charAt -/
theorem kl15_335 : z_cal 15 335 = some (218, 0, 0) := by decide +kernel
theorem kl15_492 : z_cal 15 492 = some (219, 0, 0) := by decide +kernel
theorem kl15_495 : z_cal 15 495 = some (221, 1, 2) := by decide +kernel
theorem kl16_9 : z_cal 16 9 = some (220, 1, 2) := by decide +kernel
theorem kl15_1059 : z_cal 15 1059 = some (223, 1, 3) := by decide +kernel
theorem ky15_495 : z_isY 15 495 = false := by decide +kernel
theorem ky16_9 : z_isY 16 9 = false := by decide +kernel
theorem ky15_1059 : z_isY 15 1059 = false := by decide +kernel
theorem kg15_38 : z_sta 15 38 = some (.int 1) := by decide +kernel
theorem kg15_1053 : z_sta 15 1053 = some (.retAddr 100200) := by decide +kernel
def z_stn (i : Nat) : List Int32 := z_str.getD i []
theorem zroS (X : Option (List Int32)) {i : Nat} (hi : i < 13) : z_roA X (100004 + i - 100000) = some (.byte, z_stn i) := by
  match i, hi with
  | 0, _ => rfl
  | 1, _ => rfl
  | 2, _ => rfl
  | 3, _ => rfl
  | 4, _ => rfl
  | 5, _ => rfl
  | 6, _ => rfl
  | 7, _ => rfl
  | 8, _ => rfl
  | 9, _ => rfl
  | 10, _ => rfl
  | 11, _ => rfl
  | 12, _ => rfl
  | i + 13, h => omega
section ZST
variable {X : Option (List Int32)} {d M pc i k : Nat} {S : zS} {h : zH} {ls : zL} {st : List Value} {Q : Option Value → zH → Prop} {e : zM}
theorem zgSv (he : z_M[M]? = some e) (hf : e.2.2.2.2.2.lookup pc = some (.getfield 9, 3)) (ho : e.2.2.2.2.1 = 15) (hi : i < 13) (kk : zP X d M (pc + 3) ls (.ref (100004 + i) :: st) S h Q) : zP X d M pc ls (.ref (100100 + i) :: st) S h Q := by
  refine zm he hf rfl (st' := .ref (100004 + i) :: st) (h' := h) ?_ kk
  show (if 3 = 3 then z_getf e.2.2.2.2.1 9 (100100 + i) st S h else none) = _
  rw [if_pos rfl, ho]
  unfold z_getf
  rw [if_neg (by omega), if_pos ⟨by omega, by omega, rfl⟩, if_pos rfl]
  rw [show 100100 + i - 96 = 100004 + i by omega]
theorem zgSc (he : z_M[M]? = some e) (hf : e.2.2.2.2.2.lookup pc = some (.getfield 15, 3)) (ho : e.2.2.2.2.1 = 15) (hi : i < 13) (kk : zP X d M (pc + 3) ls (.int 0 :: st) S h Q) : zP X d M pc ls (.ref (100100 + i) :: st) S h Q := by
  refine zm he hf rfl (st' := .int 0 :: st) (h' := h) ?_ kk
  show (if 3 = 3 then z_getf e.2.2.2.2.1 15 (100100 + i) st S h else none) = _
  rw [if_pos rfl, ho]
  unfold z_getf
  rw [if_neg (by omega), if_pos ⟨by omega, by omega, rfl⟩, if_neg (by decide), if_pos rfl]
theorem zlnR {ty : FieldType} {l : List Int32} (he : z_M[M]? = some e) (hf : e.2.2.2.2.2.lookup pc = some (.arraylength, 1)) (hk : ¬ k < 100000) (hS : z_roA X (k - 100000) = some (ty, l)) (kk : zP X d M (pc + 1) ls (.int (Int32.ofNat l.length) :: st) S h Q) : zP X d M pc ls (.ref k :: st) S h Q := by
  refine zm he hf rfl (st' := .int (Int32.ofNat l.length) :: st) (h' := h) ?_ kk
  show (if 1 = 1 then z_aln k st X S h else none) = _
  rw [if_pos rfl]
  unfold z_aln
  rw [if_neg hk]
  simp only [hS]
theorem zbaR {ty : FieldType} {l : List Int32} {j : Int32} (he : z_M[M]? = some e) (hf : e.2.2.2.2.2.lookup pc = some (.baload, 1)) (hk : ¬ k < 100000) (hS : z_roA X (k - 100000) = some (ty, l)) (ht : ty ∈ ([.byte, .boolean] : List FieldType)) (hj : z_ib j l.length) (kk : zP X d M (pc + 1) ls (.int (l.getD j.toNatClampNeg 0) :: st) S h Q) : zP X d M pc ls (.int j :: .ref k :: st) S h Q := by
  refine zm he hf rfl (st' := .int (l.getD j.toNatClampNeg 0) :: st) (h' := h) ?_ kk
  show (if 1 = 1 then z_ald [.byte, .boolean] j k st X S h else none) = _
  rw [if_pos rfl]
  unfold z_ald
  rw [if_neg hk]
  simp only [hS]
  rw [if_pos ⟨ht, hj⟩]
end ZST
section ZSU
variable {X : Option (List Int32)} {d i : Nat} {S : zS} {h : zH} {A : Int32 → zH → Prop}
theorem c218 (hi : i < 13) (k : A 0 h) : zP X d 218 0 (z_ent [.ref (100100 + i)] 1) [] S h (zI A) := by
  show zP X d 218 0 [some (.ref (100100 + i))] [] S h (zI A)
  refine zgs zM218 q218_0 kg15_38 ?_
  refine zb1_eq zM218 q218_3 (tgt := 13) rfl (fun hc => absurd hc (by decide)) (fun _ => ?_)
  refine zl zM218 q218_6 rfl ?_
  refine zgSc zM218 q218_7 rfl hi ?_
  refine zl zM218 q218_10 rfl ?_
  exact zri zM218 q218_14 rfl rfl k
theorem c219 (hi : i < 13) (k : A 1 h) : zP X d 219 0 (z_ent [.ref (100100 + i)] 1) [] S h (zI A) := by
  show zP X d 219 0 [some (.ref (100100 + i))] [] S h (zI A)
  refine zgs zM219 q219_0 kg15_38 ?_
  refine zb1_eq zM219 q219_3 (tgt := 17) rfl (fun hc => absurd hc (by decide)) (fun _ => ?_)
  refine zl zM219 q219_6 rfl ?_
  refine zgSc zM219 q219_7 rfl hi ?_
  refine zb1_ne zM219 q219_10 (tgt := 17) rfl (fun hc => absurd rfl hc) (fun _ => ?_)
  refine zkI zM219 q219_13 kI1 ?_
  refine zl zM219 q219_14 rfl ?_
  exact zri zM219 q219_18 rfl rfl k
theorem c216 (hi : i < 13) (k : A (nI (z_stn i).length) h) : zP X (d + 1) 216 0 (z_ent [.ref (100100 + i)] 1) [] S h (zI A) := by
  show zP X (d + 1) 216 0 [some (.ref (100100 + i))] [] S h (zI A)
  refine zl zM216 q216_0 rfl ?_
  refine zgSv zM216 q216_1 rfl hi ?_
  refine zlnR zM216 q216_4 (by omega) (zroS X hi) ?_
  refine zl zM216 q216_5 rfl ?_
  refine zcV zM216 q216_6 kl15_335 rfl rfl (Nat.le_of_ble_eq_true rfl) (zrStr hi) zM218 (Nat.le_of_ble_eq_true rfl) ((c218 (A := fun v h1 => v = 0 ∧ h1 = h) hi ⟨rfl, rfl⟩).mono (fun r0 h2 hr => ?_))
  obtain ⟨v, rfl, rfl, rfl⟩ := hr
  show zP X (d + 1) 216 9 [some (.ref (100100 + i))] [.int 0, .int (nI (z_stn i).length)] S h2 (zI A)
  refine zl zM216 q216_9 (pc' := 10) (st' := .int (nI (z_stn i).length >>> ((0 : Int32) &&& 31)) :: []) rfl ?_
  have hl : (z_stn i).length ≤ 43 := by
    have : ∀ i, i < 13 → (z_stn i).length ≤ 43 := by decide +kernel
    exact this i hi
  have e := z_shr (s := (z_stn i).length) (k := 0) (by omega) (by decide)
  rw [Nat.pow_zero, Nat.div_one] at e
  have e : nI (z_stn i).length >>> ((0 : Int32) &&& 31) = nI (z_stn i).length := e
  rw [e]
  exact zri zM216 q216_10 rfl rfl k
theorem c223 {j n : Nat} (hj : j < n) (hn : n < 2 ^ 31) (k : A (nI j) h) : zP X d 223 0 (z_ent [.int (nI j), .int (nI n), .retAddr 100200] 3) [] S h (zI A) := by
  show zP X d 223 0 [some (.int (nI j)), some (.int (nI n)), some (.retAddr 100200)] [] S h (zI A)
  refine zl zM223 q223_0 rfl ?_
  refine zb1_lt zM223 q223_1 (tgt := 9) rfl (fun hc => absurd hc (nI_pos (by omega))) (fun _ => ?_)
  refine zl zM223 q223_4 rfl ?_
  refine zl zM223 q223_5 rfl ?_
  refine zb2_lt zM223 q223_6 (tgt := 16) rfl (fun _ => ?_) (fun hc => absurd (nI_lt hj hn) hc)
  refine zl zM223 q223_16 rfl ?_
  exact zri zM223 q223_17 rfl rfl k
theorem c220 {B : zH → Prop} {j n : Nat} (hj : j < n) (hn : n < 2 ^ 31) (k : B h) : zP X (d + 1) 220 0 (z_ent [.int (nI j), .int (nI n)] 2) [] S h (zV B) := by
  show zP X (d + 1) 220 0 [some (.int (nI j)), some (.int (nI n))] [] S h (zV B)
  refine zl zM220 q220_0 rfl ?_
  refine zl zM220 q220_1 rfl ?_
  refine zgs zM220 q220_2 kg15_1053 ?_
  refine zcS zM220 q220_5 ky15_1059 kl15_1059 (by decide) rfl (Nat.le_of_ble_eq_true rfl) zM223 (Nat.le_of_ble_eq_true rfl) ((c223 (A := fun v h1 => v = nI j ∧ h1 = h) hj hn ⟨rfl, rfl⟩).mono (fun r0 h2 hr => ?_))
  obtain ⟨v, rfl, rfl, rfl⟩ := hr
  show zP X (d + 1) 220 8 [some (.int (nI j)), some (.int (nI n))] [.int (nI j)] S h2 (zV B)
  refine zl zM220 q220_8 rfl ?_
  exact zrv zM220 q220_9 rfl k
def z_chv (x : Int32) : Int32 := ((x &&& 255).toUInt32 % 65536).toInt32
theorem z_chn : ∀ i, i < 13 → ∀ j, j < (z_stn i).length → narrow .char (.int (z_chv ((z_stn i).getD j 0))) = .int (z_chv ((z_stn i).getD j 0)) := by decide +kernel
theorem c221 {j : Nat} (hi : i < 13) (hj : j < (z_stn i).length) (k : A (z_chv ((z_stn i).getD j 0)) h) : zP X (d + 2) 221 0 (z_ent [.ref (100004 + i), .int (nI j)] 2) [] S h (zI A) := by
  have hl : (z_stn i).length ≤ 43 := by
    have : ∀ i, i < 13 → (z_stn i).length ≤ 43 := by decide +kernel
    exact this i hi
  show zP X (d + 2) 221 0 [some (.ref (100004 + i)), some (.int (nI j))] [] S h (zI A)
  refine zl zM221 q221_0 rfl ?_
  refine zl zM221 q221_1 rfl ?_
  refine zlnR zM221 q221_2 (by omega) (zroS X hi) ?_
  refine zcS zM221 q221_3 ky16_9 kl16_9 (by decide) rfl (Nat.le_of_ble_eq_true rfl) zM220 (Nat.le_of_ble_eq_true rfl) ((c220 (B := fun h1 => h1 = h) hj (by omega) rfl).mono (fun r0 h2 hr => ?_))
  obtain ⟨rfl, rfl⟩ := hr
  show zP X (d + 2) 221 6 [some (.ref (100004 + i)), some (.int (nI j))] [] S h2 (zI A)
  refine zl zM221 q221_6 rfl ?_
  refine zl zM221 q221_7 rfl ?_
  refine zbaR zM221 q221_8 (by omega) (zroS X hi) (by decide) (vp_in_nI hj (by omega)) ?_
  rw [nI_clamp (show j < 2 ^ 31 by omega)]
  refine zkS zM221 q221_9 (v := 255) (by decide) ?_
  refine zl zM221 q221_12 (pc' := 13) (st' := .int ((z_stn i).getD j 0 &&& 255) :: []) rfl ?_
  refine zl zM221 q221_13 (pc' := 14) (st' := .int (z_chv ((z_stn i).getD j 0)) :: []) rfl ?_
  exact zri zM221 q221_14 rfl (z_chn i hi j hj) k
theorem c217 {j : Nat} (hi : i < 13) (hj : j < (z_stn i).length) (k : A (z_chv ((z_stn i).getD j 0)) h) : zP X (d + 3) 217 0 (z_ent [.ref (100100 + i), .int (nI j)] 2) [] S h (zI A) := by
  show zP X (d + 3) 217 0 [some (.ref (100100 + i)), some (.int (nI j))] [] S h (zI A)
  refine zl zM217 q217_0 rfl ?_
  refine zcV zM217 q217_1 kl15_492 rfl rfl (Nat.le_of_ble_eq_true rfl) (zrStr hi) zM219 (Nat.le_of_ble_eq_true rfl) ((c219 (A := fun v h1 => v = 1 ∧ h1 = h) hi ⟨rfl, rfl⟩).mono (fun r0 h2 hr => ?_))
  obtain ⟨v, rfl, rfl, rfl⟩ := hr
  show zP X (d + 3) 217 4 [some (.ref (100100 + i)), some (.int (nI j))] [.int 1] S h2 (zI A)
  refine zb1_eq zM217 q217_4 (tgt := 16) rfl (fun hc => absurd hc (by decide)) (fun _ => ?_)
  refine zl zM217 q217_7 rfl ?_
  refine zgSv zM217 q217_8 rfl hi ?_
  refine zl zM217 q217_11 rfl ?_
  refine zcS zM217 q217_12 ky15_495 kl15_495 (by decide) rfl (Nat.le_of_ble_eq_true rfl) zM221 (Nat.le_of_ble_eq_true rfl) ((c221 (A := fun v h1 => v = z_chv ((z_stn i).getD j 0) ∧ h1 = h2) hi hj ⟨rfl, rfl⟩).mono (fun r0 h3 hr => ?_))
  obtain ⟨v, rfl, rfl, rfl⟩ := hr
  show zP X (d + 3) 217 15 [some (.ref (100100 + i)), some (.int (nI j))] [.int (z_chv ((z_stn i).getD j 0))] S h3 (zI A)
  exact zri zM217 q217_15 rfl (z_chn i hi j hj) k
end ZSU

/-! the relation of both objects: what each call keeps -/
def z_pt (h : zH) (k : Nat) (f : Nat → Int32) : zH := fun a => if a = k then f else h a
/-- a well made row of codes: 0-5 names, 6-12 joins, 13 not, 14 minus, 100 + v a number -/
def z_ht : List Nat → Nat → Option Nat
  | [], n => some n
  | c :: L, n => if c < 6 ∨ 100 ≤ c then z_ht L (n + 1) else if c = 13 ∨ c = 14 then (if n < 1 then none else z_ht L n) else (if n < 2 then none else z_ht L (n - 1))
def zW (L : List Nat) : Prop := (∀ c, c ∈ L → c < 15 ∨ (100 ≤ c ∧ c < 10100)) ∧ ∀ n, z_ht L n = some (n + 1)
def z_xc (n : Nat) : Int32 := if n < 6 then -10 - nI n else if n < 13 then nI 3 - nI n else if n < 15 then nI n - 15 else nI (n - 100)
def z_mc (n : Nat) : Int32 := if n < 15 then nI n else -1 - nI (n - 100)
def zTx (st en co cm : Nat → Int32) (t : Nat) : Prop := ∃ L0 L1 L2 : List Nat, zW L0 ∧ zW L1 ∧ zW L2 ∧ L0.length + L1.length + L2.length ≤ 160 ∧ (∀ j, j < L0.length → st j = z_xc (L0.getD j 0)) ∧ (∀ j, j < L1.length → st (L0.length + j) = z_xc (L1.getD j 0)) ∧ (∀ j, j < L2.length → st (L0.length + L1.length + j) = z_xc (L2.getD j 0)) ∧ en 0 = nI L0.length ∧ en 1 = nI (L0.length + L1.length) ∧ en 2 = nI (L0.length + L1.length + L2.length) ∧ cm (3 * t) = nI L0.length ∧ cm (3 * t + 1) = nI L1.length ∧ cm (3 * t + 2) = nI L2.length ∧ (∀ j, j < L0.length → co (160 * (3 * t) + j) = z_mc (L0.getD j 0)) ∧ (∀ j, j < L1.length → co (160 * (3 * t + 1) + j) = z_mc (L1.getD j 0)) ∧ (∀ j, j < L2.length → co (160 * (3 * t + 2) + j) = z_mc (L2.getD j 0))
def z_cnt (f : Nat → Int32) : Nat → Nat
  | 0 => 0
  | k + 1 => z_cnt f k + (if f k = 0 then 0 else 1)
def zHU (i : Nat) : Int32 := (z_ro0.getD 0 (.int, [])).2.getD i 0
def zEY (i : Nat) : Int32 := (z_ro0.getD 1 (.int, [])).2.getD i 0
/-- tables of the reference -/
def zG0 (h : zH) : Prop := (∀ i, i < 24 → h 83 i = zHU i) ∧ (∀ i, i < 6 → h 84 i = zEY i)
/-- carts -/
def zG1 (h : zH) : Prop := (∃ n, n ≤ 40 ∧ h 1 10 = nI n ∧ h 82 3 = nI n) ∧ h 2 = h 85 ∧ h 3 = h 86 ∧ h 4 = h 87 ∧ h 5 = h 91 ∧ h 6 = h 88 ∧ h 7 = h 89 ∧ h 8 = h 90 ∧ h 9 = h 93 ∧ h 10 = h 92 ∧ h 11 = h 94 ∧ (∀ i, ∃ q, q ≤ 5 ∧ h 2 i = nI q) ∧ (∀ i, h 11 i = 0 ∨ h 11 i = 1) ∧ (∀ i, ∃ q, q ≤ 9999 ∧ h 10 i = nI q)
/-- stock -/
def zG2 (h : zH) : Prop := h 12 = h 95 ∧ h 0 17 = h 82 15 ∧ ∃ q, h 12 0 = nI q ∧ q ≤ 10000 * z_cnt (h 11) 40
/-- prices -/
def zG3 (h : zH) : Prop := (∃ n, n ≤ 40 ∧ h 13 4 = nI n ∧ h 82 16 = nI n) ∧ h 14 = h 96 ∧ h 15 = h 97 ∧ h 16 = h 98 ∧ h 17 = h 99 ∧ (∀ i, ¬ h 97 i < -1)
/-- tape and texts -/
def zG4 (h : zH) : Prop := (∃ s, s ≤ 160 ∧ h 18 1 = nI s ∧ h 82 22 = nI s ∧ ∀ i, i < s → ∃ b, b < 256 ∧ h 19 i = nI b ∧ h 100 i = (nI b).toInt8.toInt32) ∧ ∃ T, 1 ≤ T ∧ T ≤ 6 ∧ h 20 4 = nI T ∧ h 82 23 = nI T ∧ (0 < T → zTx (h 26) (h 27) (h 101) (h 102) 0) ∧ (1 < T → zTx (h 29) (h 30) (h 101) (h 102) 1) ∧ (2 < T → zTx (h 32) (h 33) (h 101) (h 102) 2) ∧ (3 < T → zTx (h 35) (h 36) (h 101) (h 102) 3) ∧ (4 < T → zTx (h 38) (h 39) (h 101) (h 102) 4) ∧ (5 < T → zTx (h 41) (h 42) (h 101) (h 102) 5)
/-- contracts -/
def zG5 (h : zH) : Prop := (∃ n, n ≤ 20 ∧ h 20 5 = nI n ∧ h 82 40 = nI n) ∧ h 22 = h 108 ∧ h 23 = h 109 ∧ h 24 = h 110 ∧ (∀ i, ¬ h 109 i < -1) ∧ (∀ i, ∃ t, nI t < h 20 4 ∧ t < 6 ∧ h 24 i = nI t)
/-- finds -/
def zG6 (h : zH) : Prop := ∃ n, n ≤ 20 ∧ h 45 3 = nI n ∧ h 82 44 = nI n ∧ h 46 = h 111 ∧ h 47 = h 112 ∧ h 48 = h 113 ∧ ∀ i, i < n → ∃ c, nI c < h 1 10 ∧ c < 40 ∧ h 46 i = nI c
/-- doors -/
def zG7 (h : zH) : Prop := (∃ n, n ≤ 12 ∧ h 49 8 = nI n ∧ h 82 48 = nI n ∧ ∀ i, i < n → ∃ q, 1 ≤ q ∧ q ≤ 999 ∧ h 51 i = nI q) ∧ (∃ n, n ≤ 60 ∧ h 49 9 = nI n ∧ h 82 53 = nI n) ∧ h 50 = h 114 ∧ h 51 = h 115 ∧ h 52 = h 116 ∧ h 53 = h 117 ∧ h 54 = h 118 ∧ h 55 = h 119 ∧ (∀ i, ∃ j, j < 12 ∧ h 54 i = nI j) ∧ (∀ i, ∃ q, q ≤ 9999 ∧ h 53 i = nI q)
/-- rows -/
def zG8 (h : zH) : Prop := (∃ n, n ≤ 5 ∧ h 0 15 = nI n ∧ h 82 59 = nI n) ∧ h 58 = h 123 ∧ h 59 = h 124
/-- hands -/
def zG9 (h : zH) : Prop := h 61 = h 125 ∧ h 63 = h 128 ∧ h 64 = h 127
/-- barges -/
def zG10 (h : zH) : Prop := (∃ n, n ≤ 8 ∧ h 65 2 = nI n ∧ h 82 67 = nI n) ∧ h 66 = h 129 ∧ h 67 = h 130 ∧ h 131 0 = 0 ∧ h 132 0 = 0
/-- buyers -/
def zG11 (h : zH) : Prop := (∃ n, n ≤ 6 ∧ h 68 4 = nI n ∧ h 82 72 = nI n) ∧ h 69 = h 133 ∧ h 70 = h 134 ∧ h 71 = h 135 ∧ (∀ i, h 71 i = 0 ∨ h 71 i = 1) ∧ (∀ i, ∃ q, q ≤ 9999 ∧ h 69 i = nI q)
/-- sheets -/
def zSh (so sz : Int32) (it : Nat → Int32) (so2 sz2 it2 : Nat → Int32) (s : Nat) : Prop := so2 s = so ∧ (so = -1 ∨ so = 0 ∨ so = 1 ∨ so = 2) ∧ (∃ n, n ≤ 40 ∧ sz = nI n) ∧ sz2 s = sz ∧ ∀ i, i < 40 → it2 (40 * s + i) = it i
def zG12 (h : zH) : Prop := zSh (h 74 1) (h 74 2) (h 75) (h 137) (h 138) (h 139) 0 ∧ zSh (h 76 1) (h 76 2) (h 77) (h 137) (h 138) (h 139) 1 ∧ zSh (h 78 1) (h 78 2) (h 79) (h 137) (h 138) (h 139) 2 ∧ zSh (h 80 1) (h 80 2) (h 81) (h 137) (h 138) (h 139) 3
def zG13 (h : zH) : Prop := h 0 16 = h 82 0
/-- letters of the reference's words -/
def zG14 (h : zH) : Prop := (∀ i, i < 46 → h 103 i = ([119, 101, 105, 103, 104, 116, 100, 97, 121, 119, 101, 116, 107, 105, 110, 100, 109, 105, 115, 115, 101, 100, 112, 114, 105, 99, 101, 112, 97, 121, 102, 105, 110, 101, 102, 105, 110, 100, 111, 114, 97, 110, 100, 110, 111, 116] : List Int32).getD i 0) ∧ (∀ i, i < 13 → h 104 i = ([0, 6, 9, 12, 16, 22, 27, 30, 34, 38, 40, 43, 46] : List Int32).getD i 0)
def zR (h : zH) : Prop := zG0 h ∧ zG1 h ∧ zG2 h ∧ zG3 h ∧ zG4 h ∧ zG5 h ∧ zG6 h ∧ zG7 h ∧ zG8 h ∧ zG9 h ∧ zG10 h ∧ zG11 h ∧ zG12 h ∧ zG13 h ∧ zG14 h
theorem zR.g0 {h : zH} (R : zR h) : zG0 h := R.1
theorem zR.g1 {h : zH} (R : zR h) : zG1 h := R.2.1
theorem zR.g2 {h : zH} (R : zR h) : zG2 h := R.2.2.1
theorem zR.g3 {h : zH} (R : zR h) : zG3 h := R.2.2.2.1
theorem zR.g4 {h : zH} (R : zR h) : zG4 h := R.2.2.2.2.1
theorem zR.g5 {h : zH} (R : zR h) : zG5 h := R.2.2.2.2.2.1
theorem zR.g6 {h : zH} (R : zR h) : zG6 h := R.2.2.2.2.2.2.1
theorem zR.g7 {h : zH} (R : zR h) : zG7 h := R.2.2.2.2.2.2.2.1
theorem zR.g8 {h : zH} (R : zR h) : zG8 h := R.2.2.2.2.2.2.2.2.1
theorem zR.g9 {h : zH} (R : zR h) : zG9 h := R.2.2.2.2.2.2.2.2.2.1
theorem zR.g10 {h : zH} (R : zR h) : zG10 h := R.2.2.2.2.2.2.2.2.2.2.1
theorem zR.g11 {h : zH} (R : zR h) : zG11 h := R.2.2.2.2.2.2.2.2.2.2.2.1
theorem zR.g12 {h : zH} (R : zR h) : zG12 h := R.2.2.2.2.2.2.2.2.2.2.2.2.1
theorem zR.g13 {h : zH} (R : zR h) : zG13 h := R.2.2.2.2.2.2.2.2.2.2.2.2.2.1
theorem zR.g14 {h : zH} (R : zR h) : zG14 h := R.2.2.2.2.2.2.2.2.2.2.2.2.2.2
theorem zpair {X : Option (List Int32)} {d M M' : Nat} {l1 l2 : zL} {S : zS} {h : zH} {P Q : Int32 → Int32 → zH → Prop} (k : zP X d M 0 l1 [] S h (zI fun r h1 => zP X d M' 0 l2 [] S h1 (zI fun r2 h2 => P r r2 h2))) (f : ∀ r r2 h2, P r r2 h2 → Q r r2 h2) : zP X d M 0 l1 [] S h (zI fun r h1 => zP X d M' 0 l2 [] S h1 (zI fun r2 h2 => Q r r2 h2)) :=
  k.mono fun _ _ ⟨v, e, q⟩ => ⟨v, e, q.mono fun _ _ ⟨w, e2, q2⟩ => ⟨w, e2, f _ _ _ q2⟩⟩
theorem zpairJ {X : Option (List Int32)} {d M M' : Nat} {l1 l2 : zL} {S : zS} {h : zH} {P Q : Int64 → Int64 → zH → Prop} (k : zP X d M 0 l1 [] S h (zJ fun r h1 => zP X d M' 0 l2 [] S h1 (zJ fun r2 h2 => P r r2 h2))) (f : ∀ r r2 h2, P r r2 h2 → Q r r2 h2) : zP X d M 0 l1 [] S h (zJ fun r h1 => zP X d M' 0 l2 [] S h1 (zJ fun r2 h2 => Q r r2 h2)) :=
  k.mono fun _ _ ⟨v, e, q⟩ => ⟨v, e, q.mono fun _ _ ⟨w, e2, q2⟩ => ⟨w, e2, f _ _ _ q2⟩⟩
theorem upd_all {P : Int32 → Prop} {f : Nat → Int32} (hf : ∀ i, P (f i)) (k : Nat) (v : Int32) (hv : P v) : ∀ i, P (upd f k v i) := by
  intro i
  unfold upd
  split
  · exact hv
  · exact hf i
section ZQ
variable {X : Option (List Int32)} {d : Nat} {h : zH}
theorem q_pass {n : Int32} (R : zR h) : zP X (d + 1) 76 0 (z_ent [.ref 0, .int n] 2) [] z_S0 h (zI fun r h1 => zP X (d + 1) 129 0 (z_ent [.ref 82, .int n] 2) [] z_S0 h1 (zI fun r2 h2 => r = r2 ∧ zR h2)) := by
  refine zpair (p_pass R.g13) ?_
  rintro r r2 h2 ⟨e, v, rfl⟩
  exact ⟨e, R.g0, R.g1, R.g2, R.g3, R.g4, R.g5, R.g6, R.g7, R.g8, R.g9, R.g10, R.g11, R.g12, rfl, R.g14⟩
theorem q_barge {a1 a2 : Int32} (R : zR h) : zP X (d + 2) 107 0 (z_ent [.ref 0, .int a1, .int a2] 3) [] z_S0 h (zI fun r h1 => zP X (d + 2) 195 0 (z_ent [.ref 82, .int a1, .int a2] 3) [] z_S0 h1 (zI fun r2 h2 => r = r2 ∧ zR h2)) := by
  obtain ⟨⟨n, hle, hn, hm⟩, e1, e2, e3, e4⟩ := R.g10
  refine zpair (p_barge hn hm hle) ?_
  rintro r r2 h2 ⟨e, rfl | ⟨-, -, hlt, rfl⟩⟩
  · exact ⟨e, R⟩
  · refine ⟨e, R.g0, R.g1, R.g2, R.g3, R.g4, R.g5, R.g6, R.g7, R.g8, R.g9, ⟨⟨n + 1, by omega, rfl, rfl⟩, ?_, ?_, e3, e4⟩, R.g11, R.g12, R.g13, R.g14⟩
    · show upd (h 66) n a1 = upd (h 129) n a1
      rw [e1]
    · show upd (h 67) n a2 = upd (h 130) n a2
      rw [e2]
theorem q_buyer {a1 a2 : Int32} (R : zR h) : zP X (d + 2) 109 0 (z_ent [.ref 0, .int a1, .int a2] 3) [] z_S0 h (zI fun r h1 => zP X (d + 2) 199 0 (z_ent [.ref 82, .int a1, .int a2] 3) [] z_S0 h1 (zI fun r2 h2 => r = r2 ∧ zR h2)) := by
  obtain ⟨⟨n, hle, hn, hm⟩, e1, e2, e3, e4, e5⟩ := R.g11
  refine zpair (p_buyer hn hm hle) ?_
  rintro r r2 h2 ⟨e, rfl | ⟨v1, -, hlt, rfl⟩⟩
  · exact ⟨e, R⟩
  · refine ⟨e, R.g0, R.g1, R.g2, R.g3, R.g4, R.g5, R.g6, R.g7, R.g8, R.g9, R.g10, ⟨⟨n + 1, by omega, rfl, rfl⟩, ?_, ?_, e3, e4, ?_⟩, R.g12, R.g13, R.g14⟩
    · show upd (h 69) n a1 = upd (h 133) n a1
      rw [e1]
    · show upd (h 70) n a2 = upd (h 134) n a2
      rw [e2]
    · exact upd_all (P := fun x => ∃ q, q ≤ 9999 ∧ x = nI q) e5 n a1 (z_inN 9999 (by decide) v1)
theorem q_row {a1 a2 : Int32} (R : zR h) : zP X (d + 2) 102 0 (z_ent [.ref 0, .int a1, .int a2] 3) [] z_S0 h (zI fun r h1 => zP X (d + 2) 188 0 (z_ent [.ref 82, .int a1, .int a2] 3) [] z_S0 h1 (zI fun r2 h2 => r = r2 ∧ zR h2)) := by
  obtain ⟨⟨n, hle, hn, hm⟩, e1, e2⟩ := R.g8
  refine zpair (p_row hn hm hle) ?_
  rintro r r2 h2 ⟨e, rfl | ⟨v1, -, hlt, rfl⟩⟩
  · exact ⟨e, R⟩
  · refine ⟨e, R.g0, R.g1, R.g2, R.g3, R.g4, R.g5, R.g6, R.g7, ⟨⟨n + 1, by omega, rfl, rfl⟩, ?_, ?_⟩, R.g9, R.g10, R.g11, R.g12, R.g13, R.g14⟩
    · show upd (h 58) n a1 = upd (h 123) n a1
      rw [e1]
    · show upd (h 59) n a2 = upd (h 124) n a2
      rw [e2]
theorem q_door {a1 a2 a3 a4 : Int32} (R : zR h) : zP X (d + 2) 99 0 (z_ent [.ref 0, .int a1, .int a2, .int a3, .int a4] 5) [] z_S0 h (zI fun r h1 => zP X (d + 2) 181 0 (z_ent [.ref 82, .int a1, .int a2, .int a3, .int a4] 5) [] z_S0 h1 (zI fun r2 h2 => r = r2 ∧ zR h2)) := by
  obtain ⟨⟨n, hle, hn, hm, hp⟩, hmi, e1, e2, e3, e4, e5, e6, e7, e8⟩ := R.g7
  refine zpair (p_door hn hm hle) ?_
  rintro r r2 h2 ⟨e, rfl | ⟨v1, v2, v3, v4, hlt, rfl⟩⟩
  · exact ⟨e, R⟩
  · refine ⟨e, R.g0, R.g1, R.g2, R.g3, R.g4, R.g5, R.g6, ⟨⟨n + 1, by omega, rfl, rfl, ?_⟩, hmi, ?_, ?_, ?_, ?_, e5, e6, e7, ?_⟩, R.g8, R.g9, R.g10, R.g11, R.g12, R.g13, R.g14⟩
    · intro i hi
      show ∃ q, 1 ≤ q ∧ q ≤ 999 ∧ upd (h 51) n a2 i = nI q
      unfold upd
      split
      · obtain ⟨q, hq, rfl⟩ := z_inN 999 (by decide) ⟨fun q => v2.1 (Int32.lt_trans q (by decide)), v2.2⟩
        refine ⟨q, ?_, hq, rfl⟩
        have := v2.1
        rw [show (1 : Int32) = nI 1 from rfl, nI_ltI (by omega) (by omega)] at this
        omega
      · exact hp i (by omega)
    · show upd (h 50) n a1 = upd (h 114) n a1
      rw [e1]
    · show upd (h 51) n a2 = upd (h 115) n a2
      rw [e2]
    · show upd (h 52) n a3 = upd (h 116) n a3
      rw [e3]
    · show upd (h 53) n a4 = upd (h 117) n a4
      rw [e4]
    · exact upd_all (P := fun x => ∃ q, q ≤ 9999 ∧ x = nI q) e8 n a4 (z_inN 9999 (by decide) v4)
theorem q_find {a1 a2 a3 : Int32} (R : zR h) : zP X (d + 2) 94 0 (z_ent [.ref 0, .int a1, .int a2, .int a3] 4) [] z_S0 h (zI fun r h1 => zP X (d + 2) 177 0 (z_ent [.ref 82, .int a1, .int a2, .int a3] 4) [] z_S0 h1 (zI fun r2 h2 => r = r2 ∧ zR h2)) := by
  obtain ⟨n, hle, hn, hm, e1, e2, e3, e4⟩ := R.g6
  obtain ⟨⟨N, hNl, hN, hN2⟩, -⟩ := R.g1
  refine zpair (p_find (by omega) hN hN2 hn hm hle) ?_
  rintro r r2 h2 ⟨e, rfl | ⟨v1, v2, v3, hlt, rfl⟩⟩
  · exact ⟨e, R⟩
  · refine ⟨e, R.g0, R.g1, R.g2, R.g3, R.g4, R.g5, ⟨n + 1, by omega, rfl, rfl, ?_, ?_, ?_, ?_⟩, R.g7, R.g8, R.g9, R.g10, R.g11, R.g12, R.g13, R.g14⟩
    · show upd (h 46) n a1 = upd (h 111) n a1
      rw [e1]
    · show upd (h 47) n a2 = upd (h 112) n a2
      rw [e2]
    · show upd (h 48) n a3 = upd (h 113) n a3
      rw [e3]
    · intro i hi
      show ∃ c, nI c < h 1 10 ∧ c < 40 ∧ upd (h 46) n a1 i = nI c
      unfold upd
      split
      · obtain ⟨j, hj, rfl⟩ := zhasN (by omega) v1
        exact ⟨j, by rw [hN]; exact v1.2, by omega, rfl⟩
      · exact e4 i (by omega)
theorem q_price {a1 a2 a3 : Int32} (R : zR h) : zP X (d + 2) 85 0 (z_ent [.ref 0, .int a1, .int a2, .int a3] 4) [] z_S0 h (zI fun r h1 => zP X (d + 2) 145 0 (z_ent [.ref 82, .int a1, .int a2, .int a3] 4) [] z_S0 h1 (zI fun r2 h2 => r = r2 ∧ zR h2)) := by
  obtain ⟨⟨n, hle, hn, hm⟩, e1, e2, e3, e4, e5⟩ := R.g3
  refine zpair (p_price rfl R.g13.symm hn hm hle) ?_
  rintro r r2 h2 ⟨e, rfl | ⟨v1, v2, v3, hlt, rfl⟩⟩
  · exact ⟨e, R⟩
  · refine ⟨e, R.g0, R.g1, R.g2, ⟨⟨n + 1, by omega, rfl, rfl⟩, ?_, ?_, ?_, ?_, ?_⟩, R.g4, R.g5, R.g6, R.g7, R.g8, R.g9, R.g10, R.g11, R.g12, R.g13, R.g14⟩
    · show upd (h 14) n a1 = upd (h 96) n a1
      rw [e1]
    · show upd (h 15) n a2 = upd (h 97) n a2
      rw [e2]
    · show upd (h 16) n a3 = upd (h 98) n a3
      rw [e3]
    · show upd (h 17) n _ = upd (h 99) n _
      rw [e4]
    · exact upd_all (P := fun x => ¬ x < -1) e5 n a2 (fun q => v2.1 (Int32.lt_trans q (by decide)))
theorem q_contract {a1 a2 a3 : Int32} (R : zR h) : zP X (d + 2) 89 0 (z_ent [.ref 0, .int a1, .int a2, .int a3] 4) [] z_S0 h (zI fun r h1 => zP X (d + 2) 170 0 (z_ent [.ref 82, .int a1, .int a2, .int a3] 4) [] z_S0 h1 (zI fun r2 h2 => r = r2 ∧ zR h2)) := by
  obtain ⟨⟨n, hle, hn, hm⟩, e1, e2, e3, e4, e5⟩ := R.g5
  obtain ⟨-, T, hT1, hT6, hTx, hTm, -⟩ := R.g4
  refine zpair (p_contract hTx hTm hn hm hle) ?_
  rintro r r2 h2 ⟨e, rfl | ⟨v1, v2, v3, hlt, rfl⟩⟩
  · exact ⟨e, R⟩
  · refine ⟨e, R.g0, R.g1, R.g2, R.g3, R.g4, ⟨⟨n + 1, by omega, rfl, rfl⟩, ?_, ?_, ?_, ?_, ?_⟩, R.g6, R.g7, R.g8, R.g9, R.g10, R.g11, R.g12, R.g13, R.g14⟩
    · show upd (h 22) n a1 = upd (h 108) n a1
      rw [e1]
    · show upd (h 23) n a2 = upd (h 109) n a2
      rw [e2]
    · show upd (h 24) n a3 = upd (h 110) n a3
      rw [e3]
    · exact upd_all (P := fun x => ¬ x < -1) e4 n a2 (fun q => v2.1 (Int32.lt_trans q (by decide)))
    · have hh : zhas a3 T := (zhas_iff (by omega)).mp v3
      obtain ⟨j, hj, rfl⟩ := zhasN (by omega) hh
      exact upd_all (P := fun x => ∃ t, nI t < h 20 4 ∧ t < 6 ∧ x = nI t) e5 n (nI j) ⟨j, by rw [hTx]; exact hh.2, by omega, rfl⟩
theorem q_stock {a1 : Int32} (R : zR h) : zP X (d + 1) 83 0 (z_ent [.ref 0, .int a1] 2) [] z_S0 h (zI fun r h1 => zP X (d + 1) 143 0 (z_ent [.ref 82, .int a1] 2) [] z_S0 h1 (zI fun r2 h2 => r = r2 ∧ zR h2)) := by
  refine zpair (p_stock R.g2.1) ?_
  rintro r r2 h2 ⟨e, rfl⟩
  exact ⟨e, R⟩
theorem q_count {a1 : Int32} (R : zR h) : zP X d 112 0 (z_ent [.ref 0, .int a1] 2) [] z_S0 h (zI fun r h1 => zP X d 204 0 (z_ent [.ref 82, .int a1] 2) [] z_S0 h1 (zI fun r2 h2 => r = r2 ∧ zR h2)) := by
  obtain ⟨⟨n1, -, c1, c1'⟩, -⟩ := R.g1
  obtain ⟨⟨n2, -, c2, c2'⟩, -⟩ := R.g3
  obtain ⟨⟨s, -, c4, c4', -⟩, T, -, -, c3, c3', -⟩ := R.g4
  obtain ⟨⟨n5, -, c5, c5'⟩, -⟩ := R.g5
  obtain ⟨n6, -, c6, c6', -⟩ := R.g6
  obtain ⟨⟨n7, -, c7, c7', -⟩, ⟨n8, -, c8, c8'⟩, -⟩ := R.g7
  obtain ⟨⟨n9, -, c9, c9'⟩, -⟩ := R.g8
  obtain ⟨⟨n10, -, c10, c10'⟩, -⟩ := R.g10
  obtain ⟨⟨n11, -, c11, c11'⟩, -⟩ := R.g11
  refine zpair (p_count R.g13 (c1.trans c1'.symm) (c2.trans c2'.symm) (c3.trans c3'.symm) (c4.trans c4'.symm) (c5.trans c5'.symm) (c6.trans c6'.symm) (c7.trans c7'.symm) (c8.trans c8'.symm) (c9.trans c9'.symm) (c10.trans c10'.symm) (c11.trans c11'.symm) R.g2.2.1) ?_
  rintro r r2 h2 ⟨e, rfl⟩
  exact ⟨e, R⟩
theorem q_stop {a1 a2 : Int32} (R : zR h) : zP X (d + 1) 110 0 (z_ent [.ref 0, .int a1, .int a2] 4) [] z_S0 h (zI fun r h1 => zP X (d + 1) 200 0 (z_ent [.ref 82, .int a1, .int a2] 4) [] z_S0 h1 (zI fun r2 h2 => r = r2 ∧ zR h2)) := by
  obtain ⟨⟨n, hle, hn, hm⟩, e1, e2, e3, e4, e5⟩ := R.g11
  refine zpair (p_stop hn hm hle e3 e4) ?_
  rintro r r2 h2 ⟨e, rfl | ⟨j, v, rfl⟩⟩
  · exact ⟨e, R⟩
  · refine ⟨e, R.g0, R.g1, R.g2, R.g3, R.g4, R.g5, R.g6, R.g7, R.g8, R.g9, R.g10, ⟨⟨n, hle, hn, hm⟩, e1, e2, ?_, ?_, e5⟩, R.g12, R.g13, R.g14⟩
    · show upd (h 71) j a2 = upd (h 135) j a2
      rw [e3]
    · exact upd_all (P := fun x => x = 0 ∨ x = 1) e4 j a2 v
theorem q_wins {a1 a2 a3 : Int32} (R : zR h) : zP X (d + 2) 105 0 (z_ent [.ref 0, .int a1, .int a2, .int a3] 4) [] z_S0 h (zI fun r h1 => zP X (d + 2) 191 0 (z_ent [.ref 82, .int a1, .int a2, .int a3] 5) [] z_S0 h1 (zI fun r2 h2 => r = r2 ∧ zR h2)) := by
  refine zpair (p_wins R.g9.1) ?_
  rintro r r2 h2 ⟨e, rfl | ⟨j, v, hj, rfl⟩⟩
  · exact ⟨e, R⟩
  · refine ⟨e, R.g0, R.g1, R.g2, R.g3, R.g4, R.g5, R.g6, R.g7, R.g8, ⟨?_, R.g9.2⟩, R.g10, R.g11, R.g12, R.g13, R.g14⟩
    show upd (h 61) j a3 = upd (h 125) j a3
    rw [show h 61 = h 125 from R.g9.1]
theorem q_priceOf {a1 a2 a3 : Int32} (R : zR h) : zP X (d + 2) 86 0 (z_ent [.ref 0, .int a1, .int a2, .int a3] 4) [] z_S0 h (zI fun r h1 => zP X (d + 2) 147 0 (z_ent [.ref 82, .int a1, .int a2, .int a3] 4) [] z_S0 h1 (zI fun r2 h2 => r = r2 ∧ zR h2)) := by
  obtain ⟨⟨n, hle, hn, hm⟩, e1, e2, e3, e4, e5⟩ := R.g3
  refine zpair (p_priceOf hn hm hle (fun i _ => e5 i) R.g13 e1 e2 e3 e4) ?_
  rintro r r2 h2 ⟨e, rfl⟩
  exact ⟨e, R⟩
theorem q_contractOf {a1 a2 : Int32} (R : zR h) : zP X (d + 2) 90 0 (z_ent [.ref 0, .int a1, .int a2] 3) [] z_S0 h (zI fun r h1 => zP X (d + 2) 172 0 (z_ent [.ref 82, .int a1, .int a2] 3) [] z_S0 h1 (zI fun r2 h2 => r = r2 ∧ zR h2)) := by
  obtain ⟨⟨n, hle, hn, hm⟩, e1, e2, e3, e4, e5⟩ := R.g5
  refine zpair (p_contractOf hn hm hle (fun i _ => e4 i) e1 e2 e3) ?_
  rintro r r2 h2 ⟨e, rfl⟩
  exact ⟨e, R⟩
end ZQ

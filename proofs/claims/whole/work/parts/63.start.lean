/-! the relation holds behind the two constructors -/
def zHm (h : zH) : zH := (z_up (z_up (z_up (z_up (z_up (z_up (z_up (z_up (z_up (z_up (z_up (z_up (z_up (z_up (z_up (z_up (z_up (z_up (z_up (z_up (z_up (z_up (z_up (z_up (z_up (z_up (z_up (z_up (z_up (z_up (z_up (z_up (z_up (z_up (z_up (z_up (z_up (z_up (z_up (z_up (z_up (z_up (z_up (z_up (z_up (z_up (z_up (z_up (z_up (z_up (z_up (z_up (z_up (z_up (z_up (z_up (z_up (z_up (z_up (z_up (z_up (z_up (z_up (z_up (z_up (z_up (z_up (z_up (z_up (z_up (z_up (z_up (z_up (z_up (z_up (z_up (z_up (z_up (z_up (z_up (z_up (z_up (z_up (z_up (z_up (z_up (z_up (z_up (z_up (z_up (z_up (z_up (z_up (z_up (z_up (z_up (z_up (z_up (z_up (z_up (z_up (z_up (z_up (z_up h 83 0 20) 83 1 40) 83 2 5) 83 3 3) 83 4 50) 83 5 40) 83 6 5) 83 7 3) 83 8 10) 83 9 50) 83 10 10) 83 11 3) 83 12 70) 83 13 20) 83 14 0) 83 15 3) 83 16 10) 83 17 70) 83 18 20) 83 19 0) 83 20 10) 83 21 80) 83 22 5) 83 23 3) 84 0 10) 84 1 5) 84 2 25) 84 3 5) 84 4 30) 84 5 10) 103 0 119) 103 1 101) 103 2 105) 103 3 103) 103 4 104) 103 5 116) 103 6 100) 103 7 97) 103 8 121) 103 9 119) 103 10 101) 103 11 116) 103 12 107) 103 13 105) 103 14 110) 103 15 100) 103 16 109) 103 17 105) 103 18 115) 103 19 115) 103 20 101) 103 21 100) 103 22 112) 103 23 114) 103 24 105) 103 25 99) 103 26 101) 103 27 112) 103 28 97) 103 29 121) 103 30 102) 103 31 105) 103 32 110) 103 33 101) 103 34 102) 103 35 105) 103 36 110) 103 37 100) 103 38 111) 103 39 114) 103 40 97) 103 41 110) 103 42 100) 103 43 110) 103 44 111) 103 45 116) 104 0 0) 104 1 6) 104 2 9) 104 3 12) 104 4 16) 104 5 22) 104 6 27) 104 7 30) 104 8 34) 104 9 38) 104 10 40) 104 11 43) 104 12 46) 137 0 (-1)) 137 1 (-1)) 137 2 (-1)) 137 3 (-1)) 101 0 (-4)) 101 1 0) 101 2 7) 102 0 3) 101 160 4) 101 161 (-6)) 101 162 8) 102 1 3) 101 320 (-2)) 102 2 1) 82 23 1)
set_option maxRecDepth 20000 in
theorem zR0 {h : zH} (I : zI0 h) : zR (zHm h) := by
  obtain ⟨I1, I2, I3, I4, I5, I6, I7, I8⟩ := I
  have a2 : ∀ j, zHm h 2 j = 0 := fun j => I1 2 j (by omega)
  have a85 : ∀ j, zHm h 85 j = 0 := fun j => I1 85 j (by omega)
  have a3 : ∀ j, zHm h 3 j = 0 := fun j => I1 3 j (by omega)
  have a86 : ∀ j, zHm h 86 j = 0 := fun j => I1 86 j (by omega)
  have a4 : ∀ j, zHm h 4 j = 0 := fun j => I1 4 j (by omega)
  have a87 : ∀ j, zHm h 87 j = 0 := fun j => I1 87 j (by omega)
  have a5 : ∀ j, zHm h 5 j = 0 := fun j => I1 5 j (by omega)
  have a91 : ∀ j, zHm h 91 j = 0 := fun j => I1 91 j (by omega)
  have a6 : ∀ j, zHm h 6 j = 0 := fun j => I1 6 j (by omega)
  have a88 : ∀ j, zHm h 88 j = 0 := fun j => I1 88 j (by omega)
  have a7 : ∀ j, zHm h 7 j = 0 := fun j => I1 7 j (by omega)
  have a89 : ∀ j, zHm h 89 j = 0 := fun j => I1 89 j (by omega)
  have a8 : ∀ j, zHm h 8 j = 0 := fun j => I1 8 j (by omega)
  have a90 : ∀ j, zHm h 90 j = 0 := fun j => I1 90 j (by omega)
  have a9 : ∀ j, zHm h 9 j = 0 := fun j => I1 9 j (by omega)
  have a93 : ∀ j, zHm h 93 j = 0 := fun j => I1 93 j (by omega)
  have a10 : ∀ j, zHm h 10 j = 0 := fun j => I1 10 j (by omega)
  have a92 : ∀ j, zHm h 92 j = 0 := fun j => I1 92 j (by omega)
  have a11 : ∀ j, zHm h 11 j = 0 := fun j => I1 11 j (by omega)
  have a94 : ∀ j, zHm h 94 j = 0 := fun j => I1 94 j (by omega)
  have a12 : ∀ j, zHm h 12 j = 0 := fun j => I1 12 j (by omega)
  have a95 : ∀ j, zHm h 95 j = 0 := fun j => I1 95 j (by omega)
  have a14 : ∀ j, zHm h 14 j = 0 := fun j => I1 14 j (by omega)
  have a96 : ∀ j, zHm h 96 j = 0 := fun j => I1 96 j (by omega)
  have a15 : ∀ j, zHm h 15 j = 0 := fun j => I1 15 j (by omega)
  have a97 : ∀ j, zHm h 97 j = 0 := fun j => I1 97 j (by omega)
  have a16 : ∀ j, zHm h 16 j = 0 := fun j => I1 16 j (by omega)
  have a98 : ∀ j, zHm h 98 j = 0 := fun j => I1 98 j (by omega)
  have a17 : ∀ j, zHm h 17 j = 0 := fun j => I1 17 j (by omega)
  have a99 : ∀ j, zHm h 99 j = 0 := fun j => I1 99 j (by omega)
  have a22 : ∀ j, zHm h 22 j = 0 := fun j => I1 22 j (by omega)
  have a108 : ∀ j, zHm h 108 j = 0 := fun j => I1 108 j (by omega)
  have a23 : ∀ j, zHm h 23 j = 0 := fun j => I1 23 j (by omega)
  have a109 : ∀ j, zHm h 109 j = 0 := fun j => I1 109 j (by omega)
  have a24 : ∀ j, zHm h 24 j = 0 := fun j => I1 24 j (by omega)
  have a110 : ∀ j, zHm h 110 j = 0 := fun j => I1 110 j (by omega)
  have a46 : ∀ j, zHm h 46 j = 0 := fun j => I1 46 j (by omega)
  have a111 : ∀ j, zHm h 111 j = 0 := fun j => I1 111 j (by omega)
  have a47 : ∀ j, zHm h 47 j = 0 := fun j => I1 47 j (by omega)
  have a112 : ∀ j, zHm h 112 j = 0 := fun j => I1 112 j (by omega)
  have a48 : ∀ j, zHm h 48 j = 0 := fun j => I1 48 j (by omega)
  have a113 : ∀ j, zHm h 113 j = 0 := fun j => I1 113 j (by omega)
  have a50 : ∀ j, zHm h 50 j = 0 := fun j => I1 50 j (by omega)
  have a114 : ∀ j, zHm h 114 j = 0 := fun j => I1 114 j (by omega)
  have a51 : ∀ j, zHm h 51 j = 0 := fun j => I1 51 j (by omega)
  have a115 : ∀ j, zHm h 115 j = 0 := fun j => I1 115 j (by omega)
  have a52 : ∀ j, zHm h 52 j = 0 := fun j => I1 52 j (by omega)
  have a116 : ∀ j, zHm h 116 j = 0 := fun j => I1 116 j (by omega)
  have a53 : ∀ j, zHm h 53 j = 0 := fun j => I1 53 j (by omega)
  have a117 : ∀ j, zHm h 117 j = 0 := fun j => I1 117 j (by omega)
  have a54 : ∀ j, zHm h 54 j = 0 := fun j => I1 54 j (by omega)
  have a118 : ∀ j, zHm h 118 j = 0 := fun j => I1 118 j (by omega)
  have a55 : ∀ j, zHm h 55 j = 0 := fun j => I1 55 j (by omega)
  have a119 : ∀ j, zHm h 119 j = 0 := fun j => I1 119 j (by omega)
  have a58 : ∀ j, zHm h 58 j = 0 := fun j => I1 58 j (by omega)
  have a123 : ∀ j, zHm h 123 j = 0 := fun j => I1 123 j (by omega)
  have a59 : ∀ j, zHm h 59 j = 0 := fun j => I1 59 j (by omega)
  have a124 : ∀ j, zHm h 124 j = 0 := fun j => I1 124 j (by omega)
  have a61 : ∀ j, zHm h 61 j = 0 := fun j => I1 61 j (by omega)
  have a125 : ∀ j, zHm h 125 j = 0 := fun j => I1 125 j (by omega)
  have a63 : ∀ j, zHm h 63 j = 0 := fun j => I1 63 j (by omega)
  have a128 : ∀ j, zHm h 128 j = 0 := fun j => I1 128 j (by omega)
  have a64 : ∀ j, zHm h 64 j = 0 := fun j => I1 64 j (by omega)
  have a127 : ∀ j, zHm h 127 j = 0 := fun j => I1 127 j (by omega)
  have a66 : ∀ j, zHm h 66 j = 0 := fun j => I1 66 j (by omega)
  have a129 : ∀ j, zHm h 129 j = 0 := fun j => I1 129 j (by omega)
  have a67 : ∀ j, zHm h 67 j = 0 := fun j => I1 67 j (by omega)
  have a130 : ∀ j, zHm h 130 j = 0 := fun j => I1 130 j (by omega)
  have a69 : ∀ j, zHm h 69 j = 0 := fun j => I1 69 j (by omega)
  have a133 : ∀ j, zHm h 133 j = 0 := fun j => I1 133 j (by omega)
  have a70 : ∀ j, zHm h 70 j = 0 := fun j => I1 70 j (by omega)
  have a134 : ∀ j, zHm h 134 j = 0 := fun j => I1 134 j (by omega)
  have a71 : ∀ j, zHm h 71 j = 0 := fun j => I1 71 j (by omega)
  have a135 : ∀ j, zHm h 135 j = 0 := fun j => I1 135 j (by omega)
  have a75 : ∀ j, zHm h 75 j = 0 := fun j => I1 75 j (by omega)
  have a77 : ∀ j, zHm h 77 j = 0 := fun j => I1 77 j (by omega)
  have a79 : ∀ j, zHm h 79 j = 0 := fun j => I1 79 j (by omega)
  have a81 : ∀ j, zHm h 81 j = 0 := fun j => I1 81 j (by omega)
  have a138 : ∀ j, zHm h 138 j = 0 := fun j => I1 138 j (by omega)
  have a139 : ∀ j, zHm h 139 j = 0 := fun j => I1 139 j (by omega)
  have n0 : ∀ i : Nat, ∃ q, q ≤ 5 ∧ (0 : Int32) = nI q := fun _ => ⟨0, by decide, rfl⟩
  refine ⟨⟨?_, ?_⟩, ⟨⟨0, by decide, (show zHm h 1 10 = 0 from I1 1 10 (by omega)), (show zHm h 82 3 = 0 from I1 82 3 (by omega))⟩, (funext fun j => (a2 j).trans (a85 j).symm), (funext fun j => (a3 j).trans (a86 j).symm), (funext fun j => (a4 j).trans (a87 j).symm), (funext fun j => (a5 j).trans (a91 j).symm), (funext fun j => (a6 j).trans (a88 j).symm), (funext fun j => (a7 j).trans (a89 j).symm), (funext fun j => (a8 j).trans (a90 j).symm), (funext fun j => (a9 j).trans (a93 j).symm), (funext fun j => (a10 j).trans (a92 j).symm), (funext fun j => (a11 j).trans (a94 j).symm), fun i => ⟨0, by decide, a2 i⟩, fun i => Or.inl (a11 i), fun i => ⟨0, by decide, a10 i⟩⟩, ⟨(funext fun j => (a12 j).trans (a95 j).symm), ((show zHm h 0 17 = 0 from I1 0 17 (by omega))).trans ((show zHm h 82 15 = 0 from I1 82 15 (by omega))).symm, 0, a12 0, Nat.zero_le _⟩, ⟨⟨0, by decide, (show zHm h 13 4 = 0 from I1 13 4 (by omega)), (show zHm h 82 16 = 0 from I1 82 16 (by omega))⟩, (funext fun j => (a14 j).trans (a96 j).symm), (funext fun j => (a15 j).trans (a97 j).symm), (funext fun j => (a16 j).trans (a98 j).symm), (funext fun j => (a17 j).trans (a99 j).symm), fun i => by rw [a97 i]; decide⟩, ?_, ⟨⟨0, by decide, (show zHm h 20 5 = 0 from I1 20 5 (by omega)), (show zHm h 82 40 = 0 from I1 82 40 (by omega))⟩, (funext fun j => (a22 j).trans (a108 j).symm), (funext fun j => (a23 j).trans (a109 j).symm), (funext fun j => (a24 j).trans (a110 j).symm), fun i => by rw [a109 i]; decide, fun i => ⟨0, by rw [show zHm h 20 4 = 1 from I3]; decide, by decide, a24 i⟩⟩, ⟨0, by decide, (show zHm h 45 3 = 0 from I1 45 3 (by omega)), (show zHm h 82 44 = 0 from I1 82 44 (by omega)), (funext fun j => (a46 j).trans (a111 j).symm), (funext fun j => (a47 j).trans (a112 j).symm), (funext fun j => (a48 j).trans (a113 j).symm), fun i hi => absurd hi (Nat.not_lt_zero i)⟩, ⟨⟨0, by decide, (show zHm h 49 8 = 0 from I1 49 8 (by omega)), (show zHm h 82 48 = 0 from I1 82 48 (by omega)), fun i hi => absurd hi (Nat.not_lt_zero i)⟩, ⟨0, by decide, (show zHm h 49 9 = 0 from I1 49 9 (by omega)), (show zHm h 82 53 = 0 from I1 82 53 (by omega))⟩, (funext fun j => (a50 j).trans (a114 j).symm), (funext fun j => (a51 j).trans (a115 j).symm), (funext fun j => (a52 j).trans (a116 j).symm), (funext fun j => (a53 j).trans (a117 j).symm), (funext fun j => (a54 j).trans (a118 j).symm), (funext fun j => (a55 j).trans (a119 j).symm), fun i => ⟨0, by decide, a54 i⟩, fun i => ⟨0, by decide, a53 i⟩⟩, ⟨⟨0, by decide, (show zHm h 0 15 = 0 from I1 0 15 (by omega)), (show zHm h 82 59 = 0 from I1 82 59 (by omega))⟩, (funext fun j => (a58 j).trans (a123 j).symm), (funext fun j => (a59 j).trans (a124 j).symm)⟩, ⟨(funext fun j => (a61 j).trans (a125 j).symm), (funext fun j => (a63 j).trans (a128 j).symm), (funext fun j => (a64 j).trans (a127 j).symm)⟩, ⟨⟨0, by decide, (show zHm h 65 2 = 0 from I1 65 2 (by omega)), (show zHm h 82 67 = 0 from I1 82 67 (by omega))⟩, (funext fun j => (a66 j).trans (a129 j).symm), (funext fun j => (a67 j).trans (a130 j).symm), (show zHm h 131 0 = 0 from I1 131 0 (by omega)), (show zHm h 132 0 = 0 from I1 132 0 (by omega))⟩, ⟨⟨0, by decide, (show zHm h 68 4 = 0 from I1 68 4 (by omega)), (show zHm h 82 72 = 0 from I1 82 72 (by omega))⟩, (funext fun j => (a69 j).trans (a133 j).symm), (funext fun j => (a70 j).trans (a134 j).symm), (funext fun j => (a71 j).trans (a135 j).symm), fun i => Or.inl (a71 i), fun i => ⟨0, by decide, a69 i⟩⟩, ?_, ((show zHm h 0 16 = 0 from I1 0 16 (by omega))).trans ((show zHm h 82 0 = 0 from I1 82 0 (by omega))).symm, ⟨?_, ?_⟩⟩
  · intro i hi
    match i, hi with
    | 0, _ => exact rfl
    | 1, _ => exact rfl
    | 2, _ => exact rfl
    | 3, _ => exact rfl
    | 4, _ => exact rfl
    | 5, _ => exact rfl
    | 6, _ => exact rfl
    | 7, _ => exact rfl
    | 8, _ => exact rfl
    | 9, _ => exact rfl
    | 10, _ => exact rfl
    | 11, _ => exact rfl
    | 12, _ => exact rfl
    | 13, _ => exact rfl
    | 14, _ => exact rfl
    | 15, _ => exact rfl
    | 16, _ => exact rfl
    | 17, _ => exact rfl
    | 18, _ => exact rfl
    | 19, _ => exact rfl
    | 20, _ => exact rfl
    | 21, _ => exact rfl
    | 22, _ => exact rfl
    | 23, _ => exact rfl
    | i + 24, q => exact absurd q (by omega)
  · intro i hi
    match i, hi with
    | 0, _ => exact rfl
    | 1, _ => exact rfl
    | 2, _ => exact rfl
    | 3, _ => exact rfl
    | 4, _ => exact rfl
    | 5, _ => exact rfl
    | i + 6, q => exact absurd q (by omega)
  · refine ⟨⟨0, by decide, I2, (show zHm h 82 22 = 0 from I1 82 22 (by omega)), fun i hi => absurd hi (Nat.not_lt_zero i)⟩, 1, by decide, by decide, I3, rfl, fun _ => ?_, fun z => absurd z (by decide), fun z => absurd z (by decide), fun z => absurd z (by decide), fun z => absurd z (by decide), fun z => absurd z (by decide)⟩
    refine zTx_new (s := 160) (Ls := [[103, 0, 7], [4, 105, 8], [101]]) rfl (by decide) (by decide) (fun L hL => ?_) I8 ⟨rfl, fun j hj => ?_, rfl, fun j hj => ?_, rfl, fun j hj => ?_, trivial⟩
    · simp only [List.mem_cons, List.not_mem_nil, or_false] at hL
      rcases hL with rfl | rfl | rfl
      · exact zW_jn (zW_one (c := 103) (by omega)) (zW_one (c := 0) (by omega)) (by decide)
      · exact zW_jn (zW_one (c := 4) (by omega)) (zW_one (c := 105) (by omega)) (by decide)
      · exact zW_one (by omega)
    · match j, hj with
      | 0, _ => exact (show _ = (-4 : Int32) from rfl).trans (by decide +kernel)
      | 1, _ => exact (show _ = (0 : Int32) from rfl).trans (by decide +kernel)
      | 2, _ => exact (show _ = (7 : Int32) from rfl).trans (by decide +kernel)
      | j + 3, q => exact absurd q (by show ¬ j + 3 < 3; omega)
    · match j, hj with
      | 0, _ => exact (show _ = (4 : Int32) from rfl).trans (by decide +kernel)
      | 1, _ => exact (show _ = (-6 : Int32) from rfl).trans (by decide +kernel)
      | 2, _ => exact (show _ = (8 : Int32) from rfl).trans (by decide +kernel)
      | j + 3, q => exact absurd q (by show ¬ j + 3 < 3; omega)
    · match j, hj with
      | 0, _ => exact (show _ = (-2 : Int32) from rfl).trans (by decide +kernel)
      | j + 1, q => exact absurd q (by show ¬ j + 1 < 1; omega)
  · exact ⟨⟨(show zHm h 137 0 = -1 from rfl).trans (show zHm h 74 1 = -1 from I4).symm, Or.inl I4, ⟨0, by decide, (show zHm h 74 2 = 0 from I1 74 2 (by omega))⟩, (a138 0).trans ((show zHm h 74 2 = 0 from I1 74 2 (by omega))).symm, fun i _ => (a139 _).trans (a75 i).symm⟩, ⟨(show zHm h 137 1 = -1 from rfl).trans (show zHm h 76 1 = -1 from I5).symm, Or.inl I5, ⟨0, by decide, (show zHm h 76 2 = 0 from I1 76 2 (by omega))⟩, (a138 1).trans ((show zHm h 76 2 = 0 from I1 76 2 (by omega))).symm, fun i _ => (a139 _).trans (a77 i).symm⟩, ⟨(show zHm h 137 2 = -1 from rfl).trans (show zHm h 78 1 = -1 from I6).symm, Or.inl I6, ⟨0, by decide, (show zHm h 78 2 = 0 from I1 78 2 (by omega))⟩, (a138 2).trans ((show zHm h 78 2 = 0 from I1 78 2 (by omega))).symm, fun i _ => (a139 _).trans (a79 i).symm⟩, ⟨(show zHm h 137 3 = -1 from rfl).trans (show zHm h 80 1 = -1 from I7).symm, Or.inl I7, ⟨0, by decide, (show zHm h 80 2 = 0 from I1 80 2 (by omega))⟩, (a138 3).trans ((show zHm h 80 2 = 0 from I1 80 2 (by omega))).symm, fun i _ => (a139 _).trans (a81 i).symm⟩⟩
  · intro i hi
    match i, hi with
    | 0, _ => exact rfl
    | 1, _ => exact rfl
    | 2, _ => exact rfl
    | 3, _ => exact rfl
    | 4, _ => exact rfl
    | 5, _ => exact rfl
    | 6, _ => exact rfl
    | 7, _ => exact rfl
    | 8, _ => exact rfl
    | 9, _ => exact rfl
    | 10, _ => exact rfl
    | 11, _ => exact rfl
    | 12, _ => exact rfl
    | 13, _ => exact rfl
    | 14, _ => exact rfl
    | 15, _ => exact rfl
    | 16, _ => exact rfl
    | 17, _ => exact rfl
    | 18, _ => exact rfl
    | 19, _ => exact rfl
    | 20, _ => exact rfl
    | 21, _ => exact rfl
    | 22, _ => exact rfl
    | 23, _ => exact rfl
    | 24, _ => exact rfl
    | 25, _ => exact rfl
    | 26, _ => exact rfl
    | 27, _ => exact rfl
    | 28, _ => exact rfl
    | 29, _ => exact rfl
    | 30, _ => exact rfl
    | 31, _ => exact rfl
    | 32, _ => exact rfl
    | 33, _ => exact rfl
    | 34, _ => exact rfl
    | 35, _ => exact rfl
    | 36, _ => exact rfl
    | 37, _ => exact rfl
    | 38, _ => exact rfl
    | 39, _ => exact rfl
    | 40, _ => exact rfl
    | 41, _ => exact rfl
    | 42, _ => exact rfl
    | 43, _ => exact rfl
    | 44, _ => exact rfl
    | 45, _ => exact rfl
    | i + 46, q => exact absurd q (by omega)
  · intro i hi
    match i, hi with
    | 0, _ => exact rfl
    | 1, _ => exact rfl
    | 2, _ => exact rfl
    | 3, _ => exact rfl
    | 4, _ => exact rfl
    | 5, _ => exact rfl
    | 6, _ => exact rfl
    | 7, _ => exact rfl
    | 8, _ => exact rfl
    | 9, _ => exact rfl
    | 10, _ => exact rfl
    | 11, _ => exact rfl
    | 12, _ => exact rfl
    | i + 13, q => exact absurd q (by omega)

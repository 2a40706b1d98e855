/-! the shape behind the two constructors, by program -/
def z_S0 : zS := [.inr (.inr (11, [some (some 1), some (some 12), some (some 13), some (some 18), some (some 20), some (some 43), some (some 44), some (some 45), some (some 49), some (some 58), some (some 59), some (some 60), some (some 65), some (some 68), some (some 73), none, none, none])),
  .inr (.inr (2, [some (some 2), some (some 3), some (some 4), some (some 5), some (some 6), some (some 7), some (some 8), some (some 9), some (some 10), some (some 11), none])),
  .inl (.int, 40),
  .inl (.int, 40),
  .inl (.int, 40),
  .inl (.int, 40),
  .inl (.int, 40),
  .inl (.int, 40),
  .inl (.int, 40),
  .inl (.int, 40),
  .inl (.int, 40),
  .inl (.boolean, 40),
  .inl (.int, 6),
  .inr (.inr (7, [some (some 14), some (some 15), some (some 16), some (some 17), none])),
  .inl (.int, 40),
  .inl (.int, 40),
  .inl (.int, 40),
  .inl (.int, 40),
  .inr (.inr (9, [some (some 19), none, none, none, none, none])),
  .inl (.int, 160),
  .inr (.inr (3, [some (some 21), some (some 22), some (some 23), some (some 24), none, none])),
  .inr (.inl (.object "DustYards$Text", [some 25, some 28, some 31, some 34, some 37, some 40])),
  .inl (.int, 20),
  .inl (.int, 20),
  .inl (.int, 20),
  .inr (.inr (10, [some (some 26), some (some 27), none])),
  .inl (.int, 160),
  .inl (.int, 3),
  .inr (.inr (10, [some (some 29), some (some 30), none])),
  .inl (.int, 160),
  .inl (.int, 3),
  .inr (.inr (10, [some (some 32), some (some 33), none])),
  .inl (.int, 160),
  .inl (.int, 3),
  .inr (.inr (10, [some (some 35), some (some 36), none])),
  .inl (.int, 160),
  .inl (.int, 3),
  .inr (.inr (10, [some (some 38), some (some 39), none])),
  .inl (.int, 160),
  .inl (.int, 3),
  .inr (.inr (10, [some (some 41), some (some 42), none])),
  .inl (.int, 160),
  .inl (.int, 3),
  .inl (.int, 6),
  .inl (.int, 160),
  .inr (.inr (5, [some (some 46), some (some 47), some (some 48), none])),
  .inl (.int, 20),
  .inl (.int, 20),
  .inl (.int, 20),
  .inr (.inr (4, [some (some 50), some (some 51), some (some 52), some (some 53), some (some 54), some (some 55), some (some 56), some (some 57), none, none])),
  .inl (.int, 12),
  .inl (.int, 12),
  .inl (.int, 12),
  .inl (.int, 12),
  .inl (.int, 60),
  .inl (.int, 60),
  .inl (.int, 8),
  .inl (.int, 256),
  .inl (.int, 5),
  .inl (.int, 5),
  .inr (.inr (6, [some (some 61), some (some 62), some (some 63), some (some 64), none, none])),
  .inl (.int, 50),
  .inl (.int, 5),
  .inl (.int, 5),
  .inl (.int, 5),
  .inr (.inr (0, [some (some 66), some (some 67), none])),
  .inl (.int, 8),
  .inl (.int, 8),
  .inr (.inr (1, [some (some 69), some (some 70), some (some 71), some (some 72), none])),
  .inl (.int, 6),
  .inl (.int, 6),
  .inl (.boolean, 6),
  .inl (.int, 6),
  .inr (.inl (.object "DustYards$Sheet", [some 74, some 76, some 78, some 80])),
  .inr (.inr (8, [some (some 75), none, none])),
  .inl (.int, 40),
  .inr (.inr (8, [some (some 77), none, none])),
  .inl (.int, 40),
  .inr (.inr (8, [some (some 79), none, none])),
  .inl (.int, 40),
  .inr (.inr (8, [some (some 81), none, none])),
  .inl (.int, 40),
  .inr (.inr (12, [none, some (some 83), some (some 84), none, some (some 85), some (some 86), some (some 87), some (some 88), some (some 89), some (some 90), some (some 91), some (some 92), some (some 93), some (some 94), some (some 95), none, none, some (some 96), some (some 97), some (some 98), some (some 99), some (some 100), none, none, some (some 101), some (some 102), none, none, none, none, some (some 103), some (some 104), some (some 105), none, none, none, some (some 106), none, none, some (some 107), none, some (some 108), some (some 109), some (some 110), none, some (some 111), some (some 112), some (some 113), none, some (some 114), some (some 115), some (some 116), some (some 117), none, some (some 118), some (some 119), some (some 120), some (some 121), some (some 122), none, some (some 123), some (some 124), some (some 125), some (some 126), some (some 127), some (some 128), none, none, some (some 129), some (some 130), some (some 131), some (some 132), none, some (some 133), some (some 134), some (some 135), some (some 136), some (some 137), some (some 138), some (some 139), some (some 140)])),
  .inl (.int, 24),
  .inl (.int, 6),
  .inl (.int, 40),
  .inl (.int, 40),
  .inl (.int, 40),
  .inl (.int, 40),
  .inl (.int, 40),
  .inl (.int, 40),
  .inl (.int, 40),
  .inl (.int, 40),
  .inl (.int, 40),
  .inl (.boolean, 40),
  .inl (.int, 6),
  .inl (.int, 40),
  .inl (.int, 40),
  .inl (.int, 40),
  .inl (.int, 40),
  .inl (.byte, 160),
  .inl (.int, 2880),
  .inl (.int, 18),
  .inl (.char, 46),
  .inl (.int, 13),
  .inl (.int, 170),
  .inl (.boolean, 8),
  .inl (.int, 170),
  .inl (.int, 20),
  .inl (.int, 20),
  .inl (.int, 20),
  .inl (.int, 20),
  .inl (.int, 20),
  .inl (.int, 20),
  .inl (.int, 12),
  .inl (.int, 12),
  .inl (.int, 12),
  .inl (.int, 12),
  .inl (.int, 60),
  .inl (.int, 60),
  .inl (.int, 8),
  .inl (.int, 256),
  .inl (.int, 256),
  .inl (.int, 5),
  .inl (.int, 5),
  .inl (.int, 50),
  .inl (.int, 5),
  .inl (.int, 5),
  .inl (.int, 5),
  .inl (.int, 8),
  .inl (.int, 8),
  .inl (.int, 256),
  .inl (.int, 256),
  .inl (.int, 6),
  .inl (.int, 6),
  .inl (.int, 6),
  .inl (.int, 6),
  .inl (.int, 4),
  .inl (.int, 4),
  .inl (.int, 160),
  .inl (.int, 40)]
theorem s0 : z_S0[0]? = some (.inr (.inr (11, [some (some 1), some (some 12), some (some 13), some (some 18), some (some 20), some (some 43), some (some 44), some (some 45), some (some 49), some (some 58), some (some 59), some (some 60), some (some 65), some (some 68), some (some 73), none, none, none]))) := rfl
theorem s1 : z_S0[1]? = some (.inr (.inr (2, [some (some 2), some (some 3), some (some 4), some (some 5), some (some 6), some (some 7), some (some 8), some (some 9), some (some 10), some (some 11), none]))) := rfl
theorem s2 : z_S0[2]? = some (.inl (.int, 40)) := rfl
theorem s3 : z_S0[3]? = some (.inl (.int, 40)) := rfl
theorem s4 : z_S0[4]? = some (.inl (.int, 40)) := rfl
theorem s5 : z_S0[5]? = some (.inl (.int, 40)) := rfl
theorem s6 : z_S0[6]? = some (.inl (.int, 40)) := rfl
theorem s7 : z_S0[7]? = some (.inl (.int, 40)) := rfl
theorem s8 : z_S0[8]? = some (.inl (.int, 40)) := rfl
theorem s9 : z_S0[9]? = some (.inl (.int, 40)) := rfl
theorem s10 : z_S0[10]? = some (.inl (.int, 40)) := rfl
theorem s11 : z_S0[11]? = some (.inl (.boolean, 40)) := rfl
theorem s12 : z_S0[12]? = some (.inl (.int, 6)) := rfl
theorem s13 : z_S0[13]? = some (.inr (.inr (7, [some (some 14), some (some 15), some (some 16), some (some 17), none]))) := rfl
theorem s14 : z_S0[14]? = some (.inl (.int, 40)) := rfl
theorem s15 : z_S0[15]? = some (.inl (.int, 40)) := rfl
theorem s16 : z_S0[16]? = some (.inl (.int, 40)) := rfl
theorem s17 : z_S0[17]? = some (.inl (.int, 40)) := rfl
theorem s18 : z_S0[18]? = some (.inr (.inr (9, [some (some 19), none, none, none, none, none]))) := rfl
theorem s19 : z_S0[19]? = some (.inl (.int, 160)) := rfl
theorem s20 : z_S0[20]? = some (.inr (.inr (3, [some (some 21), some (some 22), some (some 23), some (some 24), none, none]))) := rfl
theorem s21 : z_S0[21]? = some (.inr (.inl (.object "DustYards$Text", [some 25, some 28, some 31, some 34, some 37, some 40]))) := rfl
theorem s22 : z_S0[22]? = some (.inl (.int, 20)) := rfl
theorem s23 : z_S0[23]? = some (.inl (.int, 20)) := rfl
theorem s24 : z_S0[24]? = some (.inl (.int, 20)) := rfl
theorem s25 : z_S0[25]? = some (.inr (.inr (10, [some (some 26), some (some 27), none]))) := rfl
theorem s26 : z_S0[26]? = some (.inl (.int, 160)) := rfl
theorem s27 : z_S0[27]? = some (.inl (.int, 3)) := rfl
theorem s28 : z_S0[28]? = some (.inr (.inr (10, [some (some 29), some (some 30), none]))) := rfl
theorem s29 : z_S0[29]? = some (.inl (.int, 160)) := rfl
theorem s30 : z_S0[30]? = some (.inl (.int, 3)) := rfl
theorem s31 : z_S0[31]? = some (.inr (.inr (10, [some (some 32), some (some 33), none]))) := rfl
theorem s32 : z_S0[32]? = some (.inl (.int, 160)) := rfl
theorem s33 : z_S0[33]? = some (.inl (.int, 3)) := rfl
theorem s34 : z_S0[34]? = some (.inr (.inr (10, [some (some 35), some (some 36), none]))) := rfl
theorem s35 : z_S0[35]? = some (.inl (.int, 160)) := rfl
theorem s36 : z_S0[36]? = some (.inl (.int, 3)) := rfl
theorem s37 : z_S0[37]? = some (.inr (.inr (10, [some (some 38), some (some 39), none]))) := rfl
theorem s38 : z_S0[38]? = some (.inl (.int, 160)) := rfl
theorem s39 : z_S0[39]? = some (.inl (.int, 3)) := rfl
theorem s40 : z_S0[40]? = some (.inr (.inr (10, [some (some 41), some (some 42), none]))) := rfl
theorem s41 : z_S0[41]? = some (.inl (.int, 160)) := rfl
theorem s42 : z_S0[42]? = some (.inl (.int, 3)) := rfl
theorem s43 : z_S0[43]? = some (.inl (.int, 6)) := rfl
theorem s44 : z_S0[44]? = some (.inl (.int, 160)) := rfl
theorem s45 : z_S0[45]? = some (.inr (.inr (5, [some (some 46), some (some 47), some (some 48), none]))) := rfl
theorem s46 : z_S0[46]? = some (.inl (.int, 20)) := rfl
theorem s47 : z_S0[47]? = some (.inl (.int, 20)) := rfl
theorem s48 : z_S0[48]? = some (.inl (.int, 20)) := rfl
theorem s49 : z_S0[49]? = some (.inr (.inr (4, [some (some 50), some (some 51), some (some 52), some (some 53), some (some 54), some (some 55), some (some 56), some (some 57), none, none]))) := rfl
theorem s50 : z_S0[50]? = some (.inl (.int, 12)) := rfl
theorem s51 : z_S0[51]? = some (.inl (.int, 12)) := rfl
theorem s52 : z_S0[52]? = some (.inl (.int, 12)) := rfl
theorem s53 : z_S0[53]? = some (.inl (.int, 12)) := rfl
theorem s54 : z_S0[54]? = some (.inl (.int, 60)) := rfl
theorem s55 : z_S0[55]? = some (.inl (.int, 60)) := rfl
theorem s56 : z_S0[56]? = some (.inl (.int, 8)) := rfl
theorem s57 : z_S0[57]? = some (.inl (.int, 256)) := rfl
theorem s58 : z_S0[58]? = some (.inl (.int, 5)) := rfl
theorem s59 : z_S0[59]? = some (.inl (.int, 5)) := rfl
theorem s60 : z_S0[60]? = some (.inr (.inr (6, [some (some 61), some (some 62), some (some 63), some (some 64), none, none]))) := rfl
theorem s61 : z_S0[61]? = some (.inl (.int, 50)) := rfl
theorem s62 : z_S0[62]? = some (.inl (.int, 5)) := rfl
theorem s63 : z_S0[63]? = some (.inl (.int, 5)) := rfl
theorem s64 : z_S0[64]? = some (.inl (.int, 5)) := rfl
theorem s65 : z_S0[65]? = some (.inr (.inr (0, [some (some 66), some (some 67), none]))) := rfl
theorem s66 : z_S0[66]? = some (.inl (.int, 8)) := rfl
theorem s67 : z_S0[67]? = some (.inl (.int, 8)) := rfl
theorem s68 : z_S0[68]? = some (.inr (.inr (1, [some (some 69), some (some 70), some (some 71), some (some 72), none]))) := rfl
theorem s69 : z_S0[69]? = some (.inl (.int, 6)) := rfl
theorem s70 : z_S0[70]? = some (.inl (.int, 6)) := rfl
theorem s71 : z_S0[71]? = some (.inl (.boolean, 6)) := rfl
theorem s72 : z_S0[72]? = some (.inl (.int, 6)) := rfl
theorem s73 : z_S0[73]? = some (.inr (.inl (.object "DustYards$Sheet", [some 74, some 76, some 78, some 80]))) := rfl
theorem s74 : z_S0[74]? = some (.inr (.inr (8, [some (some 75), none, none]))) := rfl
theorem s75 : z_S0[75]? = some (.inl (.int, 40)) := rfl
theorem s76 : z_S0[76]? = some (.inr (.inr (8, [some (some 77), none, none]))) := rfl
theorem s77 : z_S0[77]? = some (.inl (.int, 40)) := rfl
theorem s78 : z_S0[78]? = some (.inr (.inr (8, [some (some 79), none, none]))) := rfl
theorem s79 : z_S0[79]? = some (.inl (.int, 40)) := rfl
theorem s80 : z_S0[80]? = some (.inr (.inr (8, [some (some 81), none, none]))) := rfl
theorem s81 : z_S0[81]? = some (.inl (.int, 40)) := rfl
theorem s82 : z_S0[82]? = some (.inr (.inr (12, [none, some (some 83), some (some 84), none, some (some 85), some (some 86), some (some 87), some (some 88), some (some 89), some (some 90), some (some 91), some (some 92), some (some 93), some (some 94), some (some 95), none, none, some (some 96), some (some 97), some (some 98), some (some 99), some (some 100), none, none, some (some 101), some (some 102), none, none, none, none, some (some 103), some (some 104), some (some 105), none, none, none, some (some 106), none, none, some (some 107), none, some (some 108), some (some 109), some (some 110), none, some (some 111), some (some 112), some (some 113), none, some (some 114), some (some 115), some (some 116), some (some 117), none, some (some 118), some (some 119), some (some 120), some (some 121), some (some 122), none, some (some 123), some (some 124), some (some 125), some (some 126), some (some 127), some (some 128), none, none, some (some 129), some (some 130), some (some 131), some (some 132), none, some (some 133), some (some 134), some (some 135), some (some 136), some (some 137), some (some 138), some (some 139), some (some 140)]))) := rfl
theorem s83 : z_S0[83]? = some (.inl (.int, 24)) := rfl
theorem s84 : z_S0[84]? = some (.inl (.int, 6)) := rfl
theorem s85 : z_S0[85]? = some (.inl (.int, 40)) := rfl
theorem s86 : z_S0[86]? = some (.inl (.int, 40)) := rfl
theorem s87 : z_S0[87]? = some (.inl (.int, 40)) := rfl
theorem s88 : z_S0[88]? = some (.inl (.int, 40)) := rfl
theorem s89 : z_S0[89]? = some (.inl (.int, 40)) := rfl
theorem s90 : z_S0[90]? = some (.inl (.int, 40)) := rfl
theorem s91 : z_S0[91]? = some (.inl (.int, 40)) := rfl
theorem s92 : z_S0[92]? = some (.inl (.int, 40)) := rfl
theorem s93 : z_S0[93]? = some (.inl (.int, 40)) := rfl
theorem s94 : z_S0[94]? = some (.inl (.boolean, 40)) := rfl
theorem s95 : z_S0[95]? = some (.inl (.int, 6)) := rfl
theorem s96 : z_S0[96]? = some (.inl (.int, 40)) := rfl
theorem s97 : z_S0[97]? = some (.inl (.int, 40)) := rfl
theorem s98 : z_S0[98]? = some (.inl (.int, 40)) := rfl
theorem s99 : z_S0[99]? = some (.inl (.int, 40)) := rfl
theorem s100 : z_S0[100]? = some (.inl (.byte, 160)) := rfl
theorem s101 : z_S0[101]? = some (.inl (.int, 2880)) := rfl
theorem s102 : z_S0[102]? = some (.inl (.int, 18)) := rfl
theorem s103 : z_S0[103]? = some (.inl (.char, 46)) := rfl
theorem s104 : z_S0[104]? = some (.inl (.int, 13)) := rfl
theorem s105 : z_S0[105]? = some (.inl (.int, 170)) := rfl
theorem s106 : z_S0[106]? = some (.inl (.boolean, 8)) := rfl
theorem s107 : z_S0[107]? = some (.inl (.int, 170)) := rfl
theorem s108 : z_S0[108]? = some (.inl (.int, 20)) := rfl
theorem s109 : z_S0[109]? = some (.inl (.int, 20)) := rfl
theorem s110 : z_S0[110]? = some (.inl (.int, 20)) := rfl
theorem s111 : z_S0[111]? = some (.inl (.int, 20)) := rfl
theorem s112 : z_S0[112]? = some (.inl (.int, 20)) := rfl
theorem s113 : z_S0[113]? = some (.inl (.int, 20)) := rfl
theorem s114 : z_S0[114]? = some (.inl (.int, 12)) := rfl
theorem s115 : z_S0[115]? = some (.inl (.int, 12)) := rfl
theorem s116 : z_S0[116]? = some (.inl (.int, 12)) := rfl
theorem s117 : z_S0[117]? = some (.inl (.int, 12)) := rfl
theorem s118 : z_S0[118]? = some (.inl (.int, 60)) := rfl
theorem s119 : z_S0[119]? = some (.inl (.int, 60)) := rfl
theorem s120 : z_S0[120]? = some (.inl (.int, 8)) := rfl
theorem s121 : z_S0[121]? = some (.inl (.int, 256)) := rfl
theorem s122 : z_S0[122]? = some (.inl (.int, 256)) := rfl
theorem s123 : z_S0[123]? = some (.inl (.int, 5)) := rfl
theorem s124 : z_S0[124]? = some (.inl (.int, 5)) := rfl
theorem s125 : z_S0[125]? = some (.inl (.int, 50)) := rfl
theorem s126 : z_S0[126]? = some (.inl (.int, 5)) := rfl
theorem s127 : z_S0[127]? = some (.inl (.int, 5)) := rfl
theorem s128 : z_S0[128]? = some (.inl (.int, 5)) := rfl
theorem s129 : z_S0[129]? = some (.inl (.int, 8)) := rfl
theorem s130 : z_S0[130]? = some (.inl (.int, 8)) := rfl
theorem s131 : z_S0[131]? = some (.inl (.int, 256)) := rfl
theorem s132 : z_S0[132]? = some (.inl (.int, 256)) := rfl
theorem s133 : z_S0[133]? = some (.inl (.int, 6)) := rfl
theorem s134 : z_S0[134]? = some (.inl (.int, 6)) := rfl
theorem s135 : z_S0[135]? = some (.inl (.int, 6)) := rfl
theorem s136 : z_S0[136]? = some (.inl (.int, 6)) := rfl
theorem s137 : z_S0[137]? = some (.inl (.int, 4)) := rfl
theorem s138 : z_S0[138]? = some (.inl (.int, 4)) := rfl
theorem s139 : z_S0[139]? = some (.inl (.int, 160)) := rfl
theorem s140 : z_S0[140]? = some (.inl (.int, 40)) := rfl
def z_isTx (k : Nat) : Prop := k ∈ ([25, 28, 31, 34, 37, 40] : List Nat)
def z_isSh (k : Nat) : Prop := k ∈ ([74, 76, 78, 80] : List Nat)
theorem sTx {k : Nat} (h : k ∈ ([25, 28, 31, 34, 37, 40] : List Nat)) : k < 100000 ∧ k + 1 < 100000 ∧ k + 2 < 100000 ∧ z_S0[k]? = some (.inr (.inr (10, [some (some (k + 1)), some (some (k + 2)), none]))) ∧ z_S0[k + 1]? = some (.inl (.int, 160)) ∧ z_S0[k + 2]? = some (.inl (.int, 3)) := by
  simp only [List.mem_cons, List.not_mem_nil, or_false] at h
  rcases h with rfl | rfl | rfl | rfl | rfl | rfl <;> exact ⟨by decide, by decide, by decide, rfl, rfl, rfl⟩
theorem sSh {k : Nat} (h : k ∈ ([74, 76, 78, 80] : List Nat)) : k < 100000 ∧ k + 1 < 100000 ∧ z_S0[k]? = some (.inr (.inr (8, [some (some (k + 1)), none, none]))) ∧ z_S0[k + 1]? = some (.inl (.int, 40)) := by
  simp only [List.mem_cons, List.not_mem_nil, or_false] at h
  rcases h with rfl | rfl | rfl | rfl <;> exact ⟨by decide, by decide, rfl, rfl⟩
theorem g0_9 : z_fl 0 9 = some (0, 0) := by decide +kernel
theorem g0_15 : z_fl 0 15 = some (0, 1) := by decide +kernel
theorem g0_18 : z_fl 0 18 = some (0, 2) := by decide +kernel
theorem g1_9 : z_fl 1 9 = some (1, 0) := by decide +kernel
theorem g1_15 : z_fl 1 15 = some (1, 1) := by decide +kernel
theorem g1_18 : z_fl 1 18 = some (1, 2) := by decide +kernel
theorem g1_22 : z_fl 1 22 = some (1, 3) := by decide +kernel
theorem g1_25 : z_fl 1 25 = some (1, 4) := by decide +kernel
theorem g2_9 : z_fl 2 9 = some (2, 0) := by decide +kernel
theorem g2_15 : z_fl 2 15 = some (2, 1) := by decide +kernel
theorem g2_18 : z_fl 2 18 = some (2, 2) := by decide +kernel
theorem g2_21 : z_fl 2 21 = some (2, 3) := by decide +kernel
theorem g2_24 : z_fl 2 24 = some (2, 4) := by decide +kernel
theorem g2_27 : z_fl 2 27 = some (2, 5) := by decide +kernel
theorem g2_30 : z_fl 2 30 = some (2, 6) := by decide +kernel
theorem g2_33 : z_fl 2 33 = some (2, 7) := by decide +kernel
theorem g2_36 : z_fl 2 36 = some (2, 8) := by decide +kernel
theorem g2_39 : z_fl 2 39 = some (2, 9) := by decide +kernel
theorem g2_43 : z_fl 2 43 = some (2, 10) := by decide +kernel
theorem g3_11 : z_fl 3 11 = some (3, 0) := by decide +kernel
theorem g3_17 : z_fl 3 17 = some (3, 1) := by decide +kernel
theorem g3_21 : z_fl 3 21 = some (3, 2) := by decide +kernel
theorem g3_24 : z_fl 3 24 = some (3, 3) := by decide +kernel
theorem g3_28 : z_fl 3 28 = some (3, 5) := by decide +kernel
theorem g4_11 : z_fl 4 11 = some (4, 0) := by decide +kernel
theorem g4_15 : z_fl 4 15 = some (4, 1) := by decide +kernel
theorem g4_18 : z_fl 4 18 = some (4, 2) := by decide +kernel
theorem g4_21 : z_fl 4 21 = some (4, 3) := by decide +kernel
theorem g4_24 : z_fl 4 24 = some (4, 4) := by decide +kernel
theorem g4_27 : z_fl 4 27 = some (4, 5) := by decide +kernel
theorem g4_30 : z_fl 4 30 = some (4, 6) := by decide +kernel
theorem g4_33 : z_fl 4 33 = some (4, 7) := by decide +kernel
theorem g4_36 : z_fl 4 36 = some (4, 8) := by decide +kernel
theorem g4_40 : z_fl 4 40 = some (4, 9) := by decide +kernel
theorem g5_9 : z_fl 5 9 = some (5, 0) := by decide +kernel
theorem g5_15 : z_fl 5 15 = some (5, 1) := by decide +kernel
theorem g5_18 : z_fl 5 18 = some (5, 2) := by decide +kernel
theorem g5_21 : z_fl 5 21 = some (5, 3) := by decide +kernel
theorem g6_9 : z_fl 6 9 = some (6, 0) := by decide +kernel
theorem g6_15 : z_fl 6 15 = some (6, 1) := by decide +kernel
theorem g6_18 : z_fl 6 18 = some (6, 2) := by decide +kernel
theorem g6_21 : z_fl 6 21 = some (6, 3) := by decide +kernel
theorem g6_24 : z_fl 6 24 = some (6, 4) := by decide +kernel
theorem g6_28 : z_fl 6 28 = some (6, 5) := by decide +kernel
theorem g7_9 : z_fl 7 9 = some (7, 0) := by decide +kernel
theorem g7_15 : z_fl 7 15 = some (7, 1) := by decide +kernel
theorem g7_18 : z_fl 7 18 = some (7, 2) := by decide +kernel
theorem g7_21 : z_fl 7 21 = some (7, 3) := by decide +kernel
theorem g7_24 : z_fl 7 24 = some (7, 4) := by decide +kernel
theorem g8_9 : z_fl 8 9 = some (8, 0) := by decide +kernel
theorem g8_15 : z_fl 8 15 = some (8, 1) := by decide +kernel
theorem g8_19 : z_fl 8 19 = some (8, 2) := by decide +kernel
theorem g9_9 : z_fl 9 9 = some (9, 0) := by decide +kernel
theorem g9_15 : z_fl 9 15 = some (9, 1) := by decide +kernel
theorem g9_19 : z_fl 9 19 = some (9, 3) := by decide +kernel
theorem g9_25 : z_fl 9 25 = some (9, 4) := by decide +kernel
theorem g9_28 : z_fl 9 28 = some (9, 2) := by decide +kernel
theorem g9_78 : z_fl 9 78 = some (9, 5) := by decide +kernel
theorem g10_9 : z_fl 10 9 = some (10, 0) := by decide +kernel
theorem g10_15 : z_fl 10 15 = some (10, 1) := by decide +kernel
theorem g10_18 : z_fl 10 18 = some (10, 2) := by decide +kernel
theorem g10_35 : z_fl 10 35 = some (9, 4) := by decide +kernel
theorem g10_69 : z_fl 10 69 = some (9, 5) := by decide +kernel
theorem g11_10 : z_fl 11 10 = some (11, 0) := by decide +kernel
theorem g11_16 : z_fl 11 16 = some (11, 1) := by decide +kernel
theorem g11_23 : z_fl 11 23 = some (11, 2) := by decide +kernel
theorem g11_30 : z_fl 11 30 = some (11, 3) := by decide +kernel
theorem g11_37 : z_fl 11 37 = some (11, 4) := by decide +kernel
theorem g11_41 : z_fl 11 41 = some (11, 5) := by decide +kernel
theorem g11_44 : z_fl 11 44 = some (11, 6) := by decide +kernel
theorem g11_50 : z_fl 11 50 = some (11, 7) := by decide +kernel
theorem g11_57 : z_fl 11 57 = some (11, 8) := by decide +kernel
theorem g11_61 : z_fl 11 61 = some (11, 9) := by decide +kernel
theorem g11_64 : z_fl 11 64 = some (11, 10) := by decide +kernel
theorem g11_70 : z_fl 11 70 = some (11, 11) := by decide +kernel
theorem g11_77 : z_fl 11 77 = some (11, 12) := by decide +kernel
theorem g11_84 : z_fl 11 84 = some (11, 13) := by decide +kernel
theorem g11_90 : z_fl 11 90 = some (11, 14) := by decide +kernel
theorem g11_111 : z_fl 11 111 = some (3, 0) := by decide +kernel
theorem g11_121 : z_fl 11 121 = some (3, 4) := by decide +kernel
theorem g11_132 : z_fl 11 132 = some (11, 16) := by decide +kernel
theorem g11_142 : z_fl 11 142 = some (2, 10) := by decide +kernel
theorem g11_156 : z_fl 11 156 = some (2, 0) := by decide +kernel
theorem g11_159 : z_fl 11 159 = some (2, 1) := by decide +kernel
theorem g11_162 : z_fl 11 162 = some (2, 2) := by decide +kernel
theorem g11_165 : z_fl 11 165 = some (2, 4) := by decide +kernel
theorem g11_168 : z_fl 11 168 = some (2, 8) := by decide +kernel
theorem g11_182 : z_fl 11 182 = some (2, 3) := by decide +kernel
theorem g11_184 : z_fl 11 184 = some (2, 9) := by decide +kernel
theorem g11_212 : z_fl 11 212 = some (11, 17) := by decide +kernel
theorem g11_218 : z_fl 11 218 = some (7, 4) := by decide +kernel
theorem g11_222 : z_fl 11 222 = some (9, 1) := by decide +kernel
theorem g11_225 : z_fl 11 225 = some (9, 2) := by decide +kernel
theorem g11_228 : z_fl 11 228 = some (3, 5) := by decide +kernel
theorem g11_240 : z_fl 11 240 = some (2, 5) := by decide +kernel
theorem g11_265 : z_fl 11 265 = some (5, 3) := by decide +kernel
theorem g11_271 : z_fl 11 271 = some (5, 0) := by decide +kernel
theorem g11_280 : z_fl 11 280 = some (5, 2) := by decide +kernel
theorem g11_283 : z_fl 11 283 = some (5, 1) := by decide +kernel
theorem g11_286 : z_fl 11 286 = some (4, 8) := by decide +kernel
theorem g11_289 : z_fl 11 289 = some (4, 2) := by decide +kernel
theorem g11_295 : z_fl 11 295 = some (4, 9) := by decide +kernel
theorem g11_302 : z_fl 11 302 = some (4, 0) := by decide +kernel
theorem g11_306 : z_fl 11 306 = some (11, 15) := by decide +kernel
theorem g11_313 : z_fl 11 313 = some (2, 7) := by decide +kernel
theorem g11_327 : z_fl 11 327 = some (6, 5) := by decide +kernel
theorem g11_330 : z_fl 11 330 = some (6, 3) := by decide +kernel
theorem g11_333 : z_fl 11 333 = some (0, 2) := by decide +kernel
theorem g11_339 : z_fl 11 339 = some (0, 1) := by decide +kernel
theorem g11_346 : z_fl 11 346 = some (1, 4) := by decide +kernel
theorem g11_348 : z_fl 11 348 = some (1, 2) := by decide +kernel
theorem g11_358 : z_fl 11 358 = some (1, 3) := by decide +kernel
theorem g11_371 : z_fl 11 371 = some (8, 2) := by decide +kernel
theorem g11_375 : z_fl 11 375 = some (8, 1) := by decide +kernel
theorem g11_381 : z_fl 11 381 = some (8, 0) := by decide +kernel
theorem g12_9 : z_fl 12 9 = some (12, 0) := by decide +kernel
theorem g12_21 : z_fl 12 21 = some (12, 3) := by decide +kernel
theorem g12_35 : z_fl 12 35 = some (12, 4) := by decide +kernel
theorem g12_39 : z_fl 12 39 = some (12, 5) := by decide +kernel
theorem g12_42 : z_fl 12 42 = some (12, 6) := by decide +kernel
theorem g12_45 : z_fl 12 45 = some (12, 7) := by decide +kernel
theorem g12_48 : z_fl 12 48 = some (12, 8) := by decide +kernel
theorem g12_51 : z_fl 12 51 = some (12, 9) := by decide +kernel
theorem g12_54 : z_fl 12 54 = some (12, 10) := by decide +kernel
theorem g12_57 : z_fl 12 57 = some (12, 11) := by decide +kernel
theorem g12_60 : z_fl 12 60 = some (12, 12) := by decide +kernel
theorem g12_63 : z_fl 12 63 = some (12, 1) := by decide +kernel
theorem g12_70 : z_fl 12 70 = some (12, 2) := by decide +kernel
theorem g12_85 : z_fl 12 85 = some (12, 13) := by decide +kernel
theorem g12_91 : z_fl 12 91 = some (12, 14) := by decide +kernel
theorem g12_102 : z_fl 12 102 = some (12, 15) := by decide +kernel
theorem g12_110 : z_fl 12 110 = some (12, 16) := by decide +kernel
theorem g12_113 : z_fl 12 113 = some (12, 17) := by decide +kernel
theorem g12_116 : z_fl 12 116 = some (12, 18) := by decide +kernel
theorem g12_119 : z_fl 12 119 = some (12, 19) := by decide +kernel
theorem g12_122 : z_fl 12 122 = some (12, 20) := by decide +kernel
theorem g12_127 : z_fl 12 127 = some (12, 22) := by decide +kernel
theorem g12_130 : z_fl 12 130 = some (12, 21) := by decide +kernel
theorem g12_134 : z_fl 12 134 = some (12, 26) := by decide +kernel
theorem g12_140 : z_fl 12 140 = some (12, 27) := by decide +kernel
theorem g12_143 : z_fl 12 143 = some (12, 31) := by decide +kernel
theorem g12_146 : z_fl 12 146 = some (12, 29) := by decide +kernel
theorem g12_149 : z_fl 12 149 = some (12, 30) := by decide +kernel
theorem g12_153 : z_fl 12 153 = some (12, 28) := by decide +kernel
theorem g12_166 : z_fl 12 166 = some (12, 24) := by decide +kernel
theorem g12_169 : z_fl 12 169 = some (12, 37) := by decide +kernel
theorem g12_172 : z_fl 12 172 = some (12, 38) := by decide +kernel
theorem g12_175 : z_fl 12 175 = some (12, 33) := by decide +kernel
theorem g12_178 : z_fl 12 178 = some (12, 32) := by decide +kernel
theorem g12_184 : z_fl 12 184 = some (12, 34) := by decide +kernel
theorem g12_197 : z_fl 12 197 = some (12, 36) := by decide +kernel
theorem g12_200 : z_fl 12 200 = some (12, 35) := by decide +kernel
theorem g12_213 : z_fl 12 213 = some (12, 25) := by decide +kernel
theorem g12_229 : z_fl 12 229 = some (12, 23) := by decide +kernel
theorem g12_242 : z_fl 12 242 = some (12, 39) := by decide +kernel
theorem g12_256 : z_fl 12 256 = some (12, 41) := by decide +kernel
theorem g12_259 : z_fl 12 259 = some (12, 42) := by decide +kernel
theorem g12_262 : z_fl 12 262 = some (12, 43) := by decide +kernel
theorem g12_265 : z_fl 12 265 = some (12, 45) := by decide +kernel
theorem g12_268 : z_fl 12 268 = some (12, 46) := by decide +kernel
theorem g12_271 : z_fl 12 271 = some (12, 47) := by decide +kernel
theorem g12_274 : z_fl 12 274 = some (12, 49) := by decide +kernel
theorem g12_277 : z_fl 12 277 = some (12, 50) := by decide +kernel
theorem g12_280 : z_fl 12 280 = some (12, 51) := by decide +kernel
theorem g12_283 : z_fl 12 283 = some (12, 52) := by decide +kernel
theorem g12_286 : z_fl 12 286 = some (12, 54) := by decide +kernel
theorem g12_289 : z_fl 12 289 = some (12, 55) := by decide +kernel
theorem g12_292 : z_fl 12 292 = some (12, 56) := by decide +kernel
theorem g12_295 : z_fl 12 295 = some (12, 57) := by decide +kernel
theorem g12_298 : z_fl 12 298 = some (12, 58) := by decide +kernel
theorem g12_301 : z_fl 12 301 = some (12, 60) := by decide +kernel
theorem g12_304 : z_fl 12 304 = some (12, 61) := by decide +kernel
theorem g12_307 : z_fl 12 307 = some (12, 62) := by decide +kernel
theorem g12_310 : z_fl 12 310 = some (12, 63) := by decide +kernel
theorem g12_313 : z_fl 12 313 = some (12, 64) := by decide +kernel
theorem g12_316 : z_fl 12 316 = some (12, 65) := by decide +kernel
theorem g12_319 : z_fl 12 319 = some (12, 68) := by decide +kernel
theorem g12_322 : z_fl 12 322 = some (12, 69) := by decide +kernel
theorem g12_325 : z_fl 12 325 = some (12, 70) := by decide +kernel
theorem g12_328 : z_fl 12 328 = some (12, 71) := by decide +kernel
theorem g12_331 : z_fl 12 331 = some (12, 73) := by decide +kernel
theorem g12_334 : z_fl 12 334 = some (12, 74) := by decide +kernel
theorem g12_337 : z_fl 12 337 = some (12, 75) := by decide +kernel
theorem g12_340 : z_fl 12 340 = some (12, 76) := by decide +kernel
theorem g12_343 : z_fl 12 343 = some (12, 77) := by decide +kernel
theorem g12_346 : z_fl 12 346 = some (12, 78) := by decide +kernel
theorem g12_349 : z_fl 12 349 = some (12, 79) := by decide +kernel
theorem g12_352 : z_fl 12 352 = some (12, 80) := by decide +kernel
theorem g12_355 : z_fl 12 355 = some (12, 40) := by decide +kernel
theorem g12_380 : z_fl 12 380 = some (12, 44) := by decide +kernel
theorem g12_391 : z_fl 12 391 = some (12, 48) := by decide +kernel
theorem g12_394 : z_fl 12 394 = some (12, 53) := by decide +kernel
theorem g12_406 : z_fl 12 406 = some (12, 59) := by decide +kernel
theorem g12_413 : z_fl 12 413 = some (12, 66) := by decide +kernel
theorem g12_425 : z_fl 12 425 = some (12, 67) := by decide +kernel
theorem g12_435 : z_fl 12 435 = some (12, 72) := by decide +kernel
theorem kBm100 : (Int8.ofInt (-100)).toInt32 = (-100 : Int32) := by decide +kernel
theorem kBm14 : (Int8.ofInt (-14)).toInt32 = (-14 : Int32) := by decide +kernel
theorem kBm13 : (Int8.ofInt (-13)).toInt32 = (-13 : Int32) := by decide +kernel
theorem kBm12 : (Int8.ofInt (-12)).toInt32 = (-12 : Int32) := by decide +kernel
theorem kBm11 : (Int8.ofInt (-11)).toInt32 = (-11 : Int32) := by decide +kernel
theorem kBm10 : (Int8.ofInt (-10)).toInt32 = (-10 : Int32) := by decide +kernel
theorem kBm9 : (Int8.ofInt (-9)).toInt32 = (-9 : Int32) := by decide +kernel
theorem kBm8 : (Int8.ofInt (-8)).toInt32 = (-8 : Int32) := by decide +kernel
theorem kBm7 : (Int8.ofInt (-7)).toInt32 = (-7 : Int32) := by decide +kernel
theorem kBm6 : (Int8.ofInt (-6)).toInt32 = (-6 : Int32) := by decide +kernel
theorem kBm5 : (Int8.ofInt (-5)).toInt32 = (-5 : Int32) := by decide +kernel
theorem kBm4 : (Int8.ofInt (-4)).toInt32 = (-4 : Int32) := by decide +kernel
theorem kBm3 : (Int8.ofInt (-3)).toInt32 = (-3 : Int32) := by decide +kernel
theorem kBm2 : (Int8.ofInt (-2)).toInt32 = (-2 : Int32) := by decide +kernel
theorem kB6 : (Int8.ofInt 6).toInt32 = (6 : Int32) := by decide +kernel
theorem kB7 : (Int8.ofInt 7).toInt32 = (7 : Int32) := by decide +kernel
theorem kB8 : (Int8.ofInt 8).toInt32 = (8 : Int32) := by decide +kernel
theorem kB9 : (Int8.ofInt 9).toInt32 = (9 : Int32) := by decide +kernel
theorem kB10 : (Int8.ofInt 10).toInt32 = (10 : Int32) := by decide +kernel
theorem kB11 : (Int8.ofInt 11).toInt32 = (11 : Int32) := by decide +kernel
theorem kB12 : (Int8.ofInt 12).toInt32 = (12 : Int32) := by decide +kernel
theorem kB13 : (Int8.ofInt 13).toInt32 = (13 : Int32) := by decide +kernel
theorem kB14 : (Int8.ofInt 14).toInt32 = (14 : Int32) := by decide +kernel
theorem kB15 : (Int8.ofInt 15).toInt32 = (15 : Int32) := by decide +kernel
theorem kB16 : (Int8.ofInt 16).toInt32 = (16 : Int32) := by decide +kernel
theorem kB17 : (Int8.ofInt 17).toInt32 = (17 : Int32) := by decide +kernel
theorem kB18 : (Int8.ofInt 18).toInt32 = (18 : Int32) := by decide +kernel
theorem kB19 : (Int8.ofInt 19).toInt32 = (19 : Int32) := by decide +kernel
theorem kB20 : (Int8.ofInt 20).toInt32 = (20 : Int32) := by decide +kernel
theorem kB21 : (Int8.ofInt 21).toInt32 = (21 : Int32) := by decide +kernel
theorem kB22 : (Int8.ofInt 22).toInt32 = (22 : Int32) := by decide +kernel
theorem kB23 : (Int8.ofInt 23).toInt32 = (23 : Int32) := by decide +kernel
theorem kB24 : (Int8.ofInt 24).toInt32 = (24 : Int32) := by decide +kernel
theorem kB25 : (Int8.ofInt 25).toInt32 = (25 : Int32) := by decide +kernel
theorem kB26 : (Int8.ofInt 26).toInt32 = (26 : Int32) := by decide +kernel
theorem kB27 : (Int8.ofInt 27).toInt32 = (27 : Int32) := by decide +kernel
theorem kB28 : (Int8.ofInt 28).toInt32 = (28 : Int32) := by decide +kernel
theorem kB29 : (Int8.ofInt 29).toInt32 = (29 : Int32) := by decide +kernel
theorem kB30 : (Int8.ofInt 30).toInt32 = (30 : Int32) := by decide +kernel
theorem kB31 : (Int8.ofInt 31).toInt32 = (31 : Int32) := by decide +kernel
theorem kB32 : (Int8.ofInt 32).toInt32 = (32 : Int32) := by decide +kernel
theorem kB33 : (Int8.ofInt 33).toInt32 = (33 : Int32) := by decide +kernel
theorem kB34 : (Int8.ofInt 34).toInt32 = (34 : Int32) := by decide +kernel
theorem kB35 : (Int8.ofInt 35).toInt32 = (35 : Int32) := by decide +kernel
theorem kB36 : (Int8.ofInt 36).toInt32 = (36 : Int32) := by decide +kernel
theorem kB37 : (Int8.ofInt 37).toInt32 = (37 : Int32) := by decide +kernel
theorem kB38 : (Int8.ofInt 38).toInt32 = (38 : Int32) := by decide +kernel
theorem kB39 : (Int8.ofInt 39).toInt32 = (39 : Int32) := by decide +kernel
theorem kB40 : (Int8.ofInt 40).toInt32 = (40 : Int32) := by decide +kernel
theorem kB41 : (Int8.ofInt 41).toInt32 = (41 : Int32) := by decide +kernel
theorem kB42 : (Int8.ofInt 42).toInt32 = (42 : Int32) := by decide +kernel
theorem kB43 : (Int8.ofInt 43).toInt32 = (43 : Int32) := by decide +kernel
theorem kB44 : (Int8.ofInt 44).toInt32 = (44 : Int32) := by decide +kernel
theorem kB45 : (Int8.ofInt 45).toInt32 = (45 : Int32) := by decide +kernel
theorem kB46 : (Int8.ofInt 46).toInt32 = (46 : Int32) := by decide +kernel
theorem kB48 : (Int8.ofInt 48).toInt32 = (48 : Int32) := by decide +kernel
theorem kB50 : (Int8.ofInt 50).toInt32 = (50 : Int32) := by decide +kernel
theorem kB57 : (Int8.ofInt 57).toInt32 = (57 : Int32) := by decide +kernel
theorem kB59 : (Int8.ofInt 59).toInt32 = (59 : Int32) := by decide +kernel
theorem kB60 : (Int8.ofInt 60).toInt32 = (60 : Int32) := by decide +kernel
theorem kB61 : (Int8.ofInt 61).toInt32 = (61 : Int32) := by decide +kernel
theorem kB63 : (Int8.ofInt 63).toInt32 = (63 : Int32) := by decide +kernel
theorem kB70 : (Int8.ofInt 70).toInt32 = (70 : Int32) := by decide +kernel
theorem kB80 : (Int8.ofInt 80).toInt32 = (80 : Int32) := by decide +kernel
theorem kB90 : (Int8.ofInt 90).toInt32 = (90 : Int32) := by decide +kernel
theorem kB97 : (Int8.ofInt 97).toInt32 = (97 : Int32) := by decide +kernel
theorem kB99 : (Int8.ofInt 99).toInt32 = (99 : Int32) := by decide +kernel
theorem kB100 : (Int8.ofInt 100).toInt32 = (100 : Int32) := by decide +kernel
theorem kB101 : (Int8.ofInt 101).toInt32 = (101 : Int32) := by decide +kernel
theorem kB102 : (Int8.ofInt 102).toInt32 = (102 : Int32) := by decide +kernel
theorem kB103 : (Int8.ofInt 103).toInt32 = (103 : Int32) := by decide +kernel
theorem kB104 : (Int8.ofInt 104).toInt32 = (104 : Int32) := by decide +kernel
theorem kB105 : (Int8.ofInt 105).toInt32 = (105 : Int32) := by decide +kernel
theorem kB107 : (Int8.ofInt 107).toInt32 = (107 : Int32) := by decide +kernel
theorem kB109 : (Int8.ofInt 109).toInt32 = (109 : Int32) := by decide +kernel
theorem kB110 : (Int8.ofInt 110).toInt32 = (110 : Int32) := by decide +kernel
theorem kB111 : (Int8.ofInt 111).toInt32 = (111 : Int32) := by decide +kernel
theorem kB112 : (Int8.ofInt 112).toInt32 = (112 : Int32) := by decide +kernel
theorem kB114 : (Int8.ofInt 114).toInt32 = (114 : Int32) := by decide +kernel
theorem kB115 : (Int8.ofInt 115).toInt32 = (115 : Int32) := by decide +kernel
theorem kB116 : (Int8.ofInt 116).toInt32 = (116 : Int32) := by decide +kernel
theorem kB119 : (Int8.ofInt 119).toInt32 = (119 : Int32) := by decide +kernel
theorem kB121 : (Int8.ofInt 121).toInt32 = (121 : Int32) := by decide +kernel
theorem kB122 : (Int8.ofInt 122).toInt32 = (122 : Int32) := by decide +kernel
theorem kIm1 : Int32.ofInt (-1) = (-1 : Int32) := by decide +kernel
theorem kI0 : Int32.ofInt 0 = (0 : Int32) := by decide +kernel
theorem kI1 : Int32.ofInt 1 = (1 : Int32) := by decide +kernel
theorem kI2 : Int32.ofInt 2 = (2 : Int32) := by decide +kernel
theorem kI3 : Int32.ofInt 3 = (3 : Int32) := by decide +kernel
theorem kI4 : Int32.ofInt 4 = (4 : Int32) := by decide +kernel
theorem kI5 : Int32.ofInt 5 = (5 : Int32) := by decide +kernel
theorem kS160 : (Int16.ofInt 160).toInt32 = (160 : Int32) := by decide +kernel
theorem kS161 : (Int16.ofInt 161).toInt32 = (161 : Int32) := by decide +kernel
theorem kS162 : (Int16.ofInt 162).toInt32 = (162 : Int32) := by decide +kernel
theorem kS170 : (Int16.ofInt 170).toInt32 = (170 : Int32) := by decide +kernel
theorem kS255 : (Int16.ofInt 255).toInt32 = (255 : Int32) := by decide +kernel
theorem kS256 : (Int16.ofInt 256).toInt32 = (256 : Int32) := by decide +kernel
theorem kS257 : (Int16.ofInt 257).toInt32 = (257 : Int32) := by decide +kernel
theorem kS258 : (Int16.ofInt 258).toInt32 = (258 : Int32) := by decide +kernel
theorem kS260 : (Int16.ofInt 260).toInt32 = (260 : Int32) := by decide +kernel
theorem kS261 : (Int16.ofInt 261).toInt32 = (261 : Int32) := by decide +kernel
theorem kS262 : (Int16.ofInt 262).toInt32 = (262 : Int32) := by decide +kernel
theorem kS263 : (Int16.ofInt 263).toInt32 = (263 : Int32) := by decide +kernel
theorem kS264 : (Int16.ofInt 264).toInt32 = (264 : Int32) := by decide +kernel
theorem kS265 : (Int16.ofInt 265).toInt32 = (265 : Int32) := by decide +kernel
theorem kS270 : (Int16.ofInt 270).toInt32 = (270 : Int32) := by decide +kernel
theorem kS271 : (Int16.ofInt 271).toInt32 = (271 : Int32) := by decide +kernel
theorem kS272 : (Int16.ofInt 272).toInt32 = (272 : Int32) := by decide +kernel
theorem kS273 : (Int16.ofInt 273).toInt32 = (273 : Int32) := by decide +kernel
theorem kS274 : (Int16.ofInt 274).toInt32 = (274 : Int32) := by decide +kernel
theorem kS275 : (Int16.ofInt 275).toInt32 = (275 : Int32) := by decide +kernel
theorem kS320 : (Int16.ofInt 320).toInt32 = (320 : Int32) := by decide +kernel
theorem kS399 : (Int16.ofInt 399).toInt32 = (399 : Int32) := by decide +kernel
theorem kS999 : (Int16.ofInt 999).toInt32 = (999 : Int32) := by decide +kernel
theorem kS1023 : (Int16.ofInt 1023).toInt32 = (1023 : Int32) := by decide +kernel
theorem kS2880 : (Int16.ofInt 2880).toInt32 = (2880 : Int32) := by decide +kernel
theorem kS9999 : (Int16.ofInt 9999).toInt32 = (9999 : Int32) := by decide +kernel
theorem kS10000 : (Int16.ofInt 10000).toInt32 = (10000 : Int32) := by decide +kernel
theorem zM0 : z_M[0]? = some z_m0 := rfl
theorem zM1 : z_M[1]? = some z_m1 := rfl
theorem zM2 : z_M[2]? = some z_m2 := rfl
theorem zM3 : z_M[3]? = some z_m3 := rfl
theorem zM4 : z_M[4]? = some z_m4 := rfl
theorem zM5 : z_M[5]? = some z_m5 := rfl
theorem zM6 : z_M[6]? = some z_m6 := rfl
theorem zM7 : z_M[7]? = some z_m7 := rfl
theorem zM8 : z_M[8]? = some z_m8 := rfl
theorem zM9 : z_M[9]? = some z_m9 := rfl
theorem zM10 : z_M[10]? = some z_m10 := rfl
theorem zM11 : z_M[11]? = some z_m11 := rfl
theorem zM12 : z_M[12]? = some z_m12 := rfl
theorem zM13 : z_M[13]? = some z_m13 := rfl
theorem zM14 : z_M[14]? = some z_m14 := rfl
theorem zM15 : z_M[15]? = some z_m15 := rfl
theorem zM16 : z_M[16]? = some z_m16 := rfl
theorem zM17 : z_M[17]? = some z_m17 := rfl
theorem zM18 : z_M[18]? = some z_m18 := rfl
theorem zM19 : z_M[19]? = some z_m19 := rfl
theorem zM20 : z_M[20]? = some z_m20 := rfl
theorem zM21 : z_M[21]? = some z_m21 := rfl
theorem zM22 : z_M[22]? = some z_m22 := rfl
theorem zM23 : z_M[23]? = some z_m23 := rfl
theorem zM24 : z_M[24]? = some z_m24 := rfl
theorem zM25 : z_M[25]? = some z_m25 := rfl
theorem zM26 : z_M[26]? = some z_m26 := rfl
theorem zM27 : z_M[27]? = some z_m27 := rfl
theorem zM28 : z_M[28]? = some z_m28 := rfl
theorem zM29 : z_M[29]? = some z_m29 := rfl
theorem zM30 : z_M[30]? = some z_m30 := rfl
theorem zM31 : z_M[31]? = some z_m31 := rfl
theorem zM32 : z_M[32]? = some z_m32 := rfl
theorem zM33 : z_M[33]? = some z_m33 := rfl
theorem zM34 : z_M[34]? = some z_m34 := rfl
theorem zM35 : z_M[35]? = some z_m35 := rfl
theorem zM36 : z_M[36]? = some z_m36 := rfl
theorem zM37 : z_M[37]? = some z_m37 := rfl
theorem zM38 : z_M[38]? = some z_m38 := rfl
theorem zM39 : z_M[39]? = some z_m39 := rfl
theorem zM40 : z_M[40]? = some z_m40 := rfl
theorem zM41 : z_M[41]? = some z_m41 := rfl
theorem zM42 : z_M[42]? = some z_m42 := rfl
theorem zM43 : z_M[43]? = some z_m43 := rfl
theorem zM44 : z_M[44]? = some z_m44 := rfl
theorem zM45 : z_M[45]? = some z_m45 := rfl
theorem zM46 : z_M[46]? = some z_m46 := rfl
theorem zM47 : z_M[47]? = some z_m47 := rfl
theorem zM48 : z_M[48]? = some z_m48 := rfl
theorem zM49 : z_M[49]? = some z_m49 := rfl
theorem zM50 : z_M[50]? = some z_m50 := rfl
theorem zM51 : z_M[51]? = some z_m51 := rfl
theorem zM52 : z_M[52]? = some z_m52 := rfl
theorem zM53 : z_M[53]? = some z_m53 := rfl
theorem zM54 : z_M[54]? = some z_m54 := rfl
theorem zM55 : z_M[55]? = some z_m55 := rfl
theorem zM56 : z_M[56]? = some z_m56 := rfl
theorem zM57 : z_M[57]? = some z_m57 := rfl
theorem zM58 : z_M[58]? = some z_m58 := rfl
theorem zM59 : z_M[59]? = some z_m59 := rfl
theorem zM60 : z_M[60]? = some z_m60 := rfl
theorem zM61 : z_M[61]? = some z_m61 := rfl
theorem zM62 : z_M[62]? = some z_m62 := rfl
theorem zM63 : z_M[63]? = some z_m63 := rfl
theorem zM64 : z_M[64]? = some z_m64 := rfl
theorem zM65 : z_M[65]? = some z_m65 := rfl
theorem zM66 : z_M[66]? = some z_m66 := rfl
theorem zM67 : z_M[67]? = some z_m67 := rfl
theorem zM68 : z_M[68]? = some z_m68 := rfl
theorem zM69 : z_M[69]? = some z_m69 := rfl
theorem zM70 : z_M[70]? = some z_m70 := rfl
theorem zM71 : z_M[71]? = some z_m71 := rfl
theorem zM72 : z_M[72]? = some z_m72 := rfl
theorem zM73 : z_M[73]? = some z_m73 := rfl
theorem zM74 : z_M[74]? = some z_m74 := rfl
theorem zM75 : z_M[75]? = some z_m75 := rfl
theorem zM76 : z_M[76]? = some z_m76 := rfl
theorem zM77 : z_M[77]? = some z_m77 := rfl
theorem zM78 : z_M[78]? = some z_m78 := rfl
theorem zM79 : z_M[79]? = some z_m79 := rfl
theorem zM80 : z_M[80]? = some z_m80 := rfl
theorem zM81 : z_M[81]? = some z_m81 := rfl
theorem zM82 : z_M[82]? = some z_m82 := rfl
theorem zM83 : z_M[83]? = some z_m83 := rfl
theorem zM84 : z_M[84]? = some z_m84 := rfl
theorem zM85 : z_M[85]? = some z_m85 := rfl
theorem zM86 : z_M[86]? = some z_m86 := rfl
theorem zM87 : z_M[87]? = some z_m87 := rfl
theorem zM88 : z_M[88]? = some z_m88 := rfl
theorem zM89 : z_M[89]? = some z_m89 := rfl
theorem zM90 : z_M[90]? = some z_m90 := rfl
theorem zM91 : z_M[91]? = some z_m91 := rfl
theorem zM92 : z_M[92]? = some z_m92 := rfl
theorem zM93 : z_M[93]? = some z_m93 := rfl
theorem zM94 : z_M[94]? = some z_m94 := rfl
theorem zM95 : z_M[95]? = some z_m95 := rfl
theorem zM96 : z_M[96]? = some z_m96 := rfl
theorem zM97 : z_M[97]? = some z_m97 := rfl
theorem zM98 : z_M[98]? = some z_m98 := rfl
theorem zM99 : z_M[99]? = some z_m99 := rfl
theorem zM100 : z_M[100]? = some z_m100 := rfl
theorem zM101 : z_M[101]? = some z_m101 := rfl
theorem zM102 : z_M[102]? = some z_m102 := rfl
theorem zM103 : z_M[103]? = some z_m103 := rfl
theorem zM104 : z_M[104]? = some z_m104 := rfl
theorem zM105 : z_M[105]? = some z_m105 := rfl
theorem zM106 : z_M[106]? = some z_m106 := rfl
theorem zM107 : z_M[107]? = some z_m107 := rfl
theorem zM108 : z_M[108]? = some z_m108 := rfl
theorem zM109 : z_M[109]? = some z_m109 := rfl
theorem zM110 : z_M[110]? = some z_m110 := rfl
theorem zM111 : z_M[111]? = some z_m111 := rfl
theorem zM112 : z_M[112]? = some z_m112 := rfl
theorem zM113 : z_M[113]? = some z_m113 := rfl
theorem zM114 : z_M[114]? = some z_m114 := rfl
theorem zM115 : z_M[115]? = some z_m115 := rfl
theorem zM116 : z_M[116]? = some z_m116 := rfl
theorem zM117 : z_M[117]? = some z_m117 := rfl
theorem zM118 : z_M[118]? = some z_m118 := rfl
theorem zM119 : z_M[119]? = some z_m119 := rfl
theorem zM120 : z_M[120]? = some z_m120 := rfl
theorem zM121 : z_M[121]? = some z_m121 := rfl
theorem zM122 : z_M[122]? = some z_m122 := rfl
theorem zM123 : z_M[123]? = some z_m123 := rfl
theorem zM124 : z_M[124]? = some z_m124 := rfl
theorem zM125 : z_M[125]? = some z_m125 := rfl
theorem zM126 : z_M[126]? = some z_m126 := rfl
theorem zM127 : z_M[127]? = some z_m127 := rfl
theorem zM128 : z_M[128]? = some z_m128 := rfl
theorem zM129 : z_M[129]? = some z_m129 := rfl
theorem zM130 : z_M[130]? = some z_m130 := rfl
theorem zM131 : z_M[131]? = some z_m131 := rfl
theorem zM132 : z_M[132]? = some z_m132 := rfl
theorem zM133 : z_M[133]? = some z_m133 := rfl
theorem zM134 : z_M[134]? = some z_m134 := rfl
theorem zM135 : z_M[135]? = some z_m135 := rfl
theorem zM136 : z_M[136]? = some z_m136 := rfl
theorem zM137 : z_M[137]? = some z_m137 := rfl
theorem zM138 : z_M[138]? = some z_m138 := rfl
theorem zM139 : z_M[139]? = some z_m139 := rfl
theorem zM140 : z_M[140]? = some z_m140 := rfl
theorem zM141 : z_M[141]? = some z_m141 := rfl
theorem zM142 : z_M[142]? = some z_m142 := rfl
theorem zM143 : z_M[143]? = some z_m143 := rfl
theorem zM144 : z_M[144]? = some z_m144 := rfl
theorem zM145 : z_M[145]? = some z_m145 := rfl
theorem zM146 : z_M[146]? = some z_m146 := rfl
theorem zM147 : z_M[147]? = some z_m147 := rfl
theorem zM148 : z_M[148]? = some z_m148 := rfl
theorem zM149 : z_M[149]? = some z_m149 := rfl
theorem zM150 : z_M[150]? = some z_m150 := rfl
theorem zM151 : z_M[151]? = some z_m151 := rfl
theorem zM152 : z_M[152]? = some z_m152 := rfl
theorem zM153 : z_M[153]? = some z_m153 := rfl
theorem zM154 : z_M[154]? = some z_m154 := rfl
theorem zM155 : z_M[155]? = some z_m155 := rfl
theorem zM156 : z_M[156]? = some z_m156 := rfl
theorem zM157 : z_M[157]? = some z_m157 := rfl
theorem zM158 : z_M[158]? = some z_m158 := rfl
theorem zM159 : z_M[159]? = some z_m159 := rfl
theorem zM160 : z_M[160]? = some z_m160 := rfl
theorem zM161 : z_M[161]? = some z_m161 := rfl
theorem zM162 : z_M[162]? = some z_m162 := rfl
theorem zM163 : z_M[163]? = some z_m163 := rfl
theorem zM164 : z_M[164]? = some z_m164 := rfl
theorem zM165 : z_M[165]? = some z_m165 := rfl
theorem zM166 : z_M[166]? = some z_m166 := rfl
theorem zM167 : z_M[167]? = some z_m167 := rfl
theorem zM168 : z_M[168]? = some z_m168 := rfl
theorem zM169 : z_M[169]? = some z_m169 := rfl
theorem zM170 : z_M[170]? = some z_m170 := rfl
theorem zM171 : z_M[171]? = some z_m171 := rfl
theorem zM172 : z_M[172]? = some z_m172 := rfl
theorem zM173 : z_M[173]? = some z_m173 := rfl
theorem zM174 : z_M[174]? = some z_m174 := rfl
theorem zM175 : z_M[175]? = some z_m175 := rfl
theorem zM176 : z_M[176]? = some z_m176 := rfl
theorem zM177 : z_M[177]? = some z_m177 := rfl
theorem zM178 : z_M[178]? = some z_m178 := rfl
theorem zM179 : z_M[179]? = some z_m179 := rfl
theorem zM180 : z_M[180]? = some z_m180 := rfl
theorem zM181 : z_M[181]? = some z_m181 := rfl
theorem zM182 : z_M[182]? = some z_m182 := rfl
theorem zM183 : z_M[183]? = some z_m183 := rfl
theorem zM184 : z_M[184]? = some z_m184 := rfl
theorem zM185 : z_M[185]? = some z_m185 := rfl
theorem zM186 : z_M[186]? = some z_m186 := rfl
theorem zM187 : z_M[187]? = some z_m187 := rfl
theorem zM188 : z_M[188]? = some z_m188 := rfl
theorem zM189 : z_M[189]? = some z_m189 := rfl
theorem zM190 : z_M[190]? = some z_m190 := rfl
theorem zM191 : z_M[191]? = some z_m191 := rfl
theorem zM192 : z_M[192]? = some z_m192 := rfl
theorem zM193 : z_M[193]? = some z_m193 := rfl
theorem zM194 : z_M[194]? = some z_m194 := rfl
theorem zM195 : z_M[195]? = some z_m195 := rfl
theorem zM196 : z_M[196]? = some z_m196 := rfl
theorem zM197 : z_M[197]? = some z_m197 := rfl
theorem zM198 : z_M[198]? = some z_m198 := rfl
theorem zM199 : z_M[199]? = some z_m199 := rfl
theorem zM200 : z_M[200]? = some z_m200 := rfl
theorem zM201 : z_M[201]? = some z_m201 := rfl
theorem zM202 : z_M[202]? = some z_m202 := rfl
theorem zM203 : z_M[203]? = some z_m203 := rfl
theorem zM204 : z_M[204]? = some z_m204 := rfl
theorem zM205 : z_M[205]? = some z_m205 := rfl
theorem zM206 : z_M[206]? = some z_m206 := rfl
theorem zM207 : z_M[207]? = some z_m207 := rfl
theorem zM208 : z_M[208]? = some z_m208 := rfl
theorem zM209 : z_M[209]? = some z_m209 := rfl
theorem zM210 : z_M[210]? = some z_m210 := rfl
theorem zM211 : z_M[211]? = some z_m211 := rfl
theorem zM212 : z_M[212]? = some z_m212 := rfl
theorem zM213 : z_M[213]? = some z_m213 := rfl
theorem zM214 : z_M[214]? = some z_m214 := rfl
theorem zM215 : z_M[215]? = some z_m215 := rfl
theorem zM216 : z_M[216]? = some z_m216 := rfl
theorem zM217 : z_M[217]? = some z_m217 := rfl
theorem zM218 : z_M[218]? = some z_m218 := rfl
theorem zM219 : z_M[219]? = some z_m219 := rfl
theorem zM220 : z_M[220]? = some z_m220 := rfl
theorem zM221 : z_M[221]? = some z_m221 := rfl
theorem zM222 : z_M[222]? = some z_m222 := rfl
theorem zM223 : z_M[223]? = some z_m223 := rfl

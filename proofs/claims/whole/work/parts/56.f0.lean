theorem q1_0 : z_m1.2.2.2.2.2.lookup 0 = some (.aload_n 0, 1) := by decide +kernel
theorem q1_1 : z_m1.2.2.2.2.2.lookup 1 = some (.invokespecial 3, 3) := by decide +kernel
theorem q1_4 : z_m1.2.2.2.2.2.lookup 4 = some (.aload_n 0, 1) := by decide +kernel
theorem q1_5 : z_m1.2.2.2.2.2.lookup 5 = some (.bipush 8, 2) := by decide +kernel
theorem q1_7 : z_m1.2.2.2.2.2.lookup 7 = some (.newarray .int, 2) := by decide +kernel
theorem q1_9 : z_m1.2.2.2.2.2.lookup 9 = some (.putfield 9, 3) := by decide +kernel
theorem q1_12 : z_m1.2.2.2.2.2.lookup 12 = some (.aload_n 0, 1) := by decide +kernel
theorem q1_13 : z_m1.2.2.2.2.2.lookup 13 = some (.bipush 8, 2) := by decide +kernel
theorem q1_15 : z_m1.2.2.2.2.2.lookup 15 = some (.newarray .int, 2) := by decide +kernel
theorem q1_17 : z_m1.2.2.2.2.2.lookup 17 = some (.putfield 15, 3) := by decide +kernel
theorem q1_20 : z_m1.2.2.2.2.2.lookup 20 = some (.return_, 1) := by decide +kernel
theorem q5_0 : z_m5.2.2.2.2.2.lookup 0 = some (.aload_n 0, 1) := by decide +kernel
theorem q5_1 : z_m5.2.2.2.2.2.lookup 1 = some (.invokespecial 3, 3) := by decide +kernel
theorem q5_4 : z_m5.2.2.2.2.2.lookup 4 = some (.aload_n 0, 1) := by decide +kernel
theorem q5_5 : z_m5.2.2.2.2.2.lookup 5 = some (.bipush 6, 2) := by decide +kernel
theorem q5_7 : z_m5.2.2.2.2.2.lookup 7 = some (.newarray .int, 2) := by decide +kernel
theorem q5_9 : z_m5.2.2.2.2.2.lookup 9 = some (.putfield 9, 3) := by decide +kernel
theorem q5_12 : z_m5.2.2.2.2.2.lookup 12 = some (.aload_n 0, 1) := by decide +kernel
theorem q5_13 : z_m5.2.2.2.2.2.lookup 13 = some (.bipush 6, 2) := by decide +kernel
theorem q5_15 : z_m5.2.2.2.2.2.lookup 15 = some (.newarray .int, 2) := by decide +kernel
theorem q5_17 : z_m5.2.2.2.2.2.lookup 17 = some (.putfield 15, 3) := by decide +kernel
theorem q5_20 : z_m5.2.2.2.2.2.lookup 20 = some (.aload_n 0, 1) := by decide +kernel
theorem q5_21 : z_m5.2.2.2.2.2.lookup 21 = some (.bipush 6, 2) := by decide +kernel
theorem q5_23 : z_m5.2.2.2.2.2.lookup 23 = some (.newarray .boolean, 2) := by decide +kernel
theorem q5_25 : z_m5.2.2.2.2.2.lookup 25 = some (.putfield 18, 3) := by decide +kernel
theorem q5_28 : z_m5.2.2.2.2.2.lookup 28 = some (.aload_n 0, 1) := by decide +kernel
theorem q5_29 : z_m5.2.2.2.2.2.lookup 29 = some (.bipush 6, 2) := by decide +kernel
theorem q5_31 : z_m5.2.2.2.2.2.lookup 31 = some (.newarray .int, 2) := by decide +kernel
theorem q5_33 : z_m5.2.2.2.2.2.lookup 33 = some (.putfield 22, 3) := by decide +kernel
theorem q5_36 : z_m5.2.2.2.2.2.lookup 36 = some (.return_, 1) := by decide +kernel
theorem q10_0 : z_m10.2.2.2.2.2.lookup 0 = some (.aload_n 0, 1) := by decide +kernel
theorem q10_1 : z_m10.2.2.2.2.2.lookup 1 = some (.invokespecial 3, 3) := by decide +kernel
theorem q10_4 : z_m10.2.2.2.2.2.lookup 4 = some (.aload_n 0, 1) := by decide +kernel
theorem q10_5 : z_m10.2.2.2.2.2.lookup 5 = some (.bipush 40, 2) := by decide +kernel
theorem q10_7 : z_m10.2.2.2.2.2.lookup 7 = some (.newarray .int, 2) := by decide +kernel
theorem q10_9 : z_m10.2.2.2.2.2.lookup 9 = some (.putfield 9, 3) := by decide +kernel
theorem q10_12 : z_m10.2.2.2.2.2.lookup 12 = some (.aload_n 0, 1) := by decide +kernel
theorem q10_13 : z_m10.2.2.2.2.2.lookup 13 = some (.bipush 40, 2) := by decide +kernel
theorem q10_15 : z_m10.2.2.2.2.2.lookup 15 = some (.newarray .int, 2) := by decide +kernel
theorem q10_17 : z_m10.2.2.2.2.2.lookup 17 = some (.putfield 15, 3) := by decide +kernel
theorem q10_20 : z_m10.2.2.2.2.2.lookup 20 = some (.aload_n 0, 1) := by decide +kernel
theorem q10_21 : z_m10.2.2.2.2.2.lookup 21 = some (.bipush 40, 2) := by decide +kernel
theorem q10_23 : z_m10.2.2.2.2.2.lookup 23 = some (.newarray .int, 2) := by decide +kernel
theorem q10_25 : z_m10.2.2.2.2.2.lookup 25 = some (.putfield 18, 3) := by decide +kernel
theorem q10_28 : z_m10.2.2.2.2.2.lookup 28 = some (.aload_n 0, 1) := by decide +kernel
theorem q10_29 : z_m10.2.2.2.2.2.lookup 29 = some (.bipush 40, 2) := by decide +kernel
theorem q10_31 : z_m10.2.2.2.2.2.lookup 31 = some (.newarray .int, 2) := by decide +kernel
theorem q10_33 : z_m10.2.2.2.2.2.lookup 33 = some (.putfield 21, 3) := by decide +kernel
theorem q10_36 : z_m10.2.2.2.2.2.lookup 36 = some (.aload_n 0, 1) := by decide +kernel
theorem q10_37 : z_m10.2.2.2.2.2.lookup 37 = some (.bipush 40, 2) := by decide +kernel
theorem q10_39 : z_m10.2.2.2.2.2.lookup 39 = some (.newarray .int, 2) := by decide +kernel
theorem q10_41 : z_m10.2.2.2.2.2.lookup 41 = some (.putfield 24, 3) := by decide +kernel
theorem q10_44 : z_m10.2.2.2.2.2.lookup 44 = some (.aload_n 0, 1) := by decide +kernel
theorem q10_45 : z_m10.2.2.2.2.2.lookup 45 = some (.bipush 40, 2) := by decide +kernel
theorem q10_47 : z_m10.2.2.2.2.2.lookup 47 = some (.newarray .int, 2) := by decide +kernel
theorem q10_49 : z_m10.2.2.2.2.2.lookup 49 = some (.putfield 27, 3) := by decide +kernel
theorem q10_52 : z_m10.2.2.2.2.2.lookup 52 = some (.aload_n 0, 1) := by decide +kernel
theorem q10_53 : z_m10.2.2.2.2.2.lookup 53 = some (.bipush 40, 2) := by decide +kernel
theorem q10_55 : z_m10.2.2.2.2.2.lookup 55 = some (.newarray .int, 2) := by decide +kernel
theorem q10_57 : z_m10.2.2.2.2.2.lookup 57 = some (.putfield 30, 3) := by decide +kernel
theorem q10_60 : z_m10.2.2.2.2.2.lookup 60 = some (.aload_n 0, 1) := by decide +kernel
theorem q10_61 : z_m10.2.2.2.2.2.lookup 61 = some (.bipush 40, 2) := by decide +kernel
theorem q10_63 : z_m10.2.2.2.2.2.lookup 63 = some (.newarray .int, 2) := by decide +kernel
theorem q10_65 : z_m10.2.2.2.2.2.lookup 65 = some (.putfield 33, 3) := by decide +kernel
theorem q10_68 : z_m10.2.2.2.2.2.lookup 68 = some (.aload_n 0, 1) := by decide +kernel
theorem q10_69 : z_m10.2.2.2.2.2.lookup 69 = some (.bipush 40, 2) := by decide +kernel
theorem q10_71 : z_m10.2.2.2.2.2.lookup 71 = some (.newarray .int, 2) := by decide +kernel
theorem q10_73 : z_m10.2.2.2.2.2.lookup 73 = some (.putfield 36, 3) := by decide +kernel
theorem q10_76 : z_m10.2.2.2.2.2.lookup 76 = some (.aload_n 0, 1) := by decide +kernel
theorem q10_77 : z_m10.2.2.2.2.2.lookup 77 = some (.bipush 40, 2) := by decide +kernel
theorem q10_79 : z_m10.2.2.2.2.2.lookup 79 = some (.newarray .boolean, 2) := by decide +kernel
theorem q10_81 : z_m10.2.2.2.2.2.lookup 81 = some (.putfield 39, 3) := by decide +kernel
theorem q10_84 : z_m10.2.2.2.2.2.lookup 84 = some (.return_, 1) := by decide +kernel
theorem q22_0 : z_m22.2.2.2.2.2.lookup 0 = some (.aload_n 0, 1) := by decide +kernel
theorem q22_1 : z_m22.2.2.2.2.2.lookup 1 = some (.invokespecial 3, 3) := by decide +kernel
theorem q22_4 : z_m22.2.2.2.2.2.lookup 4 = some (.aload_n 0, 1) := by decide +kernel
theorem q22_5 : z_m22.2.2.2.2.2.lookup 5 = some (.bipush 6, 2) := by decide +kernel
theorem q22_7 : z_m22.2.2.2.2.2.lookup 7 = some (.anewarray 9, 3) := by decide +kernel
theorem q22_10 : z_m22.2.2.2.2.2.lookup 10 = some (.putfield 11, 3) := by decide +kernel
theorem q22_13 : z_m22.2.2.2.2.2.lookup 13 = some (.aload_n 0, 1) := by decide +kernel
theorem q22_14 : z_m22.2.2.2.2.2.lookup 14 = some (.bipush 20, 2) := by decide +kernel
theorem q22_16 : z_m22.2.2.2.2.2.lookup 16 = some (.newarray .int, 2) := by decide +kernel
theorem q22_18 : z_m22.2.2.2.2.2.lookup 18 = some (.putfield 17, 3) := by decide +kernel
theorem q22_21 : z_m22.2.2.2.2.2.lookup 21 = some (.aload_n 0, 1) := by decide +kernel
theorem q22_22 : z_m22.2.2.2.2.2.lookup 22 = some (.bipush 20, 2) := by decide +kernel
theorem q22_24 : z_m22.2.2.2.2.2.lookup 24 = some (.newarray .int, 2) := by decide +kernel
theorem q22_26 : z_m22.2.2.2.2.2.lookup 26 = some (.putfield 21, 3) := by decide +kernel
theorem q22_29 : z_m22.2.2.2.2.2.lookup 29 = some (.aload_n 0, 1) := by decide +kernel
theorem q22_30 : z_m22.2.2.2.2.2.lookup 30 = some (.bipush 20, 2) := by decide +kernel
theorem q22_32 : z_m22.2.2.2.2.2.lookup 32 = some (.newarray .int, 2) := by decide +kernel
theorem q22_34 : z_m22.2.2.2.2.2.lookup 34 = some (.putfield 24, 3) := by decide +kernel
theorem q22_37 : z_m22.2.2.2.2.2.lookup 37 = some (.iconst 0, 1) := by decide +kernel
theorem q22_38 : z_m22.2.2.2.2.2.lookup 38 = some (.istore_n 1, 1) := by decide +kernel
theorem q22_39 : z_m22.2.2.2.2.2.lookup 39 = some (.iload_n 1, 1) := by decide +kernel
theorem q22_40 : z_m22.2.2.2.2.2.lookup 40 = some (.bipush 6, 2) := by decide +kernel
theorem q22_42 : z_m22.2.2.2.2.2.lookup 42 = some (.if_icmp .ge 22, 3) := by decide +kernel
theorem q22_45 : z_m22.2.2.2.2.2.lookup 45 = some (.aload_n 0, 1) := by decide +kernel
theorem q22_46 : z_m22.2.2.2.2.2.lookup 46 = some (.getfield 11, 3) := by decide +kernel
theorem q22_49 : z_m22.2.2.2.2.2.lookup 49 = some (.iload_n 1, 1) := by decide +kernel
theorem q22_50 : z_m22.2.2.2.2.2.lookup 50 = some (.new 9, 3) := by decide +kernel
theorem q22_53 : z_m22.2.2.2.2.2.lookup 53 = some (.dup, 1) := by decide +kernel
theorem q22_54 : z_m22.2.2.2.2.2.lookup 54 = some (.invokespecial 27, 3) := by decide +kernel
theorem q22_57 : z_m22.2.2.2.2.2.lookup 57 = some (.aastore, 1) := by decide +kernel
theorem q22_58 : z_m22.2.2.2.2.2.lookup 58 = some (.iinc 1 1, 3) := by decide +kernel
theorem q22_61 : z_m22.2.2.2.2.2.lookup 61 = some (.goto (-22), 3) := by decide +kernel
theorem q22_64 : z_m22.2.2.2.2.2.lookup 64 = some (.return_, 1) := by decide +kernel
theorem q25_0 : z_m25.2.2.2.2.2.lookup 0 = some (.aload_n 0, 1) := by decide +kernel
theorem q25_1 : z_m25.2.2.2.2.2.lookup 1 = some (.invokespecial 5, 3) := by decide +kernel
theorem q25_4 : z_m25.2.2.2.2.2.lookup 4 = some (.aload_n 0, 1) := by decide +kernel
theorem q25_5 : z_m25.2.2.2.2.2.lookup 5 = some (.bipush 12, 2) := by decide +kernel
theorem q25_7 : z_m25.2.2.2.2.2.lookup 7 = some (.newarray .int, 2) := by decide +kernel
theorem q25_9 : z_m25.2.2.2.2.2.lookup 9 = some (.putfield 11, 3) := by decide +kernel
theorem q25_12 : z_m25.2.2.2.2.2.lookup 12 = some (.aload_n 0, 1) := by decide +kernel
theorem q25_13 : z_m25.2.2.2.2.2.lookup 13 = some (.bipush 12, 2) := by decide +kernel
theorem q25_15 : z_m25.2.2.2.2.2.lookup 15 = some (.newarray .int, 2) := by decide +kernel
theorem q25_17 : z_m25.2.2.2.2.2.lookup 17 = some (.putfield 15, 3) := by decide +kernel
theorem q25_20 : z_m25.2.2.2.2.2.lookup 20 = some (.aload_n 0, 1) := by decide +kernel
theorem q25_21 : z_m25.2.2.2.2.2.lookup 21 = some (.bipush 12, 2) := by decide +kernel
theorem q25_23 : z_m25.2.2.2.2.2.lookup 23 = some (.newarray .int, 2) := by decide +kernel
theorem q25_25 : z_m25.2.2.2.2.2.lookup 25 = some (.putfield 18, 3) := by decide +kernel
theorem q25_28 : z_m25.2.2.2.2.2.lookup 28 = some (.aload_n 0, 1) := by decide +kernel
theorem q25_29 : z_m25.2.2.2.2.2.lookup 29 = some (.bipush 12, 2) := by decide +kernel
theorem q25_31 : z_m25.2.2.2.2.2.lookup 31 = some (.newarray .int, 2) := by decide +kernel
theorem q25_33 : z_m25.2.2.2.2.2.lookup 33 = some (.putfield 21, 3) := by decide +kernel
theorem q25_36 : z_m25.2.2.2.2.2.lookup 36 = some (.aload_n 0, 1) := by decide +kernel
theorem q25_37 : z_m25.2.2.2.2.2.lookup 37 = some (.bipush 60, 2) := by decide +kernel
theorem q25_39 : z_m25.2.2.2.2.2.lookup 39 = some (.newarray .int, 2) := by decide +kernel
theorem q25_41 : z_m25.2.2.2.2.2.lookup 41 = some (.putfield 24, 3) := by decide +kernel
theorem q25_44 : z_m25.2.2.2.2.2.lookup 44 = some (.aload_n 0, 1) := by decide +kernel
theorem q25_45 : z_m25.2.2.2.2.2.lookup 45 = some (.bipush 60, 2) := by decide +kernel
theorem q25_47 : z_m25.2.2.2.2.2.lookup 47 = some (.newarray .int, 2) := by decide +kernel
theorem q25_49 : z_m25.2.2.2.2.2.lookup 49 = some (.putfield 27, 3) := by decide +kernel
theorem q25_52 : z_m25.2.2.2.2.2.lookup 52 = some (.aload_n 0, 1) := by decide +kernel
theorem q25_53 : z_m25.2.2.2.2.2.lookup 53 = some (.bipush 8, 2) := by decide +kernel
theorem q25_55 : z_m25.2.2.2.2.2.lookup 55 = some (.newarray .int, 2) := by decide +kernel
theorem q25_57 : z_m25.2.2.2.2.2.lookup 57 = some (.putfield 30, 3) := by decide +kernel
theorem q25_60 : z_m25.2.2.2.2.2.lookup 60 = some (.aload_n 0, 1) := by decide +kernel
theorem q25_61 : z_m25.2.2.2.2.2.lookup 61 = some (.sipush 256, 3) := by decide +kernel
theorem q25_64 : z_m25.2.2.2.2.2.lookup 64 = some (.newarray .int, 2) := by decide +kernel
theorem q25_66 : z_m25.2.2.2.2.2.lookup 66 = some (.putfield 33, 3) := by decide +kernel
theorem q25_69 : z_m25.2.2.2.2.2.lookup 69 = some (.return_, 1) := by decide +kernel
theorem q33_0 : z_m33.2.2.2.2.2.lookup 0 = some (.aload_n 0, 1) := by decide +kernel
theorem q33_1 : z_m33.2.2.2.2.2.lookup 1 = some (.invokespecial 3, 3) := by decide +kernel
theorem q33_4 : z_m33.2.2.2.2.2.lookup 4 = some (.aload_n 0, 1) := by decide +kernel
theorem q33_5 : z_m33.2.2.2.2.2.lookup 5 = some (.bipush 20, 2) := by decide +kernel
theorem q33_7 : z_m33.2.2.2.2.2.lookup 7 = some (.newarray .int, 2) := by decide +kernel
theorem q33_9 : z_m33.2.2.2.2.2.lookup 9 = some (.putfield 9, 3) := by decide +kernel
theorem q33_12 : z_m33.2.2.2.2.2.lookup 12 = some (.aload_n 0, 1) := by decide +kernel
theorem q33_13 : z_m33.2.2.2.2.2.lookup 13 = some (.bipush 20, 2) := by decide +kernel
theorem q33_15 : z_m33.2.2.2.2.2.lookup 15 = some (.newarray .int, 2) := by decide +kernel
theorem q33_17 : z_m33.2.2.2.2.2.lookup 17 = some (.putfield 15, 3) := by decide +kernel
theorem q33_20 : z_m33.2.2.2.2.2.lookup 20 = some (.aload_n 0, 1) := by decide +kernel
theorem q33_21 : z_m33.2.2.2.2.2.lookup 21 = some (.bipush 20, 2) := by decide +kernel
theorem q33_23 : z_m33.2.2.2.2.2.lookup 23 = some (.newarray .int, 2) := by decide +kernel
theorem q33_25 : z_m33.2.2.2.2.2.lookup 25 = some (.putfield 18, 3) := by decide +kernel
theorem q33_28 : z_m33.2.2.2.2.2.lookup 28 = some (.return_, 1) := by decide +kernel
theorem q35_0 : z_m35.2.2.2.2.2.lookup 0 = some (.aload_n 0, 1) := by decide +kernel
theorem q35_1 : z_m35.2.2.2.2.2.lookup 1 = some (.invokespecial 3, 3) := by decide +kernel
theorem q35_4 : z_m35.2.2.2.2.2.lookup 4 = some (.aload_n 0, 1) := by decide +kernel
theorem q35_5 : z_m35.2.2.2.2.2.lookup 5 = some (.bipush 50, 2) := by decide +kernel
theorem q35_7 : z_m35.2.2.2.2.2.lookup 7 = some (.newarray .int, 2) := by decide +kernel
theorem q35_9 : z_m35.2.2.2.2.2.lookup 9 = some (.putfield 9, 3) := by decide +kernel
theorem q35_12 : z_m35.2.2.2.2.2.lookup 12 = some (.aload_n 0, 1) := by decide +kernel
theorem q35_13 : z_m35.2.2.2.2.2.lookup 13 = some (.iconst 5, 1) := by decide +kernel
theorem q35_14 : z_m35.2.2.2.2.2.lookup 14 = some (.newarray .int, 2) := by decide +kernel
theorem q35_16 : z_m35.2.2.2.2.2.lookup 16 = some (.putfield 15, 3) := by decide +kernel
theorem q35_19 : z_m35.2.2.2.2.2.lookup 19 = some (.aload_n 0, 1) := by decide +kernel
theorem q35_20 : z_m35.2.2.2.2.2.lookup 20 = some (.iconst 5, 1) := by decide +kernel
theorem q35_21 : z_m35.2.2.2.2.2.lookup 21 = some (.newarray .int, 2) := by decide +kernel
theorem q35_23 : z_m35.2.2.2.2.2.lookup 23 = some (.putfield 18, 3) := by decide +kernel
theorem q35_26 : z_m35.2.2.2.2.2.lookup 26 = some (.aload_n 0, 1) := by decide +kernel
theorem q35_27 : z_m35.2.2.2.2.2.lookup 27 = some (.iconst 5, 1) := by decide +kernel
theorem q35_28 : z_m35.2.2.2.2.2.lookup 28 = some (.newarray .int, 2) := by decide +kernel
theorem q35_30 : z_m35.2.2.2.2.2.lookup 30 = some (.putfield 21, 3) := by decide +kernel
theorem q35_33 : z_m35.2.2.2.2.2.lookup 33 = some (.return_, 1) := by decide +kernel
theorem q39_0 : z_m39.2.2.2.2.2.lookup 0 = some (.aload_n 0, 1) := by decide +kernel
theorem q39_1 : z_m39.2.2.2.2.2.lookup 1 = some (.invokespecial 3, 3) := by decide +kernel
theorem q39_4 : z_m39.2.2.2.2.2.lookup 4 = some (.aload_n 0, 1) := by decide +kernel
theorem q39_5 : z_m39.2.2.2.2.2.lookup 5 = some (.bipush 40, 2) := by decide +kernel
theorem q39_7 : z_m39.2.2.2.2.2.lookup 7 = some (.newarray .int, 2) := by decide +kernel
theorem q39_9 : z_m39.2.2.2.2.2.lookup 9 = some (.putfield 9, 3) := by decide +kernel
theorem q39_12 : z_m39.2.2.2.2.2.lookup 12 = some (.aload_n 0, 1) := by decide +kernel
theorem q39_13 : z_m39.2.2.2.2.2.lookup 13 = some (.bipush 40, 2) := by decide +kernel
theorem q39_15 : z_m39.2.2.2.2.2.lookup 15 = some (.newarray .int, 2) := by decide +kernel
theorem q39_17 : z_m39.2.2.2.2.2.lookup 17 = some (.putfield 15, 3) := by decide +kernel
theorem q39_20 : z_m39.2.2.2.2.2.lookup 20 = some (.aload_n 0, 1) := by decide +kernel
theorem q39_21 : z_m39.2.2.2.2.2.lookup 21 = some (.bipush 40, 2) := by decide +kernel
theorem q39_23 : z_m39.2.2.2.2.2.lookup 23 = some (.newarray .int, 2) := by decide +kernel
theorem q39_25 : z_m39.2.2.2.2.2.lookup 25 = some (.putfield 18, 3) := by decide +kernel
theorem q39_28 : z_m39.2.2.2.2.2.lookup 28 = some (.aload_n 0, 1) := by decide +kernel
theorem q39_29 : z_m39.2.2.2.2.2.lookup 29 = some (.bipush 40, 2) := by decide +kernel
theorem q39_31 : z_m39.2.2.2.2.2.lookup 31 = some (.newarray .int, 2) := by decide +kernel
theorem q39_33 : z_m39.2.2.2.2.2.lookup 33 = some (.putfield 21, 3) := by decide +kernel
theorem q39_36 : z_m39.2.2.2.2.2.lookup 36 = some (.return_, 1) := by decide +kernel
theorem q42_0 : z_m42.2.2.2.2.2.lookup 0 = some (.aload_n 0, 1) := by decide +kernel
theorem q42_1 : z_m42.2.2.2.2.2.lookup 1 = some (.invokespecial 3, 3) := by decide +kernel
theorem q42_4 : z_m42.2.2.2.2.2.lookup 4 = some (.aload_n 0, 1) := by decide +kernel
theorem q42_5 : z_m42.2.2.2.2.2.lookup 5 = some (.bipush 40, 2) := by decide +kernel
theorem q42_7 : z_m42.2.2.2.2.2.lookup 7 = some (.newarray .int, 2) := by decide +kernel
theorem q42_9 : z_m42.2.2.2.2.2.lookup 9 = some (.putfield 9, 3) := by decide +kernel
theorem q42_12 : z_m42.2.2.2.2.2.lookup 12 = some (.aload_n 0, 1) := by decide +kernel
theorem q42_13 : z_m42.2.2.2.2.2.lookup 13 = some (.iconst (-1), 1) := by decide +kernel
theorem q42_14 : z_m42.2.2.2.2.2.lookup 14 = some (.putfield 15, 3) := by decide +kernel
theorem q42_17 : z_m42.2.2.2.2.2.lookup 17 = some (.return_, 1) := by decide +kernel
theorem q47_0 : z_m47.2.2.2.2.2.lookup 0 = some (.aload_n 0, 1) := by decide +kernel
theorem q47_1 : z_m47.2.2.2.2.2.lookup 1 = some (.invokespecial 3, 3) := by decide +kernel
theorem q47_4 : z_m47.2.2.2.2.2.lookup 4 = some (.aload_n 0, 1) := by decide +kernel
theorem q47_5 : z_m47.2.2.2.2.2.lookup 5 = some (.sipush 160, 3) := by decide +kernel
theorem q47_8 : z_m47.2.2.2.2.2.lookup 8 = some (.newarray .int, 2) := by decide +kernel
theorem q47_10 : z_m47.2.2.2.2.2.lookup 10 = some (.putfield 9, 3) := by decide +kernel
theorem q47_13 : z_m47.2.2.2.2.2.lookup 13 = some (.return_, 1) := by decide +kernel
theorem q60_0 : z_m60.2.2.2.2.2.lookup 0 = some (.aload_n 0, 1) := by decide +kernel
theorem q60_1 : z_m60.2.2.2.2.2.lookup 1 = some (.invokespecial 3, 3) := by decide +kernel
theorem q60_4 : z_m60.2.2.2.2.2.lookup 4 = some (.aload_n 0, 1) := by decide +kernel
theorem q60_5 : z_m60.2.2.2.2.2.lookup 5 = some (.sipush 160, 3) := by decide +kernel
theorem q60_8 : z_m60.2.2.2.2.2.lookup 8 = some (.newarray .int, 2) := by decide +kernel
theorem q60_10 : z_m60.2.2.2.2.2.lookup 10 = some (.putfield 9, 3) := by decide +kernel
theorem q60_13 : z_m60.2.2.2.2.2.lookup 13 = some (.aload_n 0, 1) := by decide +kernel
theorem q60_14 : z_m60.2.2.2.2.2.lookup 14 = some (.iconst 3, 1) := by decide +kernel
theorem q60_15 : z_m60.2.2.2.2.2.lookup 15 = some (.newarray .int, 2) := by decide +kernel
theorem q60_17 : z_m60.2.2.2.2.2.lookup 17 = some (.putfield 15, 3) := by decide +kernel
theorem q60_20 : z_m60.2.2.2.2.2.lookup 20 = some (.return_, 1) := by decide +kernel
theorem q75_0 : z_m75.2.2.2.2.2.lookup 0 = some (.aload_n 0, 1) := by decide +kernel
theorem q75_1 : z_m75.2.2.2.2.2.lookup 1 = some (.invokespecial 1, 3) := by decide +kernel
theorem q75_4 : z_m75.2.2.2.2.2.lookup 4 = some (.aload_n 0, 1) := by decide +kernel
theorem q75_5 : z_m75.2.2.2.2.2.lookup 5 = some (.new 7, 3) := by decide +kernel
theorem q75_8 : z_m75.2.2.2.2.2.lookup 8 = some (.dup, 1) := by decide +kernel
theorem q75_9 : z_m75.2.2.2.2.2.lookup 9 = some (.invokespecial 9, 3) := by decide +kernel
theorem q75_12 : z_m75.2.2.2.2.2.lookup 12 = some (.putfield 10, 3) := by decide +kernel
theorem q75_15 : z_m75.2.2.2.2.2.lookup 15 = some (.aload_n 0, 1) := by decide +kernel
theorem q75_16 : z_m75.2.2.2.2.2.lookup 16 = some (.bipush 6, 2) := by decide +kernel
theorem q75_18 : z_m75.2.2.2.2.2.lookup 18 = some (.newarray .int, 2) := by decide +kernel
theorem q75_20 : z_m75.2.2.2.2.2.lookup 20 = some (.putfield 16, 3) := by decide +kernel
theorem q75_23 : z_m75.2.2.2.2.2.lookup 23 = some (.aload_n 0, 1) := by decide +kernel
theorem q75_24 : z_m75.2.2.2.2.2.lookup 24 = some (.new 20, 3) := by decide +kernel
theorem q75_27 : z_m75.2.2.2.2.2.lookup 27 = some (.dup, 1) := by decide +kernel
theorem q75_28 : z_m75.2.2.2.2.2.lookup 28 = some (.invokespecial 22, 3) := by decide +kernel
theorem q75_31 : z_m75.2.2.2.2.2.lookup 31 = some (.putfield 23, 3) := by decide +kernel
theorem q75_34 : z_m75.2.2.2.2.2.lookup 34 = some (.aload_n 0, 1) := by decide +kernel
theorem q75_35 : z_m75.2.2.2.2.2.lookup 35 = some (.new 27, 3) := by decide +kernel
theorem q75_38 : z_m75.2.2.2.2.2.lookup 38 = some (.dup, 1) := by decide +kernel
theorem q75_39 : z_m75.2.2.2.2.2.lookup 39 = some (.invokespecial 29, 3) := by decide +kernel
theorem q75_42 : z_m75.2.2.2.2.2.lookup 42 = some (.putfield 30, 3) := by decide +kernel
theorem q75_45 : z_m75.2.2.2.2.2.lookup 45 = some (.aload_n 0, 1) := by decide +kernel
theorem q75_46 : z_m75.2.2.2.2.2.lookup 46 = some (.new 34, 3) := by decide +kernel
theorem q75_49 : z_m75.2.2.2.2.2.lookup 49 = some (.dup, 1) := by decide +kernel
theorem q75_50 : z_m75.2.2.2.2.2.lookup 50 = some (.invokespecial 36, 3) := by decide +kernel
theorem q75_53 : z_m75.2.2.2.2.2.lookup 53 = some (.putfield 37, 3) := by decide +kernel
theorem q75_56 : z_m75.2.2.2.2.2.lookup 56 = some (.aload_n 0, 1) := by decide +kernel
theorem q75_57 : z_m75.2.2.2.2.2.lookup 57 = some (.bipush 6, 2) := by decide +kernel
theorem q75_59 : z_m75.2.2.2.2.2.lookup 59 = some (.newarray .int, 2) := by decide +kernel
theorem q75_61 : z_m75.2.2.2.2.2.lookup 61 = some (.putfield 41, 3) := by decide +kernel
theorem q75_64 : z_m75.2.2.2.2.2.lookup 64 = some (.aload_n 0, 1) := by decide +kernel
theorem q75_65 : z_m75.2.2.2.2.2.lookup 65 = some (.sipush 160, 3) := by decide +kernel
theorem q75_68 : z_m75.2.2.2.2.2.lookup 68 = some (.newarray .int, 2) := by decide +kernel
theorem q75_70 : z_m75.2.2.2.2.2.lookup 70 = some (.putfield 44, 3) := by decide +kernel
theorem q75_73 : z_m75.2.2.2.2.2.lookup 73 = some (.aload_n 0, 1) := by decide +kernel
theorem q75_74 : z_m75.2.2.2.2.2.lookup 74 = some (.new 47, 3) := by decide +kernel
theorem q75_77 : z_m75.2.2.2.2.2.lookup 77 = some (.dup, 1) := by decide +kernel
theorem q75_78 : z_m75.2.2.2.2.2.lookup 78 = some (.invokespecial 49, 3) := by decide +kernel
theorem q75_81 : z_m75.2.2.2.2.2.lookup 81 = some (.putfield 50, 3) := by decide +kernel
theorem q75_84 : z_m75.2.2.2.2.2.lookup 84 = some (.aload_n 0, 1) := by decide +kernel
theorem q75_85 : z_m75.2.2.2.2.2.lookup 85 = some (.new 54, 3) := by decide +kernel
theorem q75_88 : z_m75.2.2.2.2.2.lookup 88 = some (.dup, 1) := by decide +kernel
theorem q75_89 : z_m75.2.2.2.2.2.lookup 89 = some (.invokespecial 56, 3) := by decide +kernel
theorem q75_92 : z_m75.2.2.2.2.2.lookup 92 = some (.putfield 57, 3) := by decide +kernel
theorem q75_95 : z_m75.2.2.2.2.2.lookup 95 = some (.aload_n 0, 1) := by decide +kernel
theorem q75_96 : z_m75.2.2.2.2.2.lookup 96 = some (.iconst 5, 1) := by decide +kernel
theorem q75_97 : z_m75.2.2.2.2.2.lookup 97 = some (.newarray .int, 2) := by decide +kernel
theorem q75_99 : z_m75.2.2.2.2.2.lookup 99 = some (.putfield 61, 3) := by decide +kernel
theorem q75_102 : z_m75.2.2.2.2.2.lookup 102 = some (.aload_n 0, 1) := by decide +kernel
theorem q75_103 : z_m75.2.2.2.2.2.lookup 103 = some (.iconst 5, 1) := by decide +kernel
theorem q75_104 : z_m75.2.2.2.2.2.lookup 104 = some (.newarray .int, 2) := by decide +kernel
theorem q75_106 : z_m75.2.2.2.2.2.lookup 106 = some (.putfield 64, 3) := by decide +kernel
theorem q75_109 : z_m75.2.2.2.2.2.lookup 109 = some (.aload_n 0, 1) := by decide +kernel
theorem q75_110 : z_m75.2.2.2.2.2.lookup 110 = some (.new 67, 3) := by decide +kernel
theorem q75_113 : z_m75.2.2.2.2.2.lookup 113 = some (.dup, 1) := by decide +kernel
theorem q75_114 : z_m75.2.2.2.2.2.lookup 114 = some (.invokespecial 69, 3) := by decide +kernel
theorem q75_117 : z_m75.2.2.2.2.2.lookup 117 = some (.putfield 70, 3) := by decide +kernel
theorem q75_120 : z_m75.2.2.2.2.2.lookup 120 = some (.aload_n 0, 1) := by decide +kernel
theorem q75_121 : z_m75.2.2.2.2.2.lookup 121 = some (.new 74, 3) := by decide +kernel
theorem q75_124 : z_m75.2.2.2.2.2.lookup 124 = some (.dup, 1) := by decide +kernel
theorem q75_125 : z_m75.2.2.2.2.2.lookup 125 = some (.invokespecial 76, 3) := by decide +kernel
theorem q75_128 : z_m75.2.2.2.2.2.lookup 128 = some (.putfield 77, 3) := by decide +kernel
theorem q75_131 : z_m75.2.2.2.2.2.lookup 131 = some (.aload_n 0, 1) := by decide +kernel
theorem q75_132 : z_m75.2.2.2.2.2.lookup 132 = some (.new 81, 3) := by decide +kernel
theorem q75_135 : z_m75.2.2.2.2.2.lookup 135 = some (.dup, 1) := by decide +kernel
theorem q75_136 : z_m75.2.2.2.2.2.lookup 136 = some (.invokespecial 83, 3) := by decide +kernel
theorem q75_139 : z_m75.2.2.2.2.2.lookup 139 = some (.putfield 84, 3) := by decide +kernel
theorem q75_142 : z_m75.2.2.2.2.2.lookup 142 = some (.aload_n 0, 1) := by decide +kernel
theorem q75_143 : z_m75.2.2.2.2.2.lookup 143 = some (.iconst 4, 1) := by decide +kernel
theorem q75_144 : z_m75.2.2.2.2.2.lookup 144 = some (.anewarray 88, 3) := by decide +kernel
theorem q75_147 : z_m75.2.2.2.2.2.lookup 147 = some (.putfield 90, 3) := by decide +kernel
theorem q75_150 : z_m75.2.2.2.2.2.lookup 150 = some (.iconst 0, 1) := by decide +kernel
theorem q75_151 : z_m75.2.2.2.2.2.lookup 151 = some (.istore_n 1, 1) := by decide +kernel
theorem q75_152 : z_m75.2.2.2.2.2.lookup 152 = some (.iload_n 1, 1) := by decide +kernel
theorem q75_153 : z_m75.2.2.2.2.2.lookup 153 = some (.iconst 4, 1) := by decide +kernel
theorem q75_154 : z_m75.2.2.2.2.2.lookup 154 = some (.if_icmp .ge 22, 3) := by decide +kernel
theorem q75_157 : z_m75.2.2.2.2.2.lookup 157 = some (.aload_n 0, 1) := by decide +kernel
theorem q75_158 : z_m75.2.2.2.2.2.lookup 158 = some (.getfield 90, 3) := by decide +kernel
theorem q75_161 : z_m75.2.2.2.2.2.lookup 161 = some (.iload_n 1, 1) := by decide +kernel
theorem q75_162 : z_m75.2.2.2.2.2.lookup 162 = some (.new 88, 3) := by decide +kernel
theorem q75_165 : z_m75.2.2.2.2.2.lookup 165 = some (.dup, 1) := by decide +kernel
theorem q75_166 : z_m75.2.2.2.2.2.lookup 166 = some (.invokespecial 94, 3) := by decide +kernel
theorem q75_169 : z_m75.2.2.2.2.2.lookup 169 = some (.aastore, 1) := by decide +kernel
theorem q75_170 : z_m75.2.2.2.2.2.lookup 170 = some (.iinc 1 1, 3) := by decide +kernel
theorem q75_173 : z_m75.2.2.2.2.2.lookup 173 = some (.goto (-21), 3) := by decide +kernel
theorem q75_176 : z_m75.2.2.2.2.2.lookup 176 = some (.iconst 0, 1) := by decide +kernel
theorem q75_177 : z_m75.2.2.2.2.2.lookup 177 = some (.istore_n 1, 1) := by decide +kernel
theorem q75_178 : z_m75.2.2.2.2.2.lookup 178 = some (.iload_n 1, 1) := by decide +kernel
theorem q75_179 : z_m75.2.2.2.2.2.lookup 179 = some (.ldc 95, 2) := by decide +kernel
theorem q75_181 : z_m75.2.2.2.2.2.lookup 181 = some (.invokevirtual 97, 3) := by decide +kernel
theorem q75_184 : z_m75.2.2.2.2.2.lookup 184 = some (.if_icmp .ge 22, 3) := by decide +kernel
theorem q75_187 : z_m75.2.2.2.2.2.lookup 187 = some (.aload_n 0, 1) := by decide +kernel
theorem q75_188 : z_m75.2.2.2.2.2.lookup 188 = some (.getfield 30, 3) := by decide +kernel
theorem q75_191 : z_m75.2.2.2.2.2.lookup 191 = some (.ldc 95, 2) := by decide +kernel
theorem q75_193 : z_m75.2.2.2.2.2.lookup 193 = some (.iload_n 1, 1) := by decide +kernel
theorem q75_194 : z_m75.2.2.2.2.2.lookup 194 = some (.invokevirtual 103, 3) := by decide +kernel
theorem q75_197 : z_m75.2.2.2.2.2.lookup 197 = some (.invokevirtual 107, 3) := by decide +kernel
theorem q75_200 : z_m75.2.2.2.2.2.lookup 200 = some (.iinc 1 1, 3) := by decide +kernel
theorem q75_203 : z_m75.2.2.2.2.2.lookup 203 = some (.goto (-25), 3) := by decide +kernel
theorem q75_206 : z_m75.2.2.2.2.2.lookup 206 = some (.aload_n 0, 1) := by decide +kernel
theorem q75_207 : z_m75.2.2.2.2.2.lookup 207 = some (.getfield 37, 3) := by decide +kernel
theorem q75_210 : z_m75.2.2.2.2.2.lookup 210 = some (.getfield 111, 3) := by decide +kernel
theorem q75_213 : z_m75.2.2.2.2.2.lookup 213 = some (.iconst 0, 1) := by decide +kernel
theorem q75_214 : z_m75.2.2.2.2.2.lookup 214 = some (.aaload, 1) := by decide +kernel
theorem q75_215 : z_m75.2.2.2.2.2.lookup 215 = some (.aload_n 0, 1) := by decide +kernel
theorem q75_216 : z_m75.2.2.2.2.2.lookup 216 = some (.getfield 30, 3) := by decide +kernel
theorem q75_219 : z_m75.2.2.2.2.2.lookup 219 = some (.invokevirtual 115, 3) := by decide +kernel
theorem q75_222 : z_m75.2.2.2.2.2.lookup 222 = some (.pop, 1) := by decide +kernel
theorem q75_223 : z_m75.2.2.2.2.2.lookup 223 = some (.aload_n 0, 1) := by decide +kernel
theorem q75_224 : z_m75.2.2.2.2.2.lookup 224 = some (.getfield 37, 3) := by decide +kernel
theorem q75_227 : z_m75.2.2.2.2.2.lookup 227 = some (.iconst 1, 1) := by decide +kernel
theorem q75_228 : z_m75.2.2.2.2.2.lookup 228 = some (.putfield 121, 3) := by decide +kernel
theorem q75_231 : z_m75.2.2.2.2.2.lookup 231 = some (.aload_n 0, 1) := by decide +kernel
theorem q75_232 : z_m75.2.2.2.2.2.lookup 232 = some (.getfield 30, 3) := by decide +kernel
theorem q75_235 : z_m75.2.2.2.2.2.lookup 235 = some (.invokevirtual 125, 3) := by decide +kernel
theorem q75_238 : z_m75.2.2.2.2.2.lookup 238 = some (.return_, 1) := by decide +kernel

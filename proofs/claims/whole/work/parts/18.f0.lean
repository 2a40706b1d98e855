theorem q2_0 : z_m2.2.2.2.2.2.lookup 0 = some (.aload_n 0, 1) := by decide +kernel
theorem q2_1 : z_m2.2.2.2.2.2.lookup 1 = some (.getfield 9, 3) := by decide +kernel
theorem q2_4 : z_m2.2.2.2.2.2.lookup 4 = some (.aload_n 0, 1) := by decide +kernel
theorem q2_5 : z_m2.2.2.2.2.2.lookup 5 = some (.getfield 18, 3) := by decide +kernel
theorem q2_8 : z_m2.2.2.2.2.2.lookup 8 = some (.iload_n 1, 1) := by decide +kernel
theorem q2_9 : z_m2.2.2.2.2.2.lookup 9 = some (.iastore, 1) := by decide +kernel
theorem q2_10 : z_m2.2.2.2.2.2.lookup 10 = some (.aload_n 0, 1) := by decide +kernel
theorem q2_11 : z_m2.2.2.2.2.2.lookup 11 = some (.getfield 15, 3) := by decide +kernel
theorem q2_14 : z_m2.2.2.2.2.2.lookup 14 = some (.aload_n 0, 1) := by decide +kernel
theorem q2_15 : z_m2.2.2.2.2.2.lookup 15 = some (.getfield 18, 3) := by decide +kernel
theorem q2_18 : z_m2.2.2.2.2.2.lookup 18 = some (.iload_n 2, 1) := by decide +kernel
theorem q2_19 : z_m2.2.2.2.2.2.lookup 19 = some (.iastore, 1) := by decide +kernel
theorem q2_20 : z_m2.2.2.2.2.2.lookup 20 = some (.aload_n 0, 1) := by decide +kernel
theorem q2_21 : z_m2.2.2.2.2.2.lookup 21 = some (.dup, 1) := by decide +kernel
theorem q2_22 : z_m2.2.2.2.2.2.lookup 22 = some (.getfield 18, 3) := by decide +kernel
theorem q2_25 : z_m2.2.2.2.2.2.lookup 25 = some (.iconst 1, 1) := by decide +kernel
theorem q2_26 : z_m2.2.2.2.2.2.lookup 26 = some (.iadd, 1) := by decide +kernel
theorem q2_27 : z_m2.2.2.2.2.2.lookup 27 = some (.putfield 18, 3) := by decide +kernel
theorem q2_30 : z_m2.2.2.2.2.2.lookup 30 = some (.aload_n 0, 1) := by decide +kernel
theorem q2_31 : z_m2.2.2.2.2.2.lookup 31 = some (.getfield 18, 3) := by decide +kernel
theorem q2_34 : z_m2.2.2.2.2.2.lookup 34 = some (.iconst 1, 1) := by decide +kernel
theorem q2_35 : z_m2.2.2.2.2.2.lookup 35 = some (.isub, 1) := by decide +kernel
theorem q2_36 : z_m2.2.2.2.2.2.lookup 36 = some (.ireturn, 1) := by decide +kernel
theorem q3_0 : z_m3.2.2.2.2.2.lookup 0 = some (.iconst 0, 1) := by decide +kernel
theorem q3_1 : z_m3.2.2.2.2.2.lookup 1 = some (.istore_n 2, 1) := by decide +kernel
theorem q3_2 : z_m3.2.2.2.2.2.lookup 2 = some (.iconst 0, 1) := by decide +kernel
theorem q3_3 : z_m3.2.2.2.2.2.lookup 3 = some (.istore_n 3, 1) := by decide +kernel
theorem q3_4 : z_m3.2.2.2.2.2.lookup 4 = some (.iconst 0, 1) := by decide +kernel
theorem q3_5 : z_m3.2.2.2.2.2.lookup 5 = some (.istore 4, 2) := by decide +kernel
theorem q3_7 : z_m3.2.2.2.2.2.lookup 7 = some (.iconst 1, 1) := by decide +kernel
theorem q3_8 : z_m3.2.2.2.2.2.lookup 8 = some (.istore 5, 2) := by decide +kernel
theorem q3_10 : z_m3.2.2.2.2.2.lookup 10 = some (.iload 5, 2) := by decide +kernel
theorem q3_12 : z_m3.2.2.2.2.2.lookup 12 = some (.iconst 1, 1) := by decide +kernel
theorem q3_13 : z_m3.2.2.2.2.2.lookup 13 = some (.aload_n 0, 1) := by decide +kernel
theorem q3_14 : z_m3.2.2.2.2.2.lookup 14 = some (.getfield 18, 3) := by decide +kernel
theorem q3_17 : z_m3.2.2.2.2.2.lookup 17 = some (.ishl, 1) := by decide +kernel
theorem q3_18 : z_m3.2.2.2.2.2.lookup 18 = some (.if_icmp .ge 69, 3) := by decide +kernel
theorem q3_21 : z_m3.2.2.2.2.2.lookup 21 = some (.aload_n 0, 1) := by decide +kernel
theorem q3_22 : z_m3.2.2.2.2.2.lookup 22 = some (.aload_n 0, 1) := by decide +kernel
theorem q3_23 : z_m3.2.2.2.2.2.lookup 23 = some (.getfield 9, 3) := by decide +kernel
theorem q3_26 : z_m3.2.2.2.2.2.lookup 26 = some (.iload 5, 2) := by decide +kernel
theorem q3_28 : z_m3.2.2.2.2.2.lookup 28 = some (.invokevirtual 22, 3) := by decide +kernel
theorem q3_31 : z_m3.2.2.2.2.2.lookup 31 = some (.istore 6, 2) := by decide +kernel
theorem q3_33 : z_m3.2.2.2.2.2.lookup 33 = some (.aload_n 0, 1) := by decide +kernel
theorem q3_34 : z_m3.2.2.2.2.2.lookup 34 = some (.aload_n 0, 1) := by decide +kernel
theorem q3_35 : z_m3.2.2.2.2.2.lookup 35 = some (.getfield 15, 3) := by decide +kernel
theorem q3_38 : z_m3.2.2.2.2.2.lookup 38 = some (.iload 5, 2) := by decide +kernel
theorem q3_40 : z_m3.2.2.2.2.2.lookup 40 = some (.invokevirtual 22, 3) := by decide +kernel
theorem q3_43 : z_m3.2.2.2.2.2.lookup 43 = some (.istore 7, 2) := by decide +kernel
theorem q3_45 : z_m3.2.2.2.2.2.lookup 45 = some (.iload 6, 2) := by decide +kernel
theorem q3_47 : z_m3.2.2.2.2.2.lookup 47 = some (.iload_n 1, 1) := by decide +kernel
theorem q3_48 : z_m3.2.2.2.2.2.lookup 48 = some (.if_icmp .gt 33, 3) := by decide +kernel
theorem q3_51 : z_m3.2.2.2.2.2.lookup 51 = some (.iload 7, 2) := by decide +kernel
theorem q3_53 : z_m3.2.2.2.2.2.lookup 53 = some (.iload 4, 2) := by decide +kernel
theorem q3_55 : z_m3.2.2.2.2.2.lookup 55 = some (.if_icmp .gt 16, 3) := by decide +kernel
theorem q3_58 : z_m3.2.2.2.2.2.lookup 58 = some (.iload 7, 2) := by decide +kernel
theorem q3_60 : z_m3.2.2.2.2.2.lookup 60 = some (.iload 4, 2) := by decide +kernel
theorem q3_62 : z_m3.2.2.2.2.2.lookup 62 = some (.if_icmp .ne 19, 3) := by decide +kernel
theorem q3_65 : z_m3.2.2.2.2.2.lookup 65 = some (.iload 6, 2) := by decide +kernel
theorem q3_67 : z_m3.2.2.2.2.2.lookup 67 = some (.iload_n 3, 1) := by decide +kernel
theorem q3_68 : z_m3.2.2.2.2.2.lookup 68 = some (.if_icmp .ge 13, 3) := by decide +kernel
theorem q3_71 : z_m3.2.2.2.2.2.lookup 71 = some (.iload 5, 2) := by decide +kernel
theorem q3_73 : z_m3.2.2.2.2.2.lookup 73 = some (.istore_n 2, 1) := by decide +kernel
theorem q3_74 : z_m3.2.2.2.2.2.lookup 74 = some (.iload 6, 2) := by decide +kernel
theorem q3_76 : z_m3.2.2.2.2.2.lookup 76 = some (.istore_n 3, 1) := by decide +kernel
theorem q3_77 : z_m3.2.2.2.2.2.lookup 77 = some (.iload 7, 2) := by decide +kernel
theorem q3_79 : z_m3.2.2.2.2.2.lookup 79 = some (.istore 4, 2) := by decide +kernel
theorem q3_81 : z_m3.2.2.2.2.2.lookup 81 = some (.iinc 5 1, 3) := by decide +kernel
theorem q3_84 : z_m3.2.2.2.2.2.lookup 84 = some (.goto (-74), 3) := by decide +kernel
theorem q3_87 : z_m3.2.2.2.2.2.lookup 87 = some (.iload_n 2, 1) := by decide +kernel
theorem q3_88 : z_m3.2.2.2.2.2.lookup 88 = some (.ireturn, 1) := by decide +kernel
theorem q4_0 : z_m4.2.2.2.2.2.lookup 0 = some (.iconst 0, 1) := by decide +kernel
theorem q4_1 : z_m4.2.2.2.2.2.lookup 1 = some (.istore_n 3, 1) := by decide +kernel
theorem q4_2 : z_m4.2.2.2.2.2.lookup 2 = some (.iconst 0, 1) := by decide +kernel
theorem q4_3 : z_m4.2.2.2.2.2.lookup 3 = some (.istore 4, 2) := by decide +kernel
theorem q4_5 : z_m4.2.2.2.2.2.lookup 5 = some (.iload 4, 2) := by decide +kernel
theorem q4_7 : z_m4.2.2.2.2.2.lookup 7 = some (.aload_n 0, 1) := by decide +kernel
theorem q4_8 : z_m4.2.2.2.2.2.lookup 8 = some (.getfield 18, 3) := by decide +kernel
theorem q4_11 : z_m4.2.2.2.2.2.lookup 11 = some (.if_icmp .ge 30, 3) := by decide +kernel
theorem q4_14 : z_m4.2.2.2.2.2.lookup 14 = some (.iload_n 3, 1) := by decide +kernel
theorem q4_15 : z_m4.2.2.2.2.2.lookup 15 = some (.iload_n 2, 1) := by decide +kernel
theorem q4_16 : z_m4.2.2.2.2.2.lookup 16 = some (.iload 4, 2) := by decide +kernel
theorem q4_18 : z_m4.2.2.2.2.2.lookup 18 = some (.ishr, 1) := by decide +kernel
theorem q4_19 : z_m4.2.2.2.2.2.lookup 19 = some (.iconst 1, 1) := by decide +kernel
theorem q4_20 : z_m4.2.2.2.2.2.lookup 20 = some (.iand, 1) := by decide +kernel
theorem q4_21 : z_m4.2.2.2.2.2.lookup 21 = some (.iconst 1, 1) := by decide +kernel
theorem q4_22 : z_m4.2.2.2.2.2.lookup 22 = some (.if_icmp .ne 10, 3) := by decide +kernel
theorem q4_25 : z_m4.2.2.2.2.2.lookup 25 = some (.aload_n 1, 1) := by decide +kernel
theorem q4_26 : z_m4.2.2.2.2.2.lookup 26 = some (.iload 4, 2) := by decide +kernel
theorem q4_28 : z_m4.2.2.2.2.2.lookup 28 = some (.iaload, 1) := by decide +kernel
theorem q4_29 : z_m4.2.2.2.2.2.lookup 29 = some (.goto 4, 3) := by decide +kernel
theorem q4_32 : z_m4.2.2.2.2.2.lookup 32 = some (.iconst 0, 1) := by decide +kernel
theorem q4_33 : z_m4.2.2.2.2.2.lookup 33 = some (.iadd, 1) := by decide +kernel
theorem q4_34 : z_m4.2.2.2.2.2.lookup 34 = some (.istore_n 3, 1) := by decide +kernel
theorem q4_35 : z_m4.2.2.2.2.2.lookup 35 = some (.iinc 4 1, 3) := by decide +kernel
theorem q4_38 : z_m4.2.2.2.2.2.lookup 38 = some (.goto (-33), 3) := by decide +kernel
theorem q4_41 : z_m4.2.2.2.2.2.lookup 41 = some (.iload_n 3, 1) := by decide +kernel
theorem q4_42 : z_m4.2.2.2.2.2.lookup 42 = some (.ireturn, 1) := by decide +kernel
theorem q6_0 : z_m6.2.2.2.2.2.lookup 0 = some (.aload_n 0, 1) := by decide +kernel
theorem q6_1 : z_m6.2.2.2.2.2.lookup 1 = some (.getfield 9, 3) := by decide +kernel
theorem q6_4 : z_m6.2.2.2.2.2.lookup 4 = some (.aload_n 0, 1) := by decide +kernel
theorem q6_5 : z_m6.2.2.2.2.2.lookup 5 = some (.getfield 25, 3) := by decide +kernel
theorem q6_8 : z_m6.2.2.2.2.2.lookup 8 = some (.iload_n 1, 1) := by decide +kernel
theorem q6_9 : z_m6.2.2.2.2.2.lookup 9 = some (.iastore, 1) := by decide +kernel
theorem q6_10 : z_m6.2.2.2.2.2.lookup 10 = some (.aload_n 0, 1) := by decide +kernel
theorem q6_11 : z_m6.2.2.2.2.2.lookup 11 = some (.getfield 15, 3) := by decide +kernel
theorem q6_14 : z_m6.2.2.2.2.2.lookup 14 = some (.aload_n 0, 1) := by decide +kernel
theorem q6_15 : z_m6.2.2.2.2.2.lookup 15 = some (.getfield 25, 3) := by decide +kernel
theorem q6_18 : z_m6.2.2.2.2.2.lookup 18 = some (.iload_n 2, 1) := by decide +kernel
theorem q6_19 : z_m6.2.2.2.2.2.lookup 19 = some (.iastore, 1) := by decide +kernel
theorem q6_20 : z_m6.2.2.2.2.2.lookup 20 = some (.aload_n 0, 1) := by decide +kernel
theorem q6_21 : z_m6.2.2.2.2.2.lookup 21 = some (.dup, 1) := by decide +kernel
theorem q6_22 : z_m6.2.2.2.2.2.lookup 22 = some (.getfield 25, 3) := by decide +kernel
theorem q6_25 : z_m6.2.2.2.2.2.lookup 25 = some (.iconst 1, 1) := by decide +kernel
theorem q6_26 : z_m6.2.2.2.2.2.lookup 26 = some (.iadd, 1) := by decide +kernel
theorem q6_27 : z_m6.2.2.2.2.2.lookup 27 = some (.putfield 25, 3) := by decide +kernel
theorem q6_30 : z_m6.2.2.2.2.2.lookup 30 = some (.aload_n 0, 1) := by decide +kernel
theorem q6_31 : z_m6.2.2.2.2.2.lookup 31 = some (.getfield 25, 3) := by decide +kernel
theorem q6_34 : z_m6.2.2.2.2.2.lookup 34 = some (.iconst 1, 1) := by decide +kernel
theorem q6_35 : z_m6.2.2.2.2.2.lookup 35 = some (.isub, 1) := by decide +kernel
theorem q6_36 : z_m6.2.2.2.2.2.lookup 36 = some (.ireturn, 1) := by decide +kernel
theorem q7_0 : z_m7.2.2.2.2.2.lookup 0 = some (.aload_n 0, 1) := by decide +kernel
theorem q7_1 : z_m7.2.2.2.2.2.lookup 1 = some (.getfield 22, 3) := by decide +kernel
theorem q7_4 : z_m7.2.2.2.2.2.lookup 4 = some (.iconst 0, 1) := by decide +kernel
theorem q7_5 : z_m7.2.2.2.2.2.lookup 5 = some (.invokestatic 29, 3) := by decide +kernel
theorem q7_8 : z_m7.2.2.2.2.2.lookup 8 = some (.iload_n 1, 1) := by decide +kernel
theorem q7_9 : z_m7.2.2.2.2.2.lookup 9 = some (.istore_n 2, 1) := by decide +kernel
theorem q7_10 : z_m7.2.2.2.2.2.lookup 10 = some (.iconst 0, 1) := by decide +kernel
theorem q7_11 : z_m7.2.2.2.2.2.lookup 11 = some (.istore_n 3, 1) := by decide +kernel
theorem q7_12 : z_m7.2.2.2.2.2.lookup 12 = some (.iconst 0, 1) := by decide +kernel
theorem q7_13 : z_m7.2.2.2.2.2.lookup 13 = some (.istore 4, 2) := by decide +kernel
theorem q7_15 : z_m7.2.2.2.2.2.lookup 15 = some (.iload 4, 2) := by decide +kernel
theorem q7_17 : z_m7.2.2.2.2.2.lookup 17 = some (.aload_n 0, 1) := by decide +kernel
theorem q7_18 : z_m7.2.2.2.2.2.lookup 18 = some (.getfield 25, 3) := by decide +kernel
theorem q7_21 : z_m7.2.2.2.2.2.lookup 21 = some (.if_icmp .ge 58, 3) := by decide +kernel
theorem q7_24 : z_m7.2.2.2.2.2.lookup 24 = some (.aload_n 0, 1) := by decide +kernel
theorem q7_25 : z_m7.2.2.2.2.2.lookup 25 = some (.iload_n 3, 1) := by decide +kernel
theorem q7_26 : z_m7.2.2.2.2.2.lookup 26 = some (.invokevirtual 35, 3) := by decide +kernel
theorem q7_29 : z_m7.2.2.2.2.2.lookup 29 = some (.istore 5, 2) := by decide +kernel
theorem q7_31 : z_m7.2.2.2.2.2.lookup 31 = some (.iload 5, 2) := by decide +kernel
theorem q7_33 : z_m7.2.2.2.2.2.lookup 33 = some (.iconst (-1), 1) := by decide +kernel
theorem q7_34 : z_m7.2.2.2.2.2.lookup 34 = some (.if_icmp .ne 4, 3) := by decide +kernel
theorem q7_37 : z_m7.2.2.2.2.2.lookup 37 = some (.return_, 1) := by decide +kernel
theorem q7_38 : z_m7.2.2.2.2.2.lookup 38 = some (.iload_n 3, 1) := by decide +kernel
theorem q7_39 : z_m7.2.2.2.2.2.lookup 39 = some (.iconst 1, 1) := by decide +kernel
theorem q7_40 : z_m7.2.2.2.2.2.lookup 40 = some (.iload 5, 2) := by decide +kernel
theorem q7_42 : z_m7.2.2.2.2.2.lookup 42 = some (.ishl, 1) := by decide +kernel
theorem q7_43 : z_m7.2.2.2.2.2.lookup 43 = some (.ior, 1) := by decide +kernel
theorem q7_44 : z_m7.2.2.2.2.2.lookup 44 = some (.istore_n 3, 1) := by decide +kernel
theorem q7_45 : z_m7.2.2.2.2.2.lookup 45 = some (.aload_n 0, 1) := by decide +kernel
theorem q7_46 : z_m7.2.2.2.2.2.lookup 46 = some (.getfield 22, 3) := by decide +kernel
theorem q7_49 : z_m7.2.2.2.2.2.lookup 49 = some (.iload 5, 2) := by decide +kernel
theorem q7_51 : z_m7.2.2.2.2.2.lookup 51 = some (.iload_n 2, 1) := by decide +kernel
theorem q7_52 : z_m7.2.2.2.2.2.lookup 52 = some (.aload_n 0, 1) := by decide +kernel
theorem q7_53 : z_m7.2.2.2.2.2.lookup 53 = some (.getfield 9, 3) := by decide +kernel
theorem q7_56 : z_m7.2.2.2.2.2.lookup 56 = some (.iload 5, 2) := by decide +kernel
theorem q7_58 : z_m7.2.2.2.2.2.lookup 58 = some (.iaload, 1) := by decide +kernel
theorem q7_59 : z_m7.2.2.2.2.2.lookup 59 = some (.invokestatic 39, 3) := by decide +kernel
theorem q7_62 : z_m7.2.2.2.2.2.lookup 62 = some (.iastore, 1) := by decide +kernel
theorem q7_63 : z_m7.2.2.2.2.2.lookup 63 = some (.iload_n 2, 1) := by decide +kernel
theorem q7_64 : z_m7.2.2.2.2.2.lookup 64 = some (.aload_n 0, 1) := by decide +kernel
theorem q7_65 : z_m7.2.2.2.2.2.lookup 65 = some (.getfield 22, 3) := by decide +kernel
theorem q7_68 : z_m7.2.2.2.2.2.lookup 68 = some (.iload 5, 2) := by decide +kernel
theorem q7_70 : z_m7.2.2.2.2.2.lookup 70 = some (.iaload, 1) := by decide +kernel
theorem q7_71 : z_m7.2.2.2.2.2.lookup 71 = some (.isub, 1) := by decide +kernel
theorem q7_72 : z_m7.2.2.2.2.2.lookup 72 = some (.istore_n 2, 1) := by decide +kernel
theorem q7_73 : z_m7.2.2.2.2.2.lookup 73 = some (.iinc 4 1, 3) := by decide +kernel
theorem q7_76 : z_m7.2.2.2.2.2.lookup 76 = some (.goto (-61), 3) := by decide +kernel
theorem q7_79 : z_m7.2.2.2.2.2.lookup 79 = some (.return_, 1) := by decide +kernel
theorem q8_0 : z_m8.2.2.2.2.2.lookup 0 = some (.iconst (-1), 1) := by decide +kernel
theorem q8_1 : z_m8.2.2.2.2.2.lookup 1 = some (.istore_n 2, 1) := by decide +kernel
theorem q8_2 : z_m8.2.2.2.2.2.lookup 2 = some (.iconst 0, 1) := by decide +kernel
theorem q8_3 : z_m8.2.2.2.2.2.lookup 3 = some (.istore_n 3, 1) := by decide +kernel
theorem q8_4 : z_m8.2.2.2.2.2.lookup 4 = some (.iload_n 3, 1) := by decide +kernel
theorem q8_5 : z_m8.2.2.2.2.2.lookup 5 = some (.aload_n 0, 1) := by decide +kernel
theorem q8_6 : z_m8.2.2.2.2.2.lookup 6 = some (.getfield 25, 3) := by decide +kernel
theorem q8_9 : z_m8.2.2.2.2.2.lookup 9 = some (.if_icmp .ge 60, 3) := by decide +kernel
theorem q8_12 : z_m8.2.2.2.2.2.lookup 12 = some (.aload_n 0, 1) := by decide +kernel
theorem q8_13 : z_m8.2.2.2.2.2.lookup 13 = some (.getfield 18, 3) := by decide +kernel
theorem q8_16 : z_m8.2.2.2.2.2.lookup 16 = some (.iload_n 3, 1) := by decide +kernel
theorem q8_17 : z_m8.2.2.2.2.2.lookup 17 = some (.baload, 1) := by decide +kernel
theorem q8_18 : z_m8.2.2.2.2.2.lookup 18 = some (.ifCond .ne 15, 3) := by decide +kernel
theorem q8_21 : z_m8.2.2.2.2.2.lookup 21 = some (.iload_n 1, 1) := by decide +kernel
theorem q8_22 : z_m8.2.2.2.2.2.lookup 22 = some (.iload_n 3, 1) := by decide +kernel
theorem q8_23 : z_m8.2.2.2.2.2.lookup 23 = some (.ishr, 1) := by decide +kernel
theorem q8_24 : z_m8.2.2.2.2.2.lookup 24 = some (.iconst 1, 1) := by decide +kernel
theorem q8_25 : z_m8.2.2.2.2.2.lookup 25 = some (.iand, 1) := by decide +kernel
theorem q8_26 : z_m8.2.2.2.2.2.lookup 26 = some (.ifCond .ne 7, 3) := by decide +kernel
theorem q8_29 : z_m8.2.2.2.2.2.lookup 29 = some (.iconst 1, 1) := by decide +kernel
theorem q8_30 : z_m8.2.2.2.2.2.lookup 30 = some (.goto 4, 3) := by decide +kernel
theorem q8_33 : z_m8.2.2.2.2.2.lookup 33 = some (.iconst 0, 1) := by decide +kernel
theorem q8_34 : z_m8.2.2.2.2.2.lookup 34 = some (.istore 4, 2) := by decide +kernel
theorem q8_36 : z_m8.2.2.2.2.2.lookup 36 = some (.iload 4, 2) := by decide +kernel
theorem q8_38 : z_m8.2.2.2.2.2.lookup 38 = some (.ifCond .eq 25, 3) := by decide +kernel
theorem q8_41 : z_m8.2.2.2.2.2.lookup 41 = some (.iload_n 2, 1) := by decide +kernel
theorem q8_42 : z_m8.2.2.2.2.2.lookup 42 = some (.iconst (-1), 1) := by decide +kernel
theorem q8_43 : z_m8.2.2.2.2.2.lookup 43 = some (.if_icmp .eq 18, 3) := by decide +kernel
theorem q8_46 : z_m8.2.2.2.2.2.lookup 46 = some (.aload_n 0, 1) := by decide +kernel
theorem q8_47 : z_m8.2.2.2.2.2.lookup 47 = some (.getfield 15, 3) := by decide +kernel
theorem q8_50 : z_m8.2.2.2.2.2.lookup 50 = some (.iload_n 3, 1) := by decide +kernel
theorem q8_51 : z_m8.2.2.2.2.2.lookup 51 = some (.iaload, 1) := by decide +kernel
theorem q8_52 : z_m8.2.2.2.2.2.lookup 52 = some (.aload_n 0, 1) := by decide +kernel
theorem q8_53 : z_m8.2.2.2.2.2.lookup 53 = some (.getfield 15, 3) := by decide +kernel
theorem q8_56 : z_m8.2.2.2.2.2.lookup 56 = some (.iload_n 2, 1) := by decide +kernel
theorem q8_57 : z_m8.2.2.2.2.2.lookup 57 = some (.iaload, 1) := by decide +kernel
theorem q8_58 : z_m8.2.2.2.2.2.lookup 58 = some (.if_icmp .le 5, 3) := by decide +kernel
theorem q8_61 : z_m8.2.2.2.2.2.lookup 61 = some (.iload_n 3, 1) := by decide +kernel
theorem q8_62 : z_m8.2.2.2.2.2.lookup 62 = some (.istore_n 2, 1) := by decide +kernel
theorem q8_63 : z_m8.2.2.2.2.2.lookup 63 = some (.iinc 3 1, 3) := by decide +kernel
theorem q8_66 : z_m8.2.2.2.2.2.lookup 66 = some (.goto (-62), 3) := by decide +kernel
theorem q8_69 : z_m8.2.2.2.2.2.lookup 69 = some (.iload_n 2, 1) := by decide +kernel
theorem q8_70 : z_m8.2.2.2.2.2.lookup 70 = some (.ireturn, 1) := by decide +kernel
theorem q9_0 : z_m9.2.2.2.2.2.lookup 0 = some (.lconst 0, 1) := by decide +kernel
theorem q9_1 : z_m9.2.2.2.2.2.lookup 1 = some (.lstore_n 1, 1) := by decide +kernel
theorem q9_2 : z_m9.2.2.2.2.2.lookup 2 = some (.iconst 0, 1) := by decide +kernel
theorem q9_3 : z_m9.2.2.2.2.2.lookup 3 = some (.istore_n 3, 1) := by decide +kernel
theorem q9_4 : z_m9.2.2.2.2.2.lookup 4 = some (.iload_n 3, 1) := by decide +kernel
theorem q9_5 : z_m9.2.2.2.2.2.lookup 5 = some (.aload_n 0, 1) := by decide +kernel
theorem q9_6 : z_m9.2.2.2.2.2.lookup 6 = some (.getfield 25, 3) := by decide +kernel
theorem q9_9 : z_m9.2.2.2.2.2.lookup 9 = some (.if_icmp .ge 28, 3) := by decide +kernel
theorem q9_12 : z_m9.2.2.2.2.2.lookup 12 = some (.lload_n 1, 1) := by decide +kernel
theorem q9_13 : z_m9.2.2.2.2.2.lookup 13 = some (.aload_n 0, 1) := by decide +kernel
theorem q9_14 : z_m9.2.2.2.2.2.lookup 14 = some (.getfield 22, 3) := by decide +kernel
theorem q9_17 : z_m9.2.2.2.2.2.lookup 17 = some (.iload_n 3, 1) := by decide +kernel
theorem q9_18 : z_m9.2.2.2.2.2.lookup 18 = some (.iaload, 1) := by decide +kernel
theorem q9_19 : z_m9.2.2.2.2.2.lookup 19 = some (.aload_n 0, 1) := by decide +kernel
theorem q9_20 : z_m9.2.2.2.2.2.lookup 20 = some (.getfield 15, 3) := by decide +kernel
theorem q9_23 : z_m9.2.2.2.2.2.lookup 23 = some (.iload_n 3, 1) := by decide +kernel
theorem q9_24 : z_m9.2.2.2.2.2.lookup 24 = some (.iaload, 1) := by decide +kernel
theorem q9_25 : z_m9.2.2.2.2.2.lookup 25 = some (.invokestatic 45, 3) := by decide +kernel
theorem q9_28 : z_m9.2.2.2.2.2.lookup 28 = some (.i2l, 1) := by decide +kernel
theorem q9_29 : z_m9.2.2.2.2.2.lookup 29 = some (.ladd, 1) := by decide +kernel
theorem q9_30 : z_m9.2.2.2.2.2.lookup 30 = some (.lstore_n 1, 1) := by decide +kernel
theorem q9_31 : z_m9.2.2.2.2.2.lookup 31 = some (.iinc 3 1, 3) := by decide +kernel
theorem q9_34 : z_m9.2.2.2.2.2.lookup 34 = some (.goto (-30), 3) := by decide +kernel
theorem q9_37 : z_m9.2.2.2.2.2.lookup 37 = some (.lload_n 1, 1) := by decide +kernel
theorem q9_38 : z_m9.2.2.2.2.2.lookup 38 = some (.lreturn, 1) := by decide +kernel
theorem q11_0 : z_m11.2.2.2.2.2.lookup 0 = some (.iload_n 1, 1) := by decide +kernel
theorem q11_1 : z_m11.2.2.2.2.2.lookup 1 = some (.iconst 0, 1) := by decide +kernel
theorem q11_2 : z_m11.2.2.2.2.2.lookup 2 = some (.aload_n 0, 1) := by decide +kernel
theorem q11_3 : z_m11.2.2.2.2.2.lookup 3 = some (.getfield 43, 3) := by decide +kernel
theorem q11_6 : z_m11.2.2.2.2.2.lookup 6 = some (.iconst 1, 1) := by decide +kernel
theorem q11_7 : z_m11.2.2.2.2.2.lookup 7 = some (.isub, 1) := by decide +kernel
theorem q11_8 : z_m11.2.2.2.2.2.lookup 8 = some (.invokestatic 47, 3) := by decide +kernel
theorem q11_11 : z_m11.2.2.2.2.2.lookup 11 = some (.ireturn, 1) := by decide +kernel
theorem q12_0 : z_m12.2.2.2.2.2.lookup 0 = some (.aload_n 0, 1) := by decide +kernel
theorem q12_1 : z_m12.2.2.2.2.2.lookup 1 = some (.getfield 43, 3) := by decide +kernel
theorem q12_4 : z_m12.2.2.2.2.2.lookup 4 = some (.istore 5, 2) := by decide +kernel
theorem q12_6 : z_m12.2.2.2.2.2.lookup 6 = some (.aload_n 0, 1) := by decide +kernel
theorem q12_7 : z_m12.2.2.2.2.2.lookup 7 = some (.getfield 9, 3) := by decide +kernel
theorem q12_10 : z_m12.2.2.2.2.2.lookup 10 = some (.iload 5, 2) := by decide +kernel
theorem q12_12 : z_m12.2.2.2.2.2.lookup 12 = some (.iload_n 1, 1) := by decide +kernel
theorem q12_13 : z_m12.2.2.2.2.2.lookup 13 = some (.iastore, 1) := by decide +kernel
theorem q12_14 : z_m12.2.2.2.2.2.lookup 14 = some (.aload_n 0, 1) := by decide +kernel
theorem q12_15 : z_m12.2.2.2.2.2.lookup 15 = some (.getfield 15, 3) := by decide +kernel
theorem q12_18 : z_m12.2.2.2.2.2.lookup 18 = some (.iload 5, 2) := by decide +kernel
theorem q12_20 : z_m12.2.2.2.2.2.lookup 20 = some (.iload_n 2, 1) := by decide +kernel
theorem q12_21 : z_m12.2.2.2.2.2.lookup 21 = some (.iastore, 1) := by decide +kernel
theorem q12_22 : z_m12.2.2.2.2.2.lookup 22 = some (.aload_n 0, 1) := by decide +kernel
theorem q12_23 : z_m12.2.2.2.2.2.lookup 23 = some (.getfield 18, 3) := by decide +kernel
theorem q12_26 : z_m12.2.2.2.2.2.lookup 26 = some (.iload 5, 2) := by decide +kernel
theorem q12_28 : z_m12.2.2.2.2.2.lookup 28 = some (.iload_n 3, 1) := by decide +kernel
theorem q12_29 : z_m12.2.2.2.2.2.lookup 29 = some (.iastore, 1) := by decide +kernel
theorem q12_30 : z_m12.2.2.2.2.2.lookup 30 = some (.aload_n 0, 1) := by decide +kernel
theorem q12_31 : z_m12.2.2.2.2.2.lookup 31 = some (.getfield 21, 3) := by decide +kernel
theorem q12_34 : z_m12.2.2.2.2.2.lookup 34 = some (.iload 5, 2) := by decide +kernel
theorem q12_36 : z_m12.2.2.2.2.2.lookup 36 = some (.iload 4, 2) := by decide +kernel
theorem q12_38 : z_m12.2.2.2.2.2.lookup 38 = some (.iastore, 1) := by decide +kernel
theorem q12_39 : z_m12.2.2.2.2.2.lookup 39 = some (.aload_n 0, 1) := by decide +kernel
theorem q12_40 : z_m12.2.2.2.2.2.lookup 40 = some (.dup, 1) := by decide +kernel
theorem q12_41 : z_m12.2.2.2.2.2.lookup 41 = some (.getfield 43, 3) := by decide +kernel
theorem q12_44 : z_m12.2.2.2.2.2.lookup 44 = some (.iconst 1, 1) := by decide +kernel
theorem q12_45 : z_m12.2.2.2.2.2.lookup 45 = some (.iadd, 1) := by decide +kernel
theorem q12_46 : z_m12.2.2.2.2.2.lookup 46 = some (.putfield 43, 3) := by decide +kernel
theorem q12_49 : z_m12.2.2.2.2.2.lookup 49 = some (.iload 5, 2) := by decide +kernel
theorem q12_51 : z_m12.2.2.2.2.2.lookup 51 = some (.ireturn, 1) := by decide +kernel
theorem q13_0 : z_m13.2.2.2.2.2.lookup 0 = some (.aload_n 0, 1) := by decide +kernel
theorem q13_1 : z_m13.2.2.2.2.2.lookup 1 = some (.getfield 24, 3) := by decide +kernel
theorem q13_4 : z_m13.2.2.2.2.2.lookup 4 = some (.iload_n 1, 1) := by decide +kernel
theorem q13_5 : z_m13.2.2.2.2.2.lookup 5 = some (.iload_n 2, 1) := by decide +kernel
theorem q13_6 : z_m13.2.2.2.2.2.lookup 6 = some (.iastore, 1) := by decide +kernel
theorem q13_7 : z_m13.2.2.2.2.2.lookup 7 = some (.aload_n 0, 1) := by decide +kernel
theorem q13_8 : z_m13.2.2.2.2.2.lookup 8 = some (.getfield 27, 3) := by decide +kernel
theorem q13_11 : z_m13.2.2.2.2.2.lookup 11 = some (.iload_n 1, 1) := by decide +kernel
theorem q13_12 : z_m13.2.2.2.2.2.lookup 12 = some (.iload_n 3, 1) := by decide +kernel
theorem q13_13 : z_m13.2.2.2.2.2.lookup 13 = some (.iastore, 1) := by decide +kernel
theorem q13_14 : z_m13.2.2.2.2.2.lookup 14 = some (.aload_n 0, 1) := by decide +kernel
theorem q13_15 : z_m13.2.2.2.2.2.lookup 15 = some (.getfield 30, 3) := by decide +kernel
theorem q13_18 : z_m13.2.2.2.2.2.lookup 18 = some (.iload_n 1, 1) := by decide +kernel
theorem q13_19 : z_m13.2.2.2.2.2.lookup 19 = some (.iload 4, 2) := by decide +kernel
theorem q13_21 : z_m13.2.2.2.2.2.lookup 21 = some (.iastore, 1) := by decide +kernel
theorem q13_22 : z_m13.2.2.2.2.2.lookup 22 = some (.aload_n 0, 1) := by decide +kernel
theorem q13_23 : z_m13.2.2.2.2.2.lookup 23 = some (.getfield 33, 3) := by decide +kernel
theorem q13_26 : z_m13.2.2.2.2.2.lookup 26 = some (.iload_n 1, 1) := by decide +kernel
theorem q13_27 : z_m13.2.2.2.2.2.lookup 27 = some (.iload_n 2, 1) := by decide +kernel
theorem q13_28 : z_m13.2.2.2.2.2.lookup 28 = some (.iload_n 2, 1) := by decide +kernel
theorem q13_29 : z_m13.2.2.2.2.2.lookup 29 = some (.iload_n 3, 1) := by decide +kernel
theorem q13_30 : z_m13.2.2.2.2.2.lookup 30 = some (.imul, 1) := by decide +kernel
theorem q13_31 : z_m13.2.2.2.2.2.lookup 31 = some (.bipush 100, 2) := by decide +kernel
theorem q13_33 : z_m13.2.2.2.2.2.lookup 33 = some (.idiv, 1) := by decide +kernel
theorem q13_34 : z_m13.2.2.2.2.2.lookup 34 = some (.isub, 1) := by decide +kernel
theorem q13_35 : z_m13.2.2.2.2.2.lookup 35 = some (.iastore, 1) := by decide +kernel
theorem q13_36 : z_m13.2.2.2.2.2.lookup 36 = some (.aload_n 0, 1) := by decide +kernel
theorem q13_37 : z_m13.2.2.2.2.2.lookup 37 = some (.getfield 36, 3) := by decide +kernel
theorem q13_40 : z_m13.2.2.2.2.2.lookup 40 = some (.iload_n 1, 1) := by decide +kernel
theorem q13_41 : z_m13.2.2.2.2.2.lookup 41 = some (.aload_n 0, 1) := by decide +kernel
theorem q13_42 : z_m13.2.2.2.2.2.lookup 42 = some (.getfield 33, 3) := by decide +kernel
theorem q13_45 : z_m13.2.2.2.2.2.lookup 45 = some (.iload_n 1, 1) := by decide +kernel
theorem q13_46 : z_m13.2.2.2.2.2.lookup 46 = some (.iaload, 1) := by decide +kernel
theorem q13_47 : z_m13.2.2.2.2.2.lookup 47 = some (.iastore, 1) := by decide +kernel
theorem q13_48 : z_m13.2.2.2.2.2.lookup 48 = some (.return_, 1) := by decide +kernel
theorem q14_0 : z_m14.2.2.2.2.2.lookup 0 = some (.aload_n 0, 1) := by decide +kernel
theorem q14_1 : z_m14.2.2.2.2.2.lookup 1 = some (.getfield 18, 3) := by decide +kernel
theorem q14_4 : z_m14.2.2.2.2.2.lookup 4 = some (.iload_n 1, 1) := by decide +kernel
theorem q14_5 : z_m14.2.2.2.2.2.lookup 5 = some (.iaload, 1) := by decide +kernel
theorem q14_6 : z_m14.2.2.2.2.2.lookup 6 = some (.iload_n 2, 1) := by decide +kernel
theorem q14_7 : z_m14.2.2.2.2.2.lookup 7 = some (.if_icmp .ne 16, 3) := by decide +kernel
theorem q14_10 : z_m14.2.2.2.2.2.lookup 10 = some (.aload_n 0, 1) := by decide +kernel
theorem q14_11 : z_m14.2.2.2.2.2.lookup 11 = some (.getfield 39, 3) := by decide +kernel
theorem q14_14 : z_m14.2.2.2.2.2.lookup 14 = some (.iload_n 1, 1) := by decide +kernel
theorem q14_15 : z_m14.2.2.2.2.2.lookup 15 = some (.baload, 1) := by decide +kernel
theorem q14_16 : z_m14.2.2.2.2.2.lookup 16 = some (.ifCond .ne 7, 3) := by decide +kernel
theorem q14_19 : z_m14.2.2.2.2.2.lookup 19 = some (.iconst 1, 1) := by decide +kernel
theorem q14_20 : z_m14.2.2.2.2.2.lookup 20 = some (.goto 4, 3) := by decide +kernel
theorem q14_23 : z_m14.2.2.2.2.2.lookup 23 = some (.iconst 0, 1) := by decide +kernel
theorem q14_24 : z_m14.2.2.2.2.2.lookup 24 = some (.ireturn, 1) := by decide +kernel
theorem q15_0 : z_m15.2.2.2.2.2.lookup 0 = some (.aload_n 0, 1) := by decide +kernel
theorem q15_1 : z_m15.2.2.2.2.2.lookup 1 = some (.getfield 15, 3) := by decide +kernel
theorem q15_4 : z_m15.2.2.2.2.2.lookup 4 = some (.iload_n 1, 1) := by decide +kernel
theorem q15_5 : z_m15.2.2.2.2.2.lookup 5 = some (.iaload, 1) := by decide +kernel
theorem q15_6 : z_m15.2.2.2.2.2.lookup 6 = some (.iload_n 2, 1) := by decide +kernel
theorem q15_7 : z_m15.2.2.2.2.2.lookup 7 = some (.if_icmp .ne 22, 3) := by decide +kernel
theorem q15_10 : z_m15.2.2.2.2.2.lookup 10 = some (.aload_n 0, 1) := by decide +kernel
theorem q15_11 : z_m15.2.2.2.2.2.lookup 11 = some (.getfield 21, 3) := by decide +kernel
theorem q15_14 : z_m15.2.2.2.2.2.lookup 14 = some (.iload_n 1, 1) := by decide +kernel
theorem q15_15 : z_m15.2.2.2.2.2.lookup 15 = some (.iaload, 1) := by decide +kernel
theorem q15_16 : z_m15.2.2.2.2.2.lookup 16 = some (.iload_n 3, 1) := by decide +kernel
theorem q15_17 : z_m15.2.2.2.2.2.lookup 17 = some (.iload 4, 2) := by decide +kernel
theorem q15_19 : z_m15.2.2.2.2.2.lookup 19 = some (.invokestatic 47, 3) := by decide +kernel
theorem q15_22 : z_m15.2.2.2.2.2.lookup 22 = some (.ifCond .eq 7, 3) := by decide +kernel
theorem q15_25 : z_m15.2.2.2.2.2.lookup 25 = some (.iconst 1, 1) := by decide +kernel
theorem q15_26 : z_m15.2.2.2.2.2.lookup 26 = some (.goto 4, 3) := by decide +kernel
theorem q15_29 : z_m15.2.2.2.2.2.lookup 29 = some (.iconst 0, 1) := by decide +kernel
theorem q15_30 : z_m15.2.2.2.2.2.lookup 30 = some (.ireturn, 1) := by decide +kernel
theorem q16_0 : z_m16.2.2.2.2.2.lookup 0 = some (.iload_n 3, 1) := by decide +kernel
theorem q16_1 : z_m16.2.2.2.2.2.lookup 1 = some (.getstatic 51, 3) := by decide +kernel
theorem q16_4 : z_m16.2.2.2.2.2.lookup 4 = some (.aload_n 0, 1) := by decide +kernel
theorem q16_5 : z_m16.2.2.2.2.2.lookup 5 = some (.getfield 9, 3) := by decide +kernel
theorem q16_8 : z_m16.2.2.2.2.2.lookup 8 = some (.iload_n 1, 1) := by decide +kernel
theorem q16_9 : z_m16.2.2.2.2.2.lookup 9 = some (.iaload, 1) := by decide +kernel
theorem q16_10 : z_m16.2.2.2.2.2.lookup 10 = some (.iconst 4, 1) := by decide +kernel
theorem q16_11 : z_m16.2.2.2.2.2.lookup 11 = some (.imul, 1) := by decide +kernel
theorem q16_12 : z_m16.2.2.2.2.2.lookup 12 = some (.iload_n 2, 1) := by decide +kernel
theorem q16_13 : z_m16.2.2.2.2.2.lookup 13 = some (.iadd, 1) := by decide +kernel
theorem q16_14 : z_m16.2.2.2.2.2.lookup 14 = some (.iaload, 1) := by decide +kernel
theorem q16_15 : z_m16.2.2.2.2.2.lookup 15 = some (.imul, 1) := by decide +kernel
theorem q16_16 : z_m16.2.2.2.2.2.lookup 16 = some (.bipush 100, 2) := by decide +kernel
theorem q16_18 : z_m16.2.2.2.2.2.lookup 18 = some (.idiv, 1) := by decide +kernel
theorem q16_19 : z_m16.2.2.2.2.2.lookup 19 = some (.ireturn, 1) := by decide +kernel
theorem q17_0 : z_m17.2.2.2.2.2.lookup 0 = some (.aload_n 0, 1) := by decide +kernel
theorem q17_1 : z_m17.2.2.2.2.2.lookup 1 = some (.getfield 36, 3) := by decide +kernel
theorem q17_4 : z_m17.2.2.2.2.2.lookup 4 = some (.iload_n 1, 1) := by decide +kernel
theorem q17_5 : z_m17.2.2.2.2.2.lookup 5 = some (.iaload, 1) := by decide +kernel
theorem q17_6 : z_m17.2.2.2.2.2.lookup 6 = some (.istore_n 2, 1) := by decide +kernel
theorem q17_7 : z_m17.2.2.2.2.2.lookup 7 = some (.iconst 0, 1) := by decide +kernel
theorem q17_8 : z_m17.2.2.2.2.2.lookup 8 = some (.istore_n 3, 1) := by decide +kernel
theorem q17_9 : z_m17.2.2.2.2.2.lookup 9 = some (.iload_n 3, 1) := by decide +kernel
theorem q17_10 : z_m17.2.2.2.2.2.lookup 10 = some (.iconst 4, 1) := by decide +kernel
theorem q17_11 : z_m17.2.2.2.2.2.lookup 11 = some (.if_icmp .ge 24, 3) := by decide +kernel
theorem q17_14 : z_m17.2.2.2.2.2.lookup 14 = some (.iload_n 2, 1) := by decide +kernel
theorem q17_15 : z_m17.2.2.2.2.2.lookup 15 = some (.aload_n 0, 1) := by decide +kernel
theorem q17_16 : z_m17.2.2.2.2.2.lookup 16 = some (.iload_n 1, 1) := by decide +kernel
theorem q17_17 : z_m17.2.2.2.2.2.lookup 17 = some (.iload_n 3, 1) := by decide +kernel
theorem q17_18 : z_m17.2.2.2.2.2.lookup 18 = some (.aload_n 0, 1) := by decide +kernel
theorem q17_19 : z_m17.2.2.2.2.2.lookup 19 = some (.getfield 36, 3) := by decide +kernel
theorem q17_22 : z_m17.2.2.2.2.2.lookup 22 = some (.iload_n 1, 1) := by decide +kernel
theorem q17_23 : z_m17.2.2.2.2.2.lookup 23 = some (.iaload, 1) := by decide +kernel
theorem q17_24 : z_m17.2.2.2.2.2.lookup 24 = some (.invokevirtual 54, 3) := by decide +kernel
theorem q17_27 : z_m17.2.2.2.2.2.lookup 27 = some (.isub, 1) := by decide +kernel
theorem q17_28 : z_m17.2.2.2.2.2.lookup 28 = some (.istore_n 2, 1) := by decide +kernel
theorem q17_29 : z_m17.2.2.2.2.2.lookup 29 = some (.iinc 3 1, 3) := by decide +kernel
theorem q17_32 : z_m17.2.2.2.2.2.lookup 32 = some (.goto (-23), 3) := by decide +kernel
theorem q17_35 : z_m17.2.2.2.2.2.lookup 35 = some (.iload_n 2, 1) := by decide +kernel
theorem q17_36 : z_m17.2.2.2.2.2.lookup 36 = some (.ireturn, 1) := by decide +kernel
theorem q18_0 : z_m18.2.2.2.2.2.lookup 0 = some (.aload_n 0, 1) := by decide +kernel
theorem q18_1 : z_m18.2.2.2.2.2.lookup 1 = some (.getfield 30, 3) := by decide +kernel
theorem q18_4 : z_m18.2.2.2.2.2.lookup 4 = some (.iload_n 1, 1) := by decide +kernel
theorem q18_5 : z_m18.2.2.2.2.2.lookup 5 = some (.iaload, 1) := by decide +kernel
theorem q18_6 : z_m18.2.2.2.2.2.lookup 6 = some (.aload_n 0, 1) := by decide +kernel
theorem q18_7 : z_m18.2.2.2.2.2.lookup 7 = some (.getfield 24, 3) := by decide +kernel
theorem q18_10 : z_m18.2.2.2.2.2.lookup 10 = some (.iload_n 1, 1) := by decide +kernel
theorem q18_11 : z_m18.2.2.2.2.2.lookup 11 = some (.iaload, 1) := by decide +kernel
theorem q18_12 : z_m18.2.2.2.2.2.lookup 12 = some (.isub, 1) := by decide +kernel
theorem q18_13 : z_m18.2.2.2.2.2.lookup 13 = some (.istore_n 2, 1) := by decide +kernel
theorem q18_14 : z_m18.2.2.2.2.2.lookup 14 = some (.iload_n 2, 1) := by decide +kernel
theorem q18_15 : z_m18.2.2.2.2.2.lookup 15 = some (.aload_n 0, 1) := by decide +kernel
theorem q18_16 : z_m18.2.2.2.2.2.lookup 16 = some (.getfield 30, 3) := by decide +kernel
theorem q18_19 : z_m18.2.2.2.2.2.lookup 19 = some (.iload_n 1, 1) := by decide +kernel
theorem q18_20 : z_m18.2.2.2.2.2.lookup 20 = some (.iaload, 1) := by decide +kernel
theorem q18_21 : z_m18.2.2.2.2.2.lookup 21 = some (.getstatic 58, 3) := by decide +kernel
theorem q18_24 : z_m18.2.2.2.2.2.lookup 24 = some (.aload_n 0, 1) := by decide +kernel
theorem q18_25 : z_m18.2.2.2.2.2.lookup 25 = some (.getfield 9, 3) := by decide +kernel
theorem q18_28 : z_m18.2.2.2.2.2.lookup 28 = some (.iload_n 1, 1) := by decide +kernel
theorem q18_29 : z_m18.2.2.2.2.2.lookup 29 = some (.iaload, 1) := by decide +kernel
theorem q18_30 : z_m18.2.2.2.2.2.lookup 30 = some (.iaload, 1) := by decide +kernel
theorem q18_31 : z_m18.2.2.2.2.2.lookup 31 = some (.imul, 1) := by decide +kernel
theorem q18_32 : z_m18.2.2.2.2.2.lookup 32 = some (.bipush 100, 2) := by decide +kernel
theorem q18_34 : z_m18.2.2.2.2.2.lookup 34 = some (.idiv, 1) := by decide +kernel
theorem q18_35 : z_m18.2.2.2.2.2.lookup 35 = some (.if_icmp .le 7, 3) := by decide +kernel
theorem q18_38 : z_m18.2.2.2.2.2.lookup 38 = some (.iload_n 2, 1) := by decide +kernel
theorem q18_39 : z_m18.2.2.2.2.2.lookup 39 = some (.goto 4, 3) := by decide +kernel
theorem q18_42 : z_m18.2.2.2.2.2.lookup 42 = some (.iconst 0, 1) := by decide +kernel
theorem q18_43 : z_m18.2.2.2.2.2.lookup 43 = some (.ireturn, 1) := by decide +kernel
theorem q19_0 : z_m19.2.2.2.2.2.lookup 0 = some (.aload_n 0, 1) := by decide +kernel
theorem q19_1 : z_m19.2.2.2.2.2.lookup 1 = some (.getfield 9, 3) := by decide +kernel
theorem q19_4 : z_m19.2.2.2.2.2.lookup 4 = some (.iload_n 1, 1) := by decide +kernel
theorem q19_5 : z_m19.2.2.2.2.2.lookup 5 = some (.iaload, 1) := by decide +kernel
theorem q19_6 : z_m19.2.2.2.2.2.lookup 6 = some (.istore_n 3, 1) := by decide +kernel
theorem q19_7 : z_m19.2.2.2.2.2.lookup 7 = some (.iconst 0, 1) := by decide +kernel
theorem q19_8 : z_m19.2.2.2.2.2.lookup 8 = some (.istore 4, 2) := by decide +kernel
theorem q19_10 : z_m19.2.2.2.2.2.lookup 10 = some (.iload 4, 2) := by decide +kernel
theorem q19_12 : z_m19.2.2.2.2.2.lookup 12 = some (.bipush 6, 2) := by decide +kernel
theorem q19_14 : z_m19.2.2.2.2.2.lookup 14 = some (.if_icmp .ge 27, 3) := by decide +kernel
theorem q19_17 : z_m19.2.2.2.2.2.lookup 17 = some (.iload_n 3, 1) := by decide +kernel
theorem q19_18 : z_m19.2.2.2.2.2.lookup 18 = some (.iconst (-1), 1) := by decide +kernel
theorem q19_19 : z_m19.2.2.2.2.2.lookup 19 = some (.if_icmp .eq 22, 3) := by decide +kernel
theorem q19_22 : z_m19.2.2.2.2.2.lookup 22 = some (.iload_n 3, 1) := by decide +kernel
theorem q19_23 : z_m19.2.2.2.2.2.lookup 23 = some (.iload_n 2, 1) := by decide +kernel
theorem q19_24 : z_m19.2.2.2.2.2.lookup 24 = some (.if_icmp .ne 5, 3) := by decide +kernel
theorem q19_27 : z_m19.2.2.2.2.2.lookup 27 = some (.iconst 1, 1) := by decide +kernel
theorem q19_28 : z_m19.2.2.2.2.2.lookup 28 = some (.ireturn, 1) := by decide +kernel
theorem q19_29 : z_m19.2.2.2.2.2.lookup 29 = some (.getstatic 61, 3) := by decide +kernel
theorem q19_32 : z_m19.2.2.2.2.2.lookup 32 = some (.iload_n 3, 1) := by decide +kernel
theorem q19_33 : z_m19.2.2.2.2.2.lookup 33 = some (.iaload, 1) := by decide +kernel
theorem q19_34 : z_m19.2.2.2.2.2.lookup 34 = some (.istore_n 3, 1) := by decide +kernel
theorem q19_35 : z_m19.2.2.2.2.2.lookup 35 = some (.iinc 4 1, 3) := by decide +kernel
theorem q19_38 : z_m19.2.2.2.2.2.lookup 38 = some (.goto (-28), 3) := by decide +kernel
theorem q19_41 : z_m19.2.2.2.2.2.lookup 41 = some (.iconst 0, 1) := by decide +kernel
theorem q19_42 : z_m19.2.2.2.2.2.lookup 42 = some (.ireturn, 1) := by decide +kernel
theorem q20_0 : z_m20.2.2.2.2.2.lookup 0 = some (.iconst 0, 1) := by decide +kernel
theorem q20_1 : z_m20.2.2.2.2.2.lookup 1 = some (.istore_n 3, 1) := by decide +kernel
theorem q20_2 : z_m20.2.2.2.2.2.lookup 2 = some (.iconst 0, 1) := by decide +kernel
theorem q20_3 : z_m20.2.2.2.2.2.lookup 3 = some (.istore 4, 2) := by decide +kernel
theorem q20_5 : z_m20.2.2.2.2.2.lookup 5 = some (.iload 4, 2) := by decide +kernel
theorem q20_7 : z_m20.2.2.2.2.2.lookup 7 = some (.aload_n 0, 1) := by decide +kernel
theorem q20_8 : z_m20.2.2.2.2.2.lookup 8 = some (.getfield 43, 3) := by decide +kernel
theorem q20_11 : z_m20.2.2.2.2.2.lookup 11 = some (.if_icmp .ge 50, 3) := by decide +kernel
theorem q20_14 : z_m20.2.2.2.2.2.lookup 14 = some (.aload_n 0, 1) := by decide +kernel
theorem q20_15 : z_m20.2.2.2.2.2.lookup 15 = some (.iload 4, 2) := by decide +kernel
theorem q20_17 : z_m20.2.2.2.2.2.lookup 17 = some (.iload_n 1, 1) := by decide +kernel
theorem q20_18 : z_m20.2.2.2.2.2.lookup 18 = some (.invokevirtual 64, 3) := by decide +kernel
theorem q20_21 : z_m20.2.2.2.2.2.lookup 21 = some (.ifCond .eq 34, 3) := by decide +kernel
theorem q20_24 : z_m20.2.2.2.2.2.lookup 24 = some (.aload_n 0, 1) := by decide +kernel
theorem q20_25 : z_m20.2.2.2.2.2.lookup 25 = some (.getfield 36, 3) := by decide +kernel
theorem q20_28 : z_m20.2.2.2.2.2.lookup 28 = some (.iload 4, 2) := by decide +kernel
theorem q20_30 : z_m20.2.2.2.2.2.lookup 30 = some (.iaload, 1) := by decide +kernel
theorem q20_31 : z_m20.2.2.2.2.2.lookup 31 = some (.iload_n 2, 1) := by decide +kernel
theorem q20_32 : z_m20.2.2.2.2.2.lookup 32 = some (.imul, 1) := by decide +kernel
theorem q20_33 : z_m20.2.2.2.2.2.lookup 33 = some (.bipush 100, 2) := by decide +kernel
theorem q20_35 : z_m20.2.2.2.2.2.lookup 35 = some (.idiv, 1) := by decide +kernel
theorem q20_36 : z_m20.2.2.2.2.2.lookup 36 = some (.istore 5, 2) := by decide +kernel
theorem q20_38 : z_m20.2.2.2.2.2.lookup 38 = some (.aload_n 0, 1) := by decide +kernel
theorem q20_39 : z_m20.2.2.2.2.2.lookup 39 = some (.getfield 36, 3) := by decide +kernel
theorem q20_42 : z_m20.2.2.2.2.2.lookup 42 = some (.iload 4, 2) := by decide +kernel
theorem q20_44 : z_m20.2.2.2.2.2.lookup 44 = some (.dup2, 1) := by decide +kernel
theorem q20_45 : z_m20.2.2.2.2.2.lookup 45 = some (.iaload, 1) := by decide +kernel
theorem q20_46 : z_m20.2.2.2.2.2.lookup 46 = some (.iload 5, 2) := by decide +kernel
theorem q20_48 : z_m20.2.2.2.2.2.lookup 48 = some (.isub, 1) := by decide +kernel
theorem q20_49 : z_m20.2.2.2.2.2.lookup 49 = some (.iastore, 1) := by decide +kernel
theorem q20_50 : z_m20.2.2.2.2.2.lookup 50 = some (.iload_n 3, 1) := by decide +kernel
theorem q20_51 : z_m20.2.2.2.2.2.lookup 51 = some (.iload 5, 2) := by decide +kernel
theorem q20_53 : z_m20.2.2.2.2.2.lookup 53 = some (.iadd, 1) := by decide +kernel
theorem q20_54 : z_m20.2.2.2.2.2.lookup 54 = some (.istore_n 3, 1) := by decide +kernel
theorem q20_55 : z_m20.2.2.2.2.2.lookup 55 = some (.iinc 4 1, 3) := by decide +kernel
theorem q20_58 : z_m20.2.2.2.2.2.lookup 58 = some (.goto (-53), 3) := by decide +kernel
theorem q20_61 : z_m20.2.2.2.2.2.lookup 61 = some (.iload_n 3, 1) := by decide +kernel
theorem q20_62 : z_m20.2.2.2.2.2.lookup 62 = some (.ireturn, 1) := by decide +kernel
theorem q21_0 : z_m21.2.2.2.2.2.lookup 0 = some (.iconst 0, 1) := by decide +kernel
theorem q21_1 : z_m21.2.2.2.2.2.lookup 1 = some (.istore_n 2, 1) := by decide +kernel
theorem q21_2 : z_m21.2.2.2.2.2.lookup 2 = some (.iconst 0, 1) := by decide +kernel
theorem q21_3 : z_m21.2.2.2.2.2.lookup 3 = some (.istore_n 3, 1) := by decide +kernel
theorem q21_4 : z_m21.2.2.2.2.2.lookup 4 = some (.iload_n 3, 1) := by decide +kernel
theorem q21_5 : z_m21.2.2.2.2.2.lookup 5 = some (.aload_n 0, 1) := by decide +kernel
theorem q21_6 : z_m21.2.2.2.2.2.lookup 6 = some (.getfield 43, 3) := by decide +kernel
theorem q21_9 : z_m21.2.2.2.2.2.lookup 9 = some (.if_icmp .ge 31, 3) := by decide +kernel
theorem q21_12 : z_m21.2.2.2.2.2.lookup 12 = some (.iload_n 2, 1) := by decide +kernel
theorem q21_13 : z_m21.2.2.2.2.2.lookup 13 = some (.aload_n 0, 1) := by decide +kernel
theorem q21_14 : z_m21.2.2.2.2.2.lookup 14 = some (.iload_n 3, 1) := by decide +kernel
theorem q21_15 : z_m21.2.2.2.2.2.lookup 15 = some (.iload_n 1, 1) := by decide +kernel
theorem q21_16 : z_m21.2.2.2.2.2.lookup 16 = some (.invokevirtual 64, 3) := by decide +kernel
theorem q21_19 : z_m21.2.2.2.2.2.lookup 19 = some (.ifCond .eq 12, 3) := by decide +kernel
theorem q21_22 : z_m21.2.2.2.2.2.lookup 22 = some (.aload_n 0, 1) := by decide +kernel
theorem q21_23 : z_m21.2.2.2.2.2.lookup 23 = some (.getfield 36, 3) := by decide +kernel
theorem q21_26 : z_m21.2.2.2.2.2.lookup 26 = some (.iload_n 3, 1) := by decide +kernel
theorem q21_27 : z_m21.2.2.2.2.2.lookup 27 = some (.iaload, 1) := by decide +kernel
theorem q21_28 : z_m21.2.2.2.2.2.lookup 28 = some (.goto 4, 3) := by decide +kernel
theorem q21_31 : z_m21.2.2.2.2.2.lookup 31 = some (.iconst 0, 1) := by decide +kernel
theorem q21_32 : z_m21.2.2.2.2.2.lookup 32 = some (.iadd, 1) := by decide +kernel
theorem q21_33 : z_m21.2.2.2.2.2.lookup 33 = some (.istore_n 2, 1) := by decide +kernel
theorem q21_34 : z_m21.2.2.2.2.2.lookup 34 = some (.iinc 3 1, 3) := by decide +kernel
theorem q21_37 : z_m21.2.2.2.2.2.lookup 37 = some (.goto (-33), 3) := by decide +kernel
theorem q21_40 : z_m21.2.2.2.2.2.lookup 40 = some (.iload_n 2, 1) := by decide +kernel
theorem q21_41 : z_m21.2.2.2.2.2.lookup 41 = some (.ireturn, 1) := by decide +kernel
theorem q23_0 : z_m23.2.2.2.2.2.lookup 0 = some (.aload_n 0, 1) := by decide +kernel
theorem q23_1 : z_m23.2.2.2.2.2.lookup 1 = some (.getfield 17, 3) := by decide +kernel
theorem q23_4 : z_m23.2.2.2.2.2.lookup 4 = some (.aload_n 0, 1) := by decide +kernel
theorem q23_5 : z_m23.2.2.2.2.2.lookup 5 = some (.getfield 28, 3) := by decide +kernel
theorem q23_8 : z_m23.2.2.2.2.2.lookup 8 = some (.iload_n 1, 1) := by decide +kernel
theorem q23_9 : z_m23.2.2.2.2.2.lookup 9 = some (.iastore, 1) := by decide +kernel
theorem q23_10 : z_m23.2.2.2.2.2.lookup 10 = some (.aload_n 0, 1) := by decide +kernel
theorem q23_11 : z_m23.2.2.2.2.2.lookup 11 = some (.getfield 21, 3) := by decide +kernel
theorem q23_14 : z_m23.2.2.2.2.2.lookup 14 = some (.aload_n 0, 1) := by decide +kernel
theorem q23_15 : z_m23.2.2.2.2.2.lookup 15 = some (.getfield 28, 3) := by decide +kernel
theorem q23_18 : z_m23.2.2.2.2.2.lookup 18 = some (.iload_n 2, 1) := by decide +kernel
theorem q23_19 : z_m23.2.2.2.2.2.lookup 19 = some (.iastore, 1) := by decide +kernel
theorem q23_20 : z_m23.2.2.2.2.2.lookup 20 = some (.aload_n 0, 1) := by decide +kernel
theorem q23_21 : z_m23.2.2.2.2.2.lookup 21 = some (.getfield 24, 3) := by decide +kernel
theorem q23_24 : z_m23.2.2.2.2.2.lookup 24 = some (.aload_n 0, 1) := by decide +kernel
theorem q23_25 : z_m23.2.2.2.2.2.lookup 25 = some (.getfield 28, 3) := by decide +kernel
theorem q23_28 : z_m23.2.2.2.2.2.lookup 28 = some (.iload_n 3, 1) := by decide +kernel
theorem q23_29 : z_m23.2.2.2.2.2.lookup 29 = some (.iastore, 1) := by decide +kernel
theorem q23_30 : z_m23.2.2.2.2.2.lookup 30 = some (.aload_n 0, 1) := by decide +kernel
theorem q23_31 : z_m23.2.2.2.2.2.lookup 31 = some (.dup, 1) := by decide +kernel
theorem q23_32 : z_m23.2.2.2.2.2.lookup 32 = some (.getfield 28, 3) := by decide +kernel
theorem q23_35 : z_m23.2.2.2.2.2.lookup 35 = some (.iconst 1, 1) := by decide +kernel
theorem q23_36 : z_m23.2.2.2.2.2.lookup 36 = some (.iadd, 1) := by decide +kernel
theorem q23_37 : z_m23.2.2.2.2.2.lookup 37 = some (.putfield 28, 3) := by decide +kernel
theorem q23_40 : z_m23.2.2.2.2.2.lookup 40 = some (.aload_n 0, 1) := by decide +kernel
theorem q23_41 : z_m23.2.2.2.2.2.lookup 41 = some (.getfield 28, 3) := by decide +kernel
theorem q23_44 : z_m23.2.2.2.2.2.lookup 44 = some (.ireturn, 1) := by decide +kernel
theorem q24_0 : z_m24.2.2.2.2.2.lookup 0 = some (.iconst (-1), 1) := by decide +kernel
theorem q24_1 : z_m24.2.2.2.2.2.lookup 1 = some (.istore_n 3, 1) := by decide +kernel
theorem q24_2 : z_m24.2.2.2.2.2.lookup 2 = some (.iconst 0, 1) := by decide +kernel
theorem q24_3 : z_m24.2.2.2.2.2.lookup 3 = some (.istore 4, 2) := by decide +kernel
theorem q24_5 : z_m24.2.2.2.2.2.lookup 5 = some (.iload 4, 2) := by decide +kernel
theorem q24_7 : z_m24.2.2.2.2.2.lookup 7 = some (.aload_n 0, 1) := by decide +kernel
theorem q24_8 : z_m24.2.2.2.2.2.lookup 8 = some (.getfield 28, 3) := by decide +kernel
theorem q24_11 : z_m24.2.2.2.2.2.lookup 11 = some (.if_icmp .ge 58, 3) := by decide +kernel
theorem q24_14 : z_m24.2.2.2.2.2.lookup 14 = some (.aload_n 0, 1) := by decide +kernel
theorem q24_15 : z_m24.2.2.2.2.2.lookup 15 = some (.getfield 17, 3) := by decide +kernel
theorem q24_18 : z_m24.2.2.2.2.2.lookup 18 = some (.iload 4, 2) := by decide +kernel
theorem q24_20 : z_m24.2.2.2.2.2.lookup 20 = some (.iaload, 1) := by decide +kernel
theorem q24_21 : z_m24.2.2.2.2.2.lookup 21 = some (.iload_n 1, 1) := by decide +kernel
theorem q24_22 : z_m24.2.2.2.2.2.lookup 22 = some (.if_icmp .ne 41, 3) := by decide +kernel
theorem q24_25 : z_m24.2.2.2.2.2.lookup 25 = some (.aload_n 0, 1) := by decide +kernel
theorem q24_26 : z_m24.2.2.2.2.2.lookup 26 = some (.getfield 21, 3) := by decide +kernel
theorem q24_29 : z_m24.2.2.2.2.2.lookup 29 = some (.iload 4, 2) := by decide +kernel
theorem q24_31 : z_m24.2.2.2.2.2.lookup 31 = some (.iaload, 1) := by decide +kernel
theorem q24_32 : z_m24.2.2.2.2.2.lookup 32 = some (.iload_n 2, 1) := by decide +kernel
theorem q24_33 : z_m24.2.2.2.2.2.lookup 33 = some (.if_icmp .le 6, 3) := by decide +kernel
theorem q24_36 : z_m24.2.2.2.2.2.lookup 36 = some (.goto 27, 3) := by decide +kernel
theorem q24_39 : z_m24.2.2.2.2.2.lookup 39 = some (.iload_n 3, 1) := by decide +kernel
theorem q24_40 : z_m24.2.2.2.2.2.lookup 40 = some (.iconst (-1), 1) := by decide +kernel
theorem q24_41 : z_m24.2.2.2.2.2.lookup 41 = some (.if_icmp .eq 19, 3) := by decide +kernel
theorem q24_44 : z_m24.2.2.2.2.2.lookup 44 = some (.aload_n 0, 1) := by decide +kernel
theorem q24_45 : z_m24.2.2.2.2.2.lookup 45 = some (.getfield 21, 3) := by decide +kernel
theorem q24_48 : z_m24.2.2.2.2.2.lookup 48 = some (.iload 4, 2) := by decide +kernel
theorem q24_50 : z_m24.2.2.2.2.2.lookup 50 = some (.iaload, 1) := by decide +kernel
theorem q24_51 : z_m24.2.2.2.2.2.lookup 51 = some (.aload_n 0, 1) := by decide +kernel
theorem q24_52 : z_m24.2.2.2.2.2.lookup 52 = some (.getfield 21, 3) := by decide +kernel
theorem q24_55 : z_m24.2.2.2.2.2.lookup 55 = some (.iload_n 3, 1) := by decide +kernel
theorem q24_56 : z_m24.2.2.2.2.2.lookup 56 = some (.iaload, 1) := by decide +kernel
theorem q24_57 : z_m24.2.2.2.2.2.lookup 57 = some (.if_icmp .lt 6, 3) := by decide +kernel
theorem q24_60 : z_m24.2.2.2.2.2.lookup 60 = some (.iload 4, 2) := by decide +kernel
theorem q24_62 : z_m24.2.2.2.2.2.lookup 62 = some (.istore_n 3, 1) := by decide +kernel
theorem q24_63 : z_m24.2.2.2.2.2.lookup 63 = some (.iinc 4 1, 3) := by decide +kernel
theorem q24_66 : z_m24.2.2.2.2.2.lookup 66 = some (.goto (-61), 3) := by decide +kernel
theorem q24_69 : z_m24.2.2.2.2.2.lookup 69 = some (.iload_n 3, 1) := by decide +kernel
theorem q24_70 : z_m24.2.2.2.2.2.lookup 70 = some (.iconst (-1), 1) := by decide +kernel
theorem q24_71 : z_m24.2.2.2.2.2.lookup 71 = some (.if_icmp .ne 7, 3) := by decide +kernel
theorem q24_74 : z_m24.2.2.2.2.2.lookup 74 = some (.iconst 0, 1) := by decide +kernel
theorem q24_75 : z_m24.2.2.2.2.2.lookup 75 = some (.goto 9, 3) := by decide +kernel
theorem q24_78 : z_m24.2.2.2.2.2.lookup 78 = some (.aload_n 0, 1) := by decide +kernel
theorem q24_79 : z_m24.2.2.2.2.2.lookup 79 = some (.getfield 24, 3) := by decide +kernel
theorem q24_82 : z_m24.2.2.2.2.2.lookup 82 = some (.iload_n 3, 1) := by decide +kernel
theorem q24_83 : z_m24.2.2.2.2.2.lookup 83 = some (.iaload, 1) := by decide +kernel
theorem q24_84 : z_m24.2.2.2.2.2.lookup 84 = some (.ireturn, 1) := by decide +kernel
theorem q26_0 : z_m26.2.2.2.2.2.lookup 0 = some (.aload_n 0, 1) := by decide +kernel
theorem q26_1 : z_m26.2.2.2.2.2.lookup 1 = some (.getfield 11, 3) := by decide +kernel
theorem q26_4 : z_m26.2.2.2.2.2.lookup 4 = some (.aload_n 0, 1) := by decide +kernel
theorem q26_5 : z_m26.2.2.2.2.2.lookup 5 = some (.getfield 36, 3) := by decide +kernel
theorem q26_8 : z_m26.2.2.2.2.2.lookup 8 = some (.iload_n 1, 1) := by decide +kernel
theorem q26_9 : z_m26.2.2.2.2.2.lookup 9 = some (.iastore, 1) := by decide +kernel
theorem q26_10 : z_m26.2.2.2.2.2.lookup 10 = some (.aload_n 0, 1) := by decide +kernel
theorem q26_11 : z_m26.2.2.2.2.2.lookup 11 = some (.getfield 15, 3) := by decide +kernel
theorem q26_14 : z_m26.2.2.2.2.2.lookup 14 = some (.aload_n 0, 1) := by decide +kernel
theorem q26_15 : z_m26.2.2.2.2.2.lookup 15 = some (.getfield 36, 3) := by decide +kernel
theorem q26_18 : z_m26.2.2.2.2.2.lookup 18 = some (.iload_n 2, 1) := by decide +kernel
theorem q26_19 : z_m26.2.2.2.2.2.lookup 19 = some (.iastore, 1) := by decide +kernel
theorem q26_20 : z_m26.2.2.2.2.2.lookup 20 = some (.aload_n 0, 1) := by decide +kernel
theorem q26_21 : z_m26.2.2.2.2.2.lookup 21 = some (.getfield 18, 3) := by decide +kernel
theorem q26_24 : z_m26.2.2.2.2.2.lookup 24 = some (.aload_n 0, 1) := by decide +kernel
theorem q26_25 : z_m26.2.2.2.2.2.lookup 25 = some (.getfield 36, 3) := by decide +kernel
theorem q26_28 : z_m26.2.2.2.2.2.lookup 28 = some (.iload_n 3, 1) := by decide +kernel
theorem q26_29 : z_m26.2.2.2.2.2.lookup 29 = some (.iastore, 1) := by decide +kernel
theorem q26_30 : z_m26.2.2.2.2.2.lookup 30 = some (.aload_n 0, 1) := by decide +kernel
theorem q26_31 : z_m26.2.2.2.2.2.lookup 31 = some (.getfield 21, 3) := by decide +kernel
theorem q26_34 : z_m26.2.2.2.2.2.lookup 34 = some (.aload_n 0, 1) := by decide +kernel
theorem q26_35 : z_m26.2.2.2.2.2.lookup 35 = some (.getfield 36, 3) := by decide +kernel
theorem q26_38 : z_m26.2.2.2.2.2.lookup 38 = some (.iload 4, 2) := by decide +kernel
theorem q26_40 : z_m26.2.2.2.2.2.lookup 40 = some (.iastore, 1) := by decide +kernel
theorem q26_41 : z_m26.2.2.2.2.2.lookup 41 = some (.aload_n 0, 1) := by decide +kernel
theorem q26_42 : z_m26.2.2.2.2.2.lookup 42 = some (.dup, 1) := by decide +kernel
theorem q26_43 : z_m26.2.2.2.2.2.lookup 43 = some (.getfield 36, 3) := by decide +kernel
theorem q26_46 : z_m26.2.2.2.2.2.lookup 46 = some (.iconst 1, 1) := by decide +kernel
theorem q26_47 : z_m26.2.2.2.2.2.lookup 47 = some (.iadd, 1) := by decide +kernel
theorem q26_48 : z_m26.2.2.2.2.2.lookup 48 = some (.putfield 36, 3) := by decide +kernel
theorem q26_51 : z_m26.2.2.2.2.2.lookup 51 = some (.aload_n 0, 1) := by decide +kernel
theorem q26_52 : z_m26.2.2.2.2.2.lookup 52 = some (.getfield 36, 3) := by decide +kernel
theorem q26_55 : z_m26.2.2.2.2.2.lookup 55 = some (.iconst 1, 1) := by decide +kernel
theorem q26_56 : z_m26.2.2.2.2.2.lookup 56 = some (.isub, 1) := by decide +kernel
theorem q26_57 : z_m26.2.2.2.2.2.lookup 57 = some (.ireturn, 1) := by decide +kernel
theorem q27_0 : z_m27.2.2.2.2.2.lookup 0 = some (.iconst 0, 1) := by decide +kernel
theorem q27_1 : z_m27.2.2.2.2.2.lookup 1 = some (.istore_n 3, 1) := by decide +kernel
theorem q27_2 : z_m27.2.2.2.2.2.lookup 2 = some (.iload_n 3, 1) := by decide +kernel
theorem q27_3 : z_m27.2.2.2.2.2.lookup 3 = some (.aload_n 0, 1) := by decide +kernel
theorem q27_4 : z_m27.2.2.2.2.2.lookup 4 = some (.getfield 40, 3) := by decide +kernel
theorem q27_7 : z_m27.2.2.2.2.2.lookup 7 = some (.if_icmp .ge 31, 3) := by decide +kernel
theorem q27_10 : z_m27.2.2.2.2.2.lookup 10 = some (.aload_n 0, 1) := by decide +kernel
theorem q27_11 : z_m27.2.2.2.2.2.lookup 11 = some (.getfield 24, 3) := by decide +kernel
theorem q27_14 : z_m27.2.2.2.2.2.lookup 14 = some (.iload_n 3, 1) := by decide +kernel
theorem q27_15 : z_m27.2.2.2.2.2.lookup 15 = some (.iaload, 1) := by decide +kernel
theorem q27_16 : z_m27.2.2.2.2.2.lookup 16 = some (.iload_n 1, 1) := by decide +kernel
theorem q27_17 : z_m27.2.2.2.2.2.lookup 17 = some (.if_icmp .ne 15, 3) := by decide +kernel
theorem q27_20 : z_m27.2.2.2.2.2.lookup 20 = some (.aload_n 0, 1) := by decide +kernel
theorem q27_21 : z_m27.2.2.2.2.2.lookup 21 = some (.getfield 27, 3) := by decide +kernel
theorem q27_24 : z_m27.2.2.2.2.2.lookup 24 = some (.iload_n 3, 1) := by decide +kernel
theorem q27_25 : z_m27.2.2.2.2.2.lookup 25 = some (.iaload, 1) := by decide +kernel
theorem q27_26 : z_m27.2.2.2.2.2.lookup 26 = some (.iload_n 2, 1) := by decide +kernel
theorem q27_27 : z_m27.2.2.2.2.2.lookup 27 = some (.if_icmp .ne 5, 3) := by decide +kernel
theorem q27_30 : z_m27.2.2.2.2.2.lookup 30 = some (.iconst 1, 1) := by decide +kernel
theorem q27_31 : z_m27.2.2.2.2.2.lookup 31 = some (.ireturn, 1) := by decide +kernel
theorem q27_32 : z_m27.2.2.2.2.2.lookup 32 = some (.iinc 3 1, 3) := by decide +kernel
theorem q27_35 : z_m27.2.2.2.2.2.lookup 35 = some (.goto (-33), 3) := by decide +kernel
theorem q27_38 : z_m27.2.2.2.2.2.lookup 38 = some (.iconst 0, 1) := by decide +kernel
theorem q27_39 : z_m27.2.2.2.2.2.lookup 39 = some (.ireturn, 1) := by decide +kernel
theorem q28_0 : z_m28.2.2.2.2.2.lookup 0 = some (.aload_n 0, 1) := by decide +kernel
theorem q28_1 : z_m28.2.2.2.2.2.lookup 1 = some (.getfield 24, 3) := by decide +kernel
theorem q28_4 : z_m28.2.2.2.2.2.lookup 4 = some (.aload_n 0, 1) := by decide +kernel
theorem q28_5 : z_m28.2.2.2.2.2.lookup 5 = some (.getfield 40, 3) := by decide +kernel
theorem q28_8 : z_m28.2.2.2.2.2.lookup 8 = some (.iload_n 1, 1) := by decide +kernel
theorem q28_9 : z_m28.2.2.2.2.2.lookup 9 = some (.iastore, 1) := by decide +kernel
theorem q28_10 : z_m28.2.2.2.2.2.lookup 10 = some (.aload_n 0, 1) := by decide +kernel
theorem q28_11 : z_m28.2.2.2.2.2.lookup 11 = some (.getfield 27, 3) := by decide +kernel
theorem q28_14 : z_m28.2.2.2.2.2.lookup 14 = some (.aload_n 0, 1) := by decide +kernel
theorem q28_15 : z_m28.2.2.2.2.2.lookup 15 = some (.getfield 40, 3) := by decide +kernel
theorem q28_18 : z_m28.2.2.2.2.2.lookup 18 = some (.iload_n 2, 1) := by decide +kernel
theorem q28_19 : z_m28.2.2.2.2.2.lookup 19 = some (.iastore, 1) := by decide +kernel
theorem q28_20 : z_m28.2.2.2.2.2.lookup 20 = some (.aload_n 0, 1) := by decide +kernel
theorem q28_21 : z_m28.2.2.2.2.2.lookup 21 = some (.dup, 1) := by decide +kernel
theorem q28_22 : z_m28.2.2.2.2.2.lookup 22 = some (.getfield 40, 3) := by decide +kernel
theorem q28_25 : z_m28.2.2.2.2.2.lookup 25 = some (.iconst 1, 1) := by decide +kernel
theorem q28_26 : z_m28.2.2.2.2.2.lookup 26 = some (.iadd, 1) := by decide +kernel
theorem q28_27 : z_m28.2.2.2.2.2.lookup 27 = some (.putfield 40, 3) := by decide +kernel
theorem q28_30 : z_m28.2.2.2.2.2.lookup 30 = some (.return_, 1) := by decide +kernel
theorem q29_0 : z_m29.2.2.2.2.2.lookup 0 = some (.iconst 0, 1) := by decide +kernel
theorem q29_1 : z_m29.2.2.2.2.2.lookup 1 = some (.istore_n 3, 1) := by decide +kernel
theorem q29_2 : z_m29.2.2.2.2.2.lookup 2 = some (.iconst 0, 1) := by decide +kernel
theorem q29_3 : z_m29.2.2.2.2.2.lookup 3 = some (.istore 4, 2) := by decide +kernel
theorem q29_5 : z_m29.2.2.2.2.2.lookup 5 = some (.iload 4, 2) := by decide +kernel
theorem q29_7 : z_m29.2.2.2.2.2.lookup 7 = some (.aload_n 0, 1) := by decide +kernel
theorem q29_8 : z_m29.2.2.2.2.2.lookup 8 = some (.getfield 40, 3) := by decide +kernel
theorem q29_11 : z_m29.2.2.2.2.2.lookup 11 = some (.if_icmp .ge 39, 3) := by decide +kernel
theorem q29_14 : z_m29.2.2.2.2.2.lookup 14 = some (.aload_n 0, 1) := by decide +kernel
theorem q29_15 : z_m29.2.2.2.2.2.lookup 15 = some (.getfield 27, 3) := by decide +kernel
theorem q29_18 : z_m29.2.2.2.2.2.lookup 18 = some (.iload 4, 2) := by decide +kernel
theorem q29_20 : z_m29.2.2.2.2.2.lookup 20 = some (.iaload, 1) := by decide +kernel
theorem q29_21 : z_m29.2.2.2.2.2.lookup 21 = some (.iload_n 2, 1) := by decide +kernel
theorem q29_22 : z_m29.2.2.2.2.2.lookup 22 = some (.if_icmp .ne 22, 3) := by decide +kernel
theorem q29_25 : z_m29.2.2.2.2.2.lookup 25 = some (.aload_n 0, 1) := by decide +kernel
theorem q29_26 : z_m29.2.2.2.2.2.lookup 26 = some (.getfield 11, 3) := by decide +kernel
theorem q29_29 : z_m29.2.2.2.2.2.lookup 29 = some (.aload_n 0, 1) := by decide +kernel
theorem q29_30 : z_m29.2.2.2.2.2.lookup 30 = some (.getfield 24, 3) := by decide +kernel
theorem q29_33 : z_m29.2.2.2.2.2.lookup 33 = some (.iload 4, 2) := by decide +kernel
theorem q29_35 : z_m29.2.2.2.2.2.lookup 35 = some (.iaload, 1) := by decide +kernel
theorem q29_36 : z_m29.2.2.2.2.2.lookup 36 = some (.iaload, 1) := by decide +kernel
theorem q29_37 : z_m29.2.2.2.2.2.lookup 37 = some (.iload_n 1, 1) := by decide +kernel
theorem q29_38 : z_m29.2.2.2.2.2.lookup 38 = some (.if_icmp .ne 6, 3) := by decide +kernel
theorem q29_41 : z_m29.2.2.2.2.2.lookup 41 = some (.iinc 3 1, 3) := by decide +kernel
theorem q29_44 : z_m29.2.2.2.2.2.lookup 44 = some (.iinc 4 1, 3) := by decide +kernel
theorem q29_47 : z_m29.2.2.2.2.2.lookup 47 = some (.goto (-42), 3) := by decide +kernel
theorem q29_50 : z_m29.2.2.2.2.2.lookup 50 = some (.iload_n 3, 1) := by decide +kernel
theorem q29_51 : z_m29.2.2.2.2.2.lookup 51 = some (.ireturn, 1) := by decide +kernel
theorem q30_0 : z_m30.2.2.2.2.2.lookup 0 = some (.iconst 0, 1) := by decide +kernel
theorem q30_1 : z_m30.2.2.2.2.2.lookup 1 = some (.istore 4, 2) := by decide +kernel
theorem q30_3 : z_m30.2.2.2.2.2.lookup 3 = some (.iconst 1, 1) := by decide +kernel
theorem q30_4 : z_m30.2.2.2.2.2.lookup 4 = some (.istore 5, 2) := by decide +kernel
theorem q30_6 : z_m30.2.2.2.2.2.lookup 6 = some (.iconst 0, 1) := by decide +kernel
theorem q30_7 : z_m30.2.2.2.2.2.lookup 7 = some (.istore 6, 2) := by decide +kernel
theorem q30_9 : z_m30.2.2.2.2.2.lookup 9 = some (.iload 6, 2) := by decide +kernel
theorem q30_11 : z_m30.2.2.2.2.2.lookup 11 = some (.aload_n 0, 1) := by decide +kernel
theorem q30_12 : z_m30.2.2.2.2.2.lookup 12 = some (.getfield 36, 3) := by decide +kernel
theorem q30_15 : z_m30.2.2.2.2.2.lookup 15 = some (.if_icmp .ge 86, 3) := by decide +kernel
theorem q30_18 : z_m30.2.2.2.2.2.lookup 18 = some (.aload_n 0, 1) := by decide +kernel
theorem q30_19 : z_m30.2.2.2.2.2.lookup 19 = some (.getfield 18, 3) := by decide +kernel
theorem q30_22 : z_m30.2.2.2.2.2.lookup 22 = some (.iload 6, 2) := by decide +kernel
theorem q30_24 : z_m30.2.2.2.2.2.lookup 24 = some (.iaload, 1) := by decide +kernel
theorem q30_25 : z_m30.2.2.2.2.2.lookup 25 = some (.iload_n 1, 1) := by decide +kernel
theorem q30_26 : z_m30.2.2.2.2.2.lookup 26 = some (.if_icmp .eq 6, 3) := by decide +kernel
theorem q30_29 : z_m30.2.2.2.2.2.lookup 29 = some (.goto 66, 3) := by decide +kernel
theorem q30_32 : z_m30.2.2.2.2.2.lookup 32 = some (.iload 4, 2) := by decide +kernel
theorem q30_34 : z_m30.2.2.2.2.2.lookup 34 = some (.bipush 8, 2) := by decide +kernel
theorem q30_36 : z_m30.2.2.2.2.2.lookup 36 = some (.if_icmp .lt 6, 3) := by decide +kernel
theorem q30_39 : z_m30.2.2.2.2.2.lookup 39 = some (.bipush (-3), 2) := by decide +kernel
theorem q30_41 : z_m30.2.2.2.2.2.lookup 41 = some (.ireturn, 1) := by decide +kernel
theorem q30_42 : z_m30.2.2.2.2.2.lookup 42 = some (.aload_n 0, 1) := by decide +kernel
theorem q30_43 : z_m30.2.2.2.2.2.lookup 43 = some (.getfield 30, 3) := by decide +kernel
theorem q30_46 : z_m30.2.2.2.2.2.lookup 46 = some (.iload 4, 2) := by decide +kernel
theorem q30_48 : z_m30.2.2.2.2.2.lookup 48 = some (.aload_n 0, 1) := by decide +kernel
theorem q30_49 : z_m30.2.2.2.2.2.lookup 49 = some (.getfield 15, 3) := by decide +kernel
theorem q30_52 : z_m30.2.2.2.2.2.lookup 52 = some (.iload 6, 2) := by decide +kernel
theorem q30_54 : z_m30.2.2.2.2.2.lookup 54 = some (.iaload, 1) := by decide +kernel
theorem q30_55 : z_m30.2.2.2.2.2.lookup 55 = some (.iastore, 1) := by decide +kernel
theorem q30_56 : z_m30.2.2.2.2.2.lookup 56 = some (.iinc 4 1, 3) := by decide +kernel
theorem q30_59 : z_m30.2.2.2.2.2.lookup 59 = some (.iload 5, 2) := by decide +kernel
theorem q30_61 : z_m30.2.2.2.2.2.lookup 61 = some (.ifCond .eq 31, 3) := by decide +kernel
theorem q30_64 : z_m30.2.2.2.2.2.lookup 64 = some (.aload_n 0, 1) := by decide +kernel
theorem q30_65 : z_m30.2.2.2.2.2.lookup 65 = some (.getfield 15, 3) := by decide +kernel
theorem q30_68 : z_m30.2.2.2.2.2.lookup 68 = some (.iload 6, 2) := by decide +kernel
theorem q30_70 : z_m30.2.2.2.2.2.lookup 70 = some (.iaload, 1) := by decide +kernel
theorem q30_71 : z_m30.2.2.2.2.2.lookup 71 = some (.iload_n 2, 1) := by decide +kernel
theorem q30_72 : z_m30.2.2.2.2.2.lookup 72 = some (.if_icmp .gt 20, 3) := by decide +kernel
theorem q30_75 : z_m30.2.2.2.2.2.lookup 75 = some (.iconst 2, 1) := by decide +kernel
theorem q30_76 : z_m30.2.2.2.2.2.lookup 76 = some (.aload_n 0, 1) := by decide +kernel
theorem q30_77 : z_m30.2.2.2.2.2.lookup 77 = some (.getfield 21, 3) := by decide +kernel
theorem q30_80 : z_m30.2.2.2.2.2.lookup 80 = some (.iload 6, 2) := by decide +kernel
theorem q30_82 : z_m30.2.2.2.2.2.lookup 82 = some (.iaload, 1) := by decide +kernel
theorem q30_83 : z_m30.2.2.2.2.2.lookup 83 = some (.imul, 1) := by decide +kernel
theorem q30_84 : z_m30.2.2.2.2.2.lookup 84 = some (.iload_n 3, 1) := by decide +kernel
theorem q30_85 : z_m30.2.2.2.2.2.lookup 85 = some (.if_icmp .gt 7, 3) := by decide +kernel
theorem q30_88 : z_m30.2.2.2.2.2.lookup 88 = some (.iconst 1, 1) := by decide +kernel
theorem q30_89 : z_m30.2.2.2.2.2.lookup 89 = some (.goto 4, 3) := by decide +kernel
theorem q30_92 : z_m30.2.2.2.2.2.lookup 92 = some (.iconst 0, 1) := by decide +kernel
theorem q30_93 : z_m30.2.2.2.2.2.lookup 93 = some (.istore 5, 2) := by decide +kernel
theorem q30_95 : z_m30.2.2.2.2.2.lookup 95 = some (.iinc 6 1, 3) := by decide +kernel
theorem q30_98 : z_m30.2.2.2.2.2.lookup 98 = some (.goto (-89), 3) := by decide +kernel
theorem q30_101 : z_m30.2.2.2.2.2.lookup 101 = some (.iload 5, 2) := by decide +kernel
theorem q30_103 : z_m30.2.2.2.2.2.lookup 103 = some (.ifCond .ne 5, 3) := by decide +kernel
theorem q30_106 : z_m30.2.2.2.2.2.lookup 106 = some (.iconst (-1), 1) := by decide +kernel
theorem q30_107 : z_m30.2.2.2.2.2.lookup 107 = some (.ireturn, 1) := by decide +kernel
theorem q30_108 : z_m30.2.2.2.2.2.lookup 108 = some (.iload 4, 2) := by decide +kernel
theorem q30_110 : z_m30.2.2.2.2.2.lookup 110 = some (.ifCond .ne 7, 3) := by decide +kernel
theorem q30_113 : z_m30.2.2.2.2.2.lookup 113 = some (.iconst 0, 1) := by decide +kernel
theorem q30_114 : z_m30.2.2.2.2.2.lookup 114 = some (.goto 16, 3) := by decide +kernel
theorem q30_117 : z_m30.2.2.2.2.2.lookup 117 = some (.aload_n 0, 1) := by decide +kernel
theorem q30_118 : z_m30.2.2.2.2.2.lookup 118 = some (.iload 4, 2) := by decide +kernel
theorem q30_120 : z_m30.2.2.2.2.2.lookup 120 = some (.iload_n 2, 1) := by decide +kernel
theorem q30_121 : z_m30.2.2.2.2.2.lookup 121 = some (.invokevirtual 43, 3) := by decide +kernel
theorem q30_124 : z_m30.2.2.2.2.2.lookup 124 = some (.sipush 10000, 3) := by decide +kernel
theorem q30_127 : z_m30.2.2.2.2.2.lookup 127 = some (.idiv, 1) := by decide +kernel
theorem q30_128 : z_m30.2.2.2.2.2.lookup 128 = some (.iconst 1, 1) := by decide +kernel
theorem q30_129 : z_m30.2.2.2.2.2.lookup 129 = some (.iadd, 1) := by decide +kernel
theorem q30_130 : z_m30.2.2.2.2.2.lookup 130 = some (.ireturn, 1) := by decide +kernel
theorem q31_0 : z_m31.2.2.2.2.2.lookup 0 = some (.iconst 1, 1) := by decide +kernel
theorem q31_1 : z_m31.2.2.2.2.2.lookup 1 = some (.iload_n 1, 1) := by decide +kernel
theorem q31_2 : z_m31.2.2.2.2.2.lookup 2 = some (.ishl, 1) := by decide +kernel
theorem q31_3 : z_m31.2.2.2.2.2.lookup 3 = some (.istore_n 3, 1) := by decide +kernel
theorem q31_4 : z_m31.2.2.2.2.2.lookup 4 = some (.aload_n 0, 1) := by decide +kernel
theorem q31_5 : z_m31.2.2.2.2.2.lookup 5 = some (.getfield 33, 3) := by decide +kernel
theorem q31_8 : z_m31.2.2.2.2.2.lookup 8 = some (.iconst 0, 1) := by decide +kernel
theorem q31_9 : z_m31.2.2.2.2.2.lookup 9 = some (.iconst 0, 1) := by decide +kernel
theorem q31_10 : z_m31.2.2.2.2.2.lookup 10 = some (.iastore, 1) := by decide +kernel
theorem q31_11 : z_m31.2.2.2.2.2.lookup 11 = some (.iconst 1, 1) := by decide +kernel
theorem q31_12 : z_m31.2.2.2.2.2.lookup 12 = some (.istore 4, 2) := by decide +kernel
theorem q31_14 : z_m31.2.2.2.2.2.lookup 14 = some (.iload 4, 2) := by decide +kernel
theorem q31_16 : z_m31.2.2.2.2.2.lookup 16 = some (.iload_n 3, 1) := by decide +kernel
theorem q31_17 : z_m31.2.2.2.2.2.lookup 17 = some (.if_icmp .ge 78, 3) := by decide +kernel
theorem q31_20 : z_m31.2.2.2.2.2.lookup 20 = some (.ldc 47, 2) := by decide +kernel
theorem q31_22 : z_m31.2.2.2.2.2.lookup 22 = some (.istore 5, 2) := by decide +kernel
theorem q31_24 : z_m31.2.2.2.2.2.lookup 24 = some (.iconst 0, 1) := by decide +kernel
theorem q31_25 : z_m31.2.2.2.2.2.lookup 25 = some (.istore 6, 2) := by decide +kernel
theorem q31_27 : z_m31.2.2.2.2.2.lookup 27 = some (.iload 6, 2) := by decide +kernel
theorem q31_29 : z_m31.2.2.2.2.2.lookup 29 = some (.iload_n 1, 1) := by decide +kernel
theorem q31_30 : z_m31.2.2.2.2.2.lookup 30 = some (.if_icmp .ge 50, 3) := by decide +kernel
theorem q31_33 : z_m31.2.2.2.2.2.lookup 33 = some (.iload 4, 2) := by decide +kernel
theorem q31_35 : z_m31.2.2.2.2.2.lookup 35 = some (.iload 6, 2) := by decide +kernel
theorem q31_37 : z_m31.2.2.2.2.2.lookup 37 = some (.ishr, 1) := by decide +kernel
theorem q31_38 : z_m31.2.2.2.2.2.lookup 38 = some (.iconst 1, 1) := by decide +kernel
theorem q31_39 : z_m31.2.2.2.2.2.lookup 39 = some (.iand, 1) := by decide +kernel
theorem q31_40 : z_m31.2.2.2.2.2.lookup 40 = some (.iconst 1, 1) := by decide +kernel
theorem q31_41 : z_m31.2.2.2.2.2.lookup 41 = some (.if_icmp .ne 33, 3) := by decide +kernel
theorem q31_44 : z_m31.2.2.2.2.2.lookup 44 = some (.iload 5, 2) := by decide +kernel
theorem q31_46 : z_m31.2.2.2.2.2.lookup 46 = some (.aload_n 0, 1) := by decide +kernel
theorem q31_47 : z_m31.2.2.2.2.2.lookup 47 = some (.getfield 33, 3) := by decide +kernel
theorem q31_50 : z_m31.2.2.2.2.2.lookup 50 = some (.iload 4, 2) := by decide +kernel
theorem q31_52 : z_m31.2.2.2.2.2.lookup 52 = some (.iconst 1, 1) := by decide +kernel
theorem q31_53 : z_m31.2.2.2.2.2.lookup 53 = some (.iload 6, 2) := by decide +kernel
theorem q31_55 : z_m31.2.2.2.2.2.lookup 55 = some (.ishl, 1) := by decide +kernel
theorem q31_56 : z_m31.2.2.2.2.2.lookup 56 = some (.ixor, 1) := by decide +kernel
theorem q31_57 : z_m31.2.2.2.2.2.lookup 57 = some (.iaload, 1) := by decide +kernel
theorem q31_58 : z_m31.2.2.2.2.2.lookup 58 = some (.aload_n 0, 1) := by decide +kernel
theorem q31_59 : z_m31.2.2.2.2.2.lookup 59 = some (.getfield 30, 3) := by decide +kernel
theorem q31_62 : z_m31.2.2.2.2.2.lookup 62 = some (.iload 6, 2) := by decide +kernel
theorem q31_64 : z_m31.2.2.2.2.2.lookup 64 = some (.iaload, 1) := by decide +kernel
theorem q31_65 : z_m31.2.2.2.2.2.lookup 65 = some (.iload_n 2, 1) := by decide +kernel
theorem q31_66 : z_m31.2.2.2.2.2.lookup 66 = some (.invokestatic 48, 3) := by decide +kernel
theorem q31_69 : z_m31.2.2.2.2.2.lookup 69 = some (.invokestatic 52, 3) := by decide +kernel
theorem q31_72 : z_m31.2.2.2.2.2.lookup 72 = some (.istore 5, 2) := by decide +kernel
theorem q31_74 : z_m31.2.2.2.2.2.lookup 74 = some (.iinc 6 1, 3) := by decide +kernel
theorem q31_77 : z_m31.2.2.2.2.2.lookup 77 = some (.goto (-50), 3) := by decide +kernel
theorem q31_80 : z_m31.2.2.2.2.2.lookup 80 = some (.aload_n 0, 1) := by decide +kernel
theorem q31_81 : z_m31.2.2.2.2.2.lookup 81 = some (.getfield 33, 3) := by decide +kernel
theorem q31_84 : z_m31.2.2.2.2.2.lookup 84 = some (.iload 4, 2) := by decide +kernel
theorem q31_86 : z_m31.2.2.2.2.2.lookup 86 = some (.iload 5, 2) := by decide +kernel
theorem q31_88 : z_m31.2.2.2.2.2.lookup 88 = some (.iastore, 1) := by decide +kernel
theorem q31_89 : z_m31.2.2.2.2.2.lookup 89 = some (.iinc 4 1, 3) := by decide +kernel
theorem q31_92 : z_m31.2.2.2.2.2.lookup 92 = some (.goto (-78), 3) := by decide +kernel
theorem q31_95 : z_m31.2.2.2.2.2.lookup 95 = some (.aload_n 0, 1) := by decide +kernel
theorem q31_96 : z_m31.2.2.2.2.2.lookup 96 = some (.getfield 33, 3) := by decide +kernel
theorem q31_99 : z_m31.2.2.2.2.2.lookup 99 = some (.iload_n 3, 1) := by decide +kernel
theorem q31_100 : z_m31.2.2.2.2.2.lookup 100 = some (.iconst 1, 1) := by decide +kernel
theorem q31_101 : z_m31.2.2.2.2.2.lookup 101 = some (.isub, 1) := by decide +kernel
theorem q31_102 : z_m31.2.2.2.2.2.lookup 102 = some (.iaload, 1) := by decide +kernel
theorem q31_103 : z_m31.2.2.2.2.2.lookup 103 = some (.ireturn, 1) := by decide +kernel
theorem q32_0 : z_m32.2.2.2.2.2.lookup 0 = some (.iload_n 0, 1) := by decide +kernel
theorem q32_1 : z_m32.2.2.2.2.2.lookup 1 = some (.sipush 10000, 3) := by decide +kernel
theorem q32_4 : z_m32.2.2.2.2.2.lookup 4 = some (.irem, 1) := by decide +kernel
theorem q32_5 : z_m32.2.2.2.2.2.lookup 5 = some (.istore_n 3, 1) := by decide +kernel
theorem q32_6 : z_m32.2.2.2.2.2.lookup 6 = some (.iload_n 3, 1) := by decide +kernel
theorem q32_7 : z_m32.2.2.2.2.2.lookup 7 = some (.iload_n 1, 1) := by decide +kernel
theorem q32_8 : z_m32.2.2.2.2.2.lookup 8 = some (.iadd, 1) := by decide +kernel
theorem q32_9 : z_m32.2.2.2.2.2.lookup 9 = some (.iload_n 2, 1) := by decide +kernel
theorem q32_10 : z_m32.2.2.2.2.2.lookup 10 = some (.if_icmp .gt 9, 3) := by decide +kernel
theorem q32_13 : z_m32.2.2.2.2.2.lookup 13 = some (.iload_n 0, 1) := by decide +kernel
theorem q32_14 : z_m32.2.2.2.2.2.lookup 14 = some (.iload_n 1, 1) := by decide +kernel
theorem q32_15 : z_m32.2.2.2.2.2.lookup 15 = some (.iadd, 1) := by decide +kernel
theorem q32_16 : z_m32.2.2.2.2.2.lookup 16 = some (.goto 12, 3) := by decide +kernel
theorem q32_19 : z_m32.2.2.2.2.2.lookup 19 = some (.iload_n 0, 1) := by decide +kernel
theorem q32_20 : z_m32.2.2.2.2.2.lookup 20 = some (.iload_n 3, 1) := by decide +kernel
theorem q32_21 : z_m32.2.2.2.2.2.lookup 21 = some (.isub, 1) := by decide +kernel
theorem q32_22 : z_m32.2.2.2.2.2.lookup 22 = some (.sipush 10000, 3) := by decide +kernel
theorem q32_25 : z_m32.2.2.2.2.2.lookup 25 = some (.iadd, 1) := by decide +kernel
theorem q32_26 : z_m32.2.2.2.2.2.lookup 26 = some (.iload_n 1, 1) := by decide +kernel
theorem q32_27 : z_m32.2.2.2.2.2.lookup 27 = some (.iadd, 1) := by decide +kernel
theorem q32_28 : z_m32.2.2.2.2.2.lookup 28 = some (.ireturn, 1) := by decide +kernel
theorem q34_0 : z_m34.2.2.2.2.2.lookup 0 = some (.aload_n 0, 1) := by decide +kernel
theorem q34_1 : z_m34.2.2.2.2.2.lookup 1 = some (.getfield 9, 3) := by decide +kernel
theorem q34_4 : z_m34.2.2.2.2.2.lookup 4 = some (.aload_n 0, 1) := by decide +kernel
theorem q34_5 : z_m34.2.2.2.2.2.lookup 5 = some (.getfield 21, 3) := by decide +kernel
theorem q34_8 : z_m34.2.2.2.2.2.lookup 8 = some (.iload_n 1, 1) := by decide +kernel
theorem q34_9 : z_m34.2.2.2.2.2.lookup 9 = some (.iastore, 1) := by decide +kernel
theorem q34_10 : z_m34.2.2.2.2.2.lookup 10 = some (.aload_n 0, 1) := by decide +kernel
theorem q34_11 : z_m34.2.2.2.2.2.lookup 11 = some (.getfield 15, 3) := by decide +kernel
theorem q34_14 : z_m34.2.2.2.2.2.lookup 14 = some (.aload_n 0, 1) := by decide +kernel
theorem q34_15 : z_m34.2.2.2.2.2.lookup 15 = some (.getfield 21, 3) := by decide +kernel
theorem q34_18 : z_m34.2.2.2.2.2.lookup 18 = some (.iload_n 2, 1) := by decide +kernel
theorem q34_19 : z_m34.2.2.2.2.2.lookup 19 = some (.iastore, 1) := by decide +kernel
theorem q34_20 : z_m34.2.2.2.2.2.lookup 20 = some (.aload_n 0, 1) := by decide +kernel
theorem q34_21 : z_m34.2.2.2.2.2.lookup 21 = some (.getfield 18, 3) := by decide +kernel
theorem q34_24 : z_m34.2.2.2.2.2.lookup 24 = some (.aload_n 0, 1) := by decide +kernel
theorem q34_25 : z_m34.2.2.2.2.2.lookup 25 = some (.getfield 21, 3) := by decide +kernel
theorem q34_28 : z_m34.2.2.2.2.2.lookup 28 = some (.iload_n 3, 1) := by decide +kernel
theorem q34_29 : z_m34.2.2.2.2.2.lookup 29 = some (.iastore, 1) := by decide +kernel
theorem q34_30 : z_m34.2.2.2.2.2.lookup 30 = some (.aload_n 0, 1) := by decide +kernel
theorem q34_31 : z_m34.2.2.2.2.2.lookup 31 = some (.dup, 1) := by decide +kernel
theorem q34_32 : z_m34.2.2.2.2.2.lookup 32 = some (.getfield 21, 3) := by decide +kernel
theorem q34_35 : z_m34.2.2.2.2.2.lookup 35 = some (.iconst 1, 1) := by decide +kernel
theorem q34_36 : z_m34.2.2.2.2.2.lookup 36 = some (.iadd, 1) := by decide +kernel
theorem q34_37 : z_m34.2.2.2.2.2.lookup 37 = some (.putfield 21, 3) := by decide +kernel
theorem q34_40 : z_m34.2.2.2.2.2.lookup 40 = some (.aload_n 0, 1) := by decide +kernel
theorem q34_41 : z_m34.2.2.2.2.2.lookup 41 = some (.getfield 21, 3) := by decide +kernel
theorem q34_44 : z_m34.2.2.2.2.2.lookup 44 = some (.iconst 1, 1) := by decide +kernel
theorem q34_45 : z_m34.2.2.2.2.2.lookup 45 = some (.isub, 1) := by decide +kernel
theorem q34_46 : z_m34.2.2.2.2.2.lookup 46 = some (.ireturn, 1) := by decide +kernel
theorem q36_0 : z_m36.2.2.2.2.2.lookup 0 = some (.aload_n 0, 1) := by decide +kernel
theorem q36_1 : z_m36.2.2.2.2.2.lookup 1 = some (.getfield 9, 3) := by decide +kernel
theorem q36_4 : z_m36.2.2.2.2.2.lookup 4 = some (.iload_n 1, 1) := by decide +kernel
theorem q36_5 : z_m36.2.2.2.2.2.lookup 5 = some (.iconst 5, 1) := by decide +kernel
theorem q36_6 : z_m36.2.2.2.2.2.lookup 6 = some (.imul, 1) := by decide +kernel
theorem q36_7 : z_m36.2.2.2.2.2.lookup 7 = some (.iload_n 2, 1) := by decide +kernel
theorem q36_8 : z_m36.2.2.2.2.2.lookup 8 = some (.iadd, 1) := by decide +kernel
theorem q36_9 : z_m36.2.2.2.2.2.lookup 9 = some (.iaload, 1) := by decide +kernel
theorem q36_10 : z_m36.2.2.2.2.2.lookup 10 = some (.istore 4, 2) := by decide +kernel
theorem q36_12 : z_m36.2.2.2.2.2.lookup 12 = some (.aload_n 0, 1) := by decide +kernel
theorem q36_13 : z_m36.2.2.2.2.2.lookup 13 = some (.getfield 9, 3) := by decide +kernel
theorem q36_16 : z_m36.2.2.2.2.2.lookup 16 = some (.iload_n 1, 1) := by decide +kernel
theorem q36_17 : z_m36.2.2.2.2.2.lookup 17 = some (.iconst 5, 1) := by decide +kernel
theorem q36_18 : z_m36.2.2.2.2.2.lookup 18 = some (.imul, 1) := by decide +kernel
theorem q36_19 : z_m36.2.2.2.2.2.lookup 19 = some (.iload_n 2, 1) := by decide +kernel
theorem q36_20 : z_m36.2.2.2.2.2.lookup 20 = some (.iadd, 1) := by decide +kernel
theorem q36_21 : z_m36.2.2.2.2.2.lookup 21 = some (.iload_n 3, 1) := by decide +kernel
theorem q36_22 : z_m36.2.2.2.2.2.lookup 22 = some (.iastore, 1) := by decide +kernel
theorem q36_23 : z_m36.2.2.2.2.2.lookup 23 = some (.iload 4, 2) := by decide +kernel
theorem q36_25 : z_m36.2.2.2.2.2.lookup 25 = some (.ireturn, 1) := by decide +kernel
theorem q37_0 : z_m37.2.2.2.2.2.lookup 0 = some (.aload_n 0, 1) := by decide +kernel
theorem q37_1 : z_m37.2.2.2.2.2.lookup 1 = some (.iconst 0, 1) := by decide +kernel
theorem q37_2 : z_m37.2.2.2.2.2.lookup 2 = some (.putfield 24, 3) := by decide +kernel
theorem q37_5 : z_m37.2.2.2.2.2.lookup 5 = some (.iconst 0, 1) := by decide +kernel
theorem q37_6 : z_m37.2.2.2.2.2.lookup 6 = some (.istore_n 2, 1) := by decide +kernel
theorem q37_7 : z_m37.2.2.2.2.2.lookup 7 = some (.iload_n 2, 1) := by decide +kernel
theorem q37_8 : z_m37.2.2.2.2.2.lookup 8 = some (.bipush 10, 2) := by decide +kernel
theorem q37_10 : z_m37.2.2.2.2.2.lookup 10 = some (.if_icmp .ge 46, 3) := by decide +kernel
theorem q37_13 : z_m37.2.2.2.2.2.lookup 13 = some (.iload_n 1, 1) := by decide +kernel
theorem q37_14 : z_m37.2.2.2.2.2.lookup 14 = some (.iload_n 2, 1) := by decide +kernel
theorem q37_15 : z_m37.2.2.2.2.2.lookup 15 = some (.ishr, 1) := by decide +kernel
theorem q37_16 : z_m37.2.2.2.2.2.lookup 16 = some (.iconst 1, 1) := by decide +kernel
theorem q37_17 : z_m37.2.2.2.2.2.lookup 17 = some (.iand, 1) := by decide +kernel
theorem q37_18 : z_m37.2.2.2.2.2.lookup 18 = some (.iconst 1, 1) := by decide +kernel
theorem q37_19 : z_m37.2.2.2.2.2.lookup 19 = some (.if_icmp .ne 31, 3) := by decide +kernel
theorem q37_22 : z_m37.2.2.2.2.2.lookup 22 = some (.aload_n 0, 1) := by decide +kernel
theorem q37_23 : z_m37.2.2.2.2.2.lookup 23 = some (.getfield 24, 3) := by decide +kernel
theorem q37_26 : z_m37.2.2.2.2.2.lookup 26 = some (.iconst 5, 1) := by decide +kernel
theorem q37_27 : z_m37.2.2.2.2.2.lookup 27 = some (.if_icmp .ge 23, 3) := by decide +kernel
theorem q37_30 : z_m37.2.2.2.2.2.lookup 30 = some (.aload_n 0, 1) := by decide +kernel
theorem q37_31 : z_m37.2.2.2.2.2.lookup 31 = some (.getfield 15, 3) := by decide +kernel
theorem q37_34 : z_m37.2.2.2.2.2.lookup 34 = some (.aload_n 0, 1) := by decide +kernel
theorem q37_35 : z_m37.2.2.2.2.2.lookup 35 = some (.getfield 24, 3) := by decide +kernel
theorem q37_38 : z_m37.2.2.2.2.2.lookup 38 = some (.iload_n 2, 1) := by decide +kernel
theorem q37_39 : z_m37.2.2.2.2.2.lookup 39 = some (.iastore, 1) := by decide +kernel
theorem q37_40 : z_m37.2.2.2.2.2.lookup 40 = some (.aload_n 0, 1) := by decide +kernel
theorem q37_41 : z_m37.2.2.2.2.2.lookup 41 = some (.dup, 1) := by decide +kernel
theorem q37_42 : z_m37.2.2.2.2.2.lookup 42 = some (.getfield 24, 3) := by decide +kernel
theorem q37_45 : z_m37.2.2.2.2.2.lookup 45 = some (.iconst 1, 1) := by decide +kernel
theorem q37_46 : z_m37.2.2.2.2.2.lookup 46 = some (.iadd, 1) := by decide +kernel
theorem q37_47 : z_m37.2.2.2.2.2.lookup 47 = some (.putfield 24, 3) := by decide +kernel
theorem q37_50 : z_m37.2.2.2.2.2.lookup 50 = some (.iinc 2 1, 3) := by decide +kernel
theorem q37_53 : z_m37.2.2.2.2.2.lookup 53 = some (.goto (-46), 3) := by decide +kernel
theorem q37_56 : z_m37.2.2.2.2.2.lookup 56 = some (.aload_n 0, 1) := by decide +kernel
theorem q37_57 : z_m37.2.2.2.2.2.lookup 57 = some (.iconst (-1), 1) := by decide +kernel
theorem q37_58 : z_m37.2.2.2.2.2.lookup 58 = some (.putfield 28, 3) := by decide +kernel
theorem q37_61 : z_m37.2.2.2.2.2.lookup 61 = some (.aload_n 0, 1) := by decide +kernel
theorem q37_62 : z_m37.2.2.2.2.2.lookup 62 = some (.iconst 0, 1) := by decide +kernel
theorem q37_63 : z_m37.2.2.2.2.2.lookup 63 = some (.iconst 0, 1) := by decide +kernel
theorem q37_64 : z_m37.2.2.2.2.2.lookup 64 = some (.iconst 0, 1) := by decide +kernel
theorem q37_65 : z_m37.2.2.2.2.2.lookup 65 = some (.invokestatic 31, 3) := by decide +kernel
theorem q37_68 : z_m37.2.2.2.2.2.lookup 68 = some (.return_, 1) := by decide +kernel
theorem q38_0 : z_m38.2.2.2.2.2.lookup 0 = some (.iload_n 1, 1) := by decide +kernel
theorem q38_1 : z_m38.2.2.2.2.2.lookup 1 = some (.aload_n 0, 1) := by decide +kernel
theorem q38_2 : z_m38.2.2.2.2.2.lookup 2 = some (.getfield 24, 3) := by decide +kernel
theorem q38_5 : z_m38.2.2.2.2.2.lookup 5 = some (.if_icmp .lt 34, 3) := by decide +kernel
theorem q38_8 : z_m38.2.2.2.2.2.lookup 8 = some (.iload_n 3, 1) := by decide +kernel
theorem q38_9 : z_m38.2.2.2.2.2.lookup 9 = some (.aload_n 0, 1) := by decide +kernel
theorem q38_10 : z_m38.2.2.2.2.2.lookup 10 = some (.getfield 28, 3) := by decide +kernel
theorem q38_13 : z_m38.2.2.2.2.2.lookup 13 = some (.if_icmp .le 25, 3) := by decide +kernel
theorem q38_16 : z_m38.2.2.2.2.2.lookup 16 = some (.aload_n 0, 1) := by decide +kernel
theorem q38_17 : z_m38.2.2.2.2.2.lookup 17 = some (.iload_n 3, 1) := by decide +kernel
theorem q38_18 : z_m38.2.2.2.2.2.lookup 18 = some (.putfield 28, 3) := by decide +kernel
theorem q38_21 : z_m38.2.2.2.2.2.lookup 21 = some (.aload_n 0, 1) := by decide +kernel
theorem q38_22 : z_m38.2.2.2.2.2.lookup 22 = some (.getfield 18, 3) := by decide +kernel
theorem q38_25 : z_m38.2.2.2.2.2.lookup 25 = some (.iconst 0, 1) := by decide +kernel
theorem q38_26 : z_m38.2.2.2.2.2.lookup 26 = some (.aload_n 0, 1) := by decide +kernel
theorem q38_27 : z_m38.2.2.2.2.2.lookup 27 = some (.getfield 21, 3) := by decide +kernel
theorem q38_30 : z_m38.2.2.2.2.2.lookup 30 = some (.iconst 0, 1) := by decide +kernel
theorem q38_31 : z_m38.2.2.2.2.2.lookup 31 = some (.aload_n 0, 1) := by decide +kernel
theorem q38_32 : z_m38.2.2.2.2.2.lookup 32 = some (.getfield 24, 3) := by decide +kernel
theorem q38_35 : z_m38.2.2.2.2.2.lookup 35 = some (.invokestatic 35, 3) := by decide +kernel
theorem q38_38 : z_m38.2.2.2.2.2.lookup 38 = some (.return_, 1) := by decide +kernel
theorem q38_39 : z_m38.2.2.2.2.2.lookup 39 = some (.aload_n 0, 1) := by decide +kernel
theorem q38_40 : z_m38.2.2.2.2.2.lookup 40 = some (.getfield 15, 3) := by decide +kernel
theorem q38_43 : z_m38.2.2.2.2.2.lookup 43 = some (.iload_n 1, 1) := by decide +kernel
theorem q38_44 : z_m38.2.2.2.2.2.lookup 44 = some (.iaload, 1) := by decide +kernel
theorem q38_45 : z_m38.2.2.2.2.2.lookup 45 = some (.istore 4, 2) := by decide +kernel
theorem q38_47 : z_m38.2.2.2.2.2.lookup 47 = some (.iconst 0, 1) := by decide +kernel
theorem q38_48 : z_m38.2.2.2.2.2.lookup 48 = some (.istore 5, 2) := by decide +kernel
theorem q38_50 : z_m38.2.2.2.2.2.lookup 50 = some (.iload 5, 2) := by decide +kernel
theorem q38_52 : z_m38.2.2.2.2.2.lookup 52 = some (.iconst 5, 1) := by decide +kernel
theorem q38_53 : z_m38.2.2.2.2.2.lookup 53 = some (.if_icmp .ge 53, 3) := by decide +kernel
theorem q38_56 : z_m38.2.2.2.2.2.lookup 56 = some (.iload_n 2, 1) := by decide +kernel
theorem q38_57 : z_m38.2.2.2.2.2.lookup 57 = some (.iload 5, 2) := by decide +kernel
theorem q38_59 : z_m38.2.2.2.2.2.lookup 59 = some (.ishr, 1) := by decide +kernel
theorem q38_60 : z_m38.2.2.2.2.2.lookup 60 = some (.iconst 1, 1) := by decide +kernel
theorem q38_61 : z_m38.2.2.2.2.2.lookup 61 = some (.iand, 1) := by decide +kernel
theorem q38_62 : z_m38.2.2.2.2.2.lookup 62 = some (.ifCond .ne 38, 3) := by decide +kernel
theorem q38_65 : z_m38.2.2.2.2.2.lookup 65 = some (.aload_n 0, 1) := by decide +kernel
theorem q38_66 : z_m38.2.2.2.2.2.lookup 66 = some (.getfield 18, 3) := by decide +kernel
theorem q38_69 : z_m38.2.2.2.2.2.lookup 69 = some (.iload_n 1, 1) := by decide +kernel
theorem q38_70 : z_m38.2.2.2.2.2.lookup 70 = some (.iload 5, 2) := by decide +kernel
theorem q38_72 : z_m38.2.2.2.2.2.lookup 72 = some (.iastore, 1) := by decide +kernel
theorem q38_73 : z_m38.2.2.2.2.2.lookup 73 = some (.aload_n 0, 1) := by decide +kernel
theorem q38_74 : z_m38.2.2.2.2.2.lookup 74 = some (.iload_n 1, 1) := by decide +kernel
theorem q38_75 : z_m38.2.2.2.2.2.lookup 75 = some (.iconst 1, 1) := by decide +kernel
theorem q38_76 : z_m38.2.2.2.2.2.lookup 76 = some (.iadd, 1) := by decide +kernel
theorem q38_77 : z_m38.2.2.2.2.2.lookup 77 = some (.iload_n 2, 1) := by decide +kernel
theorem q38_78 : z_m38.2.2.2.2.2.lookup 78 = some (.iconst 1, 1) := by decide +kernel
theorem q38_79 : z_m38.2.2.2.2.2.lookup 79 = some (.iload 5, 2) := by decide +kernel
theorem q38_81 : z_m38.2.2.2.2.2.lookup 81 = some (.ishl, 1) := by decide +kernel
theorem q38_82 : z_m38.2.2.2.2.2.lookup 82 = some (.ior, 1) := by decide +kernel
theorem q38_83 : z_m38.2.2.2.2.2.lookup 83 = some (.iload_n 3, 1) := by decide +kernel
theorem q38_84 : z_m38.2.2.2.2.2.lookup 84 = some (.aload_n 0, 1) := by decide +kernel
theorem q38_85 : z_m38.2.2.2.2.2.lookup 85 = some (.getfield 9, 3) := by decide +kernel
theorem q38_88 : z_m38.2.2.2.2.2.lookup 88 = some (.iload 4, 2) := by decide +kernel
theorem q38_90 : z_m38.2.2.2.2.2.lookup 90 = some (.iconst 5, 1) := by decide +kernel
theorem q38_91 : z_m38.2.2.2.2.2.lookup 91 = some (.imul, 1) := by decide +kernel
theorem q38_92 : z_m38.2.2.2.2.2.lookup 92 = some (.iload 5, 2) := by decide +kernel
theorem q38_94 : z_m38.2.2.2.2.2.lookup 94 = some (.iadd, 1) := by decide +kernel
theorem q38_95 : z_m38.2.2.2.2.2.lookup 95 = some (.iaload, 1) := by decide +kernel
theorem q38_96 : z_m38.2.2.2.2.2.lookup 96 = some (.iadd, 1) := by decide +kernel
theorem q38_97 : z_m38.2.2.2.2.2.lookup 97 = some (.invokestatic 31, 3) := by decide +kernel
theorem q38_100 : z_m38.2.2.2.2.2.lookup 100 = some (.iinc 5 1, 3) := by decide +kernel
theorem q38_103 : z_m38.2.2.2.2.2.lookup 103 = some (.goto (-53), 3) := by decide +kernel
theorem q38_106 : z_m38.2.2.2.2.2.lookup 106 = some (.return_, 1) := by decide +kernel
theorem q40_0 : z_m40.2.2.2.2.2.lookup 0 = some (.aload_n 0, 1) := by decide +kernel
theorem q40_1 : z_m40.2.2.2.2.2.lookup 1 = some (.getfield 9, 3) := by decide +kernel
theorem q40_4 : z_m40.2.2.2.2.2.lookup 4 = some (.aload_n 0, 1) := by decide +kernel
theorem q40_5 : z_m40.2.2.2.2.2.lookup 5 = some (.getfield 24, 3) := by decide +kernel
theorem q40_8 : z_m40.2.2.2.2.2.lookup 8 = some (.iload_n 1, 1) := by decide +kernel
theorem q40_9 : z_m40.2.2.2.2.2.lookup 9 = some (.iastore, 1) := by decide +kernel
theorem q40_10 : z_m40.2.2.2.2.2.lookup 10 = some (.aload_n 0, 1) := by decide +kernel
theorem q40_11 : z_m40.2.2.2.2.2.lookup 11 = some (.getfield 15, 3) := by decide +kernel
theorem q40_14 : z_m40.2.2.2.2.2.lookup 14 = some (.aload_n 0, 1) := by decide +kernel
theorem q40_15 : z_m40.2.2.2.2.2.lookup 15 = some (.getfield 24, 3) := by decide +kernel
theorem q40_18 : z_m40.2.2.2.2.2.lookup 18 = some (.iload_n 2, 1) := by decide +kernel
theorem q40_19 : z_m40.2.2.2.2.2.lookup 19 = some (.iastore, 1) := by decide +kernel
theorem q40_20 : z_m40.2.2.2.2.2.lookup 20 = some (.aload_n 0, 1) := by decide +kernel
theorem q40_21 : z_m40.2.2.2.2.2.lookup 21 = some (.getfield 18, 3) := by decide +kernel
theorem q40_24 : z_m40.2.2.2.2.2.lookup 24 = some (.aload_n 0, 1) := by decide +kernel
theorem q40_25 : z_m40.2.2.2.2.2.lookup 25 = some (.getfield 24, 3) := by decide +kernel
theorem q40_28 : z_m40.2.2.2.2.2.lookup 28 = some (.iload_n 3, 1) := by decide +kernel
theorem q40_29 : z_m40.2.2.2.2.2.lookup 29 = some (.iastore, 1) := by decide +kernel
theorem q40_30 : z_m40.2.2.2.2.2.lookup 30 = some (.aload_n 0, 1) := by decide +kernel
theorem q40_31 : z_m40.2.2.2.2.2.lookup 31 = some (.getfield 21, 3) := by decide +kernel
theorem q40_34 : z_m40.2.2.2.2.2.lookup 34 = some (.aload_n 0, 1) := by decide +kernel
theorem q40_35 : z_m40.2.2.2.2.2.lookup 35 = some (.getfield 24, 3) := by decide +kernel
theorem q40_38 : z_m40.2.2.2.2.2.lookup 38 = some (.iload 4, 2) := by decide +kernel
theorem q40_40 : z_m40.2.2.2.2.2.lookup 40 = some (.iastore, 1) := by decide +kernel
theorem q40_41 : z_m40.2.2.2.2.2.lookup 41 = some (.aload_n 0, 1) := by decide +kernel
theorem q40_42 : z_m40.2.2.2.2.2.lookup 42 = some (.dup, 1) := by decide +kernel
theorem q40_43 : z_m40.2.2.2.2.2.lookup 43 = some (.getfield 24, 3) := by decide +kernel
theorem q40_46 : z_m40.2.2.2.2.2.lookup 46 = some (.iconst 1, 1) := by decide +kernel
theorem q40_47 : z_m40.2.2.2.2.2.lookup 47 = some (.iadd, 1) := by decide +kernel
theorem q40_48 : z_m40.2.2.2.2.2.lookup 48 = some (.putfield 24, 3) := by decide +kernel
theorem q40_51 : z_m40.2.2.2.2.2.lookup 51 = some (.aload_n 0, 1) := by decide +kernel
theorem q40_52 : z_m40.2.2.2.2.2.lookup 52 = some (.getfield 24, 3) := by decide +kernel
theorem q40_55 : z_m40.2.2.2.2.2.lookup 55 = some (.ireturn, 1) := by decide +kernel
theorem q41_0 : z_m41.2.2.2.2.2.lookup 0 = some (.iconst (-1), 1) := by decide +kernel
theorem q41_1 : z_m41.2.2.2.2.2.lookup 1 = some (.istore 4, 2) := by decide +kernel
theorem q41_3 : z_m41.2.2.2.2.2.lookup 3 = some (.iconst 0, 1) := by decide +kernel
theorem q41_4 : z_m41.2.2.2.2.2.lookup 4 = some (.istore 5, 2) := by decide +kernel
theorem q41_6 : z_m41.2.2.2.2.2.lookup 6 = some (.iload 5, 2) := by decide +kernel
theorem q41_8 : z_m41.2.2.2.2.2.lookup 8 = some (.aload_n 0, 1) := by decide +kernel
theorem q41_9 : z_m41.2.2.2.2.2.lookup 9 = some (.getfield 24, 3) := by decide +kernel
theorem q41_12 : z_m41.2.2.2.2.2.lookup 12 = some (.if_icmp .ge 72, 3) := by decide +kernel
theorem q41_15 : z_m41.2.2.2.2.2.lookup 15 = some (.aload_n 0, 1) := by decide +kernel
theorem q41_16 : z_m41.2.2.2.2.2.lookup 16 = some (.getfield 9, 3) := by decide +kernel
theorem q41_19 : z_m41.2.2.2.2.2.lookup 19 = some (.iload 5, 2) := by decide +kernel
theorem q41_21 : z_m41.2.2.2.2.2.lookup 21 = some (.iaload, 1) := by decide +kernel
theorem q41_22 : z_m41.2.2.2.2.2.lookup 22 = some (.iload_n 1, 1) := by decide +kernel
theorem q41_23 : z_m41.2.2.2.2.2.lookup 23 = some (.if_icmp .ne 55, 3) := by decide +kernel
theorem q41_26 : z_m41.2.2.2.2.2.lookup 26 = some (.aload_n 0, 1) := by decide +kernel
theorem q41_27 : z_m41.2.2.2.2.2.lookup 27 = some (.getfield 15, 3) := by decide +kernel
theorem q41_30 : z_m41.2.2.2.2.2.lookup 30 = some (.iload 5, 2) := by decide +kernel
theorem q41_32 : z_m41.2.2.2.2.2.lookup 32 = some (.iaload, 1) := by decide +kernel
theorem q41_33 : z_m41.2.2.2.2.2.lookup 33 = some (.iload_n 2, 1) := by decide +kernel
theorem q41_34 : z_m41.2.2.2.2.2.lookup 34 = some (.if_icmp .gt 44, 3) := by decide +kernel
theorem q41_37 : z_m41.2.2.2.2.2.lookup 37 = some (.aload_n 0, 1) := by decide +kernel
theorem q41_38 : z_m41.2.2.2.2.2.lookup 38 = some (.getfield 21, 3) := by decide +kernel
theorem q41_41 : z_m41.2.2.2.2.2.lookup 41 = some (.iload 5, 2) := by decide +kernel
theorem q41_43 : z_m41.2.2.2.2.2.lookup 43 = some (.iaload, 1) := by decide +kernel
theorem q41_44 : z_m41.2.2.2.2.2.lookup 44 = some (.iload_n 3, 1) := by decide +kernel
theorem q41_45 : z_m41.2.2.2.2.2.lookup 45 = some (.if_icmp .le 6, 3) := by decide +kernel
theorem q41_48 : z_m41.2.2.2.2.2.lookup 48 = some (.goto 30, 3) := by decide +kernel
theorem q41_51 : z_m41.2.2.2.2.2.lookup 51 = some (.iload 4, 2) := by decide +kernel
theorem q41_53 : z_m41.2.2.2.2.2.lookup 53 = some (.iconst (-1), 1) := by decide +kernel
theorem q41_54 : z_m41.2.2.2.2.2.lookup 54 = some (.if_icmp .eq 20, 3) := by decide +kernel
theorem q41_57 : z_m41.2.2.2.2.2.lookup 57 = some (.aload_n 0, 1) := by decide +kernel
theorem q41_58 : z_m41.2.2.2.2.2.lookup 58 = some (.getfield 15, 3) := by decide +kernel
theorem q41_61 : z_m41.2.2.2.2.2.lookup 61 = some (.iload 5, 2) := by decide +kernel
theorem q41_63 : z_m41.2.2.2.2.2.lookup 63 = some (.iaload, 1) := by decide +kernel
theorem q41_64 : z_m41.2.2.2.2.2.lookup 64 = some (.aload_n 0, 1) := by decide +kernel
theorem q41_65 : z_m41.2.2.2.2.2.lookup 65 = some (.getfield 15, 3) := by decide +kernel
theorem q41_68 : z_m41.2.2.2.2.2.lookup 68 = some (.iload 4, 2) := by decide +kernel
theorem q41_70 : z_m41.2.2.2.2.2.lookup 70 = some (.iaload, 1) := by decide +kernel
theorem q41_71 : z_m41.2.2.2.2.2.lookup 71 = some (.if_icmp .lt 7, 3) := by decide +kernel
theorem q41_74 : z_m41.2.2.2.2.2.lookup 74 = some (.iload 5, 2) := by decide +kernel
theorem q41_76 : z_m41.2.2.2.2.2.lookup 76 = some (.istore 4, 2) := by decide +kernel
theorem q41_78 : z_m41.2.2.2.2.2.lookup 78 = some (.iinc 5 1, 3) := by decide +kernel
theorem q41_81 : z_m41.2.2.2.2.2.lookup 81 = some (.goto (-75), 3) := by decide +kernel
theorem q41_84 : z_m41.2.2.2.2.2.lookup 84 = some (.iload 4, 2) := by decide +kernel
theorem q41_86 : z_m41.2.2.2.2.2.lookup 86 = some (.iconst (-1), 1) := by decide +kernel
theorem q41_87 : z_m41.2.2.2.2.2.lookup 87 = some (.if_icmp .ne 7, 3) := by decide +kernel
theorem q41_90 : z_m41.2.2.2.2.2.lookup 90 = some (.iconst 0, 1) := by decide +kernel
theorem q41_91 : z_m41.2.2.2.2.2.lookup 91 = some (.goto 10, 3) := by decide +kernel
theorem q41_94 : z_m41.2.2.2.2.2.lookup 94 = some (.aload_n 0, 1) := by decide +kernel
theorem q41_95 : z_m41.2.2.2.2.2.lookup 95 = some (.getfield 18, 3) := by decide +kernel
theorem q41_98 : z_m41.2.2.2.2.2.lookup 98 = some (.iload 4, 2) := by decide +kernel
theorem q41_100 : z_m41.2.2.2.2.2.lookup 100 = some (.iaload, 1) := by decide +kernel
theorem q41_101 : z_m41.2.2.2.2.2.lookup 101 = some (.ireturn, 1) := by decide +kernel
theorem q43_0 : z_m43.2.2.2.2.2.lookup 0 = some (.aload_n 0, 1) := by decide +kernel
theorem q43_1 : z_m43.2.2.2.2.2.lookup 1 = some (.getfield 15, 3) := by decide +kernel
theorem q43_4 : z_m43.2.2.2.2.2.lookup 4 = some (.iconst (-1), 1) := by decide +kernel
theorem q43_5 : z_m43.2.2.2.2.2.lookup 5 = some (.if_icmp .ne 7, 3) := by decide +kernel
theorem q43_8 : z_m43.2.2.2.2.2.lookup 8 = some (.iconst 1, 1) := by decide +kernel
theorem q43_9 : z_m43.2.2.2.2.2.lookup 9 = some (.goto 4, 3) := by decide +kernel
theorem q43_12 : z_m43.2.2.2.2.2.lookup 12 = some (.iconst 0, 1) := by decide +kernel
theorem q43_13 : z_m43.2.2.2.2.2.lookup 13 = some (.ireturn, 1) := by decide +kernel
theorem q44_0 : z_m44.2.2.2.2.2.lookup 0 = some (.aload_n 0, 1) := by decide +kernel
theorem q44_1 : z_m44.2.2.2.2.2.lookup 1 = some (.iload_n 1, 1) := by decide +kernel
theorem q44_2 : z_m44.2.2.2.2.2.lookup 2 = some (.putfield 15, 3) := by decide +kernel
theorem q44_5 : z_m44.2.2.2.2.2.lookup 5 = some (.aload_n 0, 1) := by decide +kernel
theorem q44_6 : z_m44.2.2.2.2.2.lookup 6 = some (.iload_n 2, 1) := by decide +kernel
theorem q44_7 : z_m44.2.2.2.2.2.lookup 7 = some (.putfield 19, 3) := by decide +kernel
theorem q44_10 : z_m44.2.2.2.2.2.lookup 10 = some (.aload_n 0, 1) := by decide +kernel
theorem q44_11 : z_m44.2.2.2.2.2.lookup 11 = some (.getfield 9, 3) := by decide +kernel
theorem q44_14 : z_m44.2.2.2.2.2.lookup 14 = some (.iconst 0, 1) := by decide +kernel
theorem q44_15 : z_m44.2.2.2.2.2.lookup 15 = some (.invokestatic 22, 3) := by decide +kernel
theorem q44_18 : z_m44.2.2.2.2.2.lookup 18 = some (.return_, 1) := by decide +kernel
theorem q45_0 : z_m45.2.2.2.2.2.lookup 0 = some (.aload_n 0, 1) := by decide +kernel
theorem q45_1 : z_m45.2.2.2.2.2.lookup 1 = some (.getfield 9, 3) := by decide +kernel
theorem q45_4 : z_m45.2.2.2.2.2.lookup 4 = some (.iload_n 1, 1) := by decide +kernel
theorem q45_5 : z_m45.2.2.2.2.2.lookup 5 = some (.aload_n 0, 1) := by decide +kernel
theorem q45_6 : z_m45.2.2.2.2.2.lookup 6 = some (.getfield 15, 3) := by decide +kernel
theorem q45_9 : z_m45.2.2.2.2.2.lookup 9 = some (.ifCond .ne 8, 3) := by decide +kernel
theorem q45_12 : z_m45.2.2.2.2.2.lookup 12 = some (.iload_n 2, 1) := by decide +kernel
theorem q45_13 : z_m45.2.2.2.2.2.lookup 13 = some (.i2b, 1) := by decide +kernel
theorem q45_14 : z_m45.2.2.2.2.2.lookup 14 = some (.goto 17, 3) := by decide +kernel
theorem q45_17 : z_m45.2.2.2.2.2.lookup 17 = some (.aload_n 0, 1) := by decide +kernel
theorem q45_18 : z_m45.2.2.2.2.2.lookup 18 = some (.getfield 15, 3) := by decide +kernel
theorem q45_21 : z_m45.2.2.2.2.2.lookup 21 = some (.iconst 1, 1) := by decide +kernel
theorem q45_22 : z_m45.2.2.2.2.2.lookup 22 = some (.if_icmp .ne 8, 3) := by decide +kernel
theorem q45_25 : z_m45.2.2.2.2.2.lookup 25 = some (.iload_n 2, 1) := by decide +kernel
theorem q45_26 : z_m45.2.2.2.2.2.lookup 26 = some (.i2s, 1) := by decide +kernel
theorem q45_27 : z_m45.2.2.2.2.2.lookup 27 = some (.goto 4, 3) := by decide +kernel
theorem q45_30 : z_m45.2.2.2.2.2.lookup 30 = some (.iload_n 2, 1) := by decide +kernel
theorem q45_31 : z_m45.2.2.2.2.2.lookup 31 = some (.iastore, 1) := by decide +kernel
theorem q45_32 : z_m45.2.2.2.2.2.lookup 32 = some (.return_, 1) := by decide +kernel
theorem q46_0 : z_m46.2.2.2.2.2.lookup 0 = some (.iload_n 1, 1) := by decide +kernel
theorem q46_1 : z_m46.2.2.2.2.2.lookup 1 = some (.ifCond .lt 21, 3) := by decide +kernel
theorem q46_4 : z_m46.2.2.2.2.2.lookup 4 = some (.iload_n 2, 1) := by decide +kernel
theorem q46_5 : z_m46.2.2.2.2.2.lookup 5 = some (.ifCond .lt 17, 3) := by decide +kernel
theorem q46_8 : z_m46.2.2.2.2.2.lookup 8 = some (.iload_n 1, 1) := by decide +kernel
theorem q46_9 : z_m46.2.2.2.2.2.lookup 9 = some (.aload_n 0, 1) := by decide +kernel
theorem q46_10 : z_m46.2.2.2.2.2.lookup 10 = some (.getfield 19, 3) := by decide +kernel
theorem q46_13 : z_m46.2.2.2.2.2.lookup 13 = some (.iload_n 2, 1) := by decide +kernel
theorem q46_14 : z_m46.2.2.2.2.2.lookup 14 = some (.isub, 1) := by decide +kernel
theorem q46_15 : z_m46.2.2.2.2.2.lookup 15 = some (.if_icmp .gt 7, 3) := by decide +kernel
theorem q46_18 : z_m46.2.2.2.2.2.lookup 18 = some (.iconst 1, 1) := by decide +kernel
theorem q46_19 : z_m46.2.2.2.2.2.lookup 19 = some (.goto 4, 3) := by decide +kernel
theorem q46_22 : z_m46.2.2.2.2.2.lookup 22 = some (.iconst 0, 1) := by decide +kernel
theorem q46_23 : z_m46.2.2.2.2.2.lookup 23 = some (.ireturn, 1) := by decide +kernel
theorem q48_0 : z_m48.2.2.2.2.2.lookup 0 = some (.aload_n 0, 1) := by decide +kernel
theorem q48_1 : z_m48.2.2.2.2.2.lookup 1 = some (.getfield 15, 3) := by decide +kernel
theorem q48_4 : z_m48.2.2.2.2.2.lookup 4 = some (.sipush 160, 3) := by decide +kernel
theorem q48_7 : z_m48.2.2.2.2.2.lookup 7 = some (.if_icmp .ge 23, 3) := by decide +kernel
theorem q48_10 : z_m48.2.2.2.2.2.lookup 10 = some (.aload_n 0, 1) := by decide +kernel
theorem q48_11 : z_m48.2.2.2.2.2.lookup 11 = some (.getfield 9, 3) := by decide +kernel
theorem q48_14 : z_m48.2.2.2.2.2.lookup 14 = some (.aload_n 0, 1) := by decide +kernel
theorem q48_15 : z_m48.2.2.2.2.2.lookup 15 = some (.getfield 15, 3) := by decide +kernel
theorem q48_18 : z_m48.2.2.2.2.2.lookup 18 = some (.iload_n 1, 1) := by decide +kernel
theorem q48_19 : z_m48.2.2.2.2.2.lookup 19 = some (.iastore, 1) := by decide +kernel
theorem q48_20 : z_m48.2.2.2.2.2.lookup 20 = some (.aload_n 0, 1) := by decide +kernel
theorem q48_21 : z_m48.2.2.2.2.2.lookup 21 = some (.dup, 1) := by decide +kernel
theorem q48_22 : z_m48.2.2.2.2.2.lookup 22 = some (.getfield 15, 3) := by decide +kernel
theorem q48_25 : z_m48.2.2.2.2.2.lookup 25 = some (.iconst 1, 1) := by decide +kernel
theorem q48_26 : z_m48.2.2.2.2.2.lookup 26 = some (.iadd, 1) := by decide +kernel
theorem q48_27 : z_m48.2.2.2.2.2.lookup 27 = some (.putfield 15, 3) := by decide +kernel
theorem q48_30 : z_m48.2.2.2.2.2.lookup 30 = some (.return_, 1) := by decide +kernel
theorem q49_0 : z_m49.2.2.2.2.2.lookup 0 = some (.aload_n 0, 1) := by decide +kernel
theorem q49_1 : z_m49.2.2.2.2.2.lookup 1 = some (.iconst 0, 1) := by decide +kernel
theorem q49_2 : z_m49.2.2.2.2.2.lookup 2 = some (.putfield 15, 3) := by decide +kernel
theorem q49_5 : z_m49.2.2.2.2.2.lookup 5 = some (.return_, 1) := by decide +kernel
theorem q50_0 : z_m50.2.2.2.2.2.lookup 0 = some (.aload_n 0, 1) := by decide +kernel
theorem q50_1 : z_m50.2.2.2.2.2.lookup 1 = some (.iconst 0, 1) := by decide +kernel
theorem q50_2 : z_m50.2.2.2.2.2.lookup 2 = some (.putfield 19, 3) := by decide +kernel
theorem q50_5 : z_m50.2.2.2.2.2.lookup 5 = some (.aload_n 0, 1) := by decide +kernel
theorem q50_6 : z_m50.2.2.2.2.2.lookup 6 = some (.invokevirtual 22, 3) := by decide +kernel
theorem q50_9 : z_m50.2.2.2.2.2.lookup 9 = some (.return_, 1) := by decide +kernel
theorem q51_0 : z_m51.2.2.2.2.2.lookup 0 = some (.aload_n 0, 1) := by decide +kernel
theorem q51_1 : z_m51.2.2.2.2.2.lookup 1 = some (.getfield 25, 3) := by decide +kernel
theorem q51_4 : z_m51.2.2.2.2.2.lookup 4 = some (.iload_n 1, 1) := by decide +kernel
theorem q51_5 : z_m51.2.2.2.2.2.lookup 5 = some (.if_icmp .eq 5, 3) := by decide +kernel
theorem q51_8 : z_m51.2.2.2.2.2.lookup 8 = some (.iconst 0, 1) := by decide +kernel
theorem q51_9 : z_m51.2.2.2.2.2.lookup 9 = some (.ireturn, 1) := by decide +kernel
theorem q51_10 : z_m51.2.2.2.2.2.lookup 10 = some (.aload_n 0, 1) := by decide +kernel
theorem q51_11 : z_m51.2.2.2.2.2.lookup 11 = some (.invokevirtual 22, 3) := by decide +kernel
theorem q51_14 : z_m51.2.2.2.2.2.lookup 14 = some (.iconst 1, 1) := by decide +kernel
theorem q51_15 : z_m51.2.2.2.2.2.lookup 15 = some (.ireturn, 1) := by decide +kernel
theorem q52_0 : z_m52.2.2.2.2.2.lookup 0 = some (.aload_n 0, 1) := by decide +kernel
theorem q52_1 : z_m52.2.2.2.2.2.lookup 1 = some (.aload_n 0, 1) := by decide +kernel
theorem q52_2 : z_m52.2.2.2.2.2.lookup 2 = some (.getfield 19, 3) := by decide +kernel
theorem q52_5 : z_m52.2.2.2.2.2.lookup 5 = some (.putfield 28, 3) := by decide +kernel
theorem q52_8 : z_m52.2.2.2.2.2.lookup 8 = some (.aload_n 0, 1) := by decide +kernel
theorem q52_9 : z_m52.2.2.2.2.2.lookup 9 = some (.getfield 28, 3) := by decide +kernel
theorem q52_12 : z_m52.2.2.2.2.2.lookup 12 = some (.aload_n 0, 1) := by decide +kernel
theorem q52_13 : z_m52.2.2.2.2.2.lookup 13 = some (.getfield 15, 3) := by decide +kernel
theorem q52_16 : z_m52.2.2.2.2.2.lookup 16 = some (.if_icmp .ge 31, 3) := by decide +kernel
theorem q52_19 : z_m52.2.2.2.2.2.lookup 19 = some (.aload_n 0, 1) := by decide +kernel
theorem q52_20 : z_m52.2.2.2.2.2.lookup 20 = some (.getfield 9, 3) := by decide +kernel
theorem q52_23 : z_m52.2.2.2.2.2.lookup 23 = some (.aload_n 0, 1) := by decide +kernel
theorem q52_24 : z_m52.2.2.2.2.2.lookup 24 = some (.getfield 28, 3) := by decide +kernel
theorem q52_27 : z_m52.2.2.2.2.2.lookup 27 = some (.iaload, 1) := by decide +kernel
theorem q52_28 : z_m52.2.2.2.2.2.lookup 28 = some (.invokestatic 31, 3) := by decide +kernel
theorem q52_31 : z_m52.2.2.2.2.2.lookup 31 = some (.ifCond .eq 16, 3) := by decide +kernel
theorem q52_34 : z_m52.2.2.2.2.2.lookup 34 = some (.aload_n 0, 1) := by decide +kernel
theorem q52_35 : z_m52.2.2.2.2.2.lookup 35 = some (.dup, 1) := by decide +kernel
theorem q52_36 : z_m52.2.2.2.2.2.lookup 36 = some (.getfield 28, 3) := by decide +kernel
theorem q52_39 : z_m52.2.2.2.2.2.lookup 39 = some (.iconst 1, 1) := by decide +kernel
theorem q52_40 : z_m52.2.2.2.2.2.lookup 40 = some (.iadd, 1) := by decide +kernel
theorem q52_41 : z_m52.2.2.2.2.2.lookup 41 = some (.putfield 28, 3) := by decide +kernel
theorem q52_44 : z_m52.2.2.2.2.2.lookup 44 = some (.goto (-36), 3) := by decide +kernel
theorem q52_47 : z_m52.2.2.2.2.2.lookup 47 = some (.aload_n 0, 1) := by decide +kernel
theorem q52_48 : z_m52.2.2.2.2.2.lookup 48 = some (.aload_n 0, 1) := by decide +kernel
theorem q52_49 : z_m52.2.2.2.2.2.lookup 49 = some (.getfield 28, 3) := by decide +kernel
theorem q52_52 : z_m52.2.2.2.2.2.lookup 52 = some (.putfield 19, 3) := by decide +kernel
theorem q52_55 : z_m52.2.2.2.2.2.lookup 55 = some (.aload_n 0, 1) := by decide +kernel
theorem q52_56 : z_m52.2.2.2.2.2.lookup 56 = some (.getfield 28, 3) := by decide +kernel
theorem q52_59 : z_m52.2.2.2.2.2.lookup 59 = some (.aload_n 0, 1) := by decide +kernel
theorem q52_60 : z_m52.2.2.2.2.2.lookup 60 = some (.getfield 15, 3) := by decide +kernel
theorem q52_63 : z_m52.2.2.2.2.2.lookup 63 = some (.if_icmp .lt 13, 3) := by decide +kernel
theorem q52_66 : z_m52.2.2.2.2.2.lookup 66 = some (.aload_n 0, 1) := by decide +kernel
theorem q52_67 : z_m52.2.2.2.2.2.lookup 67 = some (.sipush 256, 3) := by decide +kernel
theorem q52_70 : z_m52.2.2.2.2.2.lookup 70 = some (.putfield 25, 3) := by decide +kernel
theorem q52_73 : z_m52.2.2.2.2.2.lookup 73 = some (.goto 91, 3) := by decide +kernel
theorem q52_76 : z_m52.2.2.2.2.2.lookup 76 = some (.aload_n 0, 1) := by decide +kernel
theorem q52_77 : z_m52.2.2.2.2.2.lookup 77 = some (.getfield 9, 3) := by decide +kernel
theorem q52_80 : z_m52.2.2.2.2.2.lookup 80 = some (.aload_n 0, 1) := by decide +kernel
theorem q52_81 : z_m52.2.2.2.2.2.lookup 81 = some (.getfield 28, 3) := by decide +kernel
theorem q52_84 : z_m52.2.2.2.2.2.lookup 84 = some (.iaload, 1) := by decide +kernel
theorem q52_85 : z_m52.2.2.2.2.2.lookup 85 = some (.invokestatic 35, 3) := by decide +kernel
theorem q52_88 : z_m52.2.2.2.2.2.lookup 88 = some (.ifCond .eq 10, 3) := by decide +kernel
theorem q52_91 : z_m52.2.2.2.2.2.lookup 91 = some (.aload_n 0, 1) := by decide +kernel
theorem q52_92 : z_m52.2.2.2.2.2.lookup 92 = some (.invokevirtual 38, 3) := by decide +kernel
theorem q52_95 : z_m52.2.2.2.2.2.lookup 95 = some (.goto 69, 3) := by decide +kernel
theorem q52_98 : z_m52.2.2.2.2.2.lookup 98 = some (.aload_n 0, 1) := by decide +kernel
theorem q52_99 : z_m52.2.2.2.2.2.lookup 99 = some (.getfield 9, 3) := by decide +kernel
theorem q52_102 : z_m52.2.2.2.2.2.lookup 102 = some (.aload_n 0, 1) := by decide +kernel
theorem q52_103 : z_m52.2.2.2.2.2.lookup 103 = some (.getfield 28, 3) := by decide +kernel
theorem q52_106 : z_m52.2.2.2.2.2.lookup 106 = some (.iaload, 1) := by decide +kernel
theorem q52_107 : z_m52.2.2.2.2.2.lookup 107 = some (.invokestatic 41, 3) := by decide +kernel
theorem q52_110 : z_m52.2.2.2.2.2.lookup 110 = some (.ifCond .eq 10, 3) := by decide +kernel
theorem q52_113 : z_m52.2.2.2.2.2.lookup 113 = some (.aload_n 0, 1) := by decide +kernel
theorem q52_114 : z_m52.2.2.2.2.2.lookup 114 = some (.invokevirtual 44, 3) := by decide +kernel
theorem q52_117 : z_m52.2.2.2.2.2.lookup 117 = some (.goto 47, 3) := by decide +kernel
theorem q52_120 : z_m52.2.2.2.2.2.lookup 120 = some (.aload_n 0, 1) := by decide +kernel
theorem q52_121 : z_m52.2.2.2.2.2.lookup 121 = some (.aload_n 0, 1) := by decide +kernel
theorem q52_122 : z_m52.2.2.2.2.2.lookup 122 = some (.getfield 28, 3) := by decide +kernel
theorem q52_125 : z_m52.2.2.2.2.2.lookup 125 = some (.iconst 1, 1) := by decide +kernel
theorem q52_126 : z_m52.2.2.2.2.2.lookup 126 = some (.iadd, 1) := by decide +kernel
theorem q52_127 : z_m52.2.2.2.2.2.lookup 127 = some (.putfield 19, 3) := by decide +kernel
theorem q52_130 : z_m52.2.2.2.2.2.lookup 130 = some (.aload_n 0, 1) := by decide +kernel
theorem q52_131 : z_m52.2.2.2.2.2.lookup 131 = some (.aload_n 0, 1) := by decide +kernel
theorem q52_132 : z_m52.2.2.2.2.2.lookup 132 = some (.getfield 9, 3) := by decide +kernel
theorem q52_135 : z_m52.2.2.2.2.2.lookup 135 = some (.aload_n 0, 1) := by decide +kernel
theorem q52_136 : z_m52.2.2.2.2.2.lookup 136 = some (.getfield 28, 3) := by decide +kernel
theorem q52_139 : z_m52.2.2.2.2.2.lookup 139 = some (.iaload, 1) := by decide +kernel
theorem q52_140 : z_m52.2.2.2.2.2.lookup 140 = some (.invokestatic 47, 3) := by decide +kernel
theorem q52_143 : z_m52.2.2.2.2.2.lookup 143 = some (.ifCond .eq 15, 3) := by decide +kernel
theorem q52_146 : z_m52.2.2.2.2.2.lookup 146 = some (.aload_n 0, 1) := by decide +kernel
theorem q52_147 : z_m52.2.2.2.2.2.lookup 147 = some (.getfield 9, 3) := by decide +kernel
theorem q52_150 : z_m52.2.2.2.2.2.lookup 150 = some (.aload_n 0, 1) := by decide +kernel
theorem q52_151 : z_m52.2.2.2.2.2.lookup 151 = some (.getfield 28, 3) := by decide +kernel
theorem q52_154 : z_m52.2.2.2.2.2.lookup 154 = some (.iaload, 1) := by decide +kernel
theorem q52_155 : z_m52.2.2.2.2.2.lookup 155 = some (.goto 6, 3) := by decide +kernel
theorem q52_158 : z_m52.2.2.2.2.2.lookup 158 = some (.sipush 257, 3) := by decide +kernel
theorem q52_161 : z_m52.2.2.2.2.2.lookup 161 = some (.putfield 25, 3) := by decide +kernel
theorem q52_164 : z_m52.2.2.2.2.2.lookup 164 = some (.return_, 1) := by decide +kernel
theorem q53_0 : z_m53.2.2.2.2.2.lookup 0 = some (.aload_n 0, 1) := by decide +kernel
theorem q53_1 : z_m53.2.2.2.2.2.lookup 1 = some (.getfield 19, 3) := by decide +kernel
theorem q53_4 : z_m53.2.2.2.2.2.lookup 4 = some (.aload_n 0, 1) := by decide +kernel
theorem q53_5 : z_m53.2.2.2.2.2.lookup 5 = some (.getfield 15, 3) := by decide +kernel
theorem q53_8 : z_m53.2.2.2.2.2.lookup 8 = some (.if_icmp .ge 31, 3) := by decide +kernel
theorem q53_11 : z_m53.2.2.2.2.2.lookup 11 = some (.aload_n 0, 1) := by decide +kernel
theorem q53_12 : z_m53.2.2.2.2.2.lookup 12 = some (.getfield 9, 3) := by decide +kernel
theorem q53_15 : z_m53.2.2.2.2.2.lookup 15 = some (.aload_n 0, 1) := by decide +kernel
theorem q53_16 : z_m53.2.2.2.2.2.lookup 16 = some (.getfield 19, 3) := by decide +kernel
theorem q53_19 : z_m53.2.2.2.2.2.lookup 19 = some (.iaload, 1) := by decide +kernel
theorem q53_20 : z_m53.2.2.2.2.2.lookup 20 = some (.invokestatic 35, 3) := by decide +kernel
theorem q53_23 : z_m53.2.2.2.2.2.lookup 23 = some (.ifCond .eq 16, 3) := by decide +kernel
theorem q53_26 : z_m53.2.2.2.2.2.lookup 26 = some (.aload_n 0, 1) := by decide +kernel
theorem q53_27 : z_m53.2.2.2.2.2.lookup 27 = some (.dup, 1) := by decide +kernel
theorem q53_28 : z_m53.2.2.2.2.2.lookup 28 = some (.getfield 19, 3) := by decide +kernel
theorem q53_31 : z_m53.2.2.2.2.2.lookup 31 = some (.iconst 1, 1) := by decide +kernel
theorem q53_32 : z_m53.2.2.2.2.2.lookup 32 = some (.iadd, 1) := by decide +kernel
theorem q53_33 : z_m53.2.2.2.2.2.lookup 33 = some (.putfield 19, 3) := by decide +kernel
theorem q53_36 : z_m53.2.2.2.2.2.lookup 36 = some (.goto (-36), 3) := by decide +kernel
theorem q53_39 : z_m53.2.2.2.2.2.lookup 39 = some (.aload_n 0, 1) := by decide +kernel
theorem q53_40 : z_m53.2.2.2.2.2.lookup 40 = some (.aload_n 0, 1) := by decide +kernel
theorem q53_41 : z_m53.2.2.2.2.2.lookup 41 = some (.ldc 50, 2) := by decide +kernel
theorem q53_43 : z_m53.2.2.2.2.2.lookup 43 = some (.invokevirtual 52, 3) := by decide +kernel
theorem q53_46 : z_m53.2.2.2.2.2.lookup 46 = some (.ifCond .eq 9, 3) := by decide +kernel
theorem q53_49 : z_m53.2.2.2.2.2.lookup 49 = some (.sipush 260, 3) := by decide +kernel
theorem q53_52 : z_m53.2.2.2.2.2.lookup 52 = some (.goto 171, 3) := by decide +kernel
theorem q53_55 : z_m53.2.2.2.2.2.lookup 55 = some (.aload_n 0, 1) := by decide +kernel
theorem q53_56 : z_m53.2.2.2.2.2.lookup 56 = some (.ldc 56, 2) := by decide +kernel
theorem q53_58 : z_m53.2.2.2.2.2.lookup 58 = some (.invokevirtual 52, 3) := by decide +kernel
theorem q53_61 : z_m53.2.2.2.2.2.lookup 61 = some (.ifCond .eq 9, 3) := by decide +kernel
theorem q53_64 : z_m53.2.2.2.2.2.lookup 64 = some (.sipush 261, 3) := by decide +kernel
theorem q53_67 : z_m53.2.2.2.2.2.lookup 67 = some (.goto 156, 3) := by decide +kernel
theorem q53_70 : z_m53.2.2.2.2.2.lookup 70 = some (.aload_n 0, 1) := by decide +kernel
theorem q53_71 : z_m53.2.2.2.2.2.lookup 71 = some (.ldc 58, 2) := by decide +kernel
theorem q53_73 : z_m53.2.2.2.2.2.lookup 73 = some (.invokevirtual 52, 3) := by decide +kernel
theorem q53_76 : z_m53.2.2.2.2.2.lookup 76 = some (.ifCond .eq 9, 3) := by decide +kernel
theorem q53_79 : z_m53.2.2.2.2.2.lookup 79 = some (.sipush 262, 3) := by decide +kernel
theorem q53_82 : z_m53.2.2.2.2.2.lookup 82 = some (.goto 141, 3) := by decide +kernel
theorem q53_85 : z_m53.2.2.2.2.2.lookup 85 = some (.aload_n 0, 1) := by decide +kernel
theorem q53_86 : z_m53.2.2.2.2.2.lookup 86 = some (.ldc 60, 2) := by decide +kernel
theorem q53_88 : z_m53.2.2.2.2.2.lookup 88 = some (.invokevirtual 52, 3) := by decide +kernel
theorem q53_91 : z_m53.2.2.2.2.2.lookup 91 = some (.ifCond .eq 9, 3) := by decide +kernel
theorem q53_94 : z_m53.2.2.2.2.2.lookup 94 = some (.sipush 263, 3) := by decide +kernel
theorem q53_97 : z_m53.2.2.2.2.2.lookup 97 = some (.goto 126, 3) := by decide +kernel
theorem q53_100 : z_m53.2.2.2.2.2.lookup 100 = some (.aload_n 0, 1) := by decide +kernel
theorem q53_101 : z_m53.2.2.2.2.2.lookup 101 = some (.ldc 62, 2) := by decide +kernel
theorem q53_103 : z_m53.2.2.2.2.2.lookup 103 = some (.invokevirtual 52, 3) := by decide +kernel
theorem q53_106 : z_m53.2.2.2.2.2.lookup 106 = some (.ifCond .eq 9, 3) := by decide +kernel
theorem q53_109 : z_m53.2.2.2.2.2.lookup 109 = some (.sipush 264, 3) := by decide +kernel
theorem q53_112 : z_m53.2.2.2.2.2.lookup 112 = some (.goto 111, 3) := by decide +kernel
theorem q53_115 : z_m53.2.2.2.2.2.lookup 115 = some (.aload_n 0, 1) := by decide +kernel
theorem q53_116 : z_m53.2.2.2.2.2.lookup 116 = some (.ldc 64, 2) := by decide +kernel
theorem q53_118 : z_m53.2.2.2.2.2.lookup 118 = some (.invokevirtual 52, 3) := by decide +kernel
theorem q53_121 : z_m53.2.2.2.2.2.lookup 121 = some (.ifCond .eq 9, 3) := by decide +kernel
theorem q53_124 : z_m53.2.2.2.2.2.lookup 124 = some (.sipush 265, 3) := by decide +kernel
theorem q53_127 : z_m53.2.2.2.2.2.lookup 127 = some (.goto 96, 3) := by decide +kernel
theorem q53_130 : z_m53.2.2.2.2.2.lookup 130 = some (.aload_n 0, 1) := by decide +kernel
theorem q53_131 : z_m53.2.2.2.2.2.lookup 131 = some (.ldc 66, 2) := by decide +kernel
theorem q53_133 : z_m53.2.2.2.2.2.lookup 133 = some (.invokevirtual 52, 3) := by decide +kernel
theorem q53_136 : z_m53.2.2.2.2.2.lookup 136 = some (.ifCond .eq 9, 3) := by decide +kernel
theorem q53_139 : z_m53.2.2.2.2.2.lookup 139 = some (.sipush 270, 3) := by decide +kernel
theorem q53_142 : z_m53.2.2.2.2.2.lookup 142 = some (.goto 81, 3) := by decide +kernel
theorem q53_145 : z_m53.2.2.2.2.2.lookup 145 = some (.aload_n 0, 1) := by decide +kernel
theorem q53_146 : z_m53.2.2.2.2.2.lookup 146 = some (.ldc 68, 2) := by decide +kernel
theorem q53_148 : z_m53.2.2.2.2.2.lookup 148 = some (.invokevirtual 52, 3) := by decide +kernel
theorem q53_151 : z_m53.2.2.2.2.2.lookup 151 = some (.ifCond .eq 9, 3) := by decide +kernel
theorem q53_154 : z_m53.2.2.2.2.2.lookup 154 = some (.sipush 271, 3) := by decide +kernel
theorem q53_157 : z_m53.2.2.2.2.2.lookup 157 = some (.goto 66, 3) := by decide +kernel
theorem q53_160 : z_m53.2.2.2.2.2.lookup 160 = some (.aload_n 0, 1) := by decide +kernel
theorem q53_161 : z_m53.2.2.2.2.2.lookup 161 = some (.ldc 70, 2) := by decide +kernel
theorem q53_163 : z_m53.2.2.2.2.2.lookup 163 = some (.invokevirtual 52, 3) := by decide +kernel
theorem q53_166 : z_m53.2.2.2.2.2.lookup 166 = some (.ifCond .eq 9, 3) := by decide +kernel
theorem q53_169 : z_m53.2.2.2.2.2.lookup 169 = some (.sipush 272, 3) := by decide +kernel
theorem q53_172 : z_m53.2.2.2.2.2.lookup 172 = some (.goto 51, 3) := by decide +kernel
theorem q53_175 : z_m53.2.2.2.2.2.lookup 175 = some (.aload_n 0, 1) := by decide +kernel
theorem q53_176 : z_m53.2.2.2.2.2.lookup 176 = some (.ldc 72, 2) := by decide +kernel
theorem q53_178 : z_m53.2.2.2.2.2.lookup 178 = some (.invokevirtual 52, 3) := by decide +kernel
theorem q53_181 : z_m53.2.2.2.2.2.lookup 181 = some (.ifCond .eq 9, 3) := by decide +kernel
theorem q53_184 : z_m53.2.2.2.2.2.lookup 184 = some (.sipush 273, 3) := by decide +kernel
theorem q53_187 : z_m53.2.2.2.2.2.lookup 187 = some (.goto 36, 3) := by decide +kernel
theorem q53_190 : z_m53.2.2.2.2.2.lookup 190 = some (.aload_n 0, 1) := by decide +kernel
theorem q53_191 : z_m53.2.2.2.2.2.lookup 191 = some (.ldc 74, 2) := by decide +kernel
theorem q53_193 : z_m53.2.2.2.2.2.lookup 193 = some (.invokevirtual 52, 3) := by decide +kernel
theorem q53_196 : z_m53.2.2.2.2.2.lookup 196 = some (.ifCond .eq 9, 3) := by decide +kernel
theorem q53_199 : z_m53.2.2.2.2.2.lookup 199 = some (.sipush 274, 3) := by decide +kernel
theorem q53_202 : z_m53.2.2.2.2.2.lookup 202 = some (.goto 21, 3) := by decide +kernel
theorem q53_205 : z_m53.2.2.2.2.2.lookup 205 = some (.aload_n 0, 1) := by decide +kernel
theorem q53_206 : z_m53.2.2.2.2.2.lookup 206 = some (.ldc 76, 2) := by decide +kernel
theorem q53_208 : z_m53.2.2.2.2.2.lookup 208 = some (.invokevirtual 52, 3) := by decide +kernel
theorem q53_211 : z_m53.2.2.2.2.2.lookup 211 = some (.ifCond .eq 9, 3) := by decide +kernel
theorem q53_214 : z_m53.2.2.2.2.2.lookup 214 = some (.sipush 275, 3) := by decide +kernel
theorem q53_217 : z_m53.2.2.2.2.2.lookup 217 = some (.goto 6, 3) := by decide +kernel
theorem q53_220 : z_m53.2.2.2.2.2.lookup 220 = some (.sipush 257, 3) := by decide +kernel
theorem q53_223 : z_m53.2.2.2.2.2.lookup 223 = some (.putfield 25, 3) := by decide +kernel
theorem q53_226 : z_m53.2.2.2.2.2.lookup 226 = some (.return_, 1) := by decide +kernel
theorem q54_0 : z_m54.2.2.2.2.2.lookup 0 = some (.aload_n 0, 1) := by decide +kernel
theorem q54_1 : z_m54.2.2.2.2.2.lookup 1 = some (.iconst 0, 1) := by decide +kernel
theorem q54_2 : z_m54.2.2.2.2.2.lookup 2 = some (.putfield 78, 3) := by decide +kernel
theorem q54_5 : z_m54.2.2.2.2.2.lookup 5 = some (.aload_n 0, 1) := by decide +kernel
theorem q54_6 : z_m54.2.2.2.2.2.lookup 6 = some (.getfield 19, 3) := by decide +kernel
theorem q54_9 : z_m54.2.2.2.2.2.lookup 9 = some (.aload_n 0, 1) := by decide +kernel
theorem q54_10 : z_m54.2.2.2.2.2.lookup 10 = some (.getfield 15, 3) := by decide +kernel
theorem q54_13 : z_m54.2.2.2.2.2.lookup 13 = some (.if_icmp .ge 55, 3) := by decide +kernel
theorem q54_16 : z_m54.2.2.2.2.2.lookup 16 = some (.aload_n 0, 1) := by decide +kernel
theorem q54_17 : z_m54.2.2.2.2.2.lookup 17 = some (.getfield 9, 3) := by decide +kernel
theorem q54_20 : z_m54.2.2.2.2.2.lookup 20 = some (.aload_n 0, 1) := by decide +kernel
theorem q54_21 : z_m54.2.2.2.2.2.lookup 21 = some (.getfield 19, 3) := by decide +kernel
theorem q54_24 : z_m54.2.2.2.2.2.lookup 24 = some (.iaload, 1) := by decide +kernel
theorem q54_25 : z_m54.2.2.2.2.2.lookup 25 = some (.invokestatic 41, 3) := by decide +kernel
theorem q54_28 : z_m54.2.2.2.2.2.lookup 28 = some (.ifCond .eq 40, 3) := by decide +kernel
theorem q54_31 : z_m54.2.2.2.2.2.lookup 31 = some (.aload_n 0, 1) := by decide +kernel
theorem q54_32 : z_m54.2.2.2.2.2.lookup 32 = some (.aload_n 0, 1) := by decide +kernel
theorem q54_33 : z_m54.2.2.2.2.2.lookup 33 = some (.getfield 78, 3) := by decide +kernel
theorem q54_36 : z_m54.2.2.2.2.2.lookup 36 = some (.bipush 10, 2) := by decide +kernel
theorem q54_38 : z_m54.2.2.2.2.2.lookup 38 = some (.imul, 1) := by decide +kernel
theorem q54_39 : z_m54.2.2.2.2.2.lookup 39 = some (.aload_n 0, 1) := by decide +kernel
theorem q54_40 : z_m54.2.2.2.2.2.lookup 40 = some (.getfield 9, 3) := by decide +kernel
theorem q54_43 : z_m54.2.2.2.2.2.lookup 43 = some (.aload_n 0, 1) := by decide +kernel
theorem q54_44 : z_m54.2.2.2.2.2.lookup 44 = some (.getfield 19, 3) := by decide +kernel
theorem q54_47 : z_m54.2.2.2.2.2.lookup 47 = some (.iaload, 1) := by decide +kernel
theorem q54_48 : z_m54.2.2.2.2.2.lookup 48 = some (.iadd, 1) := by decide +kernel
theorem q54_49 : z_m54.2.2.2.2.2.lookup 49 = some (.bipush 48, 2) := by decide +kernel
theorem q54_51 : z_m54.2.2.2.2.2.lookup 51 = some (.isub, 1) := by decide +kernel
theorem q54_52 : z_m54.2.2.2.2.2.lookup 52 = some (.putfield 78, 3) := by decide +kernel
theorem q54_55 : z_m54.2.2.2.2.2.lookup 55 = some (.aload_n 0, 1) := by decide +kernel
theorem q54_56 : z_m54.2.2.2.2.2.lookup 56 = some (.dup, 1) := by decide +kernel
theorem q54_57 : z_m54.2.2.2.2.2.lookup 57 = some (.getfield 19, 3) := by decide +kernel
theorem q54_60 : z_m54.2.2.2.2.2.lookup 60 = some (.iconst 1, 1) := by decide +kernel
theorem q54_61 : z_m54.2.2.2.2.2.lookup 61 = some (.iadd, 1) := by decide +kernel
theorem q54_62 : z_m54.2.2.2.2.2.lookup 62 = some (.putfield 19, 3) := by decide +kernel
theorem q54_65 : z_m54.2.2.2.2.2.lookup 65 = some (.goto (-60), 3) := by decide +kernel
theorem q54_68 : z_m54.2.2.2.2.2.lookup 68 = some (.aload_n 0, 1) := by decide +kernel
theorem q54_69 : z_m54.2.2.2.2.2.lookup 69 = some (.aload_n 0, 1) := by decide +kernel
theorem q54_70 : z_m54.2.2.2.2.2.lookup 70 = some (.getfield 19, 3) := by decide +kernel
theorem q54_73 : z_m54.2.2.2.2.2.lookup 73 = some (.aload_n 0, 1) := by decide +kernel
theorem q54_74 : z_m54.2.2.2.2.2.lookup 74 = some (.getfield 28, 3) := by decide +kernel
theorem q54_77 : z_m54.2.2.2.2.2.lookup 77 = some (.isub, 1) := by decide +kernel
theorem q54_78 : z_m54.2.2.2.2.2.lookup 78 = some (.iconst 4, 1) := by decide +kernel
theorem q54_79 : z_m54.2.2.2.2.2.lookup 79 = some (.if_icmp .le 9, 3) := by decide +kernel
theorem q54_82 : z_m54.2.2.2.2.2.lookup 82 = some (.sipush 257, 3) := by decide +kernel
theorem q54_85 : z_m54.2.2.2.2.2.lookup 85 = some (.goto 6, 3) := by decide +kernel
theorem q54_88 : z_m54.2.2.2.2.2.lookup 88 = some (.sipush 258, 3) := by decide +kernel
theorem q54_91 : z_m54.2.2.2.2.2.lookup 91 = some (.putfield 25, 3) := by decide +kernel
theorem q54_94 : z_m54.2.2.2.2.2.lookup 94 = some (.return_, 1) := by decide +kernel
theorem q55_0 : z_m55.2.2.2.2.2.lookup 0 = some (.aload_n 1, 1) := by decide +kernel
theorem q55_1 : z_m55.2.2.2.2.2.lookup 1 = some (.invokevirtual 81, 3) := by decide +kernel
theorem q55_4 : z_m55.2.2.2.2.2.lookup 4 = some (.aload_n 0, 1) := by decide +kernel
theorem q55_5 : z_m55.2.2.2.2.2.lookup 5 = some (.getfield 19, 3) := by decide +kernel
theorem q55_8 : z_m55.2.2.2.2.2.lookup 8 = some (.aload_n 0, 1) := by decide +kernel
theorem q55_9 : z_m55.2.2.2.2.2.lookup 9 = some (.getfield 28, 3) := by decide +kernel
theorem q55_12 : z_m55.2.2.2.2.2.lookup 12 = some (.isub, 1) := by decide +kernel
theorem q55_13 : z_m55.2.2.2.2.2.lookup 13 = some (.if_icmp .eq 5, 3) := by decide +kernel
theorem q55_16 : z_m55.2.2.2.2.2.lookup 16 = some (.iconst 0, 1) := by decide +kernel
theorem q55_17 : z_m55.2.2.2.2.2.lookup 17 = some (.ireturn, 1) := by decide +kernel
theorem q55_18 : z_m55.2.2.2.2.2.lookup 18 = some (.iconst 0, 1) := by decide +kernel
theorem q55_19 : z_m55.2.2.2.2.2.lookup 19 = some (.istore_n 2, 1) := by decide +kernel
theorem q55_20 : z_m55.2.2.2.2.2.lookup 20 = some (.iload_n 2, 1) := by decide +kernel
theorem q55_21 : z_m55.2.2.2.2.2.lookup 21 = some (.aload_n 1, 1) := by decide +kernel
theorem q55_22 : z_m55.2.2.2.2.2.lookup 22 = some (.invokevirtual 81, 3) := by decide +kernel
theorem q55_25 : z_m55.2.2.2.2.2.lookup 25 = some (.if_icmp .ge 30, 3) := by decide +kernel
theorem q55_28 : z_m55.2.2.2.2.2.lookup 28 = some (.aload_n 0, 1) := by decide +kernel
theorem q55_29 : z_m55.2.2.2.2.2.lookup 29 = some (.getfield 9, 3) := by decide +kernel
theorem q55_32 : z_m55.2.2.2.2.2.lookup 32 = some (.aload_n 0, 1) := by decide +kernel
theorem q55_33 : z_m55.2.2.2.2.2.lookup 33 = some (.getfield 28, 3) := by decide +kernel
theorem q55_36 : z_m55.2.2.2.2.2.lookup 36 = some (.iload_n 2, 1) := by decide +kernel
theorem q55_37 : z_m55.2.2.2.2.2.lookup 37 = some (.iadd, 1) := by decide +kernel
theorem q55_38 : z_m55.2.2.2.2.2.lookup 38 = some (.iaload, 1) := by decide +kernel
theorem q55_39 : z_m55.2.2.2.2.2.lookup 39 = some (.aload_n 1, 1) := by decide +kernel
theorem q55_40 : z_m55.2.2.2.2.2.lookup 40 = some (.iload_n 2, 1) := by decide +kernel
theorem q55_41 : z_m55.2.2.2.2.2.lookup 41 = some (.invokevirtual 87, 3) := by decide +kernel
theorem q55_44 : z_m55.2.2.2.2.2.lookup 44 = some (.if_icmp .eq 5, 3) := by decide +kernel
theorem q55_47 : z_m55.2.2.2.2.2.lookup 47 = some (.iconst 0, 1) := by decide +kernel
theorem q55_48 : z_m55.2.2.2.2.2.lookup 48 = some (.ireturn, 1) := by decide +kernel
theorem q55_49 : z_m55.2.2.2.2.2.lookup 49 = some (.iinc 2 1, 3) := by decide +kernel
theorem q55_52 : z_m55.2.2.2.2.2.lookup 52 = some (.goto (-32), 3) := by decide +kernel
theorem q55_55 : z_m55.2.2.2.2.2.lookup 55 = some (.iconst 1, 1) := by decide +kernel
theorem q55_56 : z_m55.2.2.2.2.2.lookup 56 = some (.ireturn, 1) := by decide +kernel
theorem q56_0 : z_m56.2.2.2.2.2.lookup 0 = some (.iload_n 0, 1) := by decide +kernel
theorem q56_1 : z_m56.2.2.2.2.2.lookup 1 = some (.bipush 32, 2) := by decide +kernel
theorem q56_3 : z_m56.2.2.2.2.2.lookup 3 = some (.if_icmp .eq 9, 3) := by decide +kernel
theorem q56_6 : z_m56.2.2.2.2.2.lookup 6 = some (.iload_n 0, 1) := by decide +kernel
theorem q56_7 : z_m56.2.2.2.2.2.lookup 7 = some (.bipush 10, 2) := by decide +kernel
theorem q56_9 : z_m56.2.2.2.2.2.lookup 9 = some (.if_icmp .ne 7, 3) := by decide +kernel
theorem q56_12 : z_m56.2.2.2.2.2.lookup 12 = some (.iconst 1, 1) := by decide +kernel
theorem q56_13 : z_m56.2.2.2.2.2.lookup 13 = some (.goto 4, 3) := by decide +kernel
theorem q56_16 : z_m56.2.2.2.2.2.lookup 16 = some (.iconst 0, 1) := by decide +kernel
theorem q56_17 : z_m56.2.2.2.2.2.lookup 17 = some (.ireturn, 1) := by decide +kernel
theorem q57_0 : z_m57.2.2.2.2.2.lookup 0 = some (.iload_n 0, 1) := by decide +kernel
theorem q57_1 : z_m57.2.2.2.2.2.lookup 1 = some (.bipush 97, 2) := by decide +kernel
theorem q57_3 : z_m57.2.2.2.2.2.lookup 3 = some (.if_icmp .lt 13, 3) := by decide +kernel
theorem q57_6 : z_m57.2.2.2.2.2.lookup 6 = some (.iload_n 0, 1) := by decide +kernel
theorem q57_7 : z_m57.2.2.2.2.2.lookup 7 = some (.bipush 122, 2) := by decide +kernel
theorem q57_9 : z_m57.2.2.2.2.2.lookup 9 = some (.if_icmp .gt 7, 3) := by decide +kernel
theorem q57_12 : z_m57.2.2.2.2.2.lookup 12 = some (.iconst 1, 1) := by decide +kernel
theorem q57_13 : z_m57.2.2.2.2.2.lookup 13 = some (.goto 4, 3) := by decide +kernel
theorem q57_16 : z_m57.2.2.2.2.2.lookup 16 = some (.iconst 0, 1) := by decide +kernel
theorem q57_17 : z_m57.2.2.2.2.2.lookup 17 = some (.ireturn, 1) := by decide +kernel
theorem q58_0 : z_m58.2.2.2.2.2.lookup 0 = some (.iload_n 0, 1) := by decide +kernel
theorem q58_1 : z_m58.2.2.2.2.2.lookup 1 = some (.bipush 48, 2) := by decide +kernel
theorem q58_3 : z_m58.2.2.2.2.2.lookup 3 = some (.if_icmp .lt 13, 3) := by decide +kernel
theorem q58_6 : z_m58.2.2.2.2.2.lookup 6 = some (.iload_n 0, 1) := by decide +kernel
theorem q58_7 : z_m58.2.2.2.2.2.lookup 7 = some (.bipush 57, 2) := by decide +kernel
theorem q58_9 : z_m58.2.2.2.2.2.lookup 9 = some (.if_icmp .gt 7, 3) := by decide +kernel
theorem q58_12 : z_m58.2.2.2.2.2.lookup 12 = some (.iconst 1, 1) := by decide +kernel
theorem q58_13 : z_m58.2.2.2.2.2.lookup 13 = some (.goto 4, 3) := by decide +kernel
theorem q58_16 : z_m58.2.2.2.2.2.lookup 16 = some (.iconst 0, 1) := by decide +kernel
theorem q58_17 : z_m58.2.2.2.2.2.lookup 17 = some (.ireturn, 1) := by decide +kernel
theorem q59_0 : z_m59.2.2.2.2.2.lookup 0 = some (.iload_n 0, 1) := by decide +kernel
theorem q59_1 : z_m59.2.2.2.2.2.lookup 1 = some (.tableswitch 105 40 61 #[103, 103, 103, 103, 105, 103, 105, 105, 105, 105, 105, 105, 105, 105, 105, 105, 105, 105, 105, 103, 103, 103], 103) := by decide +kernel
theorem q59_104 : z_m59.2.2.2.2.2.lookup 104 = some (.iconst 1, 1) := by decide +kernel
theorem q59_105 : z_m59.2.2.2.2.2.lookup 105 = some (.ireturn, 1) := by decide +kernel
theorem q59_106 : z_m59.2.2.2.2.2.lookup 106 = some (.iconst 0, 1) := by decide +kernel
theorem q59_107 : z_m59.2.2.2.2.2.lookup 107 = some (.ireturn, 1) := by decide +kernel
theorem q61_0 : z_m61.2.2.2.2.2.lookup 0 = some (.aload_n 0, 1) := by decide +kernel
theorem q61_1 : z_m61.2.2.2.2.2.lookup 1 = some (.iconst 0, 1) := by decide +kernel
theorem q61_2 : z_m61.2.2.2.2.2.lookup 2 = some (.putfield 18, 3) := by decide +kernel
theorem q61_5 : z_m61.2.2.2.2.2.lookup 5 = some (.aload_n 1, 1) := by decide +kernel
theorem q61_6 : z_m61.2.2.2.2.2.lookup 6 = some (.invokevirtual 22, 3) := by decide +kernel
theorem q61_9 : z_m61.2.2.2.2.2.lookup 9 = some (.iconst 0, 1) := by decide +kernel
theorem q61_10 : z_m61.2.2.2.2.2.lookup 10 = some (.istore_n 2, 1) := by decide +kernel
theorem q61_11 : z_m61.2.2.2.2.2.lookup 11 = some (.iload_n 2, 1) := by decide +kernel
theorem q61_12 : z_m61.2.2.2.2.2.lookup 12 = some (.iconst 3, 1) := by decide +kernel
theorem q61_13 : z_m61.2.2.2.2.2.lookup 13 = some (.if_icmp .ge 53, 3) := by decide +kernel
theorem q61_16 : z_m61.2.2.2.2.2.lookup 16 = some (.aload_n 1, 1) := by decide +kernel
theorem q61_17 : z_m61.2.2.2.2.2.lookup 17 = some (.sipush 260, 3) := by decide +kernel
theorem q61_20 : z_m61.2.2.2.2.2.lookup 20 = some (.iload_n 2, 1) := by decide +kernel
theorem q61_21 : z_m61.2.2.2.2.2.lookup 21 = some (.iadd, 1) := by decide +kernel
theorem q61_22 : z_m61.2.2.2.2.2.lookup 22 = some (.invokevirtual 27, 3) := by decide +kernel
theorem q61_25 : z_m61.2.2.2.2.2.lookup 25 = some (.ifCond .eq 12, 3) := by decide +kernel
theorem q61_28 : z_m61.2.2.2.2.2.lookup 28 = some (.aload_n 0, 1) := by decide +kernel
theorem q61_29 : z_m61.2.2.2.2.2.lookup 29 = some (.aload_n 1, 1) := by decide +kernel
theorem q61_30 : z_m61.2.2.2.2.2.lookup 30 = some (.iconst 0, 1) := by decide +kernel
theorem q61_31 : z_m61.2.2.2.2.2.lookup 31 = some (.invokevirtual 31, 3) := by decide +kernel
theorem q61_34 : z_m61.2.2.2.2.2.lookup 34 = some (.ifCond .ne 5, 3) := by decide +kernel
theorem q61_37 : z_m61.2.2.2.2.2.lookup 37 = some (.iconst 0, 1) := by decide +kernel
theorem q61_38 : z_m61.2.2.2.2.2.lookup 38 = some (.ireturn, 1) := by decide +kernel
theorem q61_39 : z_m61.2.2.2.2.2.lookup 39 = some (.aload_n 0, 1) := by decide +kernel
theorem q61_40 : z_m61.2.2.2.2.2.lookup 40 = some (.getfield 15, 3) := by decide +kernel
theorem q61_43 : z_m61.2.2.2.2.2.lookup 43 = some (.iload_n 2, 1) := by decide +kernel
theorem q61_44 : z_m61.2.2.2.2.2.lookup 44 = some (.aload_n 0, 1) := by decide +kernel
theorem q61_45 : z_m61.2.2.2.2.2.lookup 45 = some (.getfield 18, 3) := by decide +kernel
theorem q61_48 : z_m61.2.2.2.2.2.lookup 48 = some (.iastore, 1) := by decide +kernel
theorem q61_49 : z_m61.2.2.2.2.2.lookup 49 = some (.aload_n 1, 1) := by decide +kernel
theorem q61_50 : z_m61.2.2.2.2.2.lookup 50 = some (.bipush 59, 2) := by decide +kernel
theorem q61_52 : z_m61.2.2.2.2.2.lookup 52 = some (.invokevirtual 27, 3) := by decide +kernel
theorem q61_55 : z_m61.2.2.2.2.2.lookup 55 = some (.ifCond .ne 5, 3) := by decide +kernel
theorem q61_58 : z_m61.2.2.2.2.2.lookup 58 = some (.iconst 0, 1) := by decide +kernel
theorem q61_59 : z_m61.2.2.2.2.2.lookup 59 = some (.ireturn, 1) := by decide +kernel
theorem q61_60 : z_m61.2.2.2.2.2.lookup 60 = some (.iinc 2 1, 3) := by decide +kernel
theorem q61_63 : z_m61.2.2.2.2.2.lookup 63 = some (.goto (-52), 3) := by decide +kernel
theorem q61_66 : z_m61.2.2.2.2.2.lookup 66 = some (.aload_n 1, 1) := by decide +kernel
theorem q61_67 : z_m61.2.2.2.2.2.lookup 67 = some (.getfield 35, 3) := by decide +kernel
theorem q61_70 : z_m61.2.2.2.2.2.lookup 70 = some (.sipush 256, 3) := by decide +kernel
theorem q61_73 : z_m61.2.2.2.2.2.lookup 73 = some (.if_icmp .ne 7, 3) := by decide +kernel
theorem q61_76 : z_m61.2.2.2.2.2.lookup 76 = some (.iconst 1, 1) := by decide +kernel
theorem q61_77 : z_m61.2.2.2.2.2.lookup 77 = some (.goto 4, 3) := by decide +kernel
theorem q61_80 : z_m61.2.2.2.2.2.lookup 80 = some (.iconst 0, 1) := by decide +kernel
theorem q61_81 : z_m61.2.2.2.2.2.lookup 81 = some (.ireturn, 1) := by decide +kernel
theorem q62_0 : z_m62.2.2.2.2.2.lookup 0 = some (.aload_n 0, 1) := by decide +kernel
theorem q62_1 : z_m62.2.2.2.2.2.lookup 1 = some (.getfield 18, 3) := by decide +kernel
theorem q62_4 : z_m62.2.2.2.2.2.lookup 4 = some (.sipush 160, 3) := by decide +kernel
theorem q62_7 : z_m62.2.2.2.2.2.lookup 7 = some (.if_icmp .ge 23, 3) := by decide +kernel
theorem q62_10 : z_m62.2.2.2.2.2.lookup 10 = some (.aload_n 0, 1) := by decide +kernel
theorem q62_11 : z_m62.2.2.2.2.2.lookup 11 = some (.getfield 9, 3) := by decide +kernel
theorem q62_14 : z_m62.2.2.2.2.2.lookup 14 = some (.aload_n 0, 1) := by decide +kernel
theorem q62_15 : z_m62.2.2.2.2.2.lookup 15 = some (.getfield 18, 3) := by decide +kernel
theorem q62_18 : z_m62.2.2.2.2.2.lookup 18 = some (.iload_n 1, 1) := by decide +kernel
theorem q62_19 : z_m62.2.2.2.2.2.lookup 19 = some (.iastore, 1) := by decide +kernel
theorem q62_20 : z_m62.2.2.2.2.2.lookup 20 = some (.aload_n 0, 1) := by decide +kernel
theorem q62_21 : z_m62.2.2.2.2.2.lookup 21 = some (.dup, 1) := by decide +kernel
theorem q62_22 : z_m62.2.2.2.2.2.lookup 22 = some (.getfield 18, 3) := by decide +kernel
theorem q62_25 : z_m62.2.2.2.2.2.lookup 25 = some (.iconst 1, 1) := by decide +kernel
theorem q62_26 : z_m62.2.2.2.2.2.lookup 26 = some (.iadd, 1) := by decide +kernel
theorem q62_27 : z_m62.2.2.2.2.2.lookup 27 = some (.putfield 18, 3) := by decide +kernel
theorem q62_30 : z_m62.2.2.2.2.2.lookup 30 = some (.return_, 1) := by decide +kernel
theorem q63_0 : z_m63.2.2.2.2.2.lookup 0 = some (.aload_n 0, 1) := by decide +kernel
theorem q63_1 : z_m63.2.2.2.2.2.lookup 1 = some (.aload_n 1, 1) := by decide +kernel
theorem q63_2 : z_m63.2.2.2.2.2.lookup 2 = some (.iload_n 2, 1) := by decide +kernel
theorem q63_3 : z_m63.2.2.2.2.2.lookup 3 = some (.invokevirtual 38, 3) := by decide +kernel
theorem q63_6 : z_m63.2.2.2.2.2.lookup 6 = some (.ifCond .ne 5, 3) := by decide +kernel
theorem q63_9 : z_m63.2.2.2.2.2.lookup 9 = some (.iconst 0, 1) := by decide +kernel
theorem q63_10 : z_m63.2.2.2.2.2.lookup 10 = some (.ireturn, 1) := by decide +kernel
theorem q63_11 : z_m63.2.2.2.2.2.lookup 11 = some (.iconst 0, 1) := by decide +kernel
theorem q63_12 : z_m63.2.2.2.2.2.lookup 12 = some (.istore_n 3, 1) := by decide +kernel
theorem q63_13 : z_m63.2.2.2.2.2.lookup 13 = some (.iload_n 3, 1) := by decide +kernel
theorem q63_14 : z_m63.2.2.2.2.2.lookup 14 = some (.sipush 160, 3) := by decide +kernel
theorem q63_17 : z_m63.2.2.2.2.2.lookup 17 = some (.if_icmp .ge 40, 3) := by decide +kernel
theorem q63_20 : z_m63.2.2.2.2.2.lookup 20 = some (.aload_n 1, 1) := by decide +kernel
theorem q63_21 : z_m63.2.2.2.2.2.lookup 21 = some (.getfield 35, 3) := by decide +kernel
theorem q63_24 : z_m63.2.2.2.2.2.lookup 24 = some (.sipush 263, 3) := by decide +kernel
theorem q63_27 : z_m63.2.2.2.2.2.lookup 27 = some (.if_icmp .ne 30, 3) := by decide +kernel
theorem q63_30 : z_m63.2.2.2.2.2.lookup 30 = some (.aload_n 1, 1) := by decide +kernel
theorem q63_31 : z_m63.2.2.2.2.2.lookup 31 = some (.invokevirtual 41, 3) := by decide +kernel
theorem q63_34 : z_m63.2.2.2.2.2.lookup 34 = some (.aload_n 0, 1) := by decide +kernel
theorem q63_35 : z_m63.2.2.2.2.2.lookup 35 = some (.aload_n 1, 1) := by decide +kernel
theorem q63_36 : z_m63.2.2.2.2.2.lookup 36 = some (.iload_n 2, 1) := by decide +kernel
theorem q63_37 : z_m63.2.2.2.2.2.lookup 37 = some (.invokevirtual 38, 3) := by decide +kernel
theorem q63_40 : z_m63.2.2.2.2.2.lookup 40 = some (.ifCond .ne 5, 3) := by decide +kernel
theorem q63_43 : z_m63.2.2.2.2.2.lookup 43 = some (.iconst 0, 1) := by decide +kernel
theorem q63_44 : z_m63.2.2.2.2.2.lookup 44 = some (.ireturn, 1) := by decide +kernel
theorem q63_45 : z_m63.2.2.2.2.2.lookup 45 = some (.aload_n 0, 1) := by decide +kernel
theorem q63_46 : z_m63.2.2.2.2.2.lookup 46 = some (.bipush (-9), 2) := by decide +kernel
theorem q63_48 : z_m63.2.2.2.2.2.lookup 48 = some (.invokevirtual 44, 3) := by decide +kernel
theorem q63_51 : z_m63.2.2.2.2.2.lookup 51 = some (.iinc 3 1, 3) := by decide +kernel
theorem q63_54 : z_m63.2.2.2.2.2.lookup 54 = some (.goto (-41), 3) := by decide +kernel
theorem q63_57 : z_m63.2.2.2.2.2.lookup 57 = some (.iconst 1, 1) := by decide +kernel
theorem q63_58 : z_m63.2.2.2.2.2.lookup 58 = some (.ireturn, 1) := by decide +kernel
theorem q64_0 : z_m64.2.2.2.2.2.lookup 0 = some (.aload_n 0, 1) := by decide +kernel
theorem q64_1 : z_m64.2.2.2.2.2.lookup 1 = some (.aload_n 1, 1) := by decide +kernel
theorem q64_2 : z_m64.2.2.2.2.2.lookup 2 = some (.iload_n 2, 1) := by decide +kernel
theorem q64_3 : z_m64.2.2.2.2.2.lookup 3 = some (.invokevirtual 48, 3) := by decide +kernel
theorem q64_6 : z_m64.2.2.2.2.2.lookup 6 = some (.ifCond .ne 5, 3) := by decide +kernel
theorem q64_9 : z_m64.2.2.2.2.2.lookup 9 = some (.iconst 0, 1) := by decide +kernel
theorem q64_10 : z_m64.2.2.2.2.2.lookup 10 = some (.ireturn, 1) := by decide +kernel
theorem q64_11 : z_m64.2.2.2.2.2.lookup 11 = some (.iconst 0, 1) := by decide +kernel
theorem q64_12 : z_m64.2.2.2.2.2.lookup 12 = some (.istore_n 3, 1) := by decide +kernel
theorem q64_13 : z_m64.2.2.2.2.2.lookup 13 = some (.iload_n 3, 1) := by decide +kernel
theorem q64_14 : z_m64.2.2.2.2.2.lookup 14 = some (.sipush 160, 3) := by decide +kernel
theorem q64_17 : z_m64.2.2.2.2.2.lookup 17 = some (.if_icmp .ge 40, 3) := by decide +kernel
theorem q64_20 : z_m64.2.2.2.2.2.lookup 20 = some (.aload_n 1, 1) := by decide +kernel
theorem q64_21 : z_m64.2.2.2.2.2.lookup 21 = some (.getfield 35, 3) := by decide +kernel
theorem q64_24 : z_m64.2.2.2.2.2.lookup 24 = some (.sipush 264, 3) := by decide +kernel
theorem q64_27 : z_m64.2.2.2.2.2.lookup 27 = some (.if_icmp .ne 30, 3) := by decide +kernel
theorem q64_30 : z_m64.2.2.2.2.2.lookup 30 = some (.aload_n 1, 1) := by decide +kernel
theorem q64_31 : z_m64.2.2.2.2.2.lookup 31 = some (.invokevirtual 41, 3) := by decide +kernel
theorem q64_34 : z_m64.2.2.2.2.2.lookup 34 = some (.aload_n 0, 1) := by decide +kernel
theorem q64_35 : z_m64.2.2.2.2.2.lookup 35 = some (.aload_n 1, 1) := by decide +kernel
theorem q64_36 : z_m64.2.2.2.2.2.lookup 36 = some (.iload_n 2, 1) := by decide +kernel
theorem q64_37 : z_m64.2.2.2.2.2.lookup 37 = some (.invokevirtual 48, 3) := by decide +kernel
theorem q64_40 : z_m64.2.2.2.2.2.lookup 40 = some (.ifCond .ne 5, 3) := by decide +kernel
theorem q64_43 : z_m64.2.2.2.2.2.lookup 43 = some (.iconst 0, 1) := by decide +kernel
theorem q64_44 : z_m64.2.2.2.2.2.lookup 44 = some (.ireturn, 1) := by decide +kernel
theorem q64_45 : z_m64.2.2.2.2.2.lookup 45 = some (.aload_n 0, 1) := by decide +kernel
theorem q64_46 : z_m64.2.2.2.2.2.lookup 46 = some (.bipush (-8), 2) := by decide +kernel
theorem q64_48 : z_m64.2.2.2.2.2.lookup 48 = some (.invokevirtual 44, 3) := by decide +kernel
theorem q64_51 : z_m64.2.2.2.2.2.lookup 51 = some (.iinc 3 1, 3) := by decide +kernel
theorem q64_54 : z_m64.2.2.2.2.2.lookup 54 = some (.goto (-41), 3) := by decide +kernel
theorem q64_57 : z_m64.2.2.2.2.2.lookup 57 = some (.iconst 1, 1) := by decide +kernel
theorem q64_58 : z_m64.2.2.2.2.2.lookup 58 = some (.ireturn, 1) := by decide +kernel
theorem q65_0 : z_m65.2.2.2.2.2.lookup 0 = some (.aload_n 1, 1) := by decide +kernel
theorem q65_1 : z_m65.2.2.2.2.2.lookup 1 = some (.getfield 35, 3) := by decide +kernel
theorem q65_4 : z_m65.2.2.2.2.2.lookup 4 = some (.sipush 265, 3) := by decide +kernel
theorem q65_7 : z_m65.2.2.2.2.2.lookup 7 = some (.if_icmp .eq 10, 3) := by decide +kernel
theorem q65_10 : z_m65.2.2.2.2.2.lookup 10 = some (.aload_n 0, 1) := by decide +kernel
theorem q65_11 : z_m65.2.2.2.2.2.lookup 11 = some (.aload_n 1, 1) := by decide +kernel
theorem q65_12 : z_m65.2.2.2.2.2.lookup 12 = some (.iload_n 2, 1) := by decide +kernel
theorem q65_13 : z_m65.2.2.2.2.2.lookup 13 = some (.invokevirtual 51, 3) := by decide +kernel
theorem q65_16 : z_m65.2.2.2.2.2.lookup 16 = some (.ireturn, 1) := by decide +kernel
theorem q65_17 : z_m65.2.2.2.2.2.lookup 17 = some (.iload_n 2, 1) := by decide +kernel
theorem q65_18 : z_m65.2.2.2.2.2.lookup 18 = some (.iconst 5, 1) := by decide +kernel
theorem q65_19 : z_m65.2.2.2.2.2.lookup 19 = some (.if_icmp .lt 5, 3) := by decide +kernel
theorem q65_22 : z_m65.2.2.2.2.2.lookup 22 = some (.iconst 0, 1) := by decide +kernel
theorem q65_23 : z_m65.2.2.2.2.2.lookup 23 = some (.ireturn, 1) := by decide +kernel
theorem q65_24 : z_m65.2.2.2.2.2.lookup 24 = some (.aload_n 1, 1) := by decide +kernel
theorem q65_25 : z_m65.2.2.2.2.2.lookup 25 = some (.invokevirtual 41, 3) := by decide +kernel
theorem q65_28 : z_m65.2.2.2.2.2.lookup 28 = some (.aload_n 0, 1) := by decide +kernel
theorem q65_29 : z_m65.2.2.2.2.2.lookup 29 = some (.aload_n 1, 1) := by decide +kernel
theorem q65_30 : z_m65.2.2.2.2.2.lookup 30 = some (.iload_n 2, 1) := by decide +kernel
theorem q65_31 : z_m65.2.2.2.2.2.lookup 31 = some (.iconst 1, 1) := by decide +kernel
theorem q65_32 : z_m65.2.2.2.2.2.lookup 32 = some (.iadd, 1) := by decide +kernel
theorem q65_33 : z_m65.2.2.2.2.2.lookup 33 = some (.invokevirtual 48, 3) := by decide +kernel
theorem q65_36 : z_m65.2.2.2.2.2.lookup 36 = some (.ifCond .ne 5, 3) := by decide +kernel
theorem q65_39 : z_m65.2.2.2.2.2.lookup 39 = some (.iconst 0, 1) := by decide +kernel
theorem q65_40 : z_m65.2.2.2.2.2.lookup 40 = some (.ireturn, 1) := by decide +kernel
theorem q65_41 : z_m65.2.2.2.2.2.lookup 41 = some (.aload_n 0, 1) := by decide +kernel
theorem q65_42 : z_m65.2.2.2.2.2.lookup 42 = some (.bipush (-2), 2) := by decide +kernel
theorem q65_44 : z_m65.2.2.2.2.2.lookup 44 = some (.invokevirtual 44, 3) := by decide +kernel
theorem q65_47 : z_m65.2.2.2.2.2.lookup 47 = some (.iconst 1, 1) := by decide +kernel
theorem q65_48 : z_m65.2.2.2.2.2.lookup 48 = some (.ireturn, 1) := by decide +kernel
theorem q66_0 : z_m66.2.2.2.2.2.lookup 0 = some (.aload_n 0, 1) := by decide +kernel
theorem q66_1 : z_m66.2.2.2.2.2.lookup 1 = some (.aload_n 1, 1) := by decide +kernel
theorem q66_2 : z_m66.2.2.2.2.2.lookup 2 = some (.iload_n 2, 1) := by decide +kernel
theorem q66_3 : z_m66.2.2.2.2.2.lookup 3 = some (.invokevirtual 54, 3) := by decide +kernel
theorem q66_6 : z_m66.2.2.2.2.2.lookup 6 = some (.ifCond .ne 5, 3) := by decide +kernel
theorem q66_9 : z_m66.2.2.2.2.2.lookup 9 = some (.iconst 0, 1) := by decide +kernel
theorem q66_10 : z_m66.2.2.2.2.2.lookup 10 = some (.ireturn, 1) := by decide +kernel
theorem q66_11 : z_m66.2.2.2.2.2.lookup 11 = some (.aload_n 1, 1) := by decide +kernel
theorem q66_12 : z_m66.2.2.2.2.2.lookup 12 = some (.getfield 35, 3) := by decide +kernel
theorem q66_15 : z_m66.2.2.2.2.2.lookup 15 = some (.istore_n 3, 1) := by decide +kernel
theorem q66_16 : z_m66.2.2.2.2.2.lookup 16 = some (.iload_n 3, 1) := by decide +kernel
theorem q66_17 : z_m66.2.2.2.2.2.lookup 17 = some (.bipush 60, 2) := by decide +kernel
theorem q66_19 : z_m66.2.2.2.2.2.lookup 19 = some (.if_icmp .eq 11, 3) := by decide +kernel
theorem q66_22 : z_m66.2.2.2.2.2.lookup 22 = some (.iload_n 3, 1) := by decide +kernel
theorem q66_23 : z_m66.2.2.2.2.2.lookup 23 = some (.bipush 61, 2) := by decide +kernel
theorem q66_25 : z_m66.2.2.2.2.2.lookup 25 = some (.if_icmp .eq 5, 3) := by decide +kernel
theorem q66_28 : z_m66.2.2.2.2.2.lookup 28 = some (.iconst 1, 1) := by decide +kernel
theorem q66_29 : z_m66.2.2.2.2.2.lookup 29 = some (.ireturn, 1) := by decide +kernel
theorem q66_30 : z_m66.2.2.2.2.2.lookup 30 = some (.aload_n 1, 1) := by decide +kernel
theorem q66_31 : z_m66.2.2.2.2.2.lookup 31 = some (.invokevirtual 41, 3) := by decide +kernel
theorem q66_34 : z_m66.2.2.2.2.2.lookup 34 = some (.aload_n 0, 1) := by decide +kernel
theorem q66_35 : z_m66.2.2.2.2.2.lookup 35 = some (.aload_n 1, 1) := by decide +kernel
theorem q66_36 : z_m66.2.2.2.2.2.lookup 36 = some (.iload_n 2, 1) := by decide +kernel
theorem q66_37 : z_m66.2.2.2.2.2.lookup 37 = some (.invokevirtual 54, 3) := by decide +kernel
theorem q66_40 : z_m66.2.2.2.2.2.lookup 40 = some (.ifCond .ne 5, 3) := by decide +kernel
theorem q66_43 : z_m66.2.2.2.2.2.lookup 43 = some (.iconst 0, 1) := by decide +kernel
theorem q66_44 : z_m66.2.2.2.2.2.lookup 44 = some (.ireturn, 1) := by decide +kernel
theorem q66_45 : z_m66.2.2.2.2.2.lookup 45 = some (.aload_n 0, 1) := by decide +kernel
theorem q66_46 : z_m66.2.2.2.2.2.lookup 46 = some (.iload_n 3, 1) := by decide +kernel
theorem q66_47 : z_m66.2.2.2.2.2.lookup 47 = some (.bipush 60, 2) := by decide +kernel
theorem q66_49 : z_m66.2.2.2.2.2.lookup 49 = some (.if_icmp .ne 8, 3) := by decide +kernel
theorem q66_52 : z_m66.2.2.2.2.2.lookup 52 = some (.bipush (-6), 2) := by decide +kernel
theorem q66_54 : z_m66.2.2.2.2.2.lookup 54 = some (.goto 5, 3) := by decide +kernel
theorem q66_57 : z_m66.2.2.2.2.2.lookup 57 = some (.bipush (-7), 2) := by decide +kernel
theorem q66_59 : z_m66.2.2.2.2.2.lookup 59 = some (.invokevirtual 44, 3) := by decide +kernel
theorem q66_62 : z_m66.2.2.2.2.2.lookup 62 = some (.iconst 1, 1) := by decide +kernel
theorem q66_63 : z_m66.2.2.2.2.2.lookup 63 = some (.ireturn, 1) := by decide +kernel
theorem q67_0 : z_m67.2.2.2.2.2.lookup 0 = some (.aload_n 0, 1) := by decide +kernel
theorem q67_1 : z_m67.2.2.2.2.2.lookup 1 = some (.aload_n 1, 1) := by decide +kernel
theorem q67_2 : z_m67.2.2.2.2.2.lookup 2 = some (.iload_n 2, 1) := by decide +kernel
theorem q67_3 : z_m67.2.2.2.2.2.lookup 3 = some (.invokevirtual 57, 3) := by decide +kernel
theorem q67_6 : z_m67.2.2.2.2.2.lookup 6 = some (.ifCond .ne 5, 3) := by decide +kernel
theorem q67_9 : z_m67.2.2.2.2.2.lookup 9 = some (.iconst 0, 1) := by decide +kernel
theorem q67_10 : z_m67.2.2.2.2.2.lookup 10 = some (.ireturn, 1) := by decide +kernel
theorem q67_11 : z_m67.2.2.2.2.2.lookup 11 = some (.iconst 0, 1) := by decide +kernel
theorem q67_12 : z_m67.2.2.2.2.2.lookup 12 = some (.istore_n 3, 1) := by decide +kernel
theorem q67_13 : z_m67.2.2.2.2.2.lookup 13 = some (.iload_n 3, 1) := by decide +kernel
theorem q67_14 : z_m67.2.2.2.2.2.lookup 14 = some (.sipush 160, 3) := by decide +kernel
theorem q67_17 : z_m67.2.2.2.2.2.lookup 17 = some (.if_icmp .ge 66, 3) := by decide +kernel
theorem q67_20 : z_m67.2.2.2.2.2.lookup 20 = some (.aload_n 1, 1) := by decide +kernel
theorem q67_21 : z_m67.2.2.2.2.2.lookup 21 = some (.getfield 35, 3) := by decide +kernel
theorem q67_24 : z_m67.2.2.2.2.2.lookup 24 = some (.bipush 43, 2) := by decide +kernel
theorem q67_26 : z_m67.2.2.2.2.2.lookup 26 = some (.if_icmp .eq 12, 3) := by decide +kernel
theorem q67_29 : z_m67.2.2.2.2.2.lookup 29 = some (.aload_n 1, 1) := by decide +kernel
theorem q67_30 : z_m67.2.2.2.2.2.lookup 30 = some (.getfield 35, 3) := by decide +kernel
theorem q67_33 : z_m67.2.2.2.2.2.lookup 33 = some (.bipush 45, 2) := by decide +kernel
theorem q67_35 : z_m67.2.2.2.2.2.lookup 35 = some (.if_icmp .ne 48, 3) := by decide +kernel
theorem q67_38 : z_m67.2.2.2.2.2.lookup 38 = some (.aload_n 1, 1) := by decide +kernel
theorem q67_39 : z_m67.2.2.2.2.2.lookup 39 = some (.getfield 35, 3) := by decide +kernel
theorem q67_42 : z_m67.2.2.2.2.2.lookup 42 = some (.istore 4, 2) := by decide +kernel
theorem q67_44 : z_m67.2.2.2.2.2.lookup 44 = some (.aload_n 1, 1) := by decide +kernel
theorem q67_45 : z_m67.2.2.2.2.2.lookup 45 = some (.invokevirtual 41, 3) := by decide +kernel
theorem q67_48 : z_m67.2.2.2.2.2.lookup 48 = some (.aload_n 0, 1) := by decide +kernel
theorem q67_49 : z_m67.2.2.2.2.2.lookup 49 = some (.aload_n 1, 1) := by decide +kernel
theorem q67_50 : z_m67.2.2.2.2.2.lookup 50 = some (.iload_n 2, 1) := by decide +kernel
theorem q67_51 : z_m67.2.2.2.2.2.lookup 51 = some (.invokevirtual 57, 3) := by decide +kernel
theorem q67_54 : z_m67.2.2.2.2.2.lookup 54 = some (.ifCond .ne 5, 3) := by decide +kernel
theorem q67_57 : z_m67.2.2.2.2.2.lookup 57 = some (.iconst 0, 1) := by decide +kernel
theorem q67_58 : z_m67.2.2.2.2.2.lookup 58 = some (.ireturn, 1) := by decide +kernel
theorem q67_59 : z_m67.2.2.2.2.2.lookup 59 = some (.aload_n 0, 1) := by decide +kernel
theorem q67_60 : z_m67.2.2.2.2.2.lookup 60 = some (.iload 4, 2) := by decide +kernel
theorem q67_62 : z_m67.2.2.2.2.2.lookup 62 = some (.bipush 43, 2) := by decide +kernel
theorem q67_64 : z_m67.2.2.2.2.2.lookup 64 = some (.if_icmp .ne 8, 3) := by decide +kernel
theorem q67_67 : z_m67.2.2.2.2.2.lookup 67 = some (.bipush (-3), 2) := by decide +kernel
theorem q67_69 : z_m67.2.2.2.2.2.lookup 69 = some (.goto 5, 3) := by decide +kernel
theorem q67_72 : z_m67.2.2.2.2.2.lookup 72 = some (.bipush (-4), 2) := by decide +kernel
theorem q67_74 : z_m67.2.2.2.2.2.lookup 74 = some (.invokevirtual 44, 3) := by decide +kernel
theorem q67_77 : z_m67.2.2.2.2.2.lookup 77 = some (.iinc 3 1, 3) := by decide +kernel
theorem q67_80 : z_m67.2.2.2.2.2.lookup 80 = some (.goto (-67), 3) := by decide +kernel
theorem q67_83 : z_m67.2.2.2.2.2.lookup 83 = some (.iconst 1, 1) := by decide +kernel
theorem q67_84 : z_m67.2.2.2.2.2.lookup 84 = some (.ireturn, 1) := by decide +kernel
theorem q68_0 : z_m68.2.2.2.2.2.lookup 0 = some (.aload_n 0, 1) := by decide +kernel
theorem q68_1 : z_m68.2.2.2.2.2.lookup 1 = some (.aload_n 1, 1) := by decide +kernel
theorem q68_2 : z_m68.2.2.2.2.2.lookup 2 = some (.iload_n 2, 1) := by decide +kernel
theorem q68_3 : z_m68.2.2.2.2.2.lookup 3 = some (.invokevirtual 60, 3) := by decide +kernel
theorem q68_6 : z_m68.2.2.2.2.2.lookup 6 = some (.ifCond .ne 5, 3) := by decide +kernel
theorem q68_9 : z_m68.2.2.2.2.2.lookup 9 = some (.iconst 0, 1) := by decide +kernel
theorem q68_10 : z_m68.2.2.2.2.2.lookup 10 = some (.ireturn, 1) := by decide +kernel
theorem q68_11 : z_m68.2.2.2.2.2.lookup 11 = some (.iconst 0, 1) := by decide +kernel
theorem q68_12 : z_m68.2.2.2.2.2.lookup 12 = some (.istore_n 3, 1) := by decide +kernel
theorem q68_13 : z_m68.2.2.2.2.2.lookup 13 = some (.iload_n 3, 1) := by decide +kernel
theorem q68_14 : z_m68.2.2.2.2.2.lookup 14 = some (.sipush 160, 3) := by decide +kernel
theorem q68_17 : z_m68.2.2.2.2.2.lookup 17 = some (.if_icmp .ge 39, 3) := by decide +kernel
theorem q68_20 : z_m68.2.2.2.2.2.lookup 20 = some (.aload_n 1, 1) := by decide +kernel
theorem q68_21 : z_m68.2.2.2.2.2.lookup 21 = some (.getfield 35, 3) := by decide +kernel
theorem q68_24 : z_m68.2.2.2.2.2.lookup 24 = some (.bipush 42, 2) := by decide +kernel
theorem q68_26 : z_m68.2.2.2.2.2.lookup 26 = some (.if_icmp .ne 30, 3) := by decide +kernel
theorem q68_29 : z_m68.2.2.2.2.2.lookup 29 = some (.aload_n 1, 1) := by decide +kernel
theorem q68_30 : z_m68.2.2.2.2.2.lookup 30 = some (.invokevirtual 41, 3) := by decide +kernel
theorem q68_33 : z_m68.2.2.2.2.2.lookup 33 = some (.aload_n 0, 1) := by decide +kernel
theorem q68_34 : z_m68.2.2.2.2.2.lookup 34 = some (.aload_n 1, 1) := by decide +kernel
theorem q68_35 : z_m68.2.2.2.2.2.lookup 35 = some (.iload_n 2, 1) := by decide +kernel
theorem q68_36 : z_m68.2.2.2.2.2.lookup 36 = some (.invokevirtual 60, 3) := by decide +kernel
theorem q68_39 : z_m68.2.2.2.2.2.lookup 39 = some (.ifCond .ne 5, 3) := by decide +kernel
theorem q68_42 : z_m68.2.2.2.2.2.lookup 42 = some (.iconst 0, 1) := by decide +kernel
theorem q68_43 : z_m68.2.2.2.2.2.lookup 43 = some (.ireturn, 1) := by decide +kernel
theorem q68_44 : z_m68.2.2.2.2.2.lookup 44 = some (.aload_n 0, 1) := by decide +kernel
theorem q68_45 : z_m68.2.2.2.2.2.lookup 45 = some (.bipush (-5), 2) := by decide +kernel
theorem q68_47 : z_m68.2.2.2.2.2.lookup 47 = some (.invokevirtual 44, 3) := by decide +kernel
theorem q68_50 : z_m68.2.2.2.2.2.lookup 50 = some (.iinc 3 1, 3) := by decide +kernel
theorem q68_53 : z_m68.2.2.2.2.2.lookup 53 = some (.goto (-40), 3) := by decide +kernel
theorem q68_56 : z_m68.2.2.2.2.2.lookup 56 = some (.iconst 1, 1) := by decide +kernel
theorem q68_57 : z_m68.2.2.2.2.2.lookup 57 = some (.ireturn, 1) := by decide +kernel
theorem q69_0 : z_m69.2.2.2.2.2.lookup 0 = some (.aload_n 1, 1) := by decide +kernel
theorem q69_1 : z_m69.2.2.2.2.2.lookup 1 = some (.getfield 35, 3) := by decide +kernel
theorem q69_4 : z_m69.2.2.2.2.2.lookup 4 = some (.istore_n 3, 1) := by decide +kernel
theorem q69_5 : z_m69.2.2.2.2.2.lookup 5 = some (.iload_n 3, 1) := by decide +kernel
theorem q69_6 : z_m69.2.2.2.2.2.lookup 6 = some (.bipush 45, 2) := by decide +kernel
theorem q69_8 : z_m69.2.2.2.2.2.lookup 8 = some (.if_icmp .ne 25, 3) := by decide +kernel
theorem q69_11 : z_m69.2.2.2.2.2.lookup 11 = some (.iload_n 2, 1) := by decide +kernel
theorem q69_12 : z_m69.2.2.2.2.2.lookup 12 = some (.iconst 5, 1) := by decide +kernel
theorem q69_13 : z_m69.2.2.2.2.2.lookup 13 = some (.if_icmp .ge 18, 3) := by decide +kernel
theorem q69_16 : z_m69.2.2.2.2.2.lookup 16 = some (.aload_n 0, 1) := by decide +kernel
theorem q69_17 : z_m69.2.2.2.2.2.lookup 17 = some (.aload_n 1, 1) := by decide +kernel
theorem q69_18 : z_m69.2.2.2.2.2.lookup 18 = some (.iload_n 2, 1) := by decide +kernel
theorem q69_19 : z_m69.2.2.2.2.2.lookup 19 = some (.iconst 1, 1) := by decide +kernel
theorem q69_20 : z_m69.2.2.2.2.2.lookup 20 = some (.iadd, 1) := by decide +kernel
theorem q69_21 : z_m69.2.2.2.2.2.lookup 21 = some (.invokevirtual 63, 3) := by decide +kernel
theorem q69_24 : z_m69.2.2.2.2.2.lookup 24 = some (.ifCond .eq 7, 3) := by decide +kernel
theorem q69_27 : z_m69.2.2.2.2.2.lookup 27 = some (.iconst 1, 1) := by decide +kernel
theorem q69_28 : z_m69.2.2.2.2.2.lookup 28 = some (.goto 4, 3) := by decide +kernel
theorem q69_31 : z_m69.2.2.2.2.2.lookup 31 = some (.iconst 0, 1) := by decide +kernel
theorem q69_32 : z_m69.2.2.2.2.2.lookup 32 = some (.ireturn, 1) := by decide +kernel
theorem q69_33 : z_m69.2.2.2.2.2.lookup 33 = some (.iload_n 3, 1) := by decide +kernel
theorem q69_34 : z_m69.2.2.2.2.2.lookup 34 = some (.bipush 40, 2) := by decide +kernel
theorem q69_36 : z_m69.2.2.2.2.2.lookup 36 = some (.if_icmp .ne 25, 3) := by decide +kernel
theorem q69_39 : z_m69.2.2.2.2.2.lookup 39 = some (.iload_n 2, 1) := by decide +kernel
theorem q69_40 : z_m69.2.2.2.2.2.lookup 40 = some (.iconst 5, 1) := by decide +kernel
theorem q69_41 : z_m69.2.2.2.2.2.lookup 41 = some (.if_icmp .ge 18, 3) := by decide +kernel
theorem q69_44 : z_m69.2.2.2.2.2.lookup 44 = some (.aload_n 0, 1) := by decide +kernel
theorem q69_45 : z_m69.2.2.2.2.2.lookup 45 = some (.aload_n 1, 1) := by decide +kernel
theorem q69_46 : z_m69.2.2.2.2.2.lookup 46 = some (.iload_n 2, 1) := by decide +kernel
theorem q69_47 : z_m69.2.2.2.2.2.lookup 47 = some (.iconst 1, 1) := by decide +kernel
theorem q69_48 : z_m69.2.2.2.2.2.lookup 48 = some (.iadd, 1) := by decide +kernel
theorem q69_49 : z_m69.2.2.2.2.2.lookup 49 = some (.invokevirtual 66, 3) := by decide +kernel
theorem q69_52 : z_m69.2.2.2.2.2.lookup 52 = some (.ifCond .eq 7, 3) := by decide +kernel
theorem q69_55 : z_m69.2.2.2.2.2.lookup 55 = some (.iconst 1, 1) := by decide +kernel
theorem q69_56 : z_m69.2.2.2.2.2.lookup 56 = some (.goto 4, 3) := by decide +kernel
theorem q69_59 : z_m69.2.2.2.2.2.lookup 59 = some (.iconst 0, 1) := by decide +kernel
theorem q69_60 : z_m69.2.2.2.2.2.lookup 60 = some (.ireturn, 1) := by decide +kernel
theorem q69_61 : z_m69.2.2.2.2.2.lookup 61 = some (.iload_n 3, 1) := by decide +kernel
theorem q69_62 : z_m69.2.2.2.2.2.lookup 62 = some (.sipush 258, 3) := by decide +kernel
theorem q69_65 : z_m69.2.2.2.2.2.lookup 65 = some (.if_icmp .eq 12, 3) := by decide +kernel
theorem q69_68 : z_m69.2.2.2.2.2.lookup 68 = some (.iload_n 3, 1) := by decide +kernel
theorem q69_69 : z_m69.2.2.2.2.2.lookup 69 = some (.sipush 270, 3) := by decide +kernel
theorem q69_72 : z_m69.2.2.2.2.2.lookup 72 = some (.if_icmp .ge 5, 3) := by decide +kernel
theorem q69_75 : z_m69.2.2.2.2.2.lookup 75 = some (.iconst 0, 1) := by decide +kernel
theorem q69_76 : z_m69.2.2.2.2.2.lookup 76 = some (.ireturn, 1) := by decide +kernel
theorem q69_77 : z_m69.2.2.2.2.2.lookup 77 = some (.aload_n 0, 1) := by decide +kernel
theorem q69_78 : z_m69.2.2.2.2.2.lookup 78 = some (.iload_n 3, 1) := by decide +kernel
theorem q69_79 : z_m69.2.2.2.2.2.lookup 79 = some (.sipush 258, 3) := by decide +kernel
theorem q69_82 : z_m69.2.2.2.2.2.lookup 82 = some (.if_icmp .ne 10, 3) := by decide +kernel
theorem q69_85 : z_m69.2.2.2.2.2.lookup 85 = some (.aload_n 1, 1) := by decide +kernel
theorem q69_86 : z_m69.2.2.2.2.2.lookup 86 = some (.getfield 69, 3) := by decide +kernel
theorem q69_89 : z_m69.2.2.2.2.2.lookup 89 = some (.goto 11, 3) := by decide +kernel
theorem q69_92 : z_m69.2.2.2.2.2.lookup 92 = some (.bipush (-10), 2) := by decide +kernel
theorem q69_94 : z_m69.2.2.2.2.2.lookup 94 = some (.iload_n 3, 1) := by decide +kernel
theorem q69_95 : z_m69.2.2.2.2.2.lookup 95 = some (.sipush 270, 3) := by decide +kernel
theorem q69_98 : z_m69.2.2.2.2.2.lookup 98 = some (.isub, 1) := by decide +kernel
theorem q69_99 : z_m69.2.2.2.2.2.lookup 99 = some (.isub, 1) := by decide +kernel
theorem q69_100 : z_m69.2.2.2.2.2.lookup 100 = some (.invokevirtual 44, 3) := by decide +kernel
theorem q69_103 : z_m69.2.2.2.2.2.lookup 103 = some (.aload_n 1, 1) := by decide +kernel
theorem q69_104 : z_m69.2.2.2.2.2.lookup 104 = some (.invokevirtual 41, 3) := by decide +kernel
theorem q69_107 : z_m69.2.2.2.2.2.lookup 107 = some (.iconst 1, 1) := by decide +kernel
theorem q69_108 : z_m69.2.2.2.2.2.lookup 108 = some (.ireturn, 1) := by decide +kernel
theorem q70_0 : z_m70.2.2.2.2.2.lookup 0 = some (.aload_n 1, 1) := by decide +kernel
theorem q70_1 : z_m70.2.2.2.2.2.lookup 1 = some (.invokevirtual 41, 3) := by decide +kernel
theorem q70_4 : z_m70.2.2.2.2.2.lookup 4 = some (.aload_n 0, 1) := by decide +kernel
theorem q70_5 : z_m70.2.2.2.2.2.lookup 5 = some (.aload_n 1, 1) := by decide +kernel
theorem q70_6 : z_m70.2.2.2.2.2.lookup 6 = some (.iload_n 2, 1) := by decide +kernel
theorem q70_7 : z_m70.2.2.2.2.2.lookup 7 = some (.invokevirtual 60, 3) := by decide +kernel
theorem q70_10 : z_m70.2.2.2.2.2.lookup 10 = some (.ifCond .ne 5, 3) := by decide +kernel
theorem q70_13 : z_m70.2.2.2.2.2.lookup 13 = some (.iconst 0, 1) := by decide +kernel
theorem q70_14 : z_m70.2.2.2.2.2.lookup 14 = some (.ireturn, 1) := by decide +kernel
theorem q70_15 : z_m70.2.2.2.2.2.lookup 15 = some (.aload_n 0, 1) := by decide +kernel
theorem q70_16 : z_m70.2.2.2.2.2.lookup 16 = some (.iconst (-1), 1) := by decide +kernel
theorem q70_17 : z_m70.2.2.2.2.2.lookup 17 = some (.invokevirtual 44, 3) := by decide +kernel
theorem q70_20 : z_m70.2.2.2.2.2.lookup 20 = some (.iconst 1, 1) := by decide +kernel
theorem q70_21 : z_m70.2.2.2.2.2.lookup 21 = some (.ireturn, 1) := by decide +kernel

theorem q170_0 : z_m170.2.2.2.2.2.lookup 0 = some (.iload_n 1, 1) := by decide +kernel
theorem q170_1 : z_m170.2.2.2.2.2.lookup 1 = some (.invokestatic 24, 3) := by decide +kernel
theorem q170_4 : z_m170.2.2.2.2.2.lookup 4 = some (.ifCond .eq 26, 3) := by decide +kernel
theorem q170_7 : z_m170.2.2.2.2.2.lookup 7 = some (.iload_n 2, 1) := by decide +kernel
theorem q170_8 : z_m170.2.2.2.2.2.lookup 8 = some (.invokestatic 105, 3) := by decide +kernel
theorem q170_11 : z_m170.2.2.2.2.2.lookup 11 = some (.ifCond .eq 19, 3) := by decide +kernel
theorem q170_14 : z_m170.2.2.2.2.2.lookup 14 = some (.iload_n 3, 1) := by decide +kernel
theorem q170_15 : z_m170.2.2.2.2.2.lookup 15 = some (.i2l, 1) := by decide +kernel
theorem q170_16 : z_m170.2.2.2.2.2.lookup 16 = some (.lconst 0, 1) := by decide +kernel
theorem q170_17 : z_m170.2.2.2.2.2.lookup 17 = some (.aload_n 0, 1) := by decide +kernel
theorem q170_18 : z_m170.2.2.2.2.2.lookup 18 = some (.getfield 229, 3) := by decide +kernel
theorem q170_21 : z_m170.2.2.2.2.2.lookup 21 = some (.iconst 1, 1) := by decide +kernel
theorem q170_22 : z_m170.2.2.2.2.2.lookup 22 = some (.isub, 1) := by decide +kernel
theorem q170_23 : z_m170.2.2.2.2.2.lookup 23 = some (.i2l, 1) := by decide +kernel
theorem q170_24 : z_m170.2.2.2.2.2.lookup 24 = some (.invokestatic 3, 3) := by decide +kernel
theorem q170_27 : z_m170.2.2.2.2.2.lookup 27 = some (.ifCond .ne 6, 3) := by decide +kernel
theorem q170_30 : z_m170.2.2.2.2.2.lookup 30 = some (.bipush (-2), 2) := by decide +kernel
theorem q170_32 : z_m170.2.2.2.2.2.lookup 32 = some (.ireturn, 1) := by decide +kernel
theorem q170_33 : z_m170.2.2.2.2.2.lookup 33 = some (.aload_n 0, 1) := by decide +kernel
theorem q170_34 : z_m170.2.2.2.2.2.lookup 34 = some (.getfield 355, 3) := by decide +kernel
theorem q170_37 : z_m170.2.2.2.2.2.lookup 37 = some (.bipush 20, 2) := by decide +kernel
theorem q170_39 : z_m170.2.2.2.2.2.lookup 39 = some (.if_icmp .ne 6, 3) := by decide +kernel
theorem q170_42 : z_m170.2.2.2.2.2.lookup 42 = some (.bipush (-4), 2) := by decide +kernel
theorem q170_44 : z_m170.2.2.2.2.2.lookup 44 = some (.ireturn, 1) := by decide +kernel
theorem q170_45 : z_m170.2.2.2.2.2.lookup 45 = some (.aload_n 0, 1) := by decide +kernel
theorem q170_46 : z_m170.2.2.2.2.2.lookup 46 = some (.getfield 256, 3) := by decide +kernel
theorem q170_49 : z_m170.2.2.2.2.2.lookup 49 = some (.aload_n 0, 1) := by decide +kernel
theorem q170_50 : z_m170.2.2.2.2.2.lookup 50 = some (.getfield 355, 3) := by decide +kernel
theorem q170_53 : z_m170.2.2.2.2.2.lookup 53 = some (.iload_n 1, 1) := by decide +kernel
theorem q170_54 : z_m170.2.2.2.2.2.lookup 54 = some (.iastore, 1) := by decide +kernel
theorem q170_55 : z_m170.2.2.2.2.2.lookup 55 = some (.aload_n 0, 1) := by decide +kernel
theorem q170_56 : z_m170.2.2.2.2.2.lookup 56 = some (.getfield 259, 3) := by decide +kernel
theorem q170_59 : z_m170.2.2.2.2.2.lookup 59 = some (.aload_n 0, 1) := by decide +kernel
theorem q170_60 : z_m170.2.2.2.2.2.lookup 60 = some (.getfield 355, 3) := by decide +kernel
theorem q170_63 : z_m170.2.2.2.2.2.lookup 63 = some (.iload_n 2, 1) := by decide +kernel
theorem q170_64 : z_m170.2.2.2.2.2.lookup 64 = some (.iastore, 1) := by decide +kernel
theorem q170_65 : z_m170.2.2.2.2.2.lookup 65 = some (.aload_n 0, 1) := by decide +kernel
theorem q170_66 : z_m170.2.2.2.2.2.lookup 66 = some (.getfield 262, 3) := by decide +kernel
theorem q170_69 : z_m170.2.2.2.2.2.lookup 69 = some (.aload_n 0, 1) := by decide +kernel
theorem q170_70 : z_m170.2.2.2.2.2.lookup 70 = some (.getfield 355, 3) := by decide +kernel
theorem q170_73 : z_m170.2.2.2.2.2.lookup 73 = some (.iload_n 3, 1) := by decide +kernel
theorem q170_74 : z_m170.2.2.2.2.2.lookup 74 = some (.iastore, 1) := by decide +kernel
theorem q170_75 : z_m170.2.2.2.2.2.lookup 75 = some (.aload_n 0, 1) := by decide +kernel
theorem q170_76 : z_m170.2.2.2.2.2.lookup 76 = some (.dup, 1) := by decide +kernel
theorem q170_77 : z_m170.2.2.2.2.2.lookup 77 = some (.getfield 355, 3) := by decide +kernel
theorem q170_80 : z_m170.2.2.2.2.2.lookup 80 = some (.iconst 1, 1) := by decide +kernel
theorem q170_81 : z_m170.2.2.2.2.2.lookup 81 = some (.iadd, 1) := by decide +kernel
theorem q170_82 : z_m170.2.2.2.2.2.lookup 82 = some (.putfield 355, 3) := by decide +kernel
theorem q170_85 : z_m170.2.2.2.2.2.lookup 85 = some (.aload_n 0, 1) := by decide +kernel
theorem q170_86 : z_m170.2.2.2.2.2.lookup 86 = some (.getfield 355, 3) := by decide +kernel
theorem q170_89 : z_m170.2.2.2.2.2.lookup 89 = some (.ireturn, 1) := by decide +kernel
theorem q171_0 : z_m171.2.2.2.2.2.lookup 0 = some (.iconst (-1), 1) := by decide +kernel
theorem q171_1 : z_m171.2.2.2.2.2.lookup 1 = some (.istore_n 3, 1) := by decide +kernel
theorem q171_2 : z_m171.2.2.2.2.2.lookup 2 = some (.iconst 0, 1) := by decide +kernel
theorem q171_3 : z_m171.2.2.2.2.2.lookup 3 = some (.istore 4, 2) := by decide +kernel
theorem q171_5 : z_m171.2.2.2.2.2.lookup 5 = some (.iconst 0, 1) := by decide +kernel
theorem q171_6 : z_m171.2.2.2.2.2.lookup 6 = some (.istore 5, 2) := by decide +kernel
theorem q171_8 : z_m171.2.2.2.2.2.lookup 8 = some (.iload 5, 2) := by decide +kernel
theorem q171_10 : z_m171.2.2.2.2.2.lookup 10 = some (.aload_n 0, 1) := by decide +kernel
theorem q171_11 : z_m171.2.2.2.2.2.lookup 11 = some (.getfield 355, 3) := by decide +kernel
theorem q171_14 : z_m171.2.2.2.2.2.lookup 14 = some (.if_icmp .ge 59, 3) := by decide +kernel
theorem q171_17 : z_m171.2.2.2.2.2.lookup 17 = some (.aload_n 0, 1) := by decide +kernel
theorem q171_18 : z_m171.2.2.2.2.2.lookup 18 = some (.getfield 256, 3) := by decide +kernel
theorem q171_21 : z_m171.2.2.2.2.2.lookup 21 = some (.iload 5, 2) := by decide +kernel
theorem q171_23 : z_m171.2.2.2.2.2.lookup 23 = some (.iaload, 1) := by decide +kernel
theorem q171_24 : z_m171.2.2.2.2.2.lookup 24 = some (.iload_n 1, 1) := by decide +kernel
theorem q171_25 : z_m171.2.2.2.2.2.lookup 25 = some (.if_icmp .ne 42, 3) := by decide +kernel
theorem q171_28 : z_m171.2.2.2.2.2.lookup 28 = some (.aload_n 0, 1) := by decide +kernel
theorem q171_29 : z_m171.2.2.2.2.2.lookup 29 = some (.getfield 259, 3) := by decide +kernel
theorem q171_32 : z_m171.2.2.2.2.2.lookup 32 = some (.iload 5, 2) := by decide +kernel
theorem q171_34 : z_m171.2.2.2.2.2.lookup 34 = some (.iaload, 1) := by decide +kernel
theorem q171_35 : z_m171.2.2.2.2.2.lookup 35 = some (.iload_n 2, 1) := by decide +kernel
theorem q171_36 : z_m171.2.2.2.2.2.lookup 36 = some (.if_icmp .gt 31, 3) := by decide +kernel
theorem q171_39 : z_m171.2.2.2.2.2.lookup 39 = some (.aload_n 0, 1) := by decide +kernel
theorem q171_40 : z_m171.2.2.2.2.2.lookup 40 = some (.getfield 259, 3) := by decide +kernel
theorem q171_43 : z_m171.2.2.2.2.2.lookup 43 = some (.iload 5, 2) := by decide +kernel
theorem q171_45 : z_m171.2.2.2.2.2.lookup 45 = some (.iaload, 1) := by decide +kernel
theorem q171_46 : z_m171.2.2.2.2.2.lookup 46 = some (.iload_n 3, 1) := by decide +kernel
theorem q171_47 : z_m171.2.2.2.2.2.lookup 47 = some (.if_icmp .lt 20, 3) := by decide +kernel
theorem q171_50 : z_m171.2.2.2.2.2.lookup 50 = some (.aload_n 0, 1) := by decide +kernel
theorem q171_51 : z_m171.2.2.2.2.2.lookup 51 = some (.getfield 259, 3) := by decide +kernel
theorem q171_54 : z_m171.2.2.2.2.2.lookup 54 = some (.iload 5, 2) := by decide +kernel
theorem q171_56 : z_m171.2.2.2.2.2.lookup 56 = some (.iaload, 1) := by decide +kernel
theorem q171_57 : z_m171.2.2.2.2.2.lookup 57 = some (.istore_n 3, 1) := by decide +kernel
theorem q171_58 : z_m171.2.2.2.2.2.lookup 58 = some (.aload_n 0, 1) := by decide +kernel
theorem q171_59 : z_m171.2.2.2.2.2.lookup 59 = some (.getfield 262, 3) := by decide +kernel
theorem q171_62 : z_m171.2.2.2.2.2.lookup 62 = some (.iload 5, 2) := by decide +kernel
theorem q171_64 : z_m171.2.2.2.2.2.lookup 64 = some (.iaload, 1) := by decide +kernel
theorem q171_65 : z_m171.2.2.2.2.2.lookup 65 = some (.istore 4, 2) := by decide +kernel
theorem q171_67 : z_m171.2.2.2.2.2.lookup 67 = some (.iinc 5 1, 3) := by decide +kernel
theorem q171_70 : z_m171.2.2.2.2.2.lookup 70 = some (.goto (-62), 3) := by decide +kernel
theorem q171_73 : z_m171.2.2.2.2.2.lookup 73 = some (.iload 4, 2) := by decide +kernel
theorem q171_75 : z_m171.2.2.2.2.2.lookup 75 = some (.ireturn, 1) := by decide +kernel
theorem q172_0 : z_m172.2.2.2.2.2.lookup 0 = some (.iload_n 1, 1) := by decide +kernel
theorem q172_1 : z_m172.2.2.2.2.2.lookup 1 = some (.invokestatic 24, 3) := by decide +kernel
theorem q172_4 : z_m172.2.2.2.2.2.lookup 4 = some (.ifCond .eq 19, 3) := by decide +kernel
theorem q172_7 : z_m172.2.2.2.2.2.lookup 7 = some (.iload_n 2, 1) := by decide +kernel
theorem q172_8 : z_m172.2.2.2.2.2.lookup 8 = some (.invokestatic 105, 3) := by decide +kernel
theorem q172_11 : z_m172.2.2.2.2.2.lookup 11 = some (.ifCond .eq 12, 3) := by decide +kernel
theorem q172_14 : z_m172.2.2.2.2.2.lookup 14 = some (.aload_n 0, 1) := by decide +kernel
theorem q172_15 : z_m172.2.2.2.2.2.lookup 15 = some (.iload_n 1, 1) := by decide +kernel
theorem q172_16 : z_m172.2.2.2.2.2.lookup 16 = some (.iload_n 2, 1) := by decide +kernel
theorem q172_17 : z_m172.2.2.2.2.2.lookup 17 = some (.invokevirtual 239, 3) := by decide +kernel
theorem q172_20 : z_m172.2.2.2.2.2.lookup 20 = some (.goto 5, 3) := by decide +kernel
theorem q172_23 : z_m172.2.2.2.2.2.lookup 23 = some (.bipush (-2), 2) := by decide +kernel
theorem q172_25 : z_m172.2.2.2.2.2.lookup 25 = some (.ireturn, 1) := by decide +kernel
theorem q173_0 : z_m173.2.2.2.2.2.lookup 0 = some (.aload_n 0, 1) := by decide +kernel
theorem q173_1 : z_m173.2.2.2.2.2.lookup 1 = some (.iload_n 1, 1) := by decide +kernel
theorem q173_2 : z_m173.2.2.2.2.2.lookup 2 = some (.invokevirtual 73, 3) := by decide +kernel
theorem q173_5 : z_m173.2.2.2.2.2.lookup 5 = some (.ifCond .eq 25, 3) := by decide +kernel
theorem q173_8 : z_m173.2.2.2.2.2.lookup 8 = some (.iload_n 2, 1) := by decide +kernel
theorem q173_9 : z_m173.2.2.2.2.2.lookup 9 = some (.i2l, 1) := by decide +kernel
theorem q173_10 : z_m173.2.2.2.2.2.lookup 10 = some (.lconst 0, 1) := by decide +kernel
theorem q173_11 : z_m173.2.2.2.2.2.lookup 11 = some (.ldc2_w 358, 3) := by decide +kernel
theorem q173_14 : z_m173.2.2.2.2.2.lookup 14 = some (.invokestatic 3, 3) := by decide +kernel
theorem q173_17 : z_m173.2.2.2.2.2.lookup 17 = some (.ifCond .eq 13, 3) := by decide +kernel
theorem q173_20 : z_m173.2.2.2.2.2.lookup 20 = some (.aload_n 0, 1) := by decide +kernel
theorem q173_21 : z_m173.2.2.2.2.2.lookup 21 = some (.iload_n 2, 1) := by decide +kernel
theorem q173_22 : z_m173.2.2.2.2.2.lookup 22 = some (.iload_n 1, 1) := by decide +kernel
theorem q173_23 : z_m173.2.2.2.2.2.lookup 23 = some (.invokevirtual 360, 3) := by decide +kernel
theorem q173_26 : z_m173.2.2.2.2.2.lookup 26 = some (.i2l, 1) := by decide +kernel
theorem q173_27 : z_m173.2.2.2.2.2.lookup 27 = some (.goto 6, 3) := by decide +kernel
theorem q173_30 : z_m173.2.2.2.2.2.lookup 30 = some (.ldc2_w 363, 3) := by decide +kernel
theorem q173_33 : z_m173.2.2.2.2.2.lookup 33 = some (.lreturn, 1) := by decide +kernel
theorem q174_0 : z_m174.2.2.2.2.2.lookup 0 = some (.iload_n 0, 1) := by decide +kernel
theorem q174_1 : z_m174.2.2.2.2.2.lookup 1 = some (.invokestatic 105, 3) := by decide +kernel
theorem q174_4 : z_m174.2.2.2.2.2.lookup 4 = some (.ifCond .eq 19, 3) := by decide +kernel
theorem q174_7 : z_m174.2.2.2.2.2.lookup 7 = some (.iload_n 1, 1) := by decide +kernel
theorem q174_8 : z_m174.2.2.2.2.2.lookup 8 = some (.invokestatic 105, 3) := by decide +kernel
theorem q174_11 : z_m174.2.2.2.2.2.lookup 11 = some (.ifCond .eq 12, 3) := by decide +kernel
theorem q174_14 : z_m174.2.2.2.2.2.lookup 14 = some (.iload_n 0, 1) := by decide +kernel
theorem q174_15 : z_m174.2.2.2.2.2.lookup 15 = some (.iload_n 1, 1) := by decide +kernel
theorem q174_16 : z_m174.2.2.2.2.2.lookup 16 = some (.if_icmp .gt 7, 3) := by decide +kernel
theorem q174_19 : z_m174.2.2.2.2.2.lookup 19 = some (.iconst 1, 1) := by decide +kernel
theorem q174_20 : z_m174.2.2.2.2.2.lookup 20 = some (.goto 4, 3) := by decide +kernel
theorem q174_23 : z_m174.2.2.2.2.2.lookup 23 = some (.iconst 0, 1) := by decide +kernel
theorem q174_24 : z_m174.2.2.2.2.2.lookup 24 = some (.ireturn, 1) := by decide +kernel
theorem q175_0 : z_m175.2.2.2.2.2.lookup 0 = some (.aload_n 0, 1) := by decide +kernel
theorem q175_1 : z_m175.2.2.2.2.2.lookup 1 = some (.getfield 39, 3) := by decide +kernel
theorem q175_4 : z_m175.2.2.2.2.2.lookup 4 = some (.iload_n 1, 1) := by decide +kernel
theorem q175_5 : z_m175.2.2.2.2.2.lookup 5 = some (.iaload, 1) := by decide +kernel
theorem q175_6 : z_m175.2.2.2.2.2.lookup 6 = some (.iload_n 2, 1) := by decide +kernel
theorem q175_7 : z_m175.2.2.2.2.2.lookup 7 = some (.if_icmp .ne 28, 3) := by decide +kernel
theorem q175_10 : z_m175.2.2.2.2.2.lookup 10 = some (.aload_n 0, 1) := by decide +kernel
theorem q175_11 : z_m175.2.2.2.2.2.lookup 11 = some (.getfield 54, 3) := by decide +kernel
theorem q175_14 : z_m175.2.2.2.2.2.lookup 14 = some (.iload_n 1, 1) := by decide +kernel
theorem q175_15 : z_m175.2.2.2.2.2.lookup 15 = some (.iaload, 1) := by decide +kernel
theorem q175_16 : z_m175.2.2.2.2.2.lookup 16 = some (.iload_n 3, 1) := by decide +kernel
theorem q175_17 : z_m175.2.2.2.2.2.lookup 17 = some (.if_icmp .lt 18, 3) := by decide +kernel
theorem q175_20 : z_m175.2.2.2.2.2.lookup 20 = some (.aload_n 0, 1) := by decide +kernel
theorem q175_21 : z_m175.2.2.2.2.2.lookup 21 = some (.getfield 54, 3) := by decide +kernel
theorem q175_24 : z_m175.2.2.2.2.2.lookup 24 = some (.iload_n 1, 1) := by decide +kernel
theorem q175_25 : z_m175.2.2.2.2.2.lookup 25 = some (.iaload, 1) := by decide +kernel
theorem q175_26 : z_m175.2.2.2.2.2.lookup 26 = some (.iload 4, 2) := by decide +kernel
theorem q175_28 : z_m175.2.2.2.2.2.lookup 28 = some (.if_icmp .gt 7, 3) := by decide +kernel
theorem q175_31 : z_m175.2.2.2.2.2.lookup 31 = some (.iconst 1, 1) := by decide +kernel
theorem q175_32 : z_m175.2.2.2.2.2.lookup 32 = some (.goto 4, 3) := by decide +kernel
theorem q175_35 : z_m175.2.2.2.2.2.lookup 35 = some (.iconst 0, 1) := by decide +kernel
theorem q175_36 : z_m175.2.2.2.2.2.lookup 36 = some (.ireturn, 1) := by decide +kernel
theorem q176_0 : z_m176.2.2.2.2.2.lookup 0 = some (.iload_n 1, 1) := by decide +kernel
theorem q176_1 : z_m176.2.2.2.2.2.lookup 1 = some (.invokestatic 24, 3) := by decide +kernel
theorem q176_4 : z_m176.2.2.2.2.2.lookup 4 = some (.ifCond .eq 11, 3) := by decide +kernel
theorem q176_7 : z_m176.2.2.2.2.2.lookup 7 = some (.iload_n 2, 1) := by decide +kernel
theorem q176_8 : z_m176.2.2.2.2.2.lookup 8 = some (.iload_n 3, 1) := by decide +kernel
theorem q176_9 : z_m176.2.2.2.2.2.lookup 9 = some (.invokestatic 365, 3) := by decide +kernel
theorem q176_12 : z_m176.2.2.2.2.2.lookup 12 = some (.ifCond .ne 7, 3) := by decide +kernel
theorem q176_15 : z_m176.2.2.2.2.2.lookup 15 = some (.ldc2_w 363, 3) := by decide +kernel
theorem q176_18 : z_m176.2.2.2.2.2.lookup 18 = some (.lreturn, 1) := by decide +kernel
theorem q176_19 : z_m176.2.2.2.2.2.lookup 19 = some (.lconst 0, 1) := by decide +kernel
theorem q176_20 : z_m176.2.2.2.2.2.lookup 20 = some (.lstore 4, 2) := by decide +kernel
theorem q176_22 : z_m176.2.2.2.2.2.lookup 22 = some (.iconst 0, 1) := by decide +kernel
theorem q176_23 : z_m176.2.2.2.2.2.lookup 23 = some (.istore 6, 2) := by decide +kernel
theorem q176_25 : z_m176.2.2.2.2.2.lookup 25 = some (.iload 6, 2) := by decide +kernel
theorem q176_27 : z_m176.2.2.2.2.2.lookup 27 = some (.aload_n 0, 1) := by decide +kernel
theorem q176_28 : z_m176.2.2.2.2.2.lookup 28 = some (.getfield 21, 3) := by decide +kernel
theorem q176_31 : z_m176.2.2.2.2.2.lookup 31 = some (.if_icmp .ge 51, 3) := by decide +kernel
theorem q176_34 : z_m176.2.2.2.2.2.lookup 34 = some (.aload_n 0, 1) := by decide +kernel
theorem q176_35 : z_m176.2.2.2.2.2.lookup 35 = some (.iload 6, 2) := by decide +kernel
theorem q176_37 : z_m176.2.2.2.2.2.lookup 37 = some (.iload_n 1, 1) := by decide +kernel
theorem q176_38 : z_m176.2.2.2.2.2.lookup 38 = some (.iload_n 2, 1) := by decide +kernel
theorem q176_39 : z_m176.2.2.2.2.2.lookup 39 = some (.iload_n 3, 1) := by decide +kernel
theorem q176_40 : z_m176.2.2.2.2.2.lookup 40 = some (.invokevirtual 369, 3) := by decide +kernel
theorem q176_43 : z_m176.2.2.2.2.2.lookup 43 = some (.ifCond .eq 33, 3) := by decide +kernel
theorem q176_46 : z_m176.2.2.2.2.2.lookup 46 = some (.lload 4, 2) := by decide +kernel
theorem q176_48 : z_m176.2.2.2.2.2.lookup 48 = some (.aload_n 0, 1) := by decide +kernel
theorem q176_49 : z_m176.2.2.2.2.2.lookup 49 = some (.iconst 0, 1) := by decide +kernel
theorem q176_50 : z_m176.2.2.2.2.2.lookup 50 = some (.iload 6, 2) := by decide +kernel
theorem q176_52 : z_m176.2.2.2.2.2.lookup 52 = some (.invokevirtual 360, 3) := by decide +kernel
theorem q176_55 : z_m176.2.2.2.2.2.lookup 55 = some (.i2l, 1) := by decide +kernel
theorem q176_56 : z_m176.2.2.2.2.2.lookup 56 = some (.ladd, 1) := by decide +kernel
theorem q176_57 : z_m176.2.2.2.2.2.lookup 57 = some (.lstore 4, 2) := by decide +kernel
theorem q176_59 : z_m176.2.2.2.2.2.lookup 59 = some (.lload 4, 2) := by decide +kernel
theorem q176_61 : z_m176.2.2.2.2.2.lookup 61 = some (.iconst 0, 1) := by decide +kernel
theorem q176_62 : z_m176.2.2.2.2.2.lookup 62 = some (.aload_n 0, 1) := by decide +kernel
theorem q176_63 : z_m176.2.2.2.2.2.lookup 63 = some (.iconst 1, 1) := by decide +kernel
theorem q176_64 : z_m176.2.2.2.2.2.lookup 64 = some (.iload 6, 2) := by decide +kernel
theorem q176_66 : z_m176.2.2.2.2.2.lookup 66 = some (.invokevirtual 360, 3) := by decide +kernel
theorem q176_69 : z_m176.2.2.2.2.2.lookup 69 = some (.invokestatic 373, 3) := by decide +kernel
theorem q176_72 : z_m176.2.2.2.2.2.lookup 72 = some (.i2l, 1) := by decide +kernel
theorem q176_73 : z_m176.2.2.2.2.2.lookup 73 = some (.lsub, 1) := by decide +kernel
theorem q176_74 : z_m176.2.2.2.2.2.lookup 74 = some (.lstore 4, 2) := by decide +kernel
theorem q176_76 : z_m176.2.2.2.2.2.lookup 76 = some (.iinc 6 1, 3) := by decide +kernel
theorem q176_79 : z_m176.2.2.2.2.2.lookup 79 = some (.goto (-54), 3) := by decide +kernel
theorem q176_82 : z_m176.2.2.2.2.2.lookup 82 = some (.lload 4, 2) := by decide +kernel
theorem q176_84 : z_m176.2.2.2.2.2.lookup 84 = some (.lreturn, 1) := by decide +kernel
theorem q177_0 : z_m177.2.2.2.2.2.lookup 0 = some (.aload_n 0, 1) := by decide +kernel
theorem q177_1 : z_m177.2.2.2.2.2.lookup 1 = some (.iload_n 1, 1) := by decide +kernel
theorem q177_2 : z_m177.2.2.2.2.2.lookup 2 = some (.invokevirtual 73, 3) := by decide +kernel
theorem q177_5 : z_m177.2.2.2.2.2.lookup 5 = some (.ifCond .eq 27, 3) := by decide +kernel
theorem q177_8 : z_m177.2.2.2.2.2.lookup 8 = some (.iload_n 2, 1) := by decide +kernel
theorem q177_9 : z_m177.2.2.2.2.2.lookup 9 = some (.i2l, 1) := by decide +kernel
theorem q177_10 : z_m177.2.2.2.2.2.lookup 10 = some (.lconst 0, 1) := by decide +kernel
theorem q177_11 : z_m177.2.2.2.2.2.lookup 11 = some (.ldc2_w 378, 3) := by decide +kernel
theorem q177_14 : z_m177.2.2.2.2.2.lookup 14 = some (.invokestatic 3, 3) := by decide +kernel
theorem q177_17 : z_m177.2.2.2.2.2.lookup 17 = some (.ifCond .eq 15, 3) := by decide +kernel
theorem q177_20 : z_m177.2.2.2.2.2.lookup 20 = some (.iload_n 3, 1) := by decide +kernel
theorem q177_21 : z_m177.2.2.2.2.2.lookup 21 = some (.i2l, 1) := by decide +kernel
theorem q177_22 : z_m177.2.2.2.2.2.lookup 22 = some (.lconst 0, 1) := by decide +kernel
theorem q177_23 : z_m177.2.2.2.2.2.lookup 23 = some (.ldc2_w 31, 3) := by decide +kernel
theorem q177_26 : z_m177.2.2.2.2.2.lookup 26 = some (.invokestatic 3, 3) := by decide +kernel
theorem q177_29 : z_m177.2.2.2.2.2.lookup 29 = some (.ifCond .ne 6, 3) := by decide +kernel
theorem q177_32 : z_m177.2.2.2.2.2.lookup 32 = some (.bipush (-2), 2) := by decide +kernel
theorem q177_34 : z_m177.2.2.2.2.2.lookup 34 = some (.ireturn, 1) := by decide +kernel
theorem q177_35 : z_m177.2.2.2.2.2.lookup 35 = some (.aload_n 0, 1) := by decide +kernel
theorem q177_36 : z_m177.2.2.2.2.2.lookup 36 = some (.getfield 380, 3) := by decide +kernel
theorem q177_39 : z_m177.2.2.2.2.2.lookup 39 = some (.bipush 20, 2) := by decide +kernel
theorem q177_41 : z_m177.2.2.2.2.2.lookup 41 = some (.if_icmp .ne 6, 3) := by decide +kernel
theorem q177_44 : z_m177.2.2.2.2.2.lookup 44 = some (.bipush (-4), 2) := by decide +kernel
theorem q177_46 : z_m177.2.2.2.2.2.lookup 46 = some (.ireturn, 1) := by decide +kernel
theorem q177_47 : z_m177.2.2.2.2.2.lookup 47 = some (.aload_n 0, 1) := by decide +kernel
theorem q177_48 : z_m177.2.2.2.2.2.lookup 48 = some (.getfield 265, 3) := by decide +kernel
theorem q177_51 : z_m177.2.2.2.2.2.lookup 51 = some (.aload_n 0, 1) := by decide +kernel
theorem q177_52 : z_m177.2.2.2.2.2.lookup 52 = some (.getfield 380, 3) := by decide +kernel
theorem q177_55 : z_m177.2.2.2.2.2.lookup 55 = some (.iload_n 1, 1) := by decide +kernel
theorem q177_56 : z_m177.2.2.2.2.2.lookup 56 = some (.iastore, 1) := by decide +kernel
theorem q177_57 : z_m177.2.2.2.2.2.lookup 57 = some (.aload_n 0, 1) := by decide +kernel
theorem q177_58 : z_m177.2.2.2.2.2.lookup 58 = some (.getfield 268, 3) := by decide +kernel
theorem q177_61 : z_m177.2.2.2.2.2.lookup 61 = some (.aload_n 0, 1) := by decide +kernel
theorem q177_62 : z_m177.2.2.2.2.2.lookup 62 = some (.getfield 380, 3) := by decide +kernel
theorem q177_65 : z_m177.2.2.2.2.2.lookup 65 = some (.iload_n 2, 1) := by decide +kernel
theorem q177_66 : z_m177.2.2.2.2.2.lookup 66 = some (.iastore, 1) := by decide +kernel
theorem q177_67 : z_m177.2.2.2.2.2.lookup 67 = some (.aload_n 0, 1) := by decide +kernel
theorem q177_68 : z_m177.2.2.2.2.2.lookup 68 = some (.getfield 271, 3) := by decide +kernel
theorem q177_71 : z_m177.2.2.2.2.2.lookup 71 = some (.aload_n 0, 1) := by decide +kernel
theorem q177_72 : z_m177.2.2.2.2.2.lookup 72 = some (.getfield 380, 3) := by decide +kernel
theorem q177_75 : z_m177.2.2.2.2.2.lookup 75 = some (.iload_n 3, 1) := by decide +kernel
theorem q177_76 : z_m177.2.2.2.2.2.lookup 76 = some (.iastore, 1) := by decide +kernel
theorem q177_77 : z_m177.2.2.2.2.2.lookup 77 = some (.aload_n 0, 1) := by decide +kernel
theorem q177_78 : z_m177.2.2.2.2.2.lookup 78 = some (.dup, 1) := by decide +kernel
theorem q177_79 : z_m177.2.2.2.2.2.lookup 79 = some (.getfield 380, 3) := by decide +kernel
theorem q177_82 : z_m177.2.2.2.2.2.lookup 82 = some (.iconst 1, 1) := by decide +kernel
theorem q177_83 : z_m177.2.2.2.2.2.lookup 83 = some (.iadd, 1) := by decide +kernel
theorem q177_84 : z_m177.2.2.2.2.2.lookup 84 = some (.putfield 380, 3) := by decide +kernel
theorem q177_87 : z_m177.2.2.2.2.2.lookup 87 = some (.aload_n 0, 1) := by decide +kernel
theorem q177_88 : z_m177.2.2.2.2.2.lookup 88 = some (.getfield 380, 3) := by decide +kernel
theorem q177_91 : z_m177.2.2.2.2.2.lookup 91 = some (.iconst 1, 1) := by decide +kernel
theorem q177_92 : z_m177.2.2.2.2.2.lookup 92 = some (.isub, 1) := by decide +kernel
theorem q177_93 : z_m177.2.2.2.2.2.lookup 93 = some (.ireturn, 1) := by decide +kernel
theorem q178_0 : z_m178.2.2.2.2.2.lookup 0 = some (.aload_n 0, 1) := by decide +kernel
theorem q178_1 : z_m178.2.2.2.2.2.lookup 1 = some (.iconst 2, 1) := by decide +kernel
theorem q178_2 : z_m178.2.2.2.2.2.lookup 2 = some (.aload_n 0, 1) := by decide +kernel
theorem q178_3 : z_m178.2.2.2.2.2.lookup 3 = some (.getfield 265, 3) := by decide +kernel
theorem q178_6 : z_m178.2.2.2.2.2.lookup 6 = some (.iload_n 1, 1) := by decide +kernel
theorem q178_7 : z_m178.2.2.2.2.2.lookup 7 = some (.iaload, 1) := by decide +kernel
theorem q178_8 : z_m178.2.2.2.2.2.lookup 8 = some (.invokevirtual 360, 3) := by decide +kernel
theorem q178_11 : z_m178.2.2.2.2.2.lookup 11 = some (.iconst 3, 1) := by decide +kernel
theorem q178_12 : z_m178.2.2.2.2.2.lookup 12 = some (.invokestatic 383, 3) := by decide +kernel
theorem q178_15 : z_m178.2.2.2.2.2.lookup 15 = some (.ireturn, 1) := by decide +kernel
theorem q179_0 : z_m179.2.2.2.2.2.lookup 0 = some (.iload_n 1, 1) := by decide +kernel
theorem q179_1 : z_m179.2.2.2.2.2.lookup 1 = some (.ifCond .lt 19, 3) := by decide +kernel
theorem q179_4 : z_m179.2.2.2.2.2.lookup 4 = some (.iload_n 1, 1) := by decide +kernel
theorem q179_5 : z_m179.2.2.2.2.2.lookup 5 = some (.aload_n 0, 1) := by decide +kernel
theorem q179_6 : z_m179.2.2.2.2.2.lookup 6 = some (.getfield 380, 3) := by decide +kernel
theorem q179_9 : z_m179.2.2.2.2.2.lookup 9 = some (.if_icmp .ge 11, 3) := by decide +kernel
theorem q179_12 : z_m179.2.2.2.2.2.lookup 12 = some (.aload_n 0, 1) := by decide +kernel
theorem q179_13 : z_m179.2.2.2.2.2.lookup 13 = some (.iload_n 1, 1) := by decide +kernel
theorem q179_14 : z_m179.2.2.2.2.2.lookup 14 = some (.invokevirtual 386, 3) := by decide +kernel
theorem q179_17 : z_m179.2.2.2.2.2.lookup 17 = some (.goto 5, 3) := by decide +kernel
theorem q179_20 : z_m179.2.2.2.2.2.lookup 20 = some (.bipush (-2), 2) := by decide +kernel
theorem q179_22 : z_m179.2.2.2.2.2.lookup 22 = some (.ireturn, 1) := by decide +kernel
theorem q180_0 : z_m180.2.2.2.2.2.lookup 0 = some (.iload_n 1, 1) := by decide +kernel
theorem q180_1 : z_m180.2.2.2.2.2.lookup 1 = some (.i2l, 1) := by decide +kernel
theorem q180_2 : z_m180.2.2.2.2.2.lookup 2 = some (.lconst 0, 1) := by decide +kernel
theorem q180_3 : z_m180.2.2.2.2.2.lookup 3 = some (.ldc2_w 389, 3) := by decide +kernel
theorem q180_6 : z_m180.2.2.2.2.2.lookup 6 = some (.invokestatic 3, 3) := by decide +kernel
theorem q180_9 : z_m180.2.2.2.2.2.lookup 9 = some (.ifCond .ne 7, 3) := by decide +kernel
theorem q180_12 : z_m180.2.2.2.2.2.lookup 12 = some (.ldc2_w 363, 3) := by decide +kernel
theorem q180_15 : z_m180.2.2.2.2.2.lookup 15 = some (.lreturn, 1) := by decide +kernel
theorem q180_16 : z_m180.2.2.2.2.2.lookup 16 = some (.lconst 0, 1) := by decide +kernel
theorem q180_17 : z_m180.2.2.2.2.2.lookup 17 = some (.lstore_n 2, 1) := by decide +kernel
theorem q180_18 : z_m180.2.2.2.2.2.lookup 18 = some (.iconst 0, 1) := by decide +kernel
theorem q180_19 : z_m180.2.2.2.2.2.lookup 19 = some (.istore 4, 2) := by decide +kernel
theorem q180_21 : z_m180.2.2.2.2.2.lookup 21 = some (.iload 4, 2) := by decide +kernel
theorem q180_23 : z_m180.2.2.2.2.2.lookup 23 = some (.aload_n 0, 1) := by decide +kernel
theorem q180_24 : z_m180.2.2.2.2.2.lookup 24 = some (.getfield 380, 3) := by decide +kernel
theorem q180_27 : z_m180.2.2.2.2.2.lookup 27 = some (.if_icmp .ge 107, 3) := by decide +kernel
theorem q180_30 : z_m180.2.2.2.2.2.lookup 30 = some (.aload_n 0, 1) := by decide +kernel
theorem q180_31 : z_m180.2.2.2.2.2.lookup 31 = some (.iload 4, 2) := by decide +kernel
theorem q180_33 : z_m180.2.2.2.2.2.lookup 33 = some (.invokevirtual 386, 3) := by decide +kernel
theorem q180_36 : z_m180.2.2.2.2.2.lookup 36 = some (.istore 5, 2) := by decide +kernel
theorem q180_38 : z_m180.2.2.2.2.2.lookup 38 = some (.iload 5, 2) := by decide +kernel
theorem q180_40 : z_m180.2.2.2.2.2.lookup 40 = some (.ifCond .ne 22, 3) := by decide +kernel
theorem q180_43 : z_m180.2.2.2.2.2.lookup 43 = some (.iload_n 1, 1) := by decide +kernel
theorem q180_44 : z_m180.2.2.2.2.2.lookup 44 = some (.aload_n 0, 1) := by decide +kernel
theorem q180_45 : z_m180.2.2.2.2.2.lookup 45 = some (.getfield 268, 3) := by decide +kernel
theorem q180_48 : z_m180.2.2.2.2.2.lookup 48 = some (.iload 4, 2) := by decide +kernel
theorem q180_50 : z_m180.2.2.2.2.2.lookup 50 = some (.iaload, 1) := by decide +kernel
theorem q180_51 : z_m180.2.2.2.2.2.lookup 51 = some (.if_icmp .ne 7, 3) := by decide +kernel
theorem q180_54 : z_m180.2.2.2.2.2.lookup 54 = some (.iconst 1, 1) := by decide +kernel
theorem q180_55 : z_m180.2.2.2.2.2.lookup 55 = some (.goto 51, 3) := by decide +kernel
theorem q180_58 : z_m180.2.2.2.2.2.lookup 58 = some (.iconst 0, 1) := by decide +kernel
theorem q180_59 : z_m180.2.2.2.2.2.lookup 59 = some (.goto 47, 3) := by decide +kernel
theorem q180_62 : z_m180.2.2.2.2.2.lookup 62 = some (.iload 5, 2) := by decide +kernel
theorem q180_64 : z_m180.2.2.2.2.2.lookup 64 = some (.iconst 1, 1) := by decide +kernel
theorem q180_65 : z_m180.2.2.2.2.2.lookup 65 = some (.if_icmp .ne 17, 3) := by decide +kernel
theorem q180_68 : z_m180.2.2.2.2.2.lookup 68 = some (.iload_n 1, 1) := by decide +kernel
theorem q180_69 : z_m180.2.2.2.2.2.lookup 69 = some (.bipush 10, 2) := by decide +kernel
theorem q180_71 : z_m180.2.2.2.2.2.lookup 71 = some (.if_icmp .ne 7, 3) := by decide +kernel
theorem q180_74 : z_m180.2.2.2.2.2.lookup 74 = some (.iconst 1, 1) := by decide +kernel
theorem q180_75 : z_m180.2.2.2.2.2.lookup 75 = some (.goto 31, 3) := by decide +kernel
theorem q180_78 : z_m180.2.2.2.2.2.lookup 78 = some (.iconst 0, 1) := by decide +kernel
theorem q180_79 : z_m180.2.2.2.2.2.lookup 79 = some (.goto 27, 3) := by decide +kernel
theorem q180_82 : z_m180.2.2.2.2.2.lookup 82 = some (.iload_n 1, 1) := by decide +kernel
theorem q180_83 : z_m180.2.2.2.2.2.lookup 83 = some (.bipush 11, 2) := by decide +kernel
theorem q180_85 : z_m180.2.2.2.2.2.lookup 85 = some (.aload_n 0, 1) := by decide +kernel
theorem q180_86 : z_m180.2.2.2.2.2.lookup 86 = some (.getfield 39, 3) := by decide +kernel
theorem q180_89 : z_m180.2.2.2.2.2.lookup 89 = some (.aload_n 0, 1) := by decide +kernel
theorem q180_90 : z_m180.2.2.2.2.2.lookup 90 = some (.getfield 265, 3) := by decide +kernel
theorem q180_93 : z_m180.2.2.2.2.2.lookup 93 = some (.iload 4, 2) := by decide +kernel
theorem q180_95 : z_m180.2.2.2.2.2.lookup 95 = some (.iaload, 1) := by decide +kernel
theorem q180_96 : z_m180.2.2.2.2.2.lookup 96 = some (.iaload, 1) := by decide +kernel
theorem q180_97 : z_m180.2.2.2.2.2.lookup 97 = some (.iadd, 1) := by decide +kernel
theorem q180_98 : z_m180.2.2.2.2.2.lookup 98 = some (.if_icmp .ne 7, 3) := by decide +kernel
theorem q180_101 : z_m180.2.2.2.2.2.lookup 101 = some (.iconst 1, 1) := by decide +kernel
theorem q180_102 : z_m180.2.2.2.2.2.lookup 102 = some (.goto 4, 3) := by decide +kernel
theorem q180_105 : z_m180.2.2.2.2.2.lookup 105 = some (.iconst 0, 1) := by decide +kernel
theorem q180_106 : z_m180.2.2.2.2.2.lookup 106 = some (.istore 6, 2) := by decide +kernel
theorem q180_108 : z_m180.2.2.2.2.2.lookup 108 = some (.lload_n 2, 1) := by decide +kernel
theorem q180_109 : z_m180.2.2.2.2.2.lookup 109 = some (.iload 6, 2) := by decide +kernel
theorem q180_111 : z_m180.2.2.2.2.2.lookup 111 = some (.ifCond .eq 14, 3) := by decide +kernel
theorem q180_114 : z_m180.2.2.2.2.2.lookup 114 = some (.aload_n 0, 1) := by decide +kernel
theorem q180_115 : z_m180.2.2.2.2.2.lookup 115 = some (.getfield 271, 3) := by decide +kernel
theorem q180_118 : z_m180.2.2.2.2.2.lookup 118 = some (.iload 4, 2) := by decide +kernel
theorem q180_120 : z_m180.2.2.2.2.2.lookup 120 = some (.iaload, 1) := by decide +kernel
theorem q180_121 : z_m180.2.2.2.2.2.lookup 121 = some (.i2l, 1) := by decide +kernel
theorem q180_122 : z_m180.2.2.2.2.2.lookup 122 = some (.goto 4, 3) := by decide +kernel
theorem q180_125 : z_m180.2.2.2.2.2.lookup 125 = some (.lconst 0, 1) := by decide +kernel
theorem q180_126 : z_m180.2.2.2.2.2.lookup 126 = some (.ladd, 1) := by decide +kernel
theorem q180_127 : z_m180.2.2.2.2.2.lookup 127 = some (.lstore_n 2, 1) := by decide +kernel
theorem q180_128 : z_m180.2.2.2.2.2.lookup 128 = some (.iinc 4 1, 3) := by decide +kernel
theorem q180_131 : z_m180.2.2.2.2.2.lookup 131 = some (.goto (-110), 3) := by decide +kernel
theorem q180_134 : z_m180.2.2.2.2.2.lookup 134 = some (.lload_n 2, 1) := by decide +kernel
theorem q180_135 : z_m180.2.2.2.2.2.lookup 135 = some (.lreturn, 1) := by decide +kernel
theorem q181_0 : z_m181.2.2.2.2.2.lookup 0 = some (.iload_n 1, 1) := by decide +kernel
theorem q181_1 : z_m181.2.2.2.2.2.lookup 1 = some (.invokestatic 24, 3) := by decide +kernel
theorem q181_4 : z_m181.2.2.2.2.2.lookup 4 = some (.ifCond .eq 40, 3) := by decide +kernel
theorem q181_7 : z_m181.2.2.2.2.2.lookup 7 = some (.iload_n 2, 1) := by decide +kernel
theorem q181_8 : z_m181.2.2.2.2.2.lookup 8 = some (.i2l, 1) := by decide +kernel
theorem q181_9 : z_m181.2.2.2.2.2.lookup 9 = some (.lconst 1, 1) := by decide +kernel
theorem q181_10 : z_m181.2.2.2.2.2.lookup 10 = some (.ldc2_w 108, 3) := by decide +kernel
theorem q181_13 : z_m181.2.2.2.2.2.lookup 13 = some (.invokestatic 3, 3) := by decide +kernel
theorem q181_16 : z_m181.2.2.2.2.2.lookup 16 = some (.ifCond .eq 28, 3) := by decide +kernel
theorem q181_19 : z_m181.2.2.2.2.2.lookup 19 = some (.iload_n 3, 1) := by decide +kernel
theorem q181_20 : z_m181.2.2.2.2.2.lookup 20 = some (.i2l, 1) := by decide +kernel
theorem q181_21 : z_m181.2.2.2.2.2.lookup 21 = some (.lconst 0, 1) := by decide +kernel
theorem q181_22 : z_m181.2.2.2.2.2.lookup 22 = some (.ldc2_w 15, 3) := by decide +kernel
theorem q181_25 : z_m181.2.2.2.2.2.lookup 25 = some (.invokestatic 3, 3) := by decide +kernel
theorem q181_28 : z_m181.2.2.2.2.2.lookup 28 = some (.ifCond .eq 16, 3) := by decide +kernel
theorem q181_31 : z_m181.2.2.2.2.2.lookup 31 = some (.iload 4, 2) := by decide +kernel
theorem q181_33 : z_m181.2.2.2.2.2.lookup 33 = some (.i2l, 1) := by decide +kernel
theorem q181_34 : z_m181.2.2.2.2.2.lookup 34 = some (.lconst 0, 1) := by decide +kernel
theorem q181_35 : z_m181.2.2.2.2.2.lookup 35 = some (.ldc2_w 31, 3) := by decide +kernel
theorem q181_38 : z_m181.2.2.2.2.2.lookup 38 = some (.invokestatic 3, 3) := by decide +kernel
theorem q181_41 : z_m181.2.2.2.2.2.lookup 41 = some (.ifCond .ne 6, 3) := by decide +kernel
theorem q181_44 : z_m181.2.2.2.2.2.lookup 44 = some (.bipush (-2), 2) := by decide +kernel
theorem q181_46 : z_m181.2.2.2.2.2.lookup 46 = some (.ireturn, 1) := by decide +kernel
theorem q181_47 : z_m181.2.2.2.2.2.lookup 47 = some (.aload_n 0, 1) := by decide +kernel
theorem q181_48 : z_m181.2.2.2.2.2.lookup 48 = some (.getfield 391, 3) := by decide +kernel
theorem q181_51 : z_m181.2.2.2.2.2.lookup 51 = some (.bipush 12, 2) := by decide +kernel
theorem q181_53 : z_m181.2.2.2.2.2.lookup 53 = some (.if_icmp .ne 6, 3) := by decide +kernel
theorem q181_56 : z_m181.2.2.2.2.2.lookup 56 = some (.bipush (-4), 2) := by decide +kernel
theorem q181_58 : z_m181.2.2.2.2.2.lookup 58 = some (.ireturn, 1) := by decide +kernel
theorem q181_59 : z_m181.2.2.2.2.2.lookup 59 = some (.aload_n 0, 1) := by decide +kernel
theorem q181_60 : z_m181.2.2.2.2.2.lookup 60 = some (.getfield 274, 3) := by decide +kernel
theorem q181_63 : z_m181.2.2.2.2.2.lookup 63 = some (.aload_n 0, 1) := by decide +kernel
theorem q181_64 : z_m181.2.2.2.2.2.lookup 64 = some (.getfield 391, 3) := by decide +kernel
theorem q181_67 : z_m181.2.2.2.2.2.lookup 67 = some (.iload_n 1, 1) := by decide +kernel
theorem q181_68 : z_m181.2.2.2.2.2.lookup 68 = some (.iastore, 1) := by decide +kernel
theorem q181_69 : z_m181.2.2.2.2.2.lookup 69 = some (.aload_n 0, 1) := by decide +kernel
theorem q181_70 : z_m181.2.2.2.2.2.lookup 70 = some (.getfield 277, 3) := by decide +kernel
theorem q181_73 : z_m181.2.2.2.2.2.lookup 73 = some (.aload_n 0, 1) := by decide +kernel
theorem q181_74 : z_m181.2.2.2.2.2.lookup 74 = some (.getfield 391, 3) := by decide +kernel
theorem q181_77 : z_m181.2.2.2.2.2.lookup 77 = some (.iload_n 2, 1) := by decide +kernel
theorem q181_78 : z_m181.2.2.2.2.2.lookup 78 = some (.iastore, 1) := by decide +kernel
theorem q181_79 : z_m181.2.2.2.2.2.lookup 79 = some (.aload_n 0, 1) := by decide +kernel
theorem q181_80 : z_m181.2.2.2.2.2.lookup 80 = some (.getfield 280, 3) := by decide +kernel
theorem q181_83 : z_m181.2.2.2.2.2.lookup 83 = some (.aload_n 0, 1) := by decide +kernel
theorem q181_84 : z_m181.2.2.2.2.2.lookup 84 = some (.getfield 391, 3) := by decide +kernel
theorem q181_87 : z_m181.2.2.2.2.2.lookup 87 = some (.iload_n 3, 1) := by decide +kernel
theorem q181_88 : z_m181.2.2.2.2.2.lookup 88 = some (.iastore, 1) := by decide +kernel
theorem q181_89 : z_m181.2.2.2.2.2.lookup 89 = some (.aload_n 0, 1) := by decide +kernel
theorem q181_90 : z_m181.2.2.2.2.2.lookup 90 = some (.getfield 283, 3) := by decide +kernel
theorem q181_93 : z_m181.2.2.2.2.2.lookup 93 = some (.aload_n 0, 1) := by decide +kernel
theorem q181_94 : z_m181.2.2.2.2.2.lookup 94 = some (.getfield 391, 3) := by decide +kernel
theorem q181_97 : z_m181.2.2.2.2.2.lookup 97 = some (.iload 4, 2) := by decide +kernel
theorem q181_99 : z_m181.2.2.2.2.2.lookup 99 = some (.iastore, 1) := by decide +kernel
theorem q181_100 : z_m181.2.2.2.2.2.lookup 100 = some (.aload_n 0, 1) := by decide +kernel
theorem q181_101 : z_m181.2.2.2.2.2.lookup 101 = some (.dup, 1) := by decide +kernel
theorem q181_102 : z_m181.2.2.2.2.2.lookup 102 = some (.getfield 391, 3) := by decide +kernel
theorem q181_105 : z_m181.2.2.2.2.2.lookup 105 = some (.iconst 1, 1) := by decide +kernel
theorem q181_106 : z_m181.2.2.2.2.2.lookup 106 = some (.iadd, 1) := by decide +kernel
theorem q181_107 : z_m181.2.2.2.2.2.lookup 107 = some (.putfield 391, 3) := by decide +kernel
theorem q181_110 : z_m181.2.2.2.2.2.lookup 110 = some (.aload_n 0, 1) := by decide +kernel
theorem q181_111 : z_m181.2.2.2.2.2.lookup 111 = some (.getfield 391, 3) := by decide +kernel
theorem q181_114 : z_m181.2.2.2.2.2.lookup 114 = some (.iconst 1, 1) := by decide +kernel
theorem q181_115 : z_m181.2.2.2.2.2.lookup 115 = some (.isub, 1) := by decide +kernel
theorem q181_116 : z_m181.2.2.2.2.2.lookup 116 = some (.ireturn, 1) := by decide +kernel
theorem q182_0 : z_m182.2.2.2.2.2.lookup 0 = some (.iconst 0, 1) := by decide +kernel
theorem q182_1 : z_m182.2.2.2.2.2.lookup 1 = some (.istore_n 3, 1) := by decide +kernel
theorem q182_2 : z_m182.2.2.2.2.2.lookup 2 = some (.iconst 0, 1) := by decide +kernel
theorem q182_3 : z_m182.2.2.2.2.2.lookup 3 = some (.istore 4, 2) := by decide +kernel
theorem q182_5 : z_m182.2.2.2.2.2.lookup 5 = some (.iload 4, 2) := by decide +kernel
theorem q182_7 : z_m182.2.2.2.2.2.lookup 7 = some (.aload_n 0, 1) := by decide +kernel
theorem q182_8 : z_m182.2.2.2.2.2.lookup 8 = some (.getfield 394, 3) := by decide +kernel
theorem q182_11 : z_m182.2.2.2.2.2.lookup 11 = some (.if_icmp .ge 44, 3) := by decide +kernel
theorem q182_14 : z_m182.2.2.2.2.2.lookup 14 = some (.iload_n 3, 1) := by decide +kernel
theorem q182_15 : z_m182.2.2.2.2.2.lookup 15 = some (.aload_n 0, 1) := by decide +kernel
theorem q182_16 : z_m182.2.2.2.2.2.lookup 16 = some (.getfield 289, 3) := by decide +kernel
theorem q182_19 : z_m182.2.2.2.2.2.lookup 19 = some (.iload 4, 2) := by decide +kernel
theorem q182_21 : z_m182.2.2.2.2.2.lookup 21 = some (.iaload, 1) := by decide +kernel
theorem q182_22 : z_m182.2.2.2.2.2.lookup 22 = some (.iload_n 2, 1) := by decide +kernel
theorem q182_23 : z_m182.2.2.2.2.2.lookup 23 = some (.if_icmp .ne 23, 3) := by decide +kernel
theorem q182_26 : z_m182.2.2.2.2.2.lookup 26 = some (.aload_n 0, 1) := by decide +kernel
theorem q182_27 : z_m182.2.2.2.2.2.lookup 27 = some (.getfield 274, 3) := by decide +kernel
theorem q182_30 : z_m182.2.2.2.2.2.lookup 30 = some (.aload_n 0, 1) := by decide +kernel
theorem q182_31 : z_m182.2.2.2.2.2.lookup 31 = some (.getfield 286, 3) := by decide +kernel
theorem q182_34 : z_m182.2.2.2.2.2.lookup 34 = some (.iload 4, 2) := by decide +kernel
theorem q182_36 : z_m182.2.2.2.2.2.lookup 36 = some (.iaload, 1) := by decide +kernel
theorem q182_37 : z_m182.2.2.2.2.2.lookup 37 = some (.iaload, 1) := by decide +kernel
theorem q182_38 : z_m182.2.2.2.2.2.lookup 38 = some (.iload_n 1, 1) := by decide +kernel
theorem q182_39 : z_m182.2.2.2.2.2.lookup 39 = some (.if_icmp .ne 7, 3) := by decide +kernel
theorem q182_42 : z_m182.2.2.2.2.2.lookup 42 = some (.iconst 1, 1) := by decide +kernel
theorem q182_43 : z_m182.2.2.2.2.2.lookup 43 = some (.goto 4, 3) := by decide +kernel
theorem q182_46 : z_m182.2.2.2.2.2.lookup 46 = some (.iconst 0, 1) := by decide +kernel
theorem q182_47 : z_m182.2.2.2.2.2.lookup 47 = some (.iadd, 1) := by decide +kernel
theorem q182_48 : z_m182.2.2.2.2.2.lookup 48 = some (.istore_n 3, 1) := by decide +kernel
theorem q182_49 : z_m182.2.2.2.2.2.lookup 49 = some (.iinc 4 1, 3) := by decide +kernel
theorem q182_52 : z_m182.2.2.2.2.2.lookup 52 = some (.goto (-47), 3) := by decide +kernel
theorem q182_55 : z_m182.2.2.2.2.2.lookup 55 = some (.iload_n 3, 1) := by decide +kernel
theorem q182_56 : z_m182.2.2.2.2.2.lookup 56 = some (.ireturn, 1) := by decide +kernel
theorem q183_0 : z_m183.2.2.2.2.2.lookup 0 = some (.iload_n 1, 1) := by decide +kernel
theorem q183_1 : z_m183.2.2.2.2.2.lookup 1 = some (.ifCond .lt 11, 3) := by decide +kernel
theorem q183_4 : z_m183.2.2.2.2.2.lookup 4 = some (.iload_n 1, 1) := by decide +kernel
theorem q183_5 : z_m183.2.2.2.2.2.lookup 5 = some (.aload_n 0, 1) := by decide +kernel
theorem q183_6 : z_m183.2.2.2.2.2.lookup 6 = some (.getfield 391, 3) := by decide +kernel
theorem q183_9 : z_m183.2.2.2.2.2.lookup 9 = some (.if_icmp .lt 6, 3) := by decide +kernel
theorem q183_12 : z_m183.2.2.2.2.2.lookup 12 = some (.bipush (-2), 2) := by decide +kernel
theorem q183_14 : z_m183.2.2.2.2.2.lookup 14 = some (.ireturn, 1) := by decide +kernel
theorem q183_15 : z_m183.2.2.2.2.2.lookup 15 = some (.aload_n 0, 1) := by decide +kernel
theorem q183_16 : z_m183.2.2.2.2.2.lookup 16 = some (.getfield 280, 3) := by decide +kernel
theorem q183_19 : z_m183.2.2.2.2.2.lookup 19 = some (.iload_n 1, 1) := by decide +kernel
theorem q183_20 : z_m183.2.2.2.2.2.lookup 20 = some (.iaload, 1) := by decide +kernel
theorem q183_21 : z_m183.2.2.2.2.2.lookup 21 = some (.aload_n 0, 1) := by decide +kernel
theorem q183_22 : z_m183.2.2.2.2.2.lookup 22 = some (.getfield 9, 3) := by decide +kernel
theorem q183_25 : z_m183.2.2.2.2.2.lookup 25 = some (.bipush 6, 2) := by decide +kernel
theorem q183_27 : z_m183.2.2.2.2.2.lookup 27 = some (.irem, 1) := by decide +kernel
theorem q183_28 : z_m183.2.2.2.2.2.lookup 28 = some (.if_icmp .eq 7, 3) := by decide +kernel
theorem q183_31 : z_m183.2.2.2.2.2.lookup 31 = some (.iconst 1, 1) := by decide +kernel
theorem q183_32 : z_m183.2.2.2.2.2.lookup 32 = some (.goto 4, 3) := by decide +kernel
theorem q183_35 : z_m183.2.2.2.2.2.lookup 35 = some (.iconst 0, 1) := by decide +kernel
theorem q183_36 : z_m183.2.2.2.2.2.lookup 36 = some (.istore_n 2, 1) := by decide +kernel
theorem q183_37 : z_m183.2.2.2.2.2.lookup 37 = some (.iconst 0, 1) := by decide +kernel
theorem q183_38 : z_m183.2.2.2.2.2.lookup 38 = some (.istore_n 3, 1) := by decide +kernel
theorem q183_39 : z_m183.2.2.2.2.2.lookup 39 = some (.iload_n 3, 1) := by decide +kernel
theorem q183_40 : z_m183.2.2.2.2.2.lookup 40 = some (.aload_n 0, 1) := by decide +kernel
theorem q183_41 : z_m183.2.2.2.2.2.lookup 41 = some (.getfield 394, 3) := by decide +kernel
theorem q183_44 : z_m183.2.2.2.2.2.lookup 44 = some (.if_icmp .ge 42, 3) := by decide +kernel
theorem q183_47 : z_m183.2.2.2.2.2.lookup 47 = some (.iload_n 2, 1) := by decide +kernel
theorem q183_48 : z_m183.2.2.2.2.2.lookup 48 = some (.ifCond .ne 26, 3) := by decide +kernel
theorem q183_51 : z_m183.2.2.2.2.2.lookup 51 = some (.aload_n 0, 1) := by decide +kernel
theorem q183_52 : z_m183.2.2.2.2.2.lookup 52 = some (.getfield 289, 3) := by decide +kernel
theorem q183_55 : z_m183.2.2.2.2.2.lookup 55 = some (.iload_n 3, 1) := by decide +kernel
theorem q183_56 : z_m183.2.2.2.2.2.lookup 56 = some (.iaload, 1) := by decide +kernel
theorem q183_57 : z_m183.2.2.2.2.2.lookup 57 = some (.aload_n 0, 1) := by decide +kernel
theorem q183_58 : z_m183.2.2.2.2.2.lookup 58 = some (.getfield 9, 3) := by decide +kernel
theorem q183_61 : z_m183.2.2.2.2.2.lookup 61 = some (.if_icmp .ne 17, 3) := by decide +kernel
theorem q183_64 : z_m183.2.2.2.2.2.lookup 64 = some (.aload_n 0, 1) := by decide +kernel
theorem q183_65 : z_m183.2.2.2.2.2.lookup 65 = some (.getfield 286, 3) := by decide +kernel
theorem q183_68 : z_m183.2.2.2.2.2.lookup 68 = some (.iload_n 3, 1) := by decide +kernel
theorem q183_69 : z_m183.2.2.2.2.2.lookup 69 = some (.iaload, 1) := by decide +kernel
theorem q183_70 : z_m183.2.2.2.2.2.lookup 70 = some (.iload_n 1, 1) := by decide +kernel
theorem q183_71 : z_m183.2.2.2.2.2.lookup 71 = some (.if_icmp .ne 7, 3) := by decide +kernel
theorem q183_74 : z_m183.2.2.2.2.2.lookup 74 = some (.iconst 1, 1) := by decide +kernel
theorem q183_75 : z_m183.2.2.2.2.2.lookup 75 = some (.goto 4, 3) := by decide +kernel
theorem q183_78 : z_m183.2.2.2.2.2.lookup 78 = some (.iconst 0, 1) := by decide +kernel
theorem q183_79 : z_m183.2.2.2.2.2.lookup 79 = some (.istore_n 2, 1) := by decide +kernel
theorem q183_80 : z_m183.2.2.2.2.2.lookup 80 = some (.iinc 3 1, 3) := by decide +kernel
theorem q183_83 : z_m183.2.2.2.2.2.lookup 83 = some (.goto (-44), 3) := by decide +kernel
theorem q183_86 : z_m183.2.2.2.2.2.lookup 86 = some (.iload_n 2, 1) := by decide +kernel
theorem q183_87 : z_m183.2.2.2.2.2.lookup 87 = some (.ifCond .eq 6, 3) := by decide +kernel
theorem q183_90 : z_m183.2.2.2.2.2.lookup 90 = some (.bipush (-3), 2) := by decide +kernel
theorem q183_92 : z_m183.2.2.2.2.2.lookup 92 = some (.ireturn, 1) := by decide +kernel
theorem q183_93 : z_m183.2.2.2.2.2.lookup 93 = some (.aload_n 0, 1) := by decide +kernel
theorem q183_94 : z_m183.2.2.2.2.2.lookup 94 = some (.getfield 394, 3) := by decide +kernel
theorem q183_97 : z_m183.2.2.2.2.2.lookup 97 = some (.bipush 60, 2) := by decide +kernel
theorem q183_99 : z_m183.2.2.2.2.2.lookup 99 = some (.if_icmp .ne 6, 3) := by decide +kernel
theorem q183_102 : z_m183.2.2.2.2.2.lookup 102 = some (.bipush (-4), 2) := by decide +kernel
theorem q183_104 : z_m183.2.2.2.2.2.lookup 104 = some (.ireturn, 1) := by decide +kernel
theorem q183_105 : z_m183.2.2.2.2.2.lookup 105 = some (.aload_n 0, 1) := by decide +kernel
theorem q183_106 : z_m183.2.2.2.2.2.lookup 106 = some (.getfield 286, 3) := by decide +kernel
theorem q183_109 : z_m183.2.2.2.2.2.lookup 109 = some (.aload_n 0, 1) := by decide +kernel
theorem q183_110 : z_m183.2.2.2.2.2.lookup 110 = some (.getfield 394, 3) := by decide +kernel
theorem q183_113 : z_m183.2.2.2.2.2.lookup 113 = some (.iload_n 1, 1) := by decide +kernel
theorem q183_114 : z_m183.2.2.2.2.2.lookup 114 = some (.iastore, 1) := by decide +kernel
theorem q183_115 : z_m183.2.2.2.2.2.lookup 115 = some (.aload_n 0, 1) := by decide +kernel
theorem q183_116 : z_m183.2.2.2.2.2.lookup 116 = some (.getfield 289, 3) := by decide +kernel
theorem q183_119 : z_m183.2.2.2.2.2.lookup 119 = some (.aload_n 0, 1) := by decide +kernel
theorem q183_120 : z_m183.2.2.2.2.2.lookup 120 = some (.getfield 394, 3) := by decide +kernel
theorem q183_123 : z_m183.2.2.2.2.2.lookup 123 = some (.aload_n 0, 1) := by decide +kernel
theorem q183_124 : z_m183.2.2.2.2.2.lookup 124 = some (.getfield 9, 3) := by decide +kernel
theorem q183_127 : z_m183.2.2.2.2.2.lookup 127 = some (.iastore, 1) := by decide +kernel
theorem q183_128 : z_m183.2.2.2.2.2.lookup 128 = some (.aload_n 0, 1) := by decide +kernel
theorem q183_129 : z_m183.2.2.2.2.2.lookup 129 = some (.dup, 1) := by decide +kernel
theorem q183_130 : z_m183.2.2.2.2.2.lookup 130 = some (.getfield 394, 3) := by decide +kernel
theorem q183_133 : z_m183.2.2.2.2.2.lookup 133 = some (.iconst 1, 1) := by decide +kernel
theorem q183_134 : z_m183.2.2.2.2.2.lookup 134 = some (.iadd, 1) := by decide +kernel
theorem q183_135 : z_m183.2.2.2.2.2.lookup 135 = some (.putfield 394, 3) := by decide +kernel
theorem q183_138 : z_m183.2.2.2.2.2.lookup 138 = some (.aload_n 0, 1) := by decide +kernel
theorem q183_139 : z_m183.2.2.2.2.2.lookup 139 = some (.aload_n 0, 1) := by decide +kernel
theorem q183_140 : z_m183.2.2.2.2.2.lookup 140 = some (.getfield 274, 3) := by decide +kernel
theorem q183_143 : z_m183.2.2.2.2.2.lookup 143 = some (.iload_n 1, 1) := by decide +kernel
theorem q183_144 : z_m183.2.2.2.2.2.lookup 144 = some (.iaload, 1) := by decide +kernel
theorem q183_145 : z_m183.2.2.2.2.2.lookup 145 = some (.aload_n 0, 1) := by decide +kernel
theorem q183_146 : z_m183.2.2.2.2.2.lookup 146 = some (.getfield 9, 3) := by decide +kernel
theorem q183_149 : z_m183.2.2.2.2.2.lookup 149 = some (.invokevirtual 235, 3) := by decide +kernel
theorem q183_152 : z_m183.2.2.2.2.2.lookup 152 = some (.ireturn, 1) := by decide +kernel
theorem q184_0 : z_m184.2.2.2.2.2.lookup 0 = some (.iconst 0, 1) := by decide +kernel
theorem q184_1 : z_m184.2.2.2.2.2.lookup 1 = some (.istore_n 2, 1) := by decide +kernel
theorem q184_2 : z_m184.2.2.2.2.2.lookup 2 = some (.iconst 0, 1) := by decide +kernel
theorem q184_3 : z_m184.2.2.2.2.2.lookup 3 = some (.istore_n 3, 1) := by decide +kernel
theorem q184_4 : z_m184.2.2.2.2.2.lookup 4 = some (.iload_n 3, 1) := by decide +kernel
theorem q184_5 : z_m184.2.2.2.2.2.lookup 5 = some (.aload_n 0, 1) := by decide +kernel
theorem q184_6 : z_m184.2.2.2.2.2.lookup 6 = some (.getfield 391, 3) := by decide +kernel
theorem q184_9 : z_m184.2.2.2.2.2.lookup 9 = some (.if_icmp .ge 38, 3) := by decide +kernel
theorem q184_12 : z_m184.2.2.2.2.2.lookup 12 = some (.aload_n 0, 1) := by decide +kernel
theorem q184_13 : z_m184.2.2.2.2.2.lookup 13 = some (.getfield 280, 3) := by decide +kernel
theorem q184_16 : z_m184.2.2.2.2.2.lookup 16 = some (.iload_n 3, 1) := by decide +kernel
theorem q184_17 : z_m184.2.2.2.2.2.lookup 17 = some (.iaload, 1) := by decide +kernel
theorem q184_18 : z_m184.2.2.2.2.2.lookup 18 = some (.iload_n 1, 1) := by decide +kernel
theorem q184_19 : z_m184.2.2.2.2.2.lookup 19 = some (.if_icmp .ne 22, 3) := by decide +kernel
theorem q184_22 : z_m184.2.2.2.2.2.lookup 22 = some (.iload_n 2, 1) := by decide +kernel
theorem q184_23 : z_m184.2.2.2.2.2.lookup 23 = some (.bipush 8, 2) := by decide +kernel
theorem q184_25 : z_m184.2.2.2.2.2.lookup 25 = some (.if_icmp .ne 6, 3) := by decide +kernel
theorem q184_28 : z_m184.2.2.2.2.2.lookup 28 = some (.bipush 9, 2) := by decide +kernel
theorem q184_30 : z_m184.2.2.2.2.2.lookup 30 = some (.ireturn, 1) := by decide +kernel
theorem q184_31 : z_m184.2.2.2.2.2.lookup 31 = some (.aload_n 0, 1) := by decide +kernel
theorem q184_32 : z_m184.2.2.2.2.2.lookup 32 = some (.getfield 292, 3) := by decide +kernel
theorem q184_35 : z_m184.2.2.2.2.2.lookup 35 = some (.iload_n 2, 1) := by decide +kernel
theorem q184_36 : z_m184.2.2.2.2.2.lookup 36 = some (.iload_n 3, 1) := by decide +kernel
theorem q184_37 : z_m184.2.2.2.2.2.lookup 37 = some (.iastore, 1) := by decide +kernel
theorem q184_38 : z_m184.2.2.2.2.2.lookup 38 = some (.iinc 2 1, 3) := by decide +kernel
theorem q184_41 : z_m184.2.2.2.2.2.lookup 41 = some (.iinc 3 1, 3) := by decide +kernel
theorem q184_44 : z_m184.2.2.2.2.2.lookup 44 = some (.goto (-40), 3) := by decide +kernel
theorem q184_47 : z_m184.2.2.2.2.2.lookup 47 = some (.iload_n 2, 1) := by decide +kernel
theorem q184_48 : z_m184.2.2.2.2.2.lookup 48 = some (.ireturn, 1) := by decide +kernel
theorem q185_0 : z_m185.2.2.2.2.2.lookup 0 = some (.iconst 1, 1) := by decide +kernel
theorem q185_1 : z_m185.2.2.2.2.2.lookup 1 = some (.istore_n 2, 1) := by decide +kernel
theorem q185_2 : z_m185.2.2.2.2.2.lookup 2 = some (.iload_n 2, 1) := by decide +kernel
theorem q185_3 : z_m185.2.2.2.2.2.lookup 3 = some (.iconst 1, 1) := by decide +kernel
theorem q185_4 : z_m185.2.2.2.2.2.lookup 4 = some (.iload_n 1, 1) := by decide +kernel
theorem q185_5 : z_m185.2.2.2.2.2.lookup 5 = some (.ishl, 1) := by decide +kernel
theorem q185_6 : z_m185.2.2.2.2.2.lookup 6 = some (.if_icmp .ge 53, 3) := by decide +kernel
theorem q185_9 : z_m185.2.2.2.2.2.lookup 9 = some (.iconst 0, 1) := by decide +kernel
theorem q185_10 : z_m185.2.2.2.2.2.lookup 10 = some (.istore_n 3, 1) := by decide +kernel
theorem q185_11 : z_m185.2.2.2.2.2.lookup 11 = some (.iload_n 2, 1) := by decide +kernel
theorem q185_12 : z_m185.2.2.2.2.2.lookup 12 = some (.iload_n 3, 1) := by decide +kernel
theorem q185_13 : z_m185.2.2.2.2.2.lookup 13 = some (.ishr, 1) := by decide +kernel
theorem q185_14 : z_m185.2.2.2.2.2.lookup 14 = some (.iconst 1, 1) := by decide +kernel
theorem q185_15 : z_m185.2.2.2.2.2.lookup 15 = some (.iand, 1) := by decide +kernel
theorem q185_16 : z_m185.2.2.2.2.2.lookup 16 = some (.ifCond .ne 9, 3) := by decide +kernel
theorem q185_19 : z_m185.2.2.2.2.2.lookup 19 = some (.iinc 3 1, 3) := by decide +kernel
theorem q185_22 : z_m185.2.2.2.2.2.lookup 22 = some (.goto (-11), 3) := by decide +kernel
theorem q185_25 : z_m185.2.2.2.2.2.lookup 25 = some (.aload_n 0, 1) := by decide +kernel
theorem q185_26 : z_m185.2.2.2.2.2.lookup 26 = some (.getfield 295, 3) := by decide +kernel
theorem q185_29 : z_m185.2.2.2.2.2.lookup 29 = some (.iload_n 2, 1) := by decide +kernel
theorem q185_30 : z_m185.2.2.2.2.2.lookup 30 = some (.aload_n 0, 1) := by decide +kernel
theorem q185_31 : z_m185.2.2.2.2.2.lookup 31 = some (.getfield 295, 3) := by decide +kernel
theorem q185_34 : z_m185.2.2.2.2.2.lookup 34 = some (.iload_n 2, 1) := by decide +kernel
theorem q185_35 : z_m185.2.2.2.2.2.lookup 35 = some (.iload_n 2, 1) := by decide +kernel
theorem q185_36 : z_m185.2.2.2.2.2.lookup 36 = some (.iconst 1, 1) := by decide +kernel
theorem q185_37 : z_m185.2.2.2.2.2.lookup 37 = some (.isub, 1) := by decide +kernel
theorem q185_38 : z_m185.2.2.2.2.2.lookup 38 = some (.iand, 1) := by decide +kernel
theorem q185_39 : z_m185.2.2.2.2.2.lookup 39 = some (.iaload, 1) := by decide +kernel
theorem q185_40 : z_m185.2.2.2.2.2.lookup 40 = some (.aload_n 0, 1) := by decide +kernel
theorem q185_41 : z_m185.2.2.2.2.2.lookup 41 = some (.getfield 277, 3) := by decide +kernel
theorem q185_44 : z_m185.2.2.2.2.2.lookup 44 = some (.aload_n 0, 1) := by decide +kernel
theorem q185_45 : z_m185.2.2.2.2.2.lookup 45 = some (.getfield 292, 3) := by decide +kernel
theorem q185_48 : z_m185.2.2.2.2.2.lookup 48 = some (.iload_n 3, 1) := by decide +kernel
theorem q185_49 : z_m185.2.2.2.2.2.lookup 49 = some (.iaload, 1) := by decide +kernel
theorem q185_50 : z_m185.2.2.2.2.2.lookup 50 = some (.iaload, 1) := by decide +kernel
theorem q185_51 : z_m185.2.2.2.2.2.lookup 51 = some (.iadd, 1) := by decide +kernel
theorem q185_52 : z_m185.2.2.2.2.2.lookup 52 = some (.iastore, 1) := by decide +kernel
theorem q185_53 : z_m185.2.2.2.2.2.lookup 53 = some (.iinc 2 1, 3) := by decide +kernel
theorem q185_56 : z_m185.2.2.2.2.2.lookup 56 = some (.goto (-54), 3) := by decide +kernel
theorem q185_59 : z_m185.2.2.2.2.2.lookup 59 = some (.return_, 1) := by decide +kernel
theorem q186_0 : z_m186.2.2.2.2.2.lookup 0 = some (.aload_n 0, 1) := by decide +kernel
theorem q186_1 : z_m186.2.2.2.2.2.lookup 1 = some (.getfield 295, 3) := by decide +kernel
theorem q186_4 : z_m186.2.2.2.2.2.lookup 4 = some (.iconst 0, 1) := by decide +kernel
theorem q186_5 : z_m186.2.2.2.2.2.lookup 5 = some (.iconst 0, 1) := by decide +kernel
theorem q186_6 : z_m186.2.2.2.2.2.lookup 6 = some (.iastore, 1) := by decide +kernel
theorem q186_7 : z_m186.2.2.2.2.2.lookup 7 = some (.aload_n 0, 1) := by decide +kernel
theorem q186_8 : z_m186.2.2.2.2.2.lookup 8 = some (.iload_n 1, 1) := by decide +kernel
theorem q186_9 : z_m186.2.2.2.2.2.lookup 9 = some (.invokevirtual 397, 3) := by decide +kernel
theorem q186_12 : z_m186.2.2.2.2.2.lookup 12 = some (.aload_n 0, 1) := by decide +kernel
theorem q186_13 : z_m186.2.2.2.2.2.lookup 13 = some (.getfield 298, 3) := by decide +kernel
theorem q186_16 : z_m186.2.2.2.2.2.lookup 16 = some (.iconst 0, 1) := by decide +kernel
theorem q186_17 : z_m186.2.2.2.2.2.lookup 17 = some (.iconst 0, 1) := by decide +kernel
theorem q186_18 : z_m186.2.2.2.2.2.lookup 18 = some (.iastore, 1) := by decide +kernel
theorem q186_19 : z_m186.2.2.2.2.2.lookup 19 = some (.iconst 1, 1) := by decide +kernel
theorem q186_20 : z_m186.2.2.2.2.2.lookup 20 = some (.istore_n 3, 1) := by decide +kernel
theorem q186_21 : z_m186.2.2.2.2.2.lookup 21 = some (.iload_n 3, 1) := by decide +kernel
theorem q186_22 : z_m186.2.2.2.2.2.lookup 22 = some (.iconst 1, 1) := by decide +kernel
theorem q186_23 : z_m186.2.2.2.2.2.lookup 23 = some (.iload_n 1, 1) := by decide +kernel
theorem q186_24 : z_m186.2.2.2.2.2.lookup 24 = some (.ishl, 1) := by decide +kernel
theorem q186_25 : z_m186.2.2.2.2.2.lookup 25 = some (.if_icmp .ge 141, 3) := by decide +kernel
theorem q186_28 : z_m186.2.2.2.2.2.lookup 28 = some (.aload_n 0, 1) := by decide +kernel
theorem q186_29 : z_m186.2.2.2.2.2.lookup 29 = some (.getfield 298, 3) := by decide +kernel
theorem q186_32 : z_m186.2.2.2.2.2.lookup 32 = some (.iload_n 3, 1) := by decide +kernel
theorem q186_33 : z_m186.2.2.2.2.2.lookup 33 = some (.bipush 9, 2) := by decide +kernel
theorem q186_35 : z_m186.2.2.2.2.2.lookup 35 = some (.iastore, 1) := by decide +kernel
theorem q186_36 : z_m186.2.2.2.2.2.lookup 36 = some (.iload_n 3, 1) := by decide +kernel
theorem q186_37 : z_m186.2.2.2.2.2.lookup 37 = some (.iload_n 3, 1) := by decide +kernel
theorem q186_38 : z_m186.2.2.2.2.2.lookup 38 = some (.ineg, 1) := by decide +kernel
theorem q186_39 : z_m186.2.2.2.2.2.lookup 39 = some (.iand, 1) := by decide +kernel
theorem q186_40 : z_m186.2.2.2.2.2.lookup 40 = some (.istore 4, 2) := by decide +kernel
theorem q186_42 : z_m186.2.2.2.2.2.lookup 42 = some (.iload_n 3, 1) := by decide +kernel
theorem q186_43 : z_m186.2.2.2.2.2.lookup 43 = some (.iload 4, 2) := by decide +kernel
theorem q186_45 : z_m186.2.2.2.2.2.lookup 45 = some (.iconst (-1), 1) := by decide +kernel
theorem q186_46 : z_m186.2.2.2.2.2.lookup 46 = some (.ixor, 1) := by decide +kernel
theorem q186_47 : z_m186.2.2.2.2.2.lookup 47 = some (.iand, 1) := by decide +kernel
theorem q186_48 : z_m186.2.2.2.2.2.lookup 48 = some (.istore 5, 2) := by decide +kernel
theorem q186_50 : z_m186.2.2.2.2.2.lookup 50 = some (.iload 5, 2) := by decide +kernel
theorem q186_52 : z_m186.2.2.2.2.2.lookup 52 = some (.istore 6, 2) := by decide +kernel
theorem q186_54 : z_m186.2.2.2.2.2.lookup 54 = some (.iload 6, 2) := by decide +kernel
theorem q186_56 : z_m186.2.2.2.2.2.lookup 56 = some (.ifCond .lt 104, 3) := by decide +kernel
theorem q186_59 : z_m186.2.2.2.2.2.lookup 59 = some (.iload 6, 2) := by decide +kernel
theorem q186_61 : z_m186.2.2.2.2.2.lookup 61 = some (.iload 4, 2) := by decide +kernel
theorem q186_63 : z_m186.2.2.2.2.2.lookup 63 = some (.ior, 1) := by decide +kernel
theorem q186_64 : z_m186.2.2.2.2.2.lookup 64 = some (.istore 7, 2) := by decide +kernel
theorem q186_66 : z_m186.2.2.2.2.2.lookup 66 = some (.aload_n 0, 1) := by decide +kernel
theorem q186_67 : z_m186.2.2.2.2.2.lookup 67 = some (.getfield 295, 3) := by decide +kernel
theorem q186_70 : z_m186.2.2.2.2.2.lookup 70 = some (.iload 7, 2) := by decide +kernel
theorem q186_72 : z_m186.2.2.2.2.2.lookup 72 = some (.iaload, 1) := by decide +kernel
theorem q186_73 : z_m186.2.2.2.2.2.lookup 73 = some (.iload_n 2, 1) := by decide +kernel
theorem q186_74 : z_m186.2.2.2.2.2.lookup 74 = some (.if_icmp .gt 29, 3) := by decide +kernel
theorem q186_77 : z_m186.2.2.2.2.2.lookup 77 = some (.aload_n 0, 1) := by decide +kernel
theorem q186_78 : z_m186.2.2.2.2.2.lookup 78 = some (.getfield 298, 3) := by decide +kernel
theorem q186_81 : z_m186.2.2.2.2.2.lookup 81 = some (.iload_n 3, 1) := by decide +kernel
theorem q186_82 : z_m186.2.2.2.2.2.lookup 82 = some (.iload 7, 2) := by decide +kernel
theorem q186_84 : z_m186.2.2.2.2.2.lookup 84 = some (.iconst (-1), 1) := by decide +kernel
theorem q186_85 : z_m186.2.2.2.2.2.lookup 85 = some (.ixor, 1) := by decide +kernel
theorem q186_86 : z_m186.2.2.2.2.2.lookup 86 = some (.iand, 1) := by decide +kernel
theorem q186_87 : z_m186.2.2.2.2.2.lookup 87 = some (.iaload, 1) := by decide +kernel
theorem q186_88 : z_m186.2.2.2.2.2.lookup 88 = some (.iconst 1, 1) := by decide +kernel
theorem q186_89 : z_m186.2.2.2.2.2.lookup 89 = some (.iadd, 1) := by decide +kernel
theorem q186_90 : z_m186.2.2.2.2.2.lookup 90 = some (.aload_n 0, 1) := by decide +kernel
theorem q186_91 : z_m186.2.2.2.2.2.lookup 91 = some (.getfield 298, 3) := by decide +kernel
theorem q186_94 : z_m186.2.2.2.2.2.lookup 94 = some (.iload_n 3, 1) := by decide +kernel
theorem q186_95 : z_m186.2.2.2.2.2.lookup 95 = some (.iaload, 1) := by decide +kernel
theorem q186_96 : z_m186.2.2.2.2.2.lookup 96 = some (.if_icmp .ge 7, 3) := by decide +kernel
theorem q186_99 : z_m186.2.2.2.2.2.lookup 99 = some (.iconst 1, 1) := by decide +kernel
theorem q186_100 : z_m186.2.2.2.2.2.lookup 100 = some (.goto 4, 3) := by decide +kernel
theorem q186_103 : z_m186.2.2.2.2.2.lookup 103 = some (.iconst 0, 1) := by decide +kernel
theorem q186_104 : z_m186.2.2.2.2.2.lookup 104 = some (.istore 8, 2) := by decide +kernel
theorem q186_106 : z_m186.2.2.2.2.2.lookup 106 = some (.aload_n 0, 1) := by decide +kernel
theorem q186_107 : z_m186.2.2.2.2.2.lookup 107 = some (.getfield 298, 3) := by decide +kernel
theorem q186_110 : z_m186.2.2.2.2.2.lookup 110 = some (.iload_n 3, 1) := by decide +kernel
theorem q186_111 : z_m186.2.2.2.2.2.lookup 111 = some (.iload 8, 2) := by decide +kernel
theorem q186_113 : z_m186.2.2.2.2.2.lookup 113 = some (.ifCond .eq 19, 3) := by decide +kernel
theorem q186_116 : z_m186.2.2.2.2.2.lookup 116 = some (.aload_n 0, 1) := by decide +kernel
theorem q186_117 : z_m186.2.2.2.2.2.lookup 117 = some (.getfield 298, 3) := by decide +kernel
theorem q186_120 : z_m186.2.2.2.2.2.lookup 120 = some (.iload_n 3, 1) := by decide +kernel
theorem q186_121 : z_m186.2.2.2.2.2.lookup 121 = some (.iload 7, 2) := by decide +kernel
theorem q186_123 : z_m186.2.2.2.2.2.lookup 123 = some (.iconst (-1), 1) := by decide +kernel
theorem q186_124 : z_m186.2.2.2.2.2.lookup 124 = some (.ixor, 1) := by decide +kernel
theorem q186_125 : z_m186.2.2.2.2.2.lookup 125 = some (.iand, 1) := by decide +kernel
theorem q186_126 : z_m186.2.2.2.2.2.lookup 126 = some (.iaload, 1) := by decide +kernel
theorem q186_127 : z_m186.2.2.2.2.2.lookup 127 = some (.iconst 1, 1) := by decide +kernel
theorem q186_128 : z_m186.2.2.2.2.2.lookup 128 = some (.iadd, 1) := by decide +kernel
theorem q186_129 : z_m186.2.2.2.2.2.lookup 129 = some (.goto 9, 3) := by decide +kernel
theorem q186_132 : z_m186.2.2.2.2.2.lookup 132 = some (.aload_n 0, 1) := by decide +kernel
theorem q186_133 : z_m186.2.2.2.2.2.lookup 133 = some (.getfield 298, 3) := by decide +kernel
theorem q186_136 : z_m186.2.2.2.2.2.lookup 136 = some (.iload_n 3, 1) := by decide +kernel
theorem q186_137 : z_m186.2.2.2.2.2.lookup 137 = some (.iaload, 1) := by decide +kernel
theorem q186_138 : z_m186.2.2.2.2.2.lookup 138 = some (.iastore, 1) := by decide +kernel
theorem q186_139 : z_m186.2.2.2.2.2.lookup 139 = some (.iload 6, 2) := by decide +kernel
theorem q186_141 : z_m186.2.2.2.2.2.lookup 141 = some (.ifCond .ne 7, 3) := by decide +kernel
theorem q186_144 : z_m186.2.2.2.2.2.lookup 144 = some (.iconst (-1), 1) := by decide +kernel
theorem q186_145 : z_m186.2.2.2.2.2.lookup 145 = some (.goto 10, 3) := by decide +kernel
theorem q186_148 : z_m186.2.2.2.2.2.lookup 148 = some (.iload 6, 2) := by decide +kernel
theorem q186_150 : z_m186.2.2.2.2.2.lookup 150 = some (.iconst 1, 1) := by decide +kernel
theorem q186_151 : z_m186.2.2.2.2.2.lookup 151 = some (.isub, 1) := by decide +kernel
theorem q186_152 : z_m186.2.2.2.2.2.lookup 152 = some (.iload 5, 2) := by decide +kernel
theorem q186_154 : z_m186.2.2.2.2.2.lookup 154 = some (.iand, 1) := by decide +kernel
theorem q186_155 : z_m186.2.2.2.2.2.lookup 155 = some (.istore 6, 2) := by decide +kernel
theorem q186_157 : z_m186.2.2.2.2.2.lookup 157 = some (.goto (-103), 3) := by decide +kernel
theorem q186_160 : z_m186.2.2.2.2.2.lookup 160 = some (.iinc 3 1, 3) := by decide +kernel
theorem q186_163 : z_m186.2.2.2.2.2.lookup 163 = some (.goto (-142), 3) := by decide +kernel
theorem q186_166 : z_m186.2.2.2.2.2.lookup 166 = some (.aload_n 0, 1) := by decide +kernel
theorem q186_167 : z_m186.2.2.2.2.2.lookup 167 = some (.getfield 298, 3) := by decide +kernel
theorem q186_170 : z_m186.2.2.2.2.2.lookup 170 = some (.iconst 1, 1) := by decide +kernel
theorem q186_171 : z_m186.2.2.2.2.2.lookup 171 = some (.iload_n 1, 1) := by decide +kernel
theorem q186_172 : z_m186.2.2.2.2.2.lookup 172 = some (.ishl, 1) := by decide +kernel
theorem q186_173 : z_m186.2.2.2.2.2.lookup 173 = some (.iconst 1, 1) := by decide +kernel
theorem q186_174 : z_m186.2.2.2.2.2.lookup 174 = some (.isub, 1) := by decide +kernel
theorem q186_175 : z_m186.2.2.2.2.2.lookup 175 = some (.iaload, 1) := by decide +kernel
theorem q186_176 : z_m186.2.2.2.2.2.lookup 176 = some (.ireturn, 1) := by decide +kernel
theorem q187_0 : z_m187.2.2.2.2.2.lookup 0 = some (.iload_n 1, 1) := by decide +kernel
theorem q187_1 : z_m187.2.2.2.2.2.lookup 1 = some (.i2l, 1) := by decide +kernel
theorem q187_2 : z_m187.2.2.2.2.2.lookup 2 = some (.lconst 0, 1) := by decide +kernel
theorem q187_3 : z_m187.2.2.2.2.2.lookup 3 = some (.ldc2_w 15, 3) := by decide +kernel
theorem q187_6 : z_m187.2.2.2.2.2.lookup 6 = some (.invokestatic 3, 3) := by decide +kernel
theorem q187_9 : z_m187.2.2.2.2.2.lookup 9 = some (.ifCond .eq 27, 3) := by decide +kernel
theorem q187_12 : z_m187.2.2.2.2.2.lookup 12 = some (.iload_n 2, 1) := by decide +kernel
theorem q187_13 : z_m187.2.2.2.2.2.lookup 13 = some (.i2l, 1) := by decide +kernel
theorem q187_14 : z_m187.2.2.2.2.2.lookup 14 = some (.lconst 1, 1) := by decide +kernel
theorem q187_15 : z_m187.2.2.2.2.2.lookup 15 = some (.ldc2_w 31, 3) := by decide +kernel
theorem q187_18 : z_m187.2.2.2.2.2.lookup 18 = some (.invokestatic 3, 3) := by decide +kernel
theorem q187_21 : z_m187.2.2.2.2.2.lookup 21 = some (.ifCond .eq 15, 3) := by decide +kernel
theorem q187_24 : z_m187.2.2.2.2.2.lookup 24 = some (.iload_n 3, 1) := by decide +kernel
theorem q187_25 : z_m187.2.2.2.2.2.lookup 25 = some (.i2l, 1) := by decide +kernel
theorem q187_26 : z_m187.2.2.2.2.2.lookup 26 = some (.lconst 0, 1) := by decide +kernel
theorem q187_27 : z_m187.2.2.2.2.2.lookup 27 = some (.ldc2_w 89, 3) := by decide +kernel
theorem q187_30 : z_m187.2.2.2.2.2.lookup 30 = some (.invokestatic 3, 3) := by decide +kernel
theorem q187_33 : z_m187.2.2.2.2.2.lookup 33 = some (.ifCond .ne 6, 3) := by decide +kernel
theorem q187_36 : z_m187.2.2.2.2.2.lookup 36 = some (.bipush (-2), 2) := by decide +kernel
theorem q187_38 : z_m187.2.2.2.2.2.lookup 38 = some (.ireturn, 1) := by decide +kernel
theorem q187_39 : z_m187.2.2.2.2.2.lookup 39 = some (.aload_n 0, 1) := by decide +kernel
theorem q187_40 : z_m187.2.2.2.2.2.lookup 40 = some (.iload_n 1, 1) := by decide +kernel
theorem q187_41 : z_m187.2.2.2.2.2.lookup 41 = some (.invokevirtual 400, 3) := by decide +kernel
theorem q187_44 : z_m187.2.2.2.2.2.lookup 44 = some (.istore 4, 2) := by decide +kernel
theorem q187_46 : z_m187.2.2.2.2.2.lookup 46 = some (.iload 4, 2) := by decide +kernel
theorem q187_48 : z_m187.2.2.2.2.2.lookup 48 = some (.bipush 8, 2) := by decide +kernel
theorem q187_50 : z_m187.2.2.2.2.2.lookup 50 = some (.if_icmp .le 6, 3) := by decide +kernel
theorem q187_53 : z_m187.2.2.2.2.2.lookup 53 = some (.bipush (-3), 2) := by decide +kernel
theorem q187_55 : z_m187.2.2.2.2.2.lookup 55 = some (.ireturn, 1) := by decide +kernel
theorem q187_56 : z_m187.2.2.2.2.2.lookup 56 = some (.iconst 0, 1) := by decide +kernel
theorem q187_57 : z_m187.2.2.2.2.2.lookup 57 = some (.istore 5, 2) := by decide +kernel
theorem q187_59 : z_m187.2.2.2.2.2.lookup 59 = some (.iload 5, 2) := by decide +kernel
theorem q187_61 : z_m187.2.2.2.2.2.lookup 61 = some (.iload 4, 2) := by decide +kernel
theorem q187_63 : z_m187.2.2.2.2.2.lookup 63 = some (.if_icmp .ge 45, 3) := by decide +kernel
theorem q187_66 : z_m187.2.2.2.2.2.lookup 66 = some (.aload_n 0, 1) := by decide +kernel
theorem q187_67 : z_m187.2.2.2.2.2.lookup 67 = some (.getfield 277, 3) := by decide +kernel
theorem q187_70 : z_m187.2.2.2.2.2.lookup 70 = some (.aload_n 0, 1) := by decide +kernel
theorem q187_71 : z_m187.2.2.2.2.2.lookup 71 = some (.getfield 292, 3) := by decide +kernel
theorem q187_74 : z_m187.2.2.2.2.2.lookup 74 = some (.iload 5, 2) := by decide +kernel
theorem q187_76 : z_m187.2.2.2.2.2.lookup 76 = some (.iaload, 1) := by decide +kernel
theorem q187_77 : z_m187.2.2.2.2.2.lookup 77 = some (.iaload, 1) := by decide +kernel
theorem q187_78 : z_m187.2.2.2.2.2.lookup 78 = some (.iload_n 2, 1) := by decide +kernel
theorem q187_79 : z_m187.2.2.2.2.2.lookup 79 = some (.if_icmp .gt 21, 3) := by decide +kernel
theorem q187_82 : z_m187.2.2.2.2.2.lookup 82 = some (.iconst 2, 1) := by decide +kernel
theorem q187_83 : z_m187.2.2.2.2.2.lookup 83 = some (.aload_n 0, 1) := by decide +kernel
theorem q187_84 : z_m187.2.2.2.2.2.lookup 84 = some (.getfield 283, 3) := by decide +kernel
theorem q187_87 : z_m187.2.2.2.2.2.lookup 87 = some (.aload_n 0, 1) := by decide +kernel
theorem q187_88 : z_m187.2.2.2.2.2.lookup 88 = some (.getfield 292, 3) := by decide +kernel
theorem q187_91 : z_m187.2.2.2.2.2.lookup 91 = some (.iload 5, 2) := by decide +kernel
theorem q187_93 : z_m187.2.2.2.2.2.lookup 93 = some (.iaload, 1) := by decide +kernel
theorem q187_94 : z_m187.2.2.2.2.2.lookup 94 = some (.iaload, 1) := by decide +kernel
theorem q187_95 : z_m187.2.2.2.2.2.lookup 95 = some (.imul, 1) := by decide +kernel
theorem q187_96 : z_m187.2.2.2.2.2.lookup 96 = some (.iload_n 3, 1) := by decide +kernel
theorem q187_97 : z_m187.2.2.2.2.2.lookup 97 = some (.if_icmp .le 5, 3) := by decide +kernel
theorem q187_100 : z_m187.2.2.2.2.2.lookup 100 = some (.iconst (-1), 1) := by decide +kernel
theorem q187_101 : z_m187.2.2.2.2.2.lookup 101 = some (.ireturn, 1) := by decide +kernel
theorem q187_102 : z_m187.2.2.2.2.2.lookup 102 = some (.iinc 5 1, 3) := by decide +kernel
theorem q187_105 : z_m187.2.2.2.2.2.lookup 105 = some (.goto (-46), 3) := by decide +kernel
theorem q187_108 : z_m187.2.2.2.2.2.lookup 108 = some (.aload_n 0, 1) := by decide +kernel
theorem q187_109 : z_m187.2.2.2.2.2.lookup 109 = some (.iload 4, 2) := by decide +kernel
theorem q187_111 : z_m187.2.2.2.2.2.lookup 111 = some (.iload_n 2, 1) := by decide +kernel
theorem q187_112 : z_m187.2.2.2.2.2.lookup 112 = some (.invokevirtual 403, 3) := by decide +kernel
theorem q187_115 : z_m187.2.2.2.2.2.lookup 115 = some (.ireturn, 1) := by decide +kernel
theorem q188_0 : z_m188.2.2.2.2.2.lookup 0 = some (.iload_n 1, 1) := by decide +kernel
theorem q188_1 : z_m188.2.2.2.2.2.lookup 1 = some (.i2l, 1) := by decide +kernel
theorem q188_2 : z_m188.2.2.2.2.2.lookup 2 = some (.lconst 0, 1) := by decide +kernel
theorem q188_3 : z_m188.2.2.2.2.2.lookup 3 = some (.ldc2_w 108, 3) := by decide +kernel
theorem q188_6 : z_m188.2.2.2.2.2.lookup 6 = some (.invokestatic 3, 3) := by decide +kernel
theorem q188_9 : z_m188.2.2.2.2.2.lookup 9 = some (.ifCond .eq 15, 3) := by decide +kernel
theorem q188_12 : z_m188.2.2.2.2.2.lookup 12 = some (.iload_n 2, 1) := by decide +kernel
theorem q188_13 : z_m188.2.2.2.2.2.lookup 13 = some (.i2l, 1) := by decide +kernel
theorem q188_14 : z_m188.2.2.2.2.2.lookup 14 = some (.lconst 0, 1) := by decide +kernel
theorem q188_15 : z_m188.2.2.2.2.2.lookup 15 = some (.ldc2_w 108, 3) := by decide +kernel
theorem q188_18 : z_m188.2.2.2.2.2.lookup 18 = some (.invokestatic 3, 3) := by decide +kernel
theorem q188_21 : z_m188.2.2.2.2.2.lookup 21 = some (.ifCond .ne 6, 3) := by decide +kernel
theorem q188_24 : z_m188.2.2.2.2.2.lookup 24 = some (.bipush (-2), 2) := by decide +kernel
theorem q188_26 : z_m188.2.2.2.2.2.lookup 26 = some (.ireturn, 1) := by decide +kernel
theorem q188_27 : z_m188.2.2.2.2.2.lookup 27 = some (.aload_n 0, 1) := by decide +kernel
theorem q188_28 : z_m188.2.2.2.2.2.lookup 28 = some (.getfield 406, 3) := by decide +kernel
theorem q188_31 : z_m188.2.2.2.2.2.lookup 31 = some (.iconst 5, 1) := by decide +kernel
theorem q188_32 : z_m188.2.2.2.2.2.lookup 32 = some (.if_icmp .ne 6, 3) := by decide +kernel
theorem q188_35 : z_m188.2.2.2.2.2.lookup 35 = some (.bipush (-4), 2) := by decide +kernel
theorem q188_37 : z_m188.2.2.2.2.2.lookup 37 = some (.ireturn, 1) := by decide +kernel
theorem q188_38 : z_m188.2.2.2.2.2.lookup 38 = some (.aload_n 0, 1) := by decide +kernel
theorem q188_39 : z_m188.2.2.2.2.2.lookup 39 = some (.getfield 301, 3) := by decide +kernel
theorem q188_42 : z_m188.2.2.2.2.2.lookup 42 = some (.aload_n 0, 1) := by decide +kernel
theorem q188_43 : z_m188.2.2.2.2.2.lookup 43 = some (.getfield 406, 3) := by decide +kernel
theorem q188_46 : z_m188.2.2.2.2.2.lookup 46 = some (.iload_n 1, 1) := by decide +kernel
theorem q188_47 : z_m188.2.2.2.2.2.lookup 47 = some (.iastore, 1) := by decide +kernel
theorem q188_48 : z_m188.2.2.2.2.2.lookup 48 = some (.aload_n 0, 1) := by decide +kernel
theorem q188_49 : z_m188.2.2.2.2.2.lookup 49 = some (.getfield 304, 3) := by decide +kernel
theorem q188_52 : z_m188.2.2.2.2.2.lookup 52 = some (.aload_n 0, 1) := by decide +kernel
theorem q188_53 : z_m188.2.2.2.2.2.lookup 53 = some (.getfield 406, 3) := by decide +kernel
theorem q188_56 : z_m188.2.2.2.2.2.lookup 56 = some (.iload_n 2, 1) := by decide +kernel
theorem q188_57 : z_m188.2.2.2.2.2.lookup 57 = some (.iastore, 1) := by decide +kernel
theorem q188_58 : z_m188.2.2.2.2.2.lookup 58 = some (.aload_n 0, 1) := by decide +kernel
theorem q188_59 : z_m188.2.2.2.2.2.lookup 59 = some (.dup, 1) := by decide +kernel
theorem q188_60 : z_m188.2.2.2.2.2.lookup 60 = some (.getfield 406, 3) := by decide +kernel
theorem q188_63 : z_m188.2.2.2.2.2.lookup 63 = some (.iconst 1, 1) := by decide +kernel
theorem q188_64 : z_m188.2.2.2.2.2.lookup 64 = some (.iadd, 1) := by decide +kernel
theorem q188_65 : z_m188.2.2.2.2.2.lookup 65 = some (.putfield 406, 3) := by decide +kernel
theorem q188_68 : z_m188.2.2.2.2.2.lookup 68 = some (.aload_n 0, 1) := by decide +kernel
theorem q188_69 : z_m188.2.2.2.2.2.lookup 69 = some (.getfield 406, 3) := by decide +kernel
theorem q188_72 : z_m188.2.2.2.2.2.lookup 72 = some (.iconst 1, 1) := by decide +kernel
theorem q188_73 : z_m188.2.2.2.2.2.lookup 73 = some (.isub, 1) := by decide +kernel
theorem q188_74 : z_m188.2.2.2.2.2.lookup 74 = some (.ireturn, 1) := by decide +kernel
theorem q189_0 : z_m189.2.2.2.2.2.lookup 0 = some (.lconst 0, 1) := by decide +kernel
theorem q189_1 : z_m189.2.2.2.2.2.lookup 1 = some (.lstore 5, 2) := by decide +kernel
theorem q189_3 : z_m189.2.2.2.2.2.lookup 3 = some (.iconst 0, 1) := by decide +kernel
theorem q189_4 : z_m189.2.2.2.2.2.lookup 4 = some (.istore 7, 2) := by decide +kernel
theorem q189_6 : z_m189.2.2.2.2.2.lookup 6 = some (.iload 7, 2) := by decide +kernel
theorem q189_8 : z_m189.2.2.2.2.2.lookup 8 = some (.aload_n 0, 1) := by decide +kernel
theorem q189_9 : z_m189.2.2.2.2.2.lookup 9 = some (.getfield 21, 3) := by decide +kernel
theorem q189_12 : z_m189.2.2.2.2.2.lookup 12 = some (.if_icmp .ge 83, 3) := by decide +kernel
theorem q189_15 : z_m189.2.2.2.2.2.lookup 15 = some (.aload_n 0, 1) := by decide +kernel
theorem q189_16 : z_m189.2.2.2.2.2.lookup 16 = some (.iload 7, 2) := by decide +kernel
theorem q189_18 : z_m189.2.2.2.2.2.lookup 18 = some (.iload_n 1, 1) := by decide +kernel
theorem q189_19 : z_m189.2.2.2.2.2.lookup 19 = some (.iload_n 2, 1) := by decide +kernel
theorem q189_20 : z_m189.2.2.2.2.2.lookup 20 = some (.iload_n 3, 1) := by decide +kernel
theorem q189_21 : z_m189.2.2.2.2.2.lookup 21 = some (.invokevirtual 369, 3) := by decide +kernel
theorem q189_24 : z_m189.2.2.2.2.2.lookup 24 = some (.ifCond .eq 65, 3) := by decide +kernel
theorem q189_27 : z_m189.2.2.2.2.2.lookup 27 = some (.lload 5, 2) := by decide +kernel
theorem q189_29 : z_m189.2.2.2.2.2.lookup 29 = some (.aload_n 0, 1) := by decide +kernel
theorem q189_30 : z_m189.2.2.2.2.2.lookup 30 = some (.iload 7, 2) := by decide +kernel
theorem q189_32 : z_m189.2.2.2.2.2.lookup 32 = some (.iconst 0, 1) := by decide +kernel
theorem q189_33 : z_m189.2.2.2.2.2.lookup 33 = some (.aload_n 0, 1) := by decide +kernel
theorem q189_34 : z_m189.2.2.2.2.2.lookup 34 = some (.getfield 60, 3) := by decide +kernel
theorem q189_37 : z_m189.2.2.2.2.2.lookup 37 = some (.iload 7, 2) := by decide +kernel
theorem q189_39 : z_m189.2.2.2.2.2.lookup 39 = some (.iaload, 1) := by decide +kernel
theorem q189_40 : z_m189.2.2.2.2.2.lookup 40 = some (.invokevirtual 66, 3) := by decide +kernel
theorem q189_43 : z_m189.2.2.2.2.2.lookup 43 = some (.aload_n 0, 1) := by decide +kernel
theorem q189_44 : z_m189.2.2.2.2.2.lookup 44 = some (.getfield 301, 3) := by decide +kernel
theorem q189_47 : z_m189.2.2.2.2.2.lookup 47 = some (.iload 4, 2) := by decide +kernel
theorem q189_49 : z_m189.2.2.2.2.2.lookup 49 = some (.iaload, 1) := by decide +kernel
theorem q189_50 : z_m189.2.2.2.2.2.lookup 50 = some (.imul, 1) := by decide +kernel
theorem q189_51 : z_m189.2.2.2.2.2.lookup 51 = some (.bipush 100, 2) := by decide +kernel
theorem q189_53 : z_m189.2.2.2.2.2.lookup 53 = some (.idiv, 1) := by decide +kernel
theorem q189_54 : z_m189.2.2.2.2.2.lookup 54 = some (.i2l, 1) := by decide +kernel
theorem q189_55 : z_m189.2.2.2.2.2.lookup 55 = some (.ladd, 1) := by decide +kernel
theorem q189_56 : z_m189.2.2.2.2.2.lookup 56 = some (.lstore 5, 2) := by decide +kernel
theorem q189_58 : z_m189.2.2.2.2.2.lookup 58 = some (.lload 5, 2) := by decide +kernel
theorem q189_60 : z_m189.2.2.2.2.2.lookup 60 = some (.aload_n 0, 1) := by decide +kernel
theorem q189_61 : z_m189.2.2.2.2.2.lookup 61 = some (.iload 7, 2) := by decide +kernel
theorem q189_63 : z_m189.2.2.2.2.2.lookup 63 = some (.iconst 1, 1) := by decide +kernel
theorem q189_64 : z_m189.2.2.2.2.2.lookup 64 = some (.aload_n 0, 1) := by decide +kernel
theorem q189_65 : z_m189.2.2.2.2.2.lookup 65 = some (.getfield 60, 3) := by decide +kernel
theorem q189_68 : z_m189.2.2.2.2.2.lookup 68 = some (.iload 7, 2) := by decide +kernel
theorem q189_70 : z_m189.2.2.2.2.2.lookup 70 = some (.iaload, 1) := by decide +kernel
theorem q189_71 : z_m189.2.2.2.2.2.lookup 71 = some (.invokevirtual 66, 3) := by decide +kernel
theorem q189_74 : z_m189.2.2.2.2.2.lookup 74 = some (.aload_n 0, 1) := by decide +kernel
theorem q189_75 : z_m189.2.2.2.2.2.lookup 75 = some (.getfield 304, 3) := by decide +kernel
theorem q189_78 : z_m189.2.2.2.2.2.lookup 78 = some (.iload 4, 2) := by decide +kernel
theorem q189_80 : z_m189.2.2.2.2.2.lookup 80 = some (.iaload, 1) := by decide +kernel
theorem q189_81 : z_m189.2.2.2.2.2.lookup 81 = some (.imul, 1) := by decide +kernel
theorem q189_82 : z_m189.2.2.2.2.2.lookup 82 = some (.bipush 100, 2) := by decide +kernel
theorem q189_84 : z_m189.2.2.2.2.2.lookup 84 = some (.idiv, 1) := by decide +kernel
theorem q189_85 : z_m189.2.2.2.2.2.lookup 85 = some (.i2l, 1) := by decide +kernel
theorem q189_86 : z_m189.2.2.2.2.2.lookup 86 = some (.ladd, 1) := by decide +kernel
theorem q189_87 : z_m189.2.2.2.2.2.lookup 87 = some (.lstore 5, 2) := by decide +kernel
theorem q189_89 : z_m189.2.2.2.2.2.lookup 89 = some (.iinc 7 1, 3) := by decide +kernel
theorem q189_92 : z_m189.2.2.2.2.2.lookup 92 = some (.goto (-86), 3) := by decide +kernel
theorem q189_95 : z_m189.2.2.2.2.2.lookup 95 = some (.lload 5, 2) := by decide +kernel
theorem q189_97 : z_m189.2.2.2.2.2.lookup 97 = some (.lreturn, 1) := by decide +kernel
theorem q190_0 : z_m190.2.2.2.2.2.lookup 0 = some (.iload_n 1, 1) := by decide +kernel
theorem q190_1 : z_m190.2.2.2.2.2.lookup 1 = some (.invokestatic 24, 3) := by decide +kernel
theorem q190_4 : z_m190.2.2.2.2.2.lookup 4 = some (.ifCond .eq 26, 3) := by decide +kernel
theorem q190_7 : z_m190.2.2.2.2.2.lookup 7 = some (.iload_n 2, 1) := by decide +kernel
theorem q190_8 : z_m190.2.2.2.2.2.lookup 8 = some (.iload_n 3, 1) := by decide +kernel
theorem q190_9 : z_m190.2.2.2.2.2.lookup 9 = some (.invokestatic 365, 3) := by decide +kernel
theorem q190_12 : z_m190.2.2.2.2.2.lookup 12 = some (.ifCond .eq 18, 3) := by decide +kernel
theorem q190_15 : z_m190.2.2.2.2.2.lookup 15 = some (.iload 4, 2) := by decide +kernel
theorem q190_17 : z_m190.2.2.2.2.2.lookup 17 = some (.iconst (-1), 1) := by decide +kernel
theorem q190_18 : z_m190.2.2.2.2.2.lookup 18 = some (.if_icmp .lt 12, 3) := by decide +kernel
theorem q190_21 : z_m190.2.2.2.2.2.lookup 21 = some (.iload 4, 2) := by decide +kernel
theorem q190_23 : z_m190.2.2.2.2.2.lookup 23 = some (.aload_n 0, 1) := by decide +kernel
theorem q190_24 : z_m190.2.2.2.2.2.lookup 24 = some (.getfield 406, 3) := by decide +kernel
theorem q190_27 : z_m190.2.2.2.2.2.lookup 27 = some (.if_icmp .lt 7, 3) := by decide +kernel
theorem q190_30 : z_m190.2.2.2.2.2.lookup 30 = some (.ldc2_w 363, 3) := by decide +kernel
theorem q190_33 : z_m190.2.2.2.2.2.lookup 33 = some (.lreturn, 1) := by decide +kernel
theorem q190_34 : z_m190.2.2.2.2.2.lookup 34 = some (.iload 4, 2) := by decide +kernel
theorem q190_36 : z_m190.2.2.2.2.2.lookup 36 = some (.iconst (-1), 1) := by decide +kernel
theorem q190_37 : z_m190.2.2.2.2.2.lookup 37 = some (.if_icmp .eq 13, 3) := by decide +kernel
theorem q190_40 : z_m190.2.2.2.2.2.lookup 40 = some (.aload_n 0, 1) := by decide +kernel
theorem q190_41 : z_m190.2.2.2.2.2.lookup 41 = some (.iload_n 1, 1) := by decide +kernel
theorem q190_42 : z_m190.2.2.2.2.2.lookup 42 = some (.iload_n 2, 1) := by decide +kernel
theorem q190_43 : z_m190.2.2.2.2.2.lookup 43 = some (.iload_n 3, 1) := by decide +kernel
theorem q190_44 : z_m190.2.2.2.2.2.lookup 44 = some (.iload 4, 2) := by decide +kernel
theorem q190_46 : z_m190.2.2.2.2.2.lookup 46 = some (.invokevirtual 409, 3) := by decide +kernel
theorem q190_49 : z_m190.2.2.2.2.2.lookup 49 = some (.lreturn, 1) := by decide +kernel
theorem q190_50 : z_m190.2.2.2.2.2.lookup 50 = some (.lconst 0, 1) := by decide +kernel
theorem q190_51 : z_m190.2.2.2.2.2.lookup 51 = some (.lstore 5, 2) := by decide +kernel
theorem q190_53 : z_m190.2.2.2.2.2.lookup 53 = some (.iconst 0, 1) := by decide +kernel
theorem q190_54 : z_m190.2.2.2.2.2.lookup 54 = some (.istore 7, 2) := by decide +kernel
theorem q190_56 : z_m190.2.2.2.2.2.lookup 56 = some (.iload 7, 2) := by decide +kernel
theorem q190_58 : z_m190.2.2.2.2.2.lookup 58 = some (.aload_n 0, 1) := by decide +kernel
theorem q190_59 : z_m190.2.2.2.2.2.lookup 59 = some (.getfield 406, 3) := by decide +kernel
theorem q190_62 : z_m190.2.2.2.2.2.lookup 62 = some (.if_icmp .ge 42, 3) := by decide +kernel
theorem q190_65 : z_m190.2.2.2.2.2.lookup 65 = some (.aload_n 0, 1) := by decide +kernel
theorem q190_66 : z_m190.2.2.2.2.2.lookup 66 = some (.iload_n 1, 1) := by decide +kernel
theorem q190_67 : z_m190.2.2.2.2.2.lookup 67 = some (.iload_n 2, 1) := by decide +kernel
theorem q190_68 : z_m190.2.2.2.2.2.lookup 68 = some (.iload_n 3, 1) := by decide +kernel
theorem q190_69 : z_m190.2.2.2.2.2.lookup 69 = some (.iload 7, 2) := by decide +kernel
theorem q190_71 : z_m190.2.2.2.2.2.lookup 71 = some (.invokevirtual 409, 3) := by decide +kernel
theorem q190_74 : z_m190.2.2.2.2.2.lookup 74 = some (.lstore 8, 2) := by decide +kernel
theorem q190_76 : z_m190.2.2.2.2.2.lookup 76 = some (.iload 7, 2) := by decide +kernel
theorem q190_78 : z_m190.2.2.2.2.2.lookup 78 = some (.ifCond .eq 11, 3) := by decide +kernel
theorem q190_81 : z_m190.2.2.2.2.2.lookup 81 = some (.lload 8, 2) := by decide +kernel
theorem q190_83 : z_m190.2.2.2.2.2.lookup 83 = some (.lload 5, 2) := by decide +kernel
theorem q190_85 : z_m190.2.2.2.2.2.lookup 85 = some (.lcmp, 1) := by decide +kernel
theorem q190_86 : z_m190.2.2.2.2.2.lookup 86 = some (.ifCond .ge 8, 3) := by decide +kernel
theorem q190_89 : z_m190.2.2.2.2.2.lookup 89 = some (.lload 8, 2) := by decide +kernel
theorem q190_91 : z_m190.2.2.2.2.2.lookup 91 = some (.goto 5, 3) := by decide +kernel
theorem q190_94 : z_m190.2.2.2.2.2.lookup 94 = some (.lload 5, 2) := by decide +kernel
theorem q190_96 : z_m190.2.2.2.2.2.lookup 96 = some (.lstore 5, 2) := by decide +kernel
theorem q190_98 : z_m190.2.2.2.2.2.lookup 98 = some (.iinc 7 1, 3) := by decide +kernel
theorem q190_101 : z_m190.2.2.2.2.2.lookup 101 = some (.goto (-45), 3) := by decide +kernel
theorem q190_104 : z_m190.2.2.2.2.2.lookup 104 = some (.lload 5, 2) := by decide +kernel
theorem q190_106 : z_m190.2.2.2.2.2.lookup 106 = some (.lreturn, 1) := by decide +kernel
theorem q191_0 : z_m191.2.2.2.2.2.lookup 0 = some (.iload_n 1, 1) := by decide +kernel
theorem q191_1 : z_m191.2.2.2.2.2.lookup 1 = some (.i2l, 1) := by decide +kernel
theorem q191_2 : z_m191.2.2.2.2.2.lookup 2 = some (.lconst 0, 1) := by decide +kernel
theorem q191_3 : z_m191.2.2.2.2.2.lookup 3 = some (.ldc2_w 378, 3) := by decide +kernel
theorem q191_6 : z_m191.2.2.2.2.2.lookup 6 = some (.invokestatic 3, 3) := by decide +kernel
theorem q191_9 : z_m191.2.2.2.2.2.lookup 9 = some (.ifCond .eq 22, 3) := by decide +kernel
theorem q191_12 : z_m191.2.2.2.2.2.lookup 12 = some (.iload_n 2, 1) := by decide +kernel
theorem q191_13 : z_m191.2.2.2.2.2.lookup 13 = some (.invokestatic 28, 3) := by decide +kernel
theorem q191_16 : z_m191.2.2.2.2.2.lookup 16 = some (.ifCond .eq 15, 3) := by decide +kernel
theorem q191_19 : z_m191.2.2.2.2.2.lookup 19 = some (.iload_n 3, 1) := by decide +kernel
theorem q191_20 : z_m191.2.2.2.2.2.lookup 20 = some (.i2l, 1) := by decide +kernel
theorem q191_21 : z_m191.2.2.2.2.2.lookup 21 = some (.lconst 0, 1) := by decide +kernel
theorem q191_22 : z_m191.2.2.2.2.2.lookup 22 = some (.ldc2_w 108, 3) := by decide +kernel
theorem q191_25 : z_m191.2.2.2.2.2.lookup 25 = some (.invokestatic 3, 3) := by decide +kernel
theorem q191_28 : z_m191.2.2.2.2.2.lookup 28 = some (.ifCond .ne 6, 3) := by decide +kernel
theorem q191_31 : z_m191.2.2.2.2.2.lookup 31 = some (.bipush (-2), 2) := by decide +kernel
theorem q191_33 : z_m191.2.2.2.2.2.lookup 33 = some (.ireturn, 1) := by decide +kernel
theorem q191_34 : z_m191.2.2.2.2.2.lookup 34 = some (.aload_n 0, 1) := by decide +kernel
theorem q191_35 : z_m191.2.2.2.2.2.lookup 35 = some (.getfield 307, 3) := by decide +kernel
theorem q191_38 : z_m191.2.2.2.2.2.lookup 38 = some (.iconst 5, 1) := by decide +kernel
theorem q191_39 : z_m191.2.2.2.2.2.lookup 39 = some (.iload_n 1, 1) := by decide +kernel
theorem q191_40 : z_m191.2.2.2.2.2.lookup 40 = some (.imul, 1) := by decide +kernel
theorem q191_41 : z_m191.2.2.2.2.2.lookup 41 = some (.iload_n 2, 1) := by decide +kernel
theorem q191_42 : z_m191.2.2.2.2.2.lookup 42 = some (.iadd, 1) := by decide +kernel
theorem q191_43 : z_m191.2.2.2.2.2.lookup 43 = some (.iaload, 1) := by decide +kernel
theorem q191_44 : z_m191.2.2.2.2.2.lookup 44 = some (.istore 4, 2) := by decide +kernel
theorem q191_46 : z_m191.2.2.2.2.2.lookup 46 = some (.aload_n 0, 1) := by decide +kernel
theorem q191_47 : z_m191.2.2.2.2.2.lookup 47 = some (.getfield 307, 3) := by decide +kernel
theorem q191_50 : z_m191.2.2.2.2.2.lookup 50 = some (.iconst 5, 1) := by decide +kernel
theorem q191_51 : z_m191.2.2.2.2.2.lookup 51 = some (.iload_n 1, 1) := by decide +kernel
theorem q191_52 : z_m191.2.2.2.2.2.lookup 52 = some (.imul, 1) := by decide +kernel
theorem q191_53 : z_m191.2.2.2.2.2.lookup 53 = some (.iload_n 2, 1) := by decide +kernel
theorem q191_54 : z_m191.2.2.2.2.2.lookup 54 = some (.iadd, 1) := by decide +kernel
theorem q191_55 : z_m191.2.2.2.2.2.lookup 55 = some (.iload_n 3, 1) := by decide +kernel
theorem q191_56 : z_m191.2.2.2.2.2.lookup 56 = some (.iastore, 1) := by decide +kernel
theorem q191_57 : z_m191.2.2.2.2.2.lookup 57 = some (.iload 4, 2) := by decide +kernel
theorem q191_59 : z_m191.2.2.2.2.2.lookup 59 = some (.ireturn, 1) := by decide +kernel
theorem q192_0 : z_m192.2.2.2.2.2.lookup 0 = some (.iload_n 1, 1) := by decide +kernel
theorem q192_1 : z_m192.2.2.2.2.2.lookup 1 = some (.iload_n 2, 1) := by decide +kernel
theorem q192_2 : z_m192.2.2.2.2.2.lookup 2 = some (.if_icmp .ne 48, 3) := by decide +kernel
theorem q192_5 : z_m192.2.2.2.2.2.lookup 5 = some (.iload 4, 2) := by decide +kernel
theorem q192_7 : z_m192.2.2.2.2.2.lookup 7 = some (.aload_n 0, 1) := by decide +kernel
theorem q192_8 : z_m192.2.2.2.2.2.lookup 8 = some (.getfield 413, 3) := by decide +kernel
theorem q192_11 : z_m192.2.2.2.2.2.lookup 11 = some (.if_icmp .le 38, 3) := by decide +kernel
theorem q192_14 : z_m192.2.2.2.2.2.lookup 14 = some (.aload_n 0, 1) := by decide +kernel
theorem q192_15 : z_m192.2.2.2.2.2.lookup 15 = some (.iload 4, 2) := by decide +kernel
theorem q192_17 : z_m192.2.2.2.2.2.lookup 17 = some (.putfield 413, 3) := by decide +kernel
theorem q192_20 : z_m192.2.2.2.2.2.lookup 20 = some (.iconst 0, 1) := by decide +kernel
theorem q192_21 : z_m192.2.2.2.2.2.lookup 21 = some (.istore 5, 2) := by decide +kernel
theorem q192_23 : z_m192.2.2.2.2.2.lookup 23 = some (.iload 5, 2) := by decide +kernel
theorem q192_25 : z_m192.2.2.2.2.2.lookup 25 = some (.iload_n 2, 1) := by decide +kernel
theorem q192_26 : z_m192.2.2.2.2.2.lookup 26 = some (.if_icmp .ge 23, 3) := by decide +kernel
theorem q192_29 : z_m192.2.2.2.2.2.lookup 29 = some (.aload_n 0, 1) := by decide +kernel
theorem q192_30 : z_m192.2.2.2.2.2.lookup 30 = some (.getfield 313, 3) := by decide +kernel
theorem q192_33 : z_m192.2.2.2.2.2.lookup 33 = some (.iload 5, 2) := by decide +kernel
theorem q192_35 : z_m192.2.2.2.2.2.lookup 35 = some (.aload_n 0, 1) := by decide +kernel
theorem q192_36 : z_m192.2.2.2.2.2.lookup 36 = some (.getfield 316, 3) := by decide +kernel
theorem q192_39 : z_m192.2.2.2.2.2.lookup 39 = some (.iload 5, 2) := by decide +kernel
theorem q192_41 : z_m192.2.2.2.2.2.lookup 41 = some (.iaload, 1) := by decide +kernel
theorem q192_42 : z_m192.2.2.2.2.2.lookup 42 = some (.iastore, 1) := by decide +kernel
theorem q192_43 : z_m192.2.2.2.2.2.lookup 43 = some (.iinc 5 1, 3) := by decide +kernel
theorem q192_46 : z_m192.2.2.2.2.2.lookup 46 = some (.goto (-23), 3) := by decide +kernel
theorem q192_49 : z_m192.2.2.2.2.2.lookup 49 = some (.return_, 1) := by decide +kernel
theorem q192_50 : z_m192.2.2.2.2.2.lookup 50 = some (.iconst 0, 1) := by decide +kernel
theorem q192_51 : z_m192.2.2.2.2.2.lookup 51 = some (.istore 5, 2) := by decide +kernel
theorem q192_53 : z_m192.2.2.2.2.2.lookup 53 = some (.iload 5, 2) := by decide +kernel
theorem q192_55 : z_m192.2.2.2.2.2.lookup 55 = some (.iconst 5, 1) := by decide +kernel
theorem q192_56 : z_m192.2.2.2.2.2.lookup 56 = some (.if_icmp .ge 59, 3) := by decide +kernel
theorem q192_59 : z_m192.2.2.2.2.2.lookup 59 = some (.iload_n 3, 1) := by decide +kernel
theorem q192_60 : z_m192.2.2.2.2.2.lookup 60 = some (.iload 5, 2) := by decide +kernel
theorem q192_62 : z_m192.2.2.2.2.2.lookup 62 = some (.ishr, 1) := by decide +kernel
theorem q192_63 : z_m192.2.2.2.2.2.lookup 63 = some (.iconst 1, 1) := by decide +kernel
theorem q192_64 : z_m192.2.2.2.2.2.lookup 64 = some (.iand, 1) := by decide +kernel
theorem q192_65 : z_m192.2.2.2.2.2.lookup 65 = some (.ifCond .ne 44, 3) := by decide +kernel
theorem q192_68 : z_m192.2.2.2.2.2.lookup 68 = some (.aload_n 0, 1) := by decide +kernel
theorem q192_69 : z_m192.2.2.2.2.2.lookup 69 = some (.getfield 316, 3) := by decide +kernel
theorem q192_72 : z_m192.2.2.2.2.2.lookup 72 = some (.iload_n 1, 1) := by decide +kernel
theorem q192_73 : z_m192.2.2.2.2.2.lookup 73 = some (.iload 5, 2) := by decide +kernel
theorem q192_75 : z_m192.2.2.2.2.2.lookup 75 = some (.iastore, 1) := by decide +kernel
theorem q192_76 : z_m192.2.2.2.2.2.lookup 76 = some (.aload_n 0, 1) := by decide +kernel
theorem q192_77 : z_m192.2.2.2.2.2.lookup 77 = some (.iload_n 1, 1) := by decide +kernel
theorem q192_78 : z_m192.2.2.2.2.2.lookup 78 = some (.iconst 1, 1) := by decide +kernel
theorem q192_79 : z_m192.2.2.2.2.2.lookup 79 = some (.iadd, 1) := by decide +kernel
theorem q192_80 : z_m192.2.2.2.2.2.lookup 80 = some (.iload_n 2, 1) := by decide +kernel
theorem q192_81 : z_m192.2.2.2.2.2.lookup 81 = some (.iload_n 3, 1) := by decide +kernel
theorem q192_82 : z_m192.2.2.2.2.2.lookup 82 = some (.iconst 1, 1) := by decide +kernel
theorem q192_83 : z_m192.2.2.2.2.2.lookup 83 = some (.iload 5, 2) := by decide +kernel
theorem q192_85 : z_m192.2.2.2.2.2.lookup 85 = some (.ishl, 1) := by decide +kernel
theorem q192_86 : z_m192.2.2.2.2.2.lookup 86 = some (.ior, 1) := by decide +kernel
theorem q192_87 : z_m192.2.2.2.2.2.lookup 87 = some (.iload 4, 2) := by decide +kernel
theorem q192_89 : z_m192.2.2.2.2.2.lookup 89 = some (.aload_n 0, 1) := by decide +kernel
theorem q192_90 : z_m192.2.2.2.2.2.lookup 90 = some (.getfield 307, 3) := by decide +kernel
theorem q192_93 : z_m192.2.2.2.2.2.lookup 93 = some (.iconst 5, 1) := by decide +kernel
theorem q192_94 : z_m192.2.2.2.2.2.lookup 94 = some (.aload_n 0, 1) := by decide +kernel
theorem q192_95 : z_m192.2.2.2.2.2.lookup 95 = some (.getfield 310, 3) := by decide +kernel
theorem q192_98 : z_m192.2.2.2.2.2.lookup 98 = some (.iload_n 1, 1) := by decide +kernel
theorem q192_99 : z_m192.2.2.2.2.2.lookup 99 = some (.iaload, 1) := by decide +kernel
theorem q192_100 : z_m192.2.2.2.2.2.lookup 100 = some (.imul, 1) := by decide +kernel
theorem q192_101 : z_m192.2.2.2.2.2.lookup 101 = some (.iload 5, 2) := by decide +kernel
theorem q192_103 : z_m192.2.2.2.2.2.lookup 103 = some (.iadd, 1) := by decide +kernel
theorem q192_104 : z_m192.2.2.2.2.2.lookup 104 = some (.iaload, 1) := by decide +kernel
theorem q192_105 : z_m192.2.2.2.2.2.lookup 105 = some (.iadd, 1) := by decide +kernel
theorem q192_106 : z_m192.2.2.2.2.2.lookup 106 = some (.invokevirtual 416, 3) := by decide +kernel
theorem q192_109 : z_m192.2.2.2.2.2.lookup 109 = some (.iinc 5 1, 3) := by decide +kernel
theorem q192_112 : z_m192.2.2.2.2.2.lookup 112 = some (.goto (-59), 3) := by decide +kernel
theorem q192_115 : z_m192.2.2.2.2.2.lookup 115 = some (.return_, 1) := by decide +kernel
theorem q193_0 : z_m193.2.2.2.2.2.lookup 0 = some (.aload_n 0, 1) := by decide +kernel
theorem q193_1 : z_m193.2.2.2.2.2.lookup 1 = some (.iconst (-1), 1) := by decide +kernel
theorem q193_2 : z_m193.2.2.2.2.2.lookup 2 = some (.putfield 413, 3) := by decide +kernel
theorem q193_5 : z_m193.2.2.2.2.2.lookup 5 = some (.aload_n 0, 1) := by decide +kernel
theorem q193_6 : z_m193.2.2.2.2.2.lookup 6 = some (.iconst 0, 1) := by decide +kernel
theorem q193_7 : z_m193.2.2.2.2.2.lookup 7 = some (.iload_n 1, 1) := by decide +kernel
theorem q193_8 : z_m193.2.2.2.2.2.lookup 8 = some (.iconst 0, 1) := by decide +kernel
theorem q193_9 : z_m193.2.2.2.2.2.lookup 9 = some (.iconst 0, 1) := by decide +kernel
theorem q193_10 : z_m193.2.2.2.2.2.lookup 10 = some (.invokevirtual 416, 3) := by decide +kernel
theorem q193_13 : z_m193.2.2.2.2.2.lookup 13 = some (.aload_n 0, 1) := by decide +kernel
theorem q193_14 : z_m193.2.2.2.2.2.lookup 14 = some (.getfield 413, 3) := by decide +kernel
theorem q193_17 : z_m193.2.2.2.2.2.lookup 17 = some (.ireturn, 1) := by decide +kernel
theorem q194_0 : z_m194.2.2.2.2.2.lookup 0 = some (.iload_n 1, 1) := by decide +kernel
theorem q194_1 : z_m194.2.2.2.2.2.lookup 1 = some (.i2l, 1) := by decide +kernel
theorem q194_2 : z_m194.2.2.2.2.2.lookup 2 = some (.lconst 0, 1) := by decide +kernel
theorem q194_3 : z_m194.2.2.2.2.2.lookup 3 = some (.ldc2_w 420, 3) := by decide +kernel
theorem q194_6 : z_m194.2.2.2.2.2.lookup 6 = some (.invokestatic 3, 3) := by decide +kernel
theorem q194_9 : z_m194.2.2.2.2.2.lookup 9 = some (.ifCond .ne 6, 3) := by decide +kernel
theorem q194_12 : z_m194.2.2.2.2.2.lookup 12 = some (.bipush (-2), 2) := by decide +kernel
theorem q194_14 : z_m194.2.2.2.2.2.lookup 14 = some (.ireturn, 1) := by decide +kernel
theorem q194_15 : z_m194.2.2.2.2.2.lookup 15 = some (.iconst 0, 1) := by decide +kernel
theorem q194_16 : z_m194.2.2.2.2.2.lookup 16 = some (.istore_n 3, 1) := by decide +kernel
theorem q194_17 : z_m194.2.2.2.2.2.lookup 17 = some (.iconst 0, 1) := by decide +kernel
theorem q194_18 : z_m194.2.2.2.2.2.lookup 18 = some (.istore 4, 2) := by decide +kernel
theorem q194_20 : z_m194.2.2.2.2.2.lookup 20 = some (.iload 4, 2) := by decide +kernel
theorem q194_22 : z_m194.2.2.2.2.2.lookup 22 = some (.bipush 10, 2) := by decide +kernel
theorem q194_24 : z_m194.2.2.2.2.2.lookup 24 = some (.if_icmp .ge 38, 3) := by decide +kernel
theorem q194_27 : z_m194.2.2.2.2.2.lookup 27 = some (.iload_n 1, 1) := by decide +kernel
theorem q194_28 : z_m194.2.2.2.2.2.lookup 28 = some (.iload 4, 2) := by decide +kernel
theorem q194_30 : z_m194.2.2.2.2.2.lookup 30 = some (.ishr, 1) := by decide +kernel
theorem q194_31 : z_m194.2.2.2.2.2.lookup 31 = some (.iconst 1, 1) := by decide +kernel
theorem q194_32 : z_m194.2.2.2.2.2.lookup 32 = some (.iand, 1) := by decide +kernel
theorem q194_33 : z_m194.2.2.2.2.2.lookup 33 = some (.iconst 1, 1) := by decide +kernel
theorem q194_34 : z_m194.2.2.2.2.2.lookup 34 = some (.if_icmp .ne 22, 3) := by decide +kernel
theorem q194_37 : z_m194.2.2.2.2.2.lookup 37 = some (.iload_n 3, 1) := by decide +kernel
theorem q194_38 : z_m194.2.2.2.2.2.lookup 38 = some (.iconst 5, 1) := by decide +kernel
theorem q194_39 : z_m194.2.2.2.2.2.lookup 39 = some (.if_icmp .ne 6, 3) := by decide +kernel
theorem q194_42 : z_m194.2.2.2.2.2.lookup 42 = some (.bipush (-2), 2) := by decide +kernel
theorem q194_44 : z_m194.2.2.2.2.2.lookup 44 = some (.ireturn, 1) := by decide +kernel
theorem q194_45 : z_m194.2.2.2.2.2.lookup 45 = some (.aload_n 0, 1) := by decide +kernel
theorem q194_46 : z_m194.2.2.2.2.2.lookup 46 = some (.getfield 310, 3) := by decide +kernel
theorem q194_49 : z_m194.2.2.2.2.2.lookup 49 = some (.iload_n 3, 1) := by decide +kernel
theorem q194_50 : z_m194.2.2.2.2.2.lookup 50 = some (.iload 4, 2) := by decide +kernel
theorem q194_52 : z_m194.2.2.2.2.2.lookup 52 = some (.iastore, 1) := by decide +kernel
theorem q194_53 : z_m194.2.2.2.2.2.lookup 53 = some (.iinc 3 1, 3) := by decide +kernel
theorem q194_56 : z_m194.2.2.2.2.2.lookup 56 = some (.iinc 4 1, 3) := by decide +kernel
theorem q194_59 : z_m194.2.2.2.2.2.lookup 59 = some (.goto (-39), 3) := by decide +kernel
theorem q194_62 : z_m194.2.2.2.2.2.lookup 62 = some (.iload_n 2, 1) := by decide +kernel
theorem q194_63 : z_m194.2.2.2.2.2.lookup 63 = some (.iconst (-1), 1) := by decide +kernel
theorem q194_64 : z_m194.2.2.2.2.2.lookup 64 = some (.if_icmp .lt 8, 3) := by decide +kernel
theorem q194_67 : z_m194.2.2.2.2.2.lookup 67 = some (.iload_n 2, 1) := by decide +kernel
theorem q194_68 : z_m194.2.2.2.2.2.lookup 68 = some (.iload_n 3, 1) := by decide +kernel
theorem q194_69 : z_m194.2.2.2.2.2.lookup 69 = some (.if_icmp .lt 5, 3) := by decide +kernel
theorem q194_72 : z_m194.2.2.2.2.2.lookup 72 = some (.iconst (-1), 1) := by decide +kernel
theorem q194_73 : z_m194.2.2.2.2.2.lookup 73 = some (.ireturn, 1) := by decide +kernel
theorem q194_74 : z_m194.2.2.2.2.2.lookup 74 = some (.aload_n 0, 1) := by decide +kernel
theorem q194_75 : z_m194.2.2.2.2.2.lookup 75 = some (.iload_n 3, 1) := by decide +kernel
theorem q194_76 : z_m194.2.2.2.2.2.lookup 76 = some (.invokevirtual 422, 3) := by decide +kernel
theorem q194_79 : z_m194.2.2.2.2.2.lookup 79 = some (.istore 4, 2) := by decide +kernel
theorem q194_81 : z_m194.2.2.2.2.2.lookup 81 = some (.iload_n 2, 1) := by decide +kernel
theorem q194_82 : z_m194.2.2.2.2.2.lookup 82 = some (.iconst (-1), 1) := by decide +kernel
theorem q194_83 : z_m194.2.2.2.2.2.lookup 83 = some (.if_icmp .ne 8, 3) := by decide +kernel
theorem q194_86 : z_m194.2.2.2.2.2.lookup 86 = some (.iload 4, 2) := by decide +kernel
theorem q194_88 : z_m194.2.2.2.2.2.lookup 88 = some (.goto 9, 3) := by decide +kernel
theorem q194_91 : z_m194.2.2.2.2.2.lookup 91 = some (.aload_n 0, 1) := by decide +kernel
theorem q194_92 : z_m194.2.2.2.2.2.lookup 92 = some (.getfield 313, 3) := by decide +kernel
theorem q194_95 : z_m194.2.2.2.2.2.lookup 95 = some (.iload_n 2, 1) := by decide +kernel
theorem q194_96 : z_m194.2.2.2.2.2.lookup 96 = some (.iaload, 1) := by decide +kernel
theorem q194_97 : z_m194.2.2.2.2.2.lookup 97 = some (.ireturn, 1) := by decide +kernel
theorem q195_0 : z_m195.2.2.2.2.2.lookup 0 = some (.iload_n 1, 1) := by decide +kernel
theorem q195_1 : z_m195.2.2.2.2.2.lookup 1 = some (.i2l, 1) := by decide +kernel
theorem q195_2 : z_m195.2.2.2.2.2.lookup 2 = some (.lconst 1, 1) := by decide +kernel
theorem q195_3 : z_m195.2.2.2.2.2.lookup 3 = some (.ldc2_w 31, 3) := by decide +kernel
theorem q195_6 : z_m195.2.2.2.2.2.lookup 6 = some (.invokestatic 3, 3) := by decide +kernel
theorem q195_9 : z_m195.2.2.2.2.2.lookup 9 = some (.ifCond .eq 15, 3) := by decide +kernel
theorem q195_12 : z_m195.2.2.2.2.2.lookup 12 = some (.iload_n 2, 1) := by decide +kernel
theorem q195_13 : z_m195.2.2.2.2.2.lookup 13 = some (.i2l, 1) := by decide +kernel
theorem q195_14 : z_m195.2.2.2.2.2.lookup 14 = some (.lconst 0, 1) := by decide +kernel
theorem q195_15 : z_m195.2.2.2.2.2.lookup 15 = some (.ldc2_w 31, 3) := by decide +kernel
theorem q195_18 : z_m195.2.2.2.2.2.lookup 18 = some (.invokestatic 3, 3) := by decide +kernel
theorem q195_21 : z_m195.2.2.2.2.2.lookup 21 = some (.ifCond .ne 6, 3) := by decide +kernel
theorem q195_24 : z_m195.2.2.2.2.2.lookup 24 = some (.bipush (-2), 2) := by decide +kernel
theorem q195_26 : z_m195.2.2.2.2.2.lookup 26 = some (.ireturn, 1) := by decide +kernel
theorem q195_27 : z_m195.2.2.2.2.2.lookup 27 = some (.aload_n 0, 1) := by decide +kernel
theorem q195_28 : z_m195.2.2.2.2.2.lookup 28 = some (.getfield 425, 3) := by decide +kernel
theorem q195_31 : z_m195.2.2.2.2.2.lookup 31 = some (.bipush 8, 2) := by decide +kernel
theorem q195_33 : z_m195.2.2.2.2.2.lookup 33 = some (.if_icmp .ne 6, 3) := by decide +kernel
theorem q195_36 : z_m195.2.2.2.2.2.lookup 36 = some (.bipush (-4), 2) := by decide +kernel
theorem q195_38 : z_m195.2.2.2.2.2.lookup 38 = some (.ireturn, 1) := by decide +kernel
theorem q195_39 : z_m195.2.2.2.2.2.lookup 39 = some (.aload_n 0, 1) := by decide +kernel
theorem q195_40 : z_m195.2.2.2.2.2.lookup 40 = some (.getfield 319, 3) := by decide +kernel
theorem q195_43 : z_m195.2.2.2.2.2.lookup 43 = some (.aload_n 0, 1) := by decide +kernel
theorem q195_44 : z_m195.2.2.2.2.2.lookup 44 = some (.getfield 425, 3) := by decide +kernel
theorem q195_47 : z_m195.2.2.2.2.2.lookup 47 = some (.iload_n 1, 1) := by decide +kernel
theorem q195_48 : z_m195.2.2.2.2.2.lookup 48 = some (.iastore, 1) := by decide +kernel
theorem q195_49 : z_m195.2.2.2.2.2.lookup 49 = some (.aload_n 0, 1) := by decide +kernel
theorem q195_50 : z_m195.2.2.2.2.2.lookup 50 = some (.getfield 322, 3) := by decide +kernel
theorem q195_53 : z_m195.2.2.2.2.2.lookup 53 = some (.aload_n 0, 1) := by decide +kernel
theorem q195_54 : z_m195.2.2.2.2.2.lookup 54 = some (.getfield 425, 3) := by decide +kernel
theorem q195_57 : z_m195.2.2.2.2.2.lookup 57 = some (.iload_n 2, 1) := by decide +kernel
theorem q195_58 : z_m195.2.2.2.2.2.lookup 58 = some (.iastore, 1) := by decide +kernel
theorem q195_59 : z_m195.2.2.2.2.2.lookup 59 = some (.aload_n 0, 1) := by decide +kernel
theorem q195_60 : z_m195.2.2.2.2.2.lookup 60 = some (.dup, 1) := by decide +kernel
theorem q195_61 : z_m195.2.2.2.2.2.lookup 61 = some (.getfield 425, 3) := by decide +kernel
theorem q195_64 : z_m195.2.2.2.2.2.lookup 64 = some (.iconst 1, 1) := by decide +kernel
theorem q195_65 : z_m195.2.2.2.2.2.lookup 65 = some (.iadd, 1) := by decide +kernel
theorem q195_66 : z_m195.2.2.2.2.2.lookup 66 = some (.putfield 425, 3) := by decide +kernel
theorem q195_69 : z_m195.2.2.2.2.2.lookup 69 = some (.aload_n 0, 1) := by decide +kernel
theorem q195_70 : z_m195.2.2.2.2.2.lookup 70 = some (.getfield 425, 3) := by decide +kernel
theorem q195_73 : z_m195.2.2.2.2.2.lookup 73 = some (.iconst 1, 1) := by decide +kernel
theorem q195_74 : z_m195.2.2.2.2.2.lookup 74 = some (.isub, 1) := by decide +kernel
theorem q195_75 : z_m195.2.2.2.2.2.lookup 75 = some (.ireturn, 1) := by decide +kernel
theorem q196_0 : z_m196.2.2.2.2.2.lookup 0 = some (.iconst 0, 1) := by decide +kernel
theorem q196_1 : z_m196.2.2.2.2.2.lookup 1 = some (.istore_n 3, 1) := by decide +kernel
theorem q196_2 : z_m196.2.2.2.2.2.lookup 2 = some (.iconst 0, 1) := by decide +kernel
theorem q196_3 : z_m196.2.2.2.2.2.lookup 3 = some (.istore 4, 2) := by decide +kernel
theorem q196_5 : z_m196.2.2.2.2.2.lookup 5 = some (.iload 4, 2) := by decide +kernel
theorem q196_7 : z_m196.2.2.2.2.2.lookup 7 = some (.aload_n 0, 1) := by decide +kernel
theorem q196_8 : z_m196.2.2.2.2.2.lookup 8 = some (.getfield 425, 3) := by decide +kernel
theorem q196_11 : z_m196.2.2.2.2.2.lookup 11 = some (.if_icmp .ge 30, 3) := by decide +kernel
theorem q196_14 : z_m196.2.2.2.2.2.lookup 14 = some (.iload_n 3, 1) := by decide +kernel
theorem q196_15 : z_m196.2.2.2.2.2.lookup 15 = some (.iload_n 2, 1) := by decide +kernel
theorem q196_16 : z_m196.2.2.2.2.2.lookup 16 = some (.iload 4, 2) := by decide +kernel
theorem q196_18 : z_m196.2.2.2.2.2.lookup 18 = some (.ishr, 1) := by decide +kernel
theorem q196_19 : z_m196.2.2.2.2.2.lookup 19 = some (.iconst 1, 1) := by decide +kernel
theorem q196_20 : z_m196.2.2.2.2.2.lookup 20 = some (.iand, 1) := by decide +kernel
theorem q196_21 : z_m196.2.2.2.2.2.lookup 21 = some (.iconst 1, 1) := by decide +kernel
theorem q196_22 : z_m196.2.2.2.2.2.lookup 22 = some (.if_icmp .ne 10, 3) := by decide +kernel
theorem q196_25 : z_m196.2.2.2.2.2.lookup 25 = some (.aload_n 1, 1) := by decide +kernel
theorem q196_26 : z_m196.2.2.2.2.2.lookup 26 = some (.iload 4, 2) := by decide +kernel
theorem q196_28 : z_m196.2.2.2.2.2.lookup 28 = some (.iaload, 1) := by decide +kernel
theorem q196_29 : z_m196.2.2.2.2.2.lookup 29 = some (.goto 4, 3) := by decide +kernel
theorem q196_32 : z_m196.2.2.2.2.2.lookup 32 = some (.iconst 0, 1) := by decide +kernel
theorem q196_33 : z_m196.2.2.2.2.2.lookup 33 = some (.iadd, 1) := by decide +kernel
theorem q196_34 : z_m196.2.2.2.2.2.lookup 34 = some (.istore_n 3, 1) := by decide +kernel
theorem q196_35 : z_m196.2.2.2.2.2.lookup 35 = some (.iinc 4 1, 3) := by decide +kernel
theorem q196_38 : z_m196.2.2.2.2.2.lookup 38 = some (.goto (-33), 3) := by decide +kernel
theorem q196_41 : z_m196.2.2.2.2.2.lookup 41 = some (.iload_n 3, 1) := by decide +kernel
theorem q196_42 : z_m196.2.2.2.2.2.lookup 42 = some (.ireturn, 1) := by decide +kernel
theorem q197_0 : z_m197.2.2.2.2.2.lookup 0 = some (.iconst 0, 1) := by decide +kernel
theorem q197_1 : z_m197.2.2.2.2.2.lookup 1 = some (.istore_n 2, 1) := by decide +kernel
theorem q197_2 : z_m197.2.2.2.2.2.lookup 2 = some (.iconst 0, 1) := by decide +kernel
theorem q197_3 : z_m197.2.2.2.2.2.lookup 3 = some (.istore_n 3, 1) := by decide +kernel
theorem q197_4 : z_m197.2.2.2.2.2.lookup 4 = some (.iload_n 3, 1) := by decide +kernel
theorem q197_5 : z_m197.2.2.2.2.2.lookup 5 = some (.aload_n 0, 1) := by decide +kernel
theorem q197_6 : z_m197.2.2.2.2.2.lookup 6 = some (.getfield 425, 3) := by decide +kernel
theorem q197_9 : z_m197.2.2.2.2.2.lookup 9 = some (.if_icmp .ge 78, 3) := by decide +kernel
theorem q197_12 : z_m197.2.2.2.2.2.lookup 12 = some (.iconst 1, 1) := by decide +kernel
theorem q197_13 : z_m197.2.2.2.2.2.lookup 13 = some (.iload_n 3, 1) := by decide +kernel
theorem q197_14 : z_m197.2.2.2.2.2.lookup 14 = some (.ishl, 1) := by decide +kernel
theorem q197_15 : z_m197.2.2.2.2.2.lookup 15 = some (.istore 4, 2) := by decide +kernel
theorem q197_17 : z_m197.2.2.2.2.2.lookup 17 = some (.iload 4, 2) := by decide +kernel
theorem q197_19 : z_m197.2.2.2.2.2.lookup 19 = some (.iconst 2, 1) := by decide +kernel
theorem q197_20 : z_m197.2.2.2.2.2.lookup 20 = some (.iload_n 3, 1) := by decide +kernel
theorem q197_21 : z_m197.2.2.2.2.2.lookup 21 = some (.ishl, 1) := by decide +kernel
theorem q197_22 : z_m197.2.2.2.2.2.lookup 22 = some (.if_icmp .ge 59, 3) := by decide +kernel
theorem q197_25 : z_m197.2.2.2.2.2.lookup 25 = some (.aload_n 0, 1) := by decide +kernel
theorem q197_26 : z_m197.2.2.2.2.2.lookup 26 = some (.getfield 325, 3) := by decide +kernel
theorem q197_29 : z_m197.2.2.2.2.2.lookup 29 = some (.iload 4, 2) := by decide +kernel
theorem q197_31 : z_m197.2.2.2.2.2.lookup 31 = some (.aload_n 0, 1) := by decide +kernel
theorem q197_32 : z_m197.2.2.2.2.2.lookup 32 = some (.getfield 325, 3) := by decide +kernel
theorem q197_35 : z_m197.2.2.2.2.2.lookup 35 = some (.iload 4, 2) := by decide +kernel
theorem q197_37 : z_m197.2.2.2.2.2.lookup 37 = some (.iconst 1, 1) := by decide +kernel
theorem q197_38 : z_m197.2.2.2.2.2.lookup 38 = some (.iload_n 3, 1) := by decide +kernel
theorem q197_39 : z_m197.2.2.2.2.2.lookup 39 = some (.ishl, 1) := by decide +kernel
theorem q197_40 : z_m197.2.2.2.2.2.lookup 40 = some (.isub, 1) := by decide +kernel
theorem q197_41 : z_m197.2.2.2.2.2.lookup 41 = some (.iaload, 1) := by decide +kernel
theorem q197_42 : z_m197.2.2.2.2.2.lookup 42 = some (.aload_n 0, 1) := by decide +kernel
theorem q197_43 : z_m197.2.2.2.2.2.lookup 43 = some (.getfield 319, 3) := by decide +kernel
theorem q197_46 : z_m197.2.2.2.2.2.lookup 46 = some (.iload_n 3, 1) := by decide +kernel
theorem q197_47 : z_m197.2.2.2.2.2.lookup 47 = some (.iaload, 1) := by decide +kernel
theorem q197_48 : z_m197.2.2.2.2.2.lookup 48 = some (.iadd, 1) := by decide +kernel
theorem q197_49 : z_m197.2.2.2.2.2.lookup 49 = some (.iastore, 1) := by decide +kernel
theorem q197_50 : z_m197.2.2.2.2.2.lookup 50 = some (.aload_n 0, 1) := by decide +kernel
theorem q197_51 : z_m197.2.2.2.2.2.lookup 51 = some (.getfield 328, 3) := by decide +kernel
theorem q197_54 : z_m197.2.2.2.2.2.lookup 54 = some (.iload 4, 2) := by decide +kernel
theorem q197_56 : z_m197.2.2.2.2.2.lookup 56 = some (.aload_n 0, 1) := by decide +kernel
theorem q197_57 : z_m197.2.2.2.2.2.lookup 57 = some (.getfield 328, 3) := by decide +kernel
theorem q197_60 : z_m197.2.2.2.2.2.lookup 60 = some (.iload 4, 2) := by decide +kernel
theorem q197_62 : z_m197.2.2.2.2.2.lookup 62 = some (.iconst 1, 1) := by decide +kernel
theorem q197_63 : z_m197.2.2.2.2.2.lookup 63 = some (.iload_n 3, 1) := by decide +kernel
theorem q197_64 : z_m197.2.2.2.2.2.lookup 64 = some (.ishl, 1) := by decide +kernel
theorem q197_65 : z_m197.2.2.2.2.2.lookup 65 = some (.isub, 1) := by decide +kernel
theorem q197_66 : z_m197.2.2.2.2.2.lookup 66 = some (.iaload, 1) := by decide +kernel
theorem q197_67 : z_m197.2.2.2.2.2.lookup 67 = some (.aload_n 0, 1) := by decide +kernel
theorem q197_68 : z_m197.2.2.2.2.2.lookup 68 = some (.getfield 322, 3) := by decide +kernel
theorem q197_71 : z_m197.2.2.2.2.2.lookup 71 = some (.iload_n 3, 1) := by decide +kernel
theorem q197_72 : z_m197.2.2.2.2.2.lookup 72 = some (.iaload, 1) := by decide +kernel
theorem q197_73 : z_m197.2.2.2.2.2.lookup 73 = some (.iadd, 1) := by decide +kernel
theorem q197_74 : z_m197.2.2.2.2.2.lookup 74 = some (.iastore, 1) := by decide +kernel
theorem q197_75 : z_m197.2.2.2.2.2.lookup 75 = some (.iinc 4 1, 3) := by decide +kernel
theorem q197_78 : z_m197.2.2.2.2.2.lookup 78 = some (.goto (-61), 3) := by decide +kernel
theorem q197_81 : z_m197.2.2.2.2.2.lookup 81 = some (.iinc 3 1, 3) := by decide +kernel
theorem q197_84 : z_m197.2.2.2.2.2.lookup 84 = some (.goto (-80), 3) := by decide +kernel
theorem q197_87 : z_m197.2.2.2.2.2.lookup 87 = some (.iconst 1, 1) := by decide +kernel
theorem q197_88 : z_m197.2.2.2.2.2.lookup 88 = some (.istore_n 3, 1) := by decide +kernel
theorem q197_89 : z_m197.2.2.2.2.2.lookup 89 = some (.iload_n 3, 1) := by decide +kernel
theorem q197_90 : z_m197.2.2.2.2.2.lookup 90 = some (.iconst 1, 1) := by decide +kernel
theorem q197_91 : z_m197.2.2.2.2.2.lookup 91 = some (.aload_n 0, 1) := by decide +kernel
theorem q197_92 : z_m197.2.2.2.2.2.lookup 92 = some (.getfield 425, 3) := by decide +kernel
theorem q197_95 : z_m197.2.2.2.2.2.lookup 95 = some (.ishl, 1) := by decide +kernel
theorem q197_96 : z_m197.2.2.2.2.2.lookup 96 = some (.if_icmp .ge 82, 3) := by decide +kernel
theorem q197_99 : z_m197.2.2.2.2.2.lookup 99 = some (.aload_n 0, 1) := by decide +kernel
theorem q197_100 : z_m197.2.2.2.2.2.lookup 100 = some (.getfield 328, 3) := by decide +kernel
theorem q197_103 : z_m197.2.2.2.2.2.lookup 103 = some (.iload_n 3, 1) := by decide +kernel
theorem q197_104 : z_m197.2.2.2.2.2.lookup 104 = some (.iaload, 1) := by decide +kernel
theorem q197_105 : z_m197.2.2.2.2.2.lookup 105 = some (.aload_n 0, 1) := by decide +kernel
theorem q197_106 : z_m197.2.2.2.2.2.lookup 106 = some (.getfield 328, 3) := by decide +kernel
theorem q197_109 : z_m197.2.2.2.2.2.lookup 109 = some (.iload_n 2, 1) := by decide +kernel
theorem q197_110 : z_m197.2.2.2.2.2.lookup 110 = some (.iaload, 1) := by decide +kernel
theorem q197_111 : z_m197.2.2.2.2.2.lookup 111 = some (.if_icmp .gt 33, 3) := by decide +kernel
theorem q197_114 : z_m197.2.2.2.2.2.lookup 114 = some (.aload_n 0, 1) := by decide +kernel
theorem q197_115 : z_m197.2.2.2.2.2.lookup 115 = some (.getfield 328, 3) := by decide +kernel
theorem q197_118 : z_m197.2.2.2.2.2.lookup 118 = some (.iload_n 3, 1) := by decide +kernel
theorem q197_119 : z_m197.2.2.2.2.2.lookup 119 = some (.iaload, 1) := by decide +kernel
theorem q197_120 : z_m197.2.2.2.2.2.lookup 120 = some (.aload_n 0, 1) := by decide +kernel
theorem q197_121 : z_m197.2.2.2.2.2.lookup 121 = some (.getfield 328, 3) := by decide +kernel
theorem q197_124 : z_m197.2.2.2.2.2.lookup 124 = some (.iload_n 2, 1) := by decide +kernel
theorem q197_125 : z_m197.2.2.2.2.2.lookup 125 = some (.iaload, 1) := by decide +kernel
theorem q197_126 : z_m197.2.2.2.2.2.lookup 126 = some (.if_icmp .ne 22, 3) := by decide +kernel
theorem q197_129 : z_m197.2.2.2.2.2.lookup 129 = some (.aload_n 0, 1) := by decide +kernel
theorem q197_130 : z_m197.2.2.2.2.2.lookup 130 = some (.getfield 325, 3) := by decide +kernel
theorem q197_133 : z_m197.2.2.2.2.2.lookup 133 = some (.iload_n 3, 1) := by decide +kernel
theorem q197_134 : z_m197.2.2.2.2.2.lookup 134 = some (.iaload, 1) := by decide +kernel
theorem q197_135 : z_m197.2.2.2.2.2.lookup 135 = some (.aload_n 0, 1) := by decide +kernel
theorem q197_136 : z_m197.2.2.2.2.2.lookup 136 = some (.getfield 325, 3) := by decide +kernel
theorem q197_139 : z_m197.2.2.2.2.2.lookup 139 = some (.iload_n 2, 1) := by decide +kernel
theorem q197_140 : z_m197.2.2.2.2.2.lookup 140 = some (.iaload, 1) := by decide +kernel
theorem q197_141 : z_m197.2.2.2.2.2.lookup 141 = some (.if_icmp .ge 7, 3) := by decide +kernel
theorem q197_144 : z_m197.2.2.2.2.2.lookup 144 = some (.iconst 1, 1) := by decide +kernel
theorem q197_145 : z_m197.2.2.2.2.2.lookup 145 = some (.goto 4, 3) := by decide +kernel
theorem q197_148 : z_m197.2.2.2.2.2.lookup 148 = some (.iconst 0, 1) := by decide +kernel
theorem q197_149 : z_m197.2.2.2.2.2.lookup 149 = some (.istore 4, 2) := by decide +kernel
theorem q197_151 : z_m197.2.2.2.2.2.lookup 151 = some (.aload_n 0, 1) := by decide +kernel
theorem q197_152 : z_m197.2.2.2.2.2.lookup 152 = some (.getfield 325, 3) := by decide +kernel
theorem q197_155 : z_m197.2.2.2.2.2.lookup 155 = some (.iload_n 3, 1) := by decide +kernel
theorem q197_156 : z_m197.2.2.2.2.2.lookup 156 = some (.iaload, 1) := by decide +kernel
theorem q197_157 : z_m197.2.2.2.2.2.lookup 157 = some (.iload_n 1, 1) := by decide +kernel
theorem q197_158 : z_m197.2.2.2.2.2.lookup 158 = some (.if_icmp .gt 12, 3) := by decide +kernel
theorem q197_161 : z_m197.2.2.2.2.2.lookup 161 = some (.iload 4, 2) := by decide +kernel
theorem q197_163 : z_m197.2.2.2.2.2.lookup 163 = some (.ifCond .eq 7, 3) := by decide +kernel
theorem q197_166 : z_m197.2.2.2.2.2.lookup 166 = some (.iload_n 3, 1) := by decide +kernel
theorem q197_167 : z_m197.2.2.2.2.2.lookup 167 = some (.goto 4, 3) := by decide +kernel
theorem q197_170 : z_m197.2.2.2.2.2.lookup 170 = some (.iload_n 2, 1) := by decide +kernel
theorem q197_171 : z_m197.2.2.2.2.2.lookup 171 = some (.istore_n 2, 1) := by decide +kernel
theorem q197_172 : z_m197.2.2.2.2.2.lookup 172 = some (.iinc 3 1, 3) := by decide +kernel
theorem q197_175 : z_m197.2.2.2.2.2.lookup 175 = some (.goto (-86), 3) := by decide +kernel
theorem q197_178 : z_m197.2.2.2.2.2.lookup 178 = some (.iload_n 2, 1) := by decide +kernel
theorem q197_179 : z_m197.2.2.2.2.2.lookup 179 = some (.ireturn, 1) := by decide +kernel
theorem q198_0 : z_m198.2.2.2.2.2.lookup 0 = some (.iload_n 1, 1) := by decide +kernel
theorem q198_1 : z_m198.2.2.2.2.2.lookup 1 = some (.i2l, 1) := by decide +kernel
theorem q198_2 : z_m198.2.2.2.2.2.lookup 2 = some (.lconst 0, 1) := by decide +kernel
theorem q198_3 : z_m198.2.2.2.2.2.lookup 3 = some (.ldc2_w 89, 3) := by decide +kernel
theorem q198_6 : z_m198.2.2.2.2.2.lookup 6 = some (.invokestatic 3, 3) := by decide +kernel
theorem q198_9 : z_m198.2.2.2.2.2.lookup 9 = some (.ifCond .eq 13, 3) := by decide +kernel
theorem q198_12 : z_m198.2.2.2.2.2.lookup 12 = some (.iload_n 2, 1) := by decide +kernel
theorem q198_13 : z_m198.2.2.2.2.2.lookup 13 = some (.i2l, 1) := by decide +kernel
theorem q198_14 : z_m198.2.2.2.2.2.lookup 14 = some (.lconst 0, 1) := by decide +kernel
theorem q198_15 : z_m198.2.2.2.2.2.lookup 15 = some (.lconst 1, 1) := by decide +kernel
theorem q198_16 : z_m198.2.2.2.2.2.lookup 16 = some (.invokestatic 3, 3) := by decide +kernel
theorem q198_19 : z_m198.2.2.2.2.2.lookup 19 = some (.ifCond .ne 6, 3) := by decide +kernel
theorem q198_22 : z_m198.2.2.2.2.2.lookup 22 = some (.bipush (-2), 2) := by decide +kernel
theorem q198_24 : z_m198.2.2.2.2.2.lookup 24 = some (.ireturn, 1) := by decide +kernel
theorem q198_25 : z_m198.2.2.2.2.2.lookup 25 = some (.aload_n 0, 1) := by decide +kernel
theorem q198_26 : z_m198.2.2.2.2.2.lookup 26 = some (.iload_n 1, 1) := by decide +kernel
theorem q198_27 : z_m198.2.2.2.2.2.lookup 27 = some (.invokevirtual 428, 3) := by decide +kernel
theorem q198_30 : z_m198.2.2.2.2.2.lookup 30 = some (.istore_n 3, 1) := by decide +kernel
theorem q198_31 : z_m198.2.2.2.2.2.lookup 31 = some (.iload_n 2, 1) := by decide +kernel
theorem q198_32 : z_m198.2.2.2.2.2.lookup 32 = some (.ifCond .ne 7, 3) := by decide +kernel
theorem q198_35 : z_m198.2.2.2.2.2.lookup 35 = some (.iload_n 3, 1) := by decide +kernel
theorem q198_36 : z_m198.2.2.2.2.2.lookup 36 = some (.goto 12, 3) := by decide +kernel
theorem q198_39 : z_m198.2.2.2.2.2.lookup 39 = some (.aload_n 0, 1) := by decide +kernel
theorem q198_40 : z_m198.2.2.2.2.2.lookup 40 = some (.aload_n 0, 1) := by decide +kernel
theorem q198_41 : z_m198.2.2.2.2.2.lookup 41 = some (.getfield 322, 3) := by decide +kernel
theorem q198_44 : z_m198.2.2.2.2.2.lookup 44 = some (.iload_n 3, 1) := by decide +kernel
theorem q198_45 : z_m198.2.2.2.2.2.lookup 45 = some (.invokevirtual 431, 3) := by decide +kernel
theorem q198_48 : z_m198.2.2.2.2.2.lookup 48 = some (.ireturn, 1) := by decide +kernel
theorem q199_0 : z_m199.2.2.2.2.2.lookup 0 = some (.iload_n 1, 1) := by decide +kernel
theorem q199_1 : z_m199.2.2.2.2.2.lookup 1 = some (.i2l, 1) := by decide +kernel
theorem q199_2 : z_m199.2.2.2.2.2.lookup 2 = some (.lconst 0, 1) := by decide +kernel
theorem q199_3 : z_m199.2.2.2.2.2.lookup 3 = some (.ldc2_w 31, 3) := by decide +kernel
theorem q199_6 : z_m199.2.2.2.2.2.lookup 6 = some (.invokestatic 3, 3) := by decide +kernel
theorem q199_9 : z_m199.2.2.2.2.2.lookup 9 = some (.ifCond .eq 15, 3) := by decide +kernel
theorem q199_12 : z_m199.2.2.2.2.2.lookup 12 = some (.iload_n 2, 1) := by decide +kernel
theorem q199_13 : z_m199.2.2.2.2.2.lookup 13 = some (.i2l, 1) := by decide +kernel
theorem q199_14 : z_m199.2.2.2.2.2.lookup 14 = some (.lconst 0, 1) := by decide +kernel
theorem q199_15 : z_m199.2.2.2.2.2.lookup 15 = some (.ldc2_w 108, 3) := by decide +kernel
theorem q199_18 : z_m199.2.2.2.2.2.lookup 18 = some (.invokestatic 3, 3) := by decide +kernel
theorem q199_21 : z_m199.2.2.2.2.2.lookup 21 = some (.ifCond .ne 6, 3) := by decide +kernel
theorem q199_24 : z_m199.2.2.2.2.2.lookup 24 = some (.bipush (-2), 2) := by decide +kernel
theorem q199_26 : z_m199.2.2.2.2.2.lookup 26 = some (.ireturn, 1) := by decide +kernel
theorem q199_27 : z_m199.2.2.2.2.2.lookup 27 = some (.aload_n 0, 1) := by decide +kernel
theorem q199_28 : z_m199.2.2.2.2.2.lookup 28 = some (.getfield 435, 3) := by decide +kernel
theorem q199_31 : z_m199.2.2.2.2.2.lookup 31 = some (.bipush 6, 2) := by decide +kernel
theorem q199_33 : z_m199.2.2.2.2.2.lookup 33 = some (.if_icmp .ne 6, 3) := by decide +kernel
theorem q199_36 : z_m199.2.2.2.2.2.lookup 36 = some (.bipush (-4), 2) := by decide +kernel
theorem q199_38 : z_m199.2.2.2.2.2.lookup 38 = some (.ireturn, 1) := by decide +kernel
theorem q199_39 : z_m199.2.2.2.2.2.lookup 39 = some (.aload_n 0, 1) := by decide +kernel
theorem q199_40 : z_m199.2.2.2.2.2.lookup 40 = some (.getfield 331, 3) := by decide +kernel
theorem q199_43 : z_m199.2.2.2.2.2.lookup 43 = some (.aload_n 0, 1) := by decide +kernel
theorem q199_44 : z_m199.2.2.2.2.2.lookup 44 = some (.getfield 435, 3) := by decide +kernel
theorem q199_47 : z_m199.2.2.2.2.2.lookup 47 = some (.iload_n 1, 1) := by decide +kernel
theorem q199_48 : z_m199.2.2.2.2.2.lookup 48 = some (.iastore, 1) := by decide +kernel
theorem q199_49 : z_m199.2.2.2.2.2.lookup 49 = some (.aload_n 0, 1) := by decide +kernel
theorem q199_50 : z_m199.2.2.2.2.2.lookup 50 = some (.getfield 334, 3) := by decide +kernel
theorem q199_53 : z_m199.2.2.2.2.2.lookup 53 = some (.aload_n 0, 1) := by decide +kernel
theorem q199_54 : z_m199.2.2.2.2.2.lookup 54 = some (.getfield 435, 3) := by decide +kernel
theorem q199_57 : z_m199.2.2.2.2.2.lookup 57 = some (.iload_n 2, 1) := by decide +kernel
theorem q199_58 : z_m199.2.2.2.2.2.lookup 58 = some (.iastore, 1) := by decide +kernel
theorem q199_59 : z_m199.2.2.2.2.2.lookup 59 = some (.aload_n 0, 1) := by decide +kernel
theorem q199_60 : z_m199.2.2.2.2.2.lookup 60 = some (.dup, 1) := by decide +kernel
theorem q199_61 : z_m199.2.2.2.2.2.lookup 61 = some (.getfield 435, 3) := by decide +kernel
theorem q199_64 : z_m199.2.2.2.2.2.lookup 64 = some (.iconst 1, 1) := by decide +kernel
theorem q199_65 : z_m199.2.2.2.2.2.lookup 65 = some (.iadd, 1) := by decide +kernel
theorem q199_66 : z_m199.2.2.2.2.2.lookup 66 = some (.putfield 435, 3) := by decide +kernel
theorem q199_69 : z_m199.2.2.2.2.2.lookup 69 = some (.aload_n 0, 1) := by decide +kernel
theorem q199_70 : z_m199.2.2.2.2.2.lookup 70 = some (.getfield 435, 3) := by decide +kernel
theorem q199_73 : z_m199.2.2.2.2.2.lookup 73 = some (.iconst 1, 1) := by decide +kernel
theorem q199_74 : z_m199.2.2.2.2.2.lookup 74 = some (.isub, 1) := by decide +kernel
theorem q199_75 : z_m199.2.2.2.2.2.lookup 75 = some (.ireturn, 1) := by decide +kernel
theorem q200_0 : z_m200.2.2.2.2.2.lookup 0 = some (.iload_n 1, 1) := by decide +kernel
theorem q200_1 : z_m200.2.2.2.2.2.lookup 1 = some (.ifCond .lt 21, 3) := by decide +kernel
theorem q200_4 : z_m200.2.2.2.2.2.lookup 4 = some (.iload_n 1, 1) := by decide +kernel
theorem q200_5 : z_m200.2.2.2.2.2.lookup 5 = some (.aload_n 0, 1) := by decide +kernel
theorem q200_6 : z_m200.2.2.2.2.2.lookup 6 = some (.getfield 435, 3) := by decide +kernel
theorem q200_9 : z_m200.2.2.2.2.2.lookup 9 = some (.if_icmp .ge 13, 3) := by decide +kernel
theorem q200_12 : z_m200.2.2.2.2.2.lookup 12 = some (.iload_n 2, 1) := by decide +kernel
theorem q200_13 : z_m200.2.2.2.2.2.lookup 13 = some (.i2l, 1) := by decide +kernel
theorem q200_14 : z_m200.2.2.2.2.2.lookup 14 = some (.lconst 0, 1) := by decide +kernel
theorem q200_15 : z_m200.2.2.2.2.2.lookup 15 = some (.lconst 1, 1) := by decide +kernel
theorem q200_16 : z_m200.2.2.2.2.2.lookup 16 = some (.invokestatic 3, 3) := by decide +kernel
theorem q200_19 : z_m200.2.2.2.2.2.lookup 19 = some (.ifCond .ne 6, 3) := by decide +kernel
theorem q200_22 : z_m200.2.2.2.2.2.lookup 22 = some (.bipush (-2), 2) := by decide +kernel
theorem q200_24 : z_m200.2.2.2.2.2.lookup 24 = some (.ireturn, 1) := by decide +kernel
theorem q200_25 : z_m200.2.2.2.2.2.lookup 25 = some (.aload_n 0, 1) := by decide +kernel
theorem q200_26 : z_m200.2.2.2.2.2.lookup 26 = some (.getfield 337, 3) := by decide +kernel
theorem q200_29 : z_m200.2.2.2.2.2.lookup 29 = some (.iload_n 1, 1) := by decide +kernel
theorem q200_30 : z_m200.2.2.2.2.2.lookup 30 = some (.iaload, 1) := by decide +kernel
theorem q200_31 : z_m200.2.2.2.2.2.lookup 31 = some (.istore_n 3, 1) := by decide +kernel
theorem q200_32 : z_m200.2.2.2.2.2.lookup 32 = some (.aload_n 0, 1) := by decide +kernel
theorem q200_33 : z_m200.2.2.2.2.2.lookup 33 = some (.getfield 337, 3) := by decide +kernel
theorem q200_36 : z_m200.2.2.2.2.2.lookup 36 = some (.iload_n 1, 1) := by decide +kernel
theorem q200_37 : z_m200.2.2.2.2.2.lookup 37 = some (.iload_n 2, 1) := by decide +kernel
theorem q200_38 : z_m200.2.2.2.2.2.lookup 38 = some (.iastore, 1) := by decide +kernel
theorem q200_39 : z_m200.2.2.2.2.2.lookup 39 = some (.iload_n 3, 1) := by decide +kernel
theorem q200_40 : z_m200.2.2.2.2.2.lookup 40 = some (.ireturn, 1) := by decide +kernel
theorem q201_0 : z_m201.2.2.2.2.2.lookup 0 = some (.iconst (-1), 1) := by decide +kernel
theorem q201_1 : z_m201.2.2.2.2.2.lookup 1 = some (.istore_n 1, 1) := by decide +kernel
theorem q201_2 : z_m201.2.2.2.2.2.lookup 2 = some (.iconst 0, 1) := by decide +kernel
theorem q201_3 : z_m201.2.2.2.2.2.lookup 3 = some (.istore_n 2, 1) := by decide +kernel
theorem q201_4 : z_m201.2.2.2.2.2.lookup 4 = some (.iload_n 2, 1) := by decide +kernel
theorem q201_5 : z_m201.2.2.2.2.2.lookup 5 = some (.aload_n 0, 1) := by decide +kernel
theorem q201_6 : z_m201.2.2.2.2.2.lookup 6 = some (.getfield 435, 3) := by decide +kernel
theorem q201_9 : z_m201.2.2.2.2.2.lookup 9 = some (.if_icmp .ge 54, 3) := by decide +kernel
theorem q201_12 : z_m201.2.2.2.2.2.lookup 12 = some (.aload_n 0, 1) := by decide +kernel
theorem q201_13 : z_m201.2.2.2.2.2.lookup 13 = some (.getfield 337, 3) := by decide +kernel
theorem q201_16 : z_m201.2.2.2.2.2.lookup 16 = some (.iload_n 2, 1) := by decide +kernel
theorem q201_17 : z_m201.2.2.2.2.2.lookup 17 = some (.iaload, 1) := by decide +kernel
theorem q201_18 : z_m201.2.2.2.2.2.lookup 18 = some (.ifCond .ne 37, 3) := by decide +kernel
theorem q201_21 : z_m201.2.2.2.2.2.lookup 21 = some (.aload_n 0, 1) := by decide +kernel
theorem q201_22 : z_m201.2.2.2.2.2.lookup 22 = some (.getfield 340, 3) := by decide +kernel
theorem q201_25 : z_m201.2.2.2.2.2.lookup 25 = some (.iload_n 2, 1) := by decide +kernel
theorem q201_26 : z_m201.2.2.2.2.2.lookup 26 = some (.iaload, 1) := by decide +kernel
theorem q201_27 : z_m201.2.2.2.2.2.lookup 27 = some (.iconst (-1), 1) := by decide +kernel
theorem q201_28 : z_m201.2.2.2.2.2.lookup 28 = some (.if_icmp .ne 27, 3) := by decide +kernel
theorem q201_31 : z_m201.2.2.2.2.2.lookup 31 = some (.iload_n 1, 1) := by decide +kernel
theorem q201_32 : z_m201.2.2.2.2.2.lookup 32 = some (.iconst (-1), 1) := by decide +kernel
theorem q201_33 : z_m201.2.2.2.2.2.lookup 33 = some (.if_icmp .eq 18, 3) := by decide +kernel
theorem q201_36 : z_m201.2.2.2.2.2.lookup 36 = some (.aload_n 0, 1) := by decide +kernel
theorem q201_37 : z_m201.2.2.2.2.2.lookup 37 = some (.getfield 334, 3) := by decide +kernel
theorem q201_40 : z_m201.2.2.2.2.2.lookup 40 = some (.iload_n 2, 1) := by decide +kernel
theorem q201_41 : z_m201.2.2.2.2.2.lookup 41 = some (.iaload, 1) := by decide +kernel
theorem q201_42 : z_m201.2.2.2.2.2.lookup 42 = some (.aload_n 0, 1) := by decide +kernel
theorem q201_43 : z_m201.2.2.2.2.2.lookup 43 = some (.getfield 334, 3) := by decide +kernel
theorem q201_46 : z_m201.2.2.2.2.2.lookup 46 = some (.iload_n 1, 1) := by decide +kernel
theorem q201_47 : z_m201.2.2.2.2.2.lookup 47 = some (.iaload, 1) := by decide +kernel
theorem q201_48 : z_m201.2.2.2.2.2.lookup 48 = some (.if_icmp .le 7, 3) := by decide +kernel
theorem q201_51 : z_m201.2.2.2.2.2.lookup 51 = some (.iload_n 2, 1) := by decide +kernel
theorem q201_52 : z_m201.2.2.2.2.2.lookup 52 = some (.goto 4, 3) := by decide +kernel
theorem q201_55 : z_m201.2.2.2.2.2.lookup 55 = some (.iload_n 1, 1) := by decide +kernel
theorem q201_56 : z_m201.2.2.2.2.2.lookup 56 = some (.istore_n 1, 1) := by decide +kernel
theorem q201_57 : z_m201.2.2.2.2.2.lookup 57 = some (.iinc 2 1, 3) := by decide +kernel
theorem q201_60 : z_m201.2.2.2.2.2.lookup 60 = some (.goto (-56), 3) := by decide +kernel
theorem q201_63 : z_m201.2.2.2.2.2.lookup 63 = some (.iload_n 1, 1) := by decide +kernel
theorem q201_64 : z_m201.2.2.2.2.2.lookup 64 = some (.ireturn, 1) := by decide +kernel
theorem q202_0 : z_m202.2.2.2.2.2.lookup 0 = some (.iconst 0, 1) := by decide +kernel
theorem q202_1 : z_m202.2.2.2.2.2.lookup 1 = some (.istore_n 1, 1) := by decide +kernel
theorem q202_2 : z_m202.2.2.2.2.2.lookup 2 = some (.iload_n 1, 1) := by decide +kernel
theorem q202_3 : z_m202.2.2.2.2.2.lookup 3 = some (.aload_n 0, 1) := by decide +kernel
theorem q202_4 : z_m202.2.2.2.2.2.lookup 4 = some (.getfield 435, 3) := by decide +kernel
theorem q202_7 : z_m202.2.2.2.2.2.lookup 7 = some (.if_icmp .ge 16, 3) := by decide +kernel
theorem q202_10 : z_m202.2.2.2.2.2.lookup 10 = some (.aload_n 0, 1) := by decide +kernel
theorem q202_11 : z_m202.2.2.2.2.2.lookup 11 = some (.getfield 340, 3) := by decide +kernel
theorem q202_14 : z_m202.2.2.2.2.2.lookup 14 = some (.iload_n 1, 1) := by decide +kernel
theorem q202_15 : z_m202.2.2.2.2.2.lookup 15 = some (.iconst (-1), 1) := by decide +kernel
theorem q202_16 : z_m202.2.2.2.2.2.lookup 16 = some (.iastore, 1) := by decide +kernel
theorem q202_17 : z_m202.2.2.2.2.2.lookup 17 = some (.iinc 1 1, 3) := by decide +kernel
theorem q202_20 : z_m202.2.2.2.2.2.lookup 20 = some (.goto (-18), 3) := by decide +kernel
theorem q202_23 : z_m202.2.2.2.2.2.lookup 23 = some (.aload_n 0, 1) := by decide +kernel
theorem q202_24 : z_m202.2.2.2.2.2.lookup 24 = some (.getfield 91, 3) := by decide +kernel
theorem q202_27 : z_m202.2.2.2.2.2.lookup 27 = some (.iconst 0, 1) := by decide +kernel
theorem q202_28 : z_m202.2.2.2.2.2.lookup 28 = some (.iaload, 1) := by decide +kernel
theorem q202_29 : z_m202.2.2.2.2.2.lookup 29 = some (.istore_n 1, 1) := by decide +kernel
theorem q202_30 : z_m202.2.2.2.2.2.lookup 30 = some (.aload_n 0, 1) := by decide +kernel
theorem q202_31 : z_m202.2.2.2.2.2.lookup 31 = some (.invokevirtual 438, 3) := by decide +kernel
theorem q202_34 : z_m202.2.2.2.2.2.lookup 34 = some (.istore_n 2, 1) := by decide +kernel
theorem q202_35 : z_m202.2.2.2.2.2.lookup 35 = some (.iload_n 2, 1) := by decide +kernel
theorem q202_36 : z_m202.2.2.2.2.2.lookup 36 = some (.iconst (-1), 1) := by decide +kernel
theorem q202_37 : z_m202.2.2.2.2.2.lookup 37 = some (.if_icmp .eq 36, 3) := by decide +kernel
theorem q202_40 : z_m202.2.2.2.2.2.lookup 40 = some (.aload_n 0, 1) := by decide +kernel
theorem q202_41 : z_m202.2.2.2.2.2.lookup 41 = some (.getfield 340, 3) := by decide +kernel
theorem q202_44 : z_m202.2.2.2.2.2.lookup 44 = some (.iload_n 2, 1) := by decide +kernel
theorem q202_45 : z_m202.2.2.2.2.2.lookup 45 = some (.iload_n 1, 1) := by decide +kernel
theorem q202_46 : z_m202.2.2.2.2.2.lookup 46 = some (.aload_n 0, 1) := by decide +kernel
theorem q202_47 : z_m202.2.2.2.2.2.lookup 47 = some (.getfield 331, 3) := by decide +kernel
theorem q202_50 : z_m202.2.2.2.2.2.lookup 50 = some (.iload_n 2, 1) := by decide +kernel
theorem q202_51 : z_m202.2.2.2.2.2.lookup 51 = some (.iaload, 1) := by decide +kernel
theorem q202_52 : z_m202.2.2.2.2.2.lookup 52 = some (.invokestatic 442, 3) := by decide +kernel
theorem q202_55 : z_m202.2.2.2.2.2.lookup 55 = some (.iastore, 1) := by decide +kernel
theorem q202_56 : z_m202.2.2.2.2.2.lookup 56 = some (.iload_n 1, 1) := by decide +kernel
theorem q202_57 : z_m202.2.2.2.2.2.lookup 57 = some (.aload_n 0, 1) := by decide +kernel
theorem q202_58 : z_m202.2.2.2.2.2.lookup 58 = some (.getfield 340, 3) := by decide +kernel
theorem q202_61 : z_m202.2.2.2.2.2.lookup 61 = some (.iload_n 2, 1) := by decide +kernel
theorem q202_62 : z_m202.2.2.2.2.2.lookup 62 = some (.iaload, 1) := by decide +kernel
theorem q202_63 : z_m202.2.2.2.2.2.lookup 63 = some (.isub, 1) := by decide +kernel
theorem q202_64 : z_m202.2.2.2.2.2.lookup 64 = some (.istore_n 1, 1) := by decide +kernel
theorem q202_65 : z_m202.2.2.2.2.2.lookup 65 = some (.aload_n 0, 1) := by decide +kernel
theorem q202_66 : z_m202.2.2.2.2.2.lookup 66 = some (.invokevirtual 438, 3) := by decide +kernel
theorem q202_69 : z_m202.2.2.2.2.2.lookup 69 = some (.istore_n 2, 1) := by decide +kernel
theorem q202_70 : z_m202.2.2.2.2.2.lookup 70 = some (.goto (-35), 3) := by decide +kernel
theorem q202_73 : z_m202.2.2.2.2.2.lookup 73 = some (.return_, 1) := by decide +kernel
theorem q203_0 : z_m203.2.2.2.2.2.lookup 0 = some (.iload_n 1, 1) := by decide +kernel
theorem q203_1 : z_m203.2.2.2.2.2.lookup 1 = some (.iconst (-1), 1) := by decide +kernel
theorem q203_2 : z_m203.2.2.2.2.2.lookup 2 = some (.if_icmp .lt 11, 3) := by decide +kernel
theorem q203_5 : z_m203.2.2.2.2.2.lookup 5 = some (.iload_n 1, 1) := by decide +kernel
theorem q203_6 : z_m203.2.2.2.2.2.lookup 6 = some (.aload_n 0, 1) := by decide +kernel
theorem q203_7 : z_m203.2.2.2.2.2.lookup 7 = some (.getfield 435, 3) := by decide +kernel
theorem q203_10 : z_m203.2.2.2.2.2.lookup 10 = some (.if_icmp .lt 7, 3) := by decide +kernel
theorem q203_13 : z_m203.2.2.2.2.2.lookup 13 = some (.ldc2_w 363, 3) := by decide +kernel
theorem q203_16 : z_m203.2.2.2.2.2.lookup 16 = some (.lreturn, 1) := by decide +kernel
theorem q203_17 : z_m203.2.2.2.2.2.lookup 17 = some (.aload_n 0, 1) := by decide +kernel
theorem q203_18 : z_m203.2.2.2.2.2.lookup 18 = some (.invokevirtual 445, 3) := by decide +kernel
theorem q203_21 : z_m203.2.2.2.2.2.lookup 21 = some (.iload_n 1, 1) := by decide +kernel
theorem q203_22 : z_m203.2.2.2.2.2.lookup 22 = some (.ifCond .lt 15, 3) := by decide +kernel
theorem q203_25 : z_m203.2.2.2.2.2.lookup 25 = some (.iconst 0, 1) := by decide +kernel
theorem q203_26 : z_m203.2.2.2.2.2.lookup 26 = some (.aload_n 0, 1) := by decide +kernel
theorem q203_27 : z_m203.2.2.2.2.2.lookup 27 = some (.getfield 340, 3) := by decide +kernel
theorem q203_30 : z_m203.2.2.2.2.2.lookup 30 = some (.iload_n 1, 1) := by decide +kernel
theorem q203_31 : z_m203.2.2.2.2.2.lookup 31 = some (.iaload, 1) := by decide +kernel
theorem q203_32 : z_m203.2.2.2.2.2.lookup 32 = some (.invokestatic 373, 3) := by decide +kernel
theorem q203_35 : z_m203.2.2.2.2.2.lookup 35 = some (.i2l, 1) := by decide +kernel
theorem q203_36 : z_m203.2.2.2.2.2.lookup 36 = some (.lreturn, 1) := by decide +kernel
theorem q203_37 : z_m203.2.2.2.2.2.lookup 37 = some (.lconst 0, 1) := by decide +kernel
theorem q203_38 : z_m203.2.2.2.2.2.lookup 38 = some (.lstore_n 2, 1) := by decide +kernel
theorem q203_39 : z_m203.2.2.2.2.2.lookup 39 = some (.iconst 0, 1) := by decide +kernel
theorem q203_40 : z_m203.2.2.2.2.2.lookup 40 = some (.istore 4, 2) := by decide +kernel
theorem q203_42 : z_m203.2.2.2.2.2.lookup 42 = some (.iload 4, 2) := by decide +kernel
theorem q203_44 : z_m203.2.2.2.2.2.lookup 44 = some (.aload_n 0, 1) := by decide +kernel
theorem q203_45 : z_m203.2.2.2.2.2.lookup 45 = some (.getfield 435, 3) := by decide +kernel
theorem q203_48 : z_m203.2.2.2.2.2.lookup 48 = some (.if_icmp .ge 35, 3) := by decide +kernel
theorem q203_51 : z_m203.2.2.2.2.2.lookup 51 = some (.lload_n 2, 1) := by decide +kernel
theorem q203_52 : z_m203.2.2.2.2.2.lookup 52 = some (.iconst 0, 1) := by decide +kernel
theorem q203_53 : z_m203.2.2.2.2.2.lookup 53 = some (.aload_n 0, 1) := by decide +kernel
theorem q203_54 : z_m203.2.2.2.2.2.lookup 54 = some (.getfield 340, 3) := by decide +kernel
theorem q203_57 : z_m203.2.2.2.2.2.lookup 57 = some (.iload 4, 2) := by decide +kernel
theorem q203_59 : z_m203.2.2.2.2.2.lookup 59 = some (.iaload, 1) := by decide +kernel
theorem q203_60 : z_m203.2.2.2.2.2.lookup 60 = some (.invokestatic 373, 3) := by decide +kernel
theorem q203_63 : z_m203.2.2.2.2.2.lookup 63 = some (.aload_n 0, 1) := by decide +kernel
theorem q203_64 : z_m203.2.2.2.2.2.lookup 64 = some (.getfield 334, 3) := by decide +kernel
theorem q203_67 : z_m203.2.2.2.2.2.lookup 67 = some (.iload 4, 2) := by decide +kernel
theorem q203_69 : z_m203.2.2.2.2.2.lookup 69 = some (.iaload, 1) := by decide +kernel
theorem q203_70 : z_m203.2.2.2.2.2.lookup 70 = some (.imul, 1) := by decide +kernel
theorem q203_71 : z_m203.2.2.2.2.2.lookup 71 = some (.bipush 100, 2) := by decide +kernel
theorem q203_73 : z_m203.2.2.2.2.2.lookup 73 = some (.idiv, 1) := by decide +kernel
theorem q203_74 : z_m203.2.2.2.2.2.lookup 74 = some (.i2l, 1) := by decide +kernel
theorem q203_75 : z_m203.2.2.2.2.2.lookup 75 = some (.ladd, 1) := by decide +kernel
theorem q203_76 : z_m203.2.2.2.2.2.lookup 76 = some (.lstore_n 2, 1) := by decide +kernel
theorem q203_77 : z_m203.2.2.2.2.2.lookup 77 = some (.iinc 4 1, 3) := by decide +kernel
theorem q203_80 : z_m203.2.2.2.2.2.lookup 80 = some (.goto (-38), 3) := by decide +kernel
theorem q203_83 : z_m203.2.2.2.2.2.lookup 83 = some (.lload_n 2, 1) := by decide +kernel
theorem q203_84 : z_m203.2.2.2.2.2.lookup 84 = some (.lreturn, 1) := by decide +kernel
theorem q204_0 : z_m204.2.2.2.2.2.lookup 0 = some (.iload_n 1, 1) := by decide +kernel
theorem q204_1 : z_m204.2.2.2.2.2.lookup 1 = some (.tableswitch 132 0 12 #[67, 72, 77, 82, 87, 92, 97, 102, 107, 112, 117, 122, 127], 67) := by decide +kernel
theorem q204_68 : z_m204.2.2.2.2.2.lookup 68 = some (.aload_n 0, 1) := by decide +kernel
theorem q204_69 : z_m204.2.2.2.2.2.lookup 69 = some (.getfield 9, 3) := by decide +kernel
theorem q204_72 : z_m204.2.2.2.2.2.lookup 72 = some (.ireturn, 1) := by decide +kernel
theorem q204_73 : z_m204.2.2.2.2.2.lookup 73 = some (.aload_n 0, 1) := by decide +kernel
theorem q204_74 : z_m204.2.2.2.2.2.lookup 74 = some (.getfield 21, 3) := by decide +kernel
theorem q204_77 : z_m204.2.2.2.2.2.lookup 77 = some (.ireturn, 1) := by decide +kernel
theorem q204_78 : z_m204.2.2.2.2.2.lookup 78 = some (.aload_n 0, 1) := by decide +kernel
theorem q204_79 : z_m204.2.2.2.2.2.lookup 79 = some (.getfield 110, 3) := by decide +kernel
theorem q204_82 : z_m204.2.2.2.2.2.lookup 82 = some (.ireturn, 1) := by decide +kernel
theorem q204_83 : z_m204.2.2.2.2.2.lookup 83 = some (.aload_n 0, 1) := by decide +kernel
theorem q204_84 : z_m204.2.2.2.2.2.lookup 84 = some (.getfield 229, 3) := by decide +kernel
theorem q204_87 : z_m204.2.2.2.2.2.lookup 87 = some (.ireturn, 1) := by decide +kernel
theorem q204_88 : z_m204.2.2.2.2.2.lookup 88 = some (.aload_n 0, 1) := by decide +kernel
theorem q204_89 : z_m204.2.2.2.2.2.lookup 89 = some (.getfield 127, 3) := by decide +kernel
theorem q204_92 : z_m204.2.2.2.2.2.lookup 92 = some (.ireturn, 1) := by decide +kernel
theorem q204_93 : z_m204.2.2.2.2.2.lookup 93 = some (.aload_n 0, 1) := by decide +kernel
theorem q204_94 : z_m204.2.2.2.2.2.lookup 94 = some (.getfield 355, 3) := by decide +kernel
theorem q204_97 : z_m204.2.2.2.2.2.lookup 97 = some (.ireturn, 1) := by decide +kernel
theorem q204_98 : z_m204.2.2.2.2.2.lookup 98 = some (.aload_n 0, 1) := by decide +kernel
theorem q204_99 : z_m204.2.2.2.2.2.lookup 99 = some (.getfield 380, 3) := by decide +kernel
theorem q204_102 : z_m204.2.2.2.2.2.lookup 102 = some (.ireturn, 1) := by decide +kernel
theorem q204_103 : z_m204.2.2.2.2.2.lookup 103 = some (.aload_n 0, 1) := by decide +kernel
theorem q204_104 : z_m204.2.2.2.2.2.lookup 104 = some (.getfield 391, 3) := by decide +kernel
theorem q204_107 : z_m204.2.2.2.2.2.lookup 107 = some (.ireturn, 1) := by decide +kernel
theorem q204_108 : z_m204.2.2.2.2.2.lookup 108 = some (.aload_n 0, 1) := by decide +kernel
theorem q204_109 : z_m204.2.2.2.2.2.lookup 109 = some (.getfield 394, 3) := by decide +kernel
theorem q204_112 : z_m204.2.2.2.2.2.lookup 112 = some (.ireturn, 1) := by decide +kernel
theorem q204_113 : z_m204.2.2.2.2.2.lookup 113 = some (.aload_n 0, 1) := by decide +kernel
theorem q204_114 : z_m204.2.2.2.2.2.lookup 114 = some (.getfield 406, 3) := by decide +kernel
theorem q204_117 : z_m204.2.2.2.2.2.lookup 117 = some (.ireturn, 1) := by decide +kernel
theorem q204_118 : z_m204.2.2.2.2.2.lookup 118 = some (.aload_n 0, 1) := by decide +kernel
theorem q204_119 : z_m204.2.2.2.2.2.lookup 119 = some (.getfield 425, 3) := by decide +kernel
theorem q204_122 : z_m204.2.2.2.2.2.lookup 122 = some (.ireturn, 1) := by decide +kernel
theorem q204_123 : z_m204.2.2.2.2.2.lookup 123 = some (.aload_n 0, 1) := by decide +kernel
theorem q204_124 : z_m204.2.2.2.2.2.lookup 124 = some (.getfield 435, 3) := by decide +kernel
theorem q204_127 : z_m204.2.2.2.2.2.lookup 127 = some (.ireturn, 1) := by decide +kernel
theorem q204_128 : z_m204.2.2.2.2.2.lookup 128 = some (.aload_n 0, 1) := by decide +kernel
theorem q204_129 : z_m204.2.2.2.2.2.lookup 129 = some (.getfield 102, 3) := by decide +kernel
theorem q204_132 : z_m204.2.2.2.2.2.lookup 132 = some (.ireturn, 1) := by decide +kernel
theorem q204_133 : z_m204.2.2.2.2.2.lookup 133 = some (.bipush (-2), 2) := by decide +kernel
theorem q204_135 : z_m204.2.2.2.2.2.lookup 135 = some (.ireturn, 1) := by decide +kernel
theorem q205_0 : z_m205.2.2.2.2.2.lookup 0 = some (.iload_n 0, 1) := by decide +kernel
theorem q205_1 : z_m205.2.2.2.2.2.lookup 1 = some (.i2l, 1) := by decide +kernel
theorem q205_2 : z_m205.2.2.2.2.2.lookup 2 = some (.lconst 0, 1) := by decide +kernel
theorem q205_3 : z_m205.2.2.2.2.2.lookup 3 = some (.ldc2_w 19, 3) := by decide +kernel
theorem q205_6 : z_m205.2.2.2.2.2.lookup 6 = some (.invokestatic 3, 3) := by decide +kernel
theorem q205_9 : z_m205.2.2.2.2.2.lookup 9 = some (.ireturn, 1) := by decide +kernel
theorem q206_0 : z_m206.2.2.2.2.2.lookup 0 = some (.iload_n 1, 1) := by decide +kernel
theorem q206_1 : z_m206.2.2.2.2.2.lookup 1 = some (.invokestatic 448, 3) := by decide +kernel
theorem q206_4 : z_m206.2.2.2.2.2.lookup 4 = some (.ifCond .eq 27, 3) := by decide +kernel
theorem q206_7 : z_m206.2.2.2.2.2.lookup 7 = some (.iload_n 2, 1) := by decide +kernel
theorem q206_8 : z_m206.2.2.2.2.2.lookup 8 = some (.i2l, 1) := by decide +kernel
theorem q206_9 : z_m206.2.2.2.2.2.lookup 9 = some (.ldc2_w 451, 3) := by decide +kernel
theorem q206_12 : z_m206.2.2.2.2.2.lookup 12 = some (.ldc2_w 358, 3) := by decide +kernel
theorem q206_15 : z_m206.2.2.2.2.2.lookup 15 = some (.invokestatic 3, 3) := by decide +kernel
theorem q206_18 : z_m206.2.2.2.2.2.lookup 18 = some (.ifCond .eq 13, 3) := by decide +kernel
theorem q206_21 : z_m206.2.2.2.2.2.lookup 21 = some (.iload_n 2, 1) := by decide +kernel
theorem q206_22 : z_m206.2.2.2.2.2.lookup 22 = some (.ifCond .lt 12, 3) := by decide +kernel
theorem q206_25 : z_m206.2.2.2.2.2.lookup 25 = some (.iload_n 3, 1) := by decide +kernel
theorem q206_26 : z_m206.2.2.2.2.2.lookup 26 = some (.bipush 40, 2) := by decide +kernel
theorem q206_28 : z_m206.2.2.2.2.2.lookup 28 = some (.if_icmp .le 6, 3) := by decide +kernel
theorem q206_31 : z_m206.2.2.2.2.2.lookup 31 = some (.bipush (-2), 2) := by decide +kernel
theorem q206_33 : z_m206.2.2.2.2.2.lookup 33 = some (.ireturn, 1) := by decide +kernel
theorem q206_34 : z_m206.2.2.2.2.2.lookup 34 = some (.iload_n 2, 1) := by decide +kernel
theorem q206_35 : z_m206.2.2.2.2.2.lookup 35 = some (.ifCond .lt 10, 3) := by decide +kernel
theorem q206_38 : z_m206.2.2.2.2.2.lookup 38 = some (.iload_n 3, 1) := by decide +kernel
theorem q206_39 : z_m206.2.2.2.2.2.lookup 39 = some (.ifCond .ge 6, 3) := by decide +kernel
theorem q206_42 : z_m206.2.2.2.2.2.lookup 42 = some (.bipush (-14), 2) := by decide +kernel
theorem q206_44 : z_m206.2.2.2.2.2.lookup 44 = some (.ireturn, 1) := by decide +kernel
theorem q206_45 : z_m206.2.2.2.2.2.lookup 45 = some (.aload_n 0, 1) := by decide +kernel
theorem q206_46 : z_m206.2.2.2.2.2.lookup 46 = some (.getfield 343, 3) := by decide +kernel
theorem q206_49 : z_m206.2.2.2.2.2.lookup 49 = some (.iload_n 1, 1) := by decide +kernel
theorem q206_50 : z_m206.2.2.2.2.2.lookup 50 = some (.iload_n 2, 1) := by decide +kernel
theorem q206_51 : z_m206.2.2.2.2.2.lookup 51 = some (.iastore, 1) := by decide +kernel
theorem q206_52 : z_m206.2.2.2.2.2.lookup 52 = some (.aload_n 0, 1) := by decide +kernel
theorem q206_53 : z_m206.2.2.2.2.2.lookup 53 = some (.getfield 346, 3) := by decide +kernel
theorem q206_56 : z_m206.2.2.2.2.2.lookup 56 = some (.iload_n 1, 1) := by decide +kernel
theorem q206_57 : z_m206.2.2.2.2.2.lookup 57 = some (.iload_n 2, 1) := by decide +kernel
theorem q206_58 : z_m206.2.2.2.2.2.lookup 58 = some (.ifCond .ge 7, 3) := by decide +kernel
theorem q206_61 : z_m206.2.2.2.2.2.lookup 61 = some (.iconst 0, 1) := by decide +kernel
theorem q206_62 : z_m206.2.2.2.2.2.lookup 62 = some (.goto 4, 3) := by decide +kernel
theorem q206_65 : z_m206.2.2.2.2.2.lookup 65 = some (.iload_n 3, 1) := by decide +kernel
theorem q206_66 : z_m206.2.2.2.2.2.lookup 66 = some (.iastore, 1) := by decide +kernel
theorem q206_67 : z_m206.2.2.2.2.2.lookup 67 = some (.iconst 0, 1) := by decide +kernel
theorem q206_68 : z_m206.2.2.2.2.2.lookup 68 = some (.istore 4, 2) := by decide +kernel
theorem q206_70 : z_m206.2.2.2.2.2.lookup 70 = some (.iload 4, 2) := by decide +kernel
theorem q206_72 : z_m206.2.2.2.2.2.lookup 72 = some (.bipush 40, 2) := by decide +kernel
theorem q206_74 : z_m206.2.2.2.2.2.lookup 74 = some (.if_icmp .ge 22, 3) := by decide +kernel
theorem q206_77 : z_m206.2.2.2.2.2.lookup 77 = some (.aload_n 0, 1) := by decide +kernel
theorem q206_78 : z_m206.2.2.2.2.2.lookup 78 = some (.getfield 349, 3) := by decide +kernel
theorem q206_81 : z_m206.2.2.2.2.2.lookup 81 = some (.bipush 40, 2) := by decide +kernel
theorem q206_83 : z_m206.2.2.2.2.2.lookup 83 = some (.iload_n 1, 1) := by decide +kernel
theorem q206_84 : z_m206.2.2.2.2.2.lookup 84 = some (.imul, 1) := by decide +kernel
theorem q206_85 : z_m206.2.2.2.2.2.lookup 85 = some (.iload 4, 2) := by decide +kernel
theorem q206_87 : z_m206.2.2.2.2.2.lookup 87 = some (.iadd, 1) := by decide +kernel
theorem q206_88 : z_m206.2.2.2.2.2.lookup 88 = some (.iconst 0, 1) := by decide +kernel
theorem q206_89 : z_m206.2.2.2.2.2.lookup 89 = some (.iastore, 1) := by decide +kernel
theorem q206_90 : z_m206.2.2.2.2.2.lookup 90 = some (.iinc 4 1, 3) := by decide +kernel
theorem q206_93 : z_m206.2.2.2.2.2.lookup 93 = some (.goto (-23), 3) := by decide +kernel
theorem q206_96 : z_m206.2.2.2.2.2.lookup 96 = some (.iconst 1, 1) := by decide +kernel
theorem q206_97 : z_m206.2.2.2.2.2.lookup 97 = some (.ireturn, 1) := by decide +kernel
theorem q207_0 : z_m207.2.2.2.2.2.lookup 0 = some (.iload_n 0, 1) := by decide +kernel
theorem q207_1 : z_m207.2.2.2.2.2.lookup 1 = some (.ifCond .ne 8, 3) := by decide +kernel
theorem q207_4 : z_m207.2.2.2.2.2.lookup 4 = some (.iload_n 1, 1) := by decide +kernel
theorem q207_5 : z_m207.2.2.2.2.2.lookup 5 = some (.i2b, 1) := by decide +kernel
theorem q207_6 : z_m207.2.2.2.2.2.lookup 6 = some (.goto 14, 3) := by decide +kernel
theorem q207_9 : z_m207.2.2.2.2.2.lookup 9 = some (.iload_n 0, 1) := by decide +kernel
theorem q207_10 : z_m207.2.2.2.2.2.lookup 10 = some (.iconst 1, 1) := by decide +kernel
theorem q207_11 : z_m207.2.2.2.2.2.lookup 11 = some (.if_icmp .ne 8, 3) := by decide +kernel
theorem q207_14 : z_m207.2.2.2.2.2.lookup 14 = some (.iload_n 1, 1) := by decide +kernel
theorem q207_15 : z_m207.2.2.2.2.2.lookup 15 = some (.i2s, 1) := by decide +kernel
theorem q207_16 : z_m207.2.2.2.2.2.lookup 16 = some (.goto 4, 3) := by decide +kernel
theorem q207_19 : z_m207.2.2.2.2.2.lookup 19 = some (.iload_n 1, 1) := by decide +kernel
theorem q207_20 : z_m207.2.2.2.2.2.lookup 20 = some (.ireturn, 1) := by decide +kernel
theorem q208_0 : z_m208.2.2.2.2.2.lookup 0 = some (.iload_n 1, 1) := by decide +kernel
theorem q208_1 : z_m208.2.2.2.2.2.lookup 1 = some (.invokestatic 448, 3) := by decide +kernel
theorem q208_4 : z_m208.2.2.2.2.2.lookup 4 = some (.ifCond .ne 6, 3) := by decide +kernel
theorem q208_7 : z_m208.2.2.2.2.2.lookup 7 = some (.bipush (-2), 2) := by decide +kernel
theorem q208_9 : z_m208.2.2.2.2.2.lookup 9 = some (.ireturn, 1) := by decide +kernel
theorem q208_10 : z_m208.2.2.2.2.2.lookup 10 = some (.aload_n 0, 1) := by decide +kernel
theorem q208_11 : z_m208.2.2.2.2.2.lookup 11 = some (.getfield 343, 3) := by decide +kernel
theorem q208_14 : z_m208.2.2.2.2.2.lookup 14 = some (.iload_n 1, 1) := by decide +kernel
theorem q208_15 : z_m208.2.2.2.2.2.lookup 15 = some (.iaload, 1) := by decide +kernel
theorem q208_16 : z_m208.2.2.2.2.2.lookup 16 = some (.ifCond .ge 6, 3) := by decide +kernel
theorem q208_19 : z_m208.2.2.2.2.2.lookup 19 = some (.bipush (-11), 2) := by decide +kernel
theorem q208_21 : z_m208.2.2.2.2.2.lookup 21 = some (.ireturn, 1) := by decide +kernel
theorem q208_22 : z_m208.2.2.2.2.2.lookup 22 = some (.iload_n 2, 1) := by decide +kernel
theorem q208_23 : z_m208.2.2.2.2.2.lookup 23 = some (.i2l, 1) := by decide +kernel
theorem q208_24 : z_m208.2.2.2.2.2.lookup 24 = some (.lconst 0, 1) := by decide +kernel
theorem q208_25 : z_m208.2.2.2.2.2.lookup 25 = some (.aload_n 0, 1) := by decide +kernel
theorem q208_26 : z_m208.2.2.2.2.2.lookup 26 = some (.getfield 346, 3) := by decide +kernel
theorem q208_29 : z_m208.2.2.2.2.2.lookup 29 = some (.iload_n 1, 1) := by decide +kernel
theorem q208_30 : z_m208.2.2.2.2.2.lookup 30 = some (.iaload, 1) := by decide +kernel
theorem q208_31 : z_m208.2.2.2.2.2.lookup 31 = some (.iconst 1, 1) := by decide +kernel
theorem q208_32 : z_m208.2.2.2.2.2.lookup 32 = some (.isub, 1) := by decide +kernel
theorem q208_33 : z_m208.2.2.2.2.2.lookup 33 = some (.i2l, 1) := by decide +kernel
theorem q208_34 : z_m208.2.2.2.2.2.lookup 34 = some (.invokestatic 3, 3) := by decide +kernel
theorem q208_37 : z_m208.2.2.2.2.2.lookup 37 = some (.ifCond .ne 6, 3) := by decide +kernel
theorem q208_40 : z_m208.2.2.2.2.2.lookup 40 = some (.bipush (-12), 2) := by decide +kernel
theorem q208_42 : z_m208.2.2.2.2.2.lookup 42 = some (.ireturn, 1) := by decide +kernel
theorem q208_43 : z_m208.2.2.2.2.2.lookup 43 = some (.aload_n 0, 1) := by decide +kernel
theorem q208_44 : z_m208.2.2.2.2.2.lookup 44 = some (.getfield 349, 3) := by decide +kernel
theorem q208_47 : z_m208.2.2.2.2.2.lookup 47 = some (.bipush 40, 2) := by decide +kernel
theorem q208_49 : z_m208.2.2.2.2.2.lookup 49 = some (.iload_n 1, 1) := by decide +kernel
theorem q208_50 : z_m208.2.2.2.2.2.lookup 50 = some (.imul, 1) := by decide +kernel
theorem q208_51 : z_m208.2.2.2.2.2.lookup 51 = some (.iload_n 2, 1) := by decide +kernel
theorem q208_52 : z_m208.2.2.2.2.2.lookup 52 = some (.iadd, 1) := by decide +kernel
theorem q208_53 : z_m208.2.2.2.2.2.lookup 53 = some (.aload_n 0, 1) := by decide +kernel
theorem q208_54 : z_m208.2.2.2.2.2.lookup 54 = some (.getfield 343, 3) := by decide +kernel
theorem q208_57 : z_m208.2.2.2.2.2.lookup 57 = some (.iload_n 1, 1) := by decide +kernel
theorem q208_58 : z_m208.2.2.2.2.2.lookup 58 = some (.iaload, 1) := by decide +kernel
theorem q208_59 : z_m208.2.2.2.2.2.lookup 59 = some (.iload_n 3, 1) := by decide +kernel
theorem q208_60 : z_m208.2.2.2.2.2.lookup 60 = some (.invokestatic 453, 3) := by decide +kernel
theorem q208_63 : z_m208.2.2.2.2.2.lookup 63 = some (.iastore, 1) := by decide +kernel
theorem q208_64 : z_m208.2.2.2.2.2.lookup 64 = some (.iconst 1, 1) := by decide +kernel
theorem q208_65 : z_m208.2.2.2.2.2.lookup 65 = some (.ireturn, 1) := by decide +kernel
theorem q209_0 : z_m209.2.2.2.2.2.lookup 0 = some (.iload_n 1, 1) := by decide +kernel
theorem q209_1 : z_m209.2.2.2.2.2.lookup 1 = some (.invokestatic 448, 3) := by decide +kernel
theorem q209_4 : z_m209.2.2.2.2.2.lookup 4 = some (.ifCond .eq 10, 3) := by decide +kernel
theorem q209_7 : z_m209.2.2.2.2.2.lookup 7 = some (.iload_n 3, 1) := by decide +kernel
theorem q209_8 : z_m209.2.2.2.2.2.lookup 8 = some (.invokestatic 448, 3) := by decide +kernel
theorem q209_11 : z_m209.2.2.2.2.2.lookup 11 = some (.ifCond .ne 6, 3) := by decide +kernel
theorem q209_14 : z_m209.2.2.2.2.2.lookup 14 = some (.bipush (-2), 2) := by decide +kernel
theorem q209_16 : z_m209.2.2.2.2.2.lookup 16 = some (.ireturn, 1) := by decide +kernel
theorem q209_17 : z_m209.2.2.2.2.2.lookup 17 = some (.aload_n 0, 1) := by decide +kernel
theorem q209_18 : z_m209.2.2.2.2.2.lookup 18 = some (.getfield 343, 3) := by decide +kernel
theorem q209_21 : z_m209.2.2.2.2.2.lookup 21 = some (.iload_n 1, 1) := by decide +kernel
theorem q209_22 : z_m209.2.2.2.2.2.lookup 22 = some (.iaload, 1) := by decide +kernel
theorem q209_23 : z_m209.2.2.2.2.2.lookup 23 = some (.ifCond .lt 12, 3) := by decide +kernel
theorem q209_26 : z_m209.2.2.2.2.2.lookup 26 = some (.aload_n 0, 1) := by decide +kernel
theorem q209_27 : z_m209.2.2.2.2.2.lookup 27 = some (.getfield 343, 3) := by decide +kernel
theorem q209_30 : z_m209.2.2.2.2.2.lookup 30 = some (.iload_n 3, 1) := by decide +kernel
theorem q209_31 : z_m209.2.2.2.2.2.lookup 31 = some (.iaload, 1) := by decide +kernel
theorem q209_32 : z_m209.2.2.2.2.2.lookup 32 = some (.ifCond .ge 6, 3) := by decide +kernel
theorem q209_35 : z_m209.2.2.2.2.2.lookup 35 = some (.bipush (-11), 2) := by decide +kernel
theorem q209_37 : z_m209.2.2.2.2.2.lookup 37 = some (.ireturn, 1) := by decide +kernel
theorem q209_38 : z_m209.2.2.2.2.2.lookup 38 = some (.aload_n 0, 1) := by decide +kernel
theorem q209_39 : z_m209.2.2.2.2.2.lookup 39 = some (.getfield 343, 3) := by decide +kernel
theorem q209_42 : z_m209.2.2.2.2.2.lookup 42 = some (.iload_n 1, 1) := by decide +kernel
theorem q209_43 : z_m209.2.2.2.2.2.lookup 43 = some (.iaload, 1) := by decide +kernel
theorem q209_44 : z_m209.2.2.2.2.2.lookup 44 = some (.aload_n 0, 1) := by decide +kernel
theorem q209_45 : z_m209.2.2.2.2.2.lookup 45 = some (.getfield 343, 3) := by decide +kernel
theorem q209_48 : z_m209.2.2.2.2.2.lookup 48 = some (.iload_n 3, 1) := by decide +kernel
theorem q209_49 : z_m209.2.2.2.2.2.lookup 49 = some (.iaload, 1) := by decide +kernel
theorem q209_50 : z_m209.2.2.2.2.2.lookup 50 = some (.if_icmp .eq 6, 3) := by decide +kernel
theorem q209_53 : z_m209.2.2.2.2.2.lookup 53 = some (.bipush (-13), 2) := by decide +kernel
theorem q209_55 : z_m209.2.2.2.2.2.lookup 55 = some (.ireturn, 1) := by decide +kernel
theorem q209_56 : z_m209.2.2.2.2.2.lookup 56 = some (.iload 5, 2) := by decide +kernel
theorem q209_58 : z_m209.2.2.2.2.2.lookup 58 = some (.ifCond .lt 39, 3) := by decide +kernel
theorem q209_61 : z_m209.2.2.2.2.2.lookup 61 = some (.iload_n 2, 1) := by decide +kernel
theorem q209_62 : z_m209.2.2.2.2.2.lookup 62 = some (.ifCond .lt 35, 3) := by decide +kernel
theorem q209_65 : z_m209.2.2.2.2.2.lookup 65 = some (.iload 4, 2) := by decide +kernel
theorem q209_67 : z_m209.2.2.2.2.2.lookup 67 = some (.ifCond .lt 30, 3) := by decide +kernel
theorem q209_70 : z_m209.2.2.2.2.2.lookup 70 = some (.iload 5, 2) := by decide +kernel
theorem q209_72 : z_m209.2.2.2.2.2.lookup 72 = some (.aload_n 0, 1) := by decide +kernel
theorem q209_73 : z_m209.2.2.2.2.2.lookup 73 = some (.getfield 346, 3) := by decide +kernel
theorem q209_76 : z_m209.2.2.2.2.2.lookup 76 = some (.iload_n 1, 1) := by decide +kernel
theorem q209_77 : z_m209.2.2.2.2.2.lookup 77 = some (.iaload, 1) := by decide +kernel
theorem q209_78 : z_m209.2.2.2.2.2.lookup 78 = some (.iload_n 2, 1) := by decide +kernel
theorem q209_79 : z_m209.2.2.2.2.2.lookup 79 = some (.isub, 1) := by decide +kernel
theorem q209_80 : z_m209.2.2.2.2.2.lookup 80 = some (.if_icmp .gt 17, 3) := by decide +kernel
theorem q209_83 : z_m209.2.2.2.2.2.lookup 83 = some (.iload 5, 2) := by decide +kernel
theorem q209_85 : z_m209.2.2.2.2.2.lookup 85 = some (.aload_n 0, 1) := by decide +kernel
theorem q209_86 : z_m209.2.2.2.2.2.lookup 86 = some (.getfield 346, 3) := by decide +kernel
theorem q209_89 : z_m209.2.2.2.2.2.lookup 89 = some (.iload_n 3, 1) := by decide +kernel
theorem q209_90 : z_m209.2.2.2.2.2.lookup 90 = some (.iaload, 1) := by decide +kernel
theorem q209_91 : z_m209.2.2.2.2.2.lookup 91 = some (.iload 4, 2) := by decide +kernel
theorem q209_93 : z_m209.2.2.2.2.2.lookup 93 = some (.isub, 1) := by decide +kernel
theorem q209_94 : z_m209.2.2.2.2.2.lookup 94 = some (.if_icmp .le 6, 3) := by decide +kernel
theorem q209_97 : z_m209.2.2.2.2.2.lookup 97 = some (.bipush (-12), 2) := by decide +kernel
theorem q209_99 : z_m209.2.2.2.2.2.lookup 99 = some (.ireturn, 1) := by decide +kernel
theorem q209_100 : z_m209.2.2.2.2.2.lookup 100 = some (.iconst 0, 1) := by decide +kernel
theorem q209_101 : z_m209.2.2.2.2.2.lookup 101 = some (.istore 6, 2) := by decide +kernel
theorem q209_103 : z_m209.2.2.2.2.2.lookup 103 = some (.iload 6, 2) := by decide +kernel
theorem q209_105 : z_m209.2.2.2.2.2.lookup 105 = some (.iload 5, 2) := by decide +kernel
theorem q209_107 : z_m209.2.2.2.2.2.lookup 107 = some (.if_icmp .ge 30, 3) := by decide +kernel
theorem q209_110 : z_m209.2.2.2.2.2.lookup 110 = some (.aload_n 0, 1) := by decide +kernel
theorem q209_111 : z_m209.2.2.2.2.2.lookup 111 = some (.getfield 352, 3) := by decide +kernel
theorem q209_114 : z_m209.2.2.2.2.2.lookup 114 = some (.iload 6, 2) := by decide +kernel
theorem q209_116 : z_m209.2.2.2.2.2.lookup 116 = some (.aload_n 0, 1) := by decide +kernel
theorem q209_117 : z_m209.2.2.2.2.2.lookup 117 = some (.getfield 349, 3) := by decide +kernel
theorem q209_120 : z_m209.2.2.2.2.2.lookup 120 = some (.bipush 40, 2) := by decide +kernel
theorem q209_122 : z_m209.2.2.2.2.2.lookup 122 = some (.iload_n 1, 1) := by decide +kernel
theorem q209_123 : z_m209.2.2.2.2.2.lookup 123 = some (.imul, 1) := by decide +kernel
theorem q209_124 : z_m209.2.2.2.2.2.lookup 124 = some (.iload_n 2, 1) := by decide +kernel
theorem q209_125 : z_m209.2.2.2.2.2.lookup 125 = some (.iadd, 1) := by decide +kernel
theorem q209_126 : z_m209.2.2.2.2.2.lookup 126 = some (.iload 6, 2) := by decide +kernel
theorem q209_128 : z_m209.2.2.2.2.2.lookup 128 = some (.iadd, 1) := by decide +kernel
theorem q209_129 : z_m209.2.2.2.2.2.lookup 129 = some (.iaload, 1) := by decide +kernel
theorem q209_130 : z_m209.2.2.2.2.2.lookup 130 = some (.iastore, 1) := by decide +kernel
theorem q209_131 : z_m209.2.2.2.2.2.lookup 131 = some (.iinc 6 1, 3) := by decide +kernel
theorem q209_134 : z_m209.2.2.2.2.2.lookup 134 = some (.goto (-31), 3) := by decide +kernel
theorem q209_137 : z_m209.2.2.2.2.2.lookup 137 = some (.iconst 0, 1) := by decide +kernel
theorem q209_138 : z_m209.2.2.2.2.2.lookup 138 = some (.istore 6, 2) := by decide +kernel
theorem q209_140 : z_m209.2.2.2.2.2.lookup 140 = some (.iload 6, 2) := by decide +kernel
theorem q209_142 : z_m209.2.2.2.2.2.lookup 142 = some (.iload 5, 2) := by decide +kernel
theorem q209_144 : z_m209.2.2.2.2.2.lookup 144 = some (.if_icmp .ge 31, 3) := by decide +kernel
theorem q209_147 : z_m209.2.2.2.2.2.lookup 147 = some (.aload_n 0, 1) := by decide +kernel
theorem q209_148 : z_m209.2.2.2.2.2.lookup 148 = some (.getfield 349, 3) := by decide +kernel
theorem q209_151 : z_m209.2.2.2.2.2.lookup 151 = some (.bipush 40, 2) := by decide +kernel
theorem q209_153 : z_m209.2.2.2.2.2.lookup 153 = some (.iload_n 3, 1) := by decide +kernel
theorem q209_154 : z_m209.2.2.2.2.2.lookup 154 = some (.imul, 1) := by decide +kernel
theorem q209_155 : z_m209.2.2.2.2.2.lookup 155 = some (.iload 4, 2) := by decide +kernel
theorem q209_157 : z_m209.2.2.2.2.2.lookup 157 = some (.iadd, 1) := by decide +kernel
theorem q209_158 : z_m209.2.2.2.2.2.lookup 158 = some (.iload 6, 2) := by decide +kernel
theorem q209_160 : z_m209.2.2.2.2.2.lookup 160 = some (.iadd, 1) := by decide +kernel
theorem q209_161 : z_m209.2.2.2.2.2.lookup 161 = some (.aload_n 0, 1) := by decide +kernel
theorem q209_162 : z_m209.2.2.2.2.2.lookup 162 = some (.getfield 352, 3) := by decide +kernel
theorem q209_165 : z_m209.2.2.2.2.2.lookup 165 = some (.iload 6, 2) := by decide +kernel
theorem q209_167 : z_m209.2.2.2.2.2.lookup 167 = some (.iaload, 1) := by decide +kernel
theorem q209_168 : z_m209.2.2.2.2.2.lookup 168 = some (.iastore, 1) := by decide +kernel
theorem q209_169 : z_m209.2.2.2.2.2.lookup 169 = some (.iinc 6 1, 3) := by decide +kernel
theorem q209_172 : z_m209.2.2.2.2.2.lookup 172 = some (.goto (-32), 3) := by decide +kernel
theorem q209_175 : z_m209.2.2.2.2.2.lookup 175 = some (.iload 5, 2) := by decide +kernel
theorem q209_177 : z_m209.2.2.2.2.2.lookup 177 = some (.ireturn, 1) := by decide +kernel
theorem q210_0 : z_m210.2.2.2.2.2.lookup 0 = some (.iload_n 1, 1) := by decide +kernel
theorem q210_1 : z_m210.2.2.2.2.2.lookup 1 = some (.invokestatic 96, 3) := by decide +kernel
theorem q210_4 : z_m210.2.2.2.2.2.lookup 4 = some (.ifCond .eq 43, 3) := by decide +kernel
theorem q210_7 : z_m210.2.2.2.2.2.lookup 7 = some (.iload_n 2, 1) := by decide +kernel
theorem q210_8 : z_m210.2.2.2.2.2.lookup 8 = some (.invokestatic 105, 3) := by decide +kernel
theorem q210_11 : z_m210.2.2.2.2.2.lookup 11 = some (.ifCond .eq 36, 3) := by decide +kernel
theorem q210_14 : z_m210.2.2.2.2.2.lookup 14 = some (.iload_n 3, 1) := by decide +kernel
theorem q210_15 : z_m210.2.2.2.2.2.lookup 15 = some (.invokestatic 448, 3) := by decide +kernel
theorem q210_18 : z_m210.2.2.2.2.2.lookup 18 = some (.ifCond .eq 29, 3) := by decide +kernel
theorem q210_21 : z_m210.2.2.2.2.2.lookup 21 = some (.iload 4, 2) := by decide +kernel
theorem q210_23 : z_m210.2.2.2.2.2.lookup 23 = some (.i2l, 1) := by decide +kernel
theorem q210_24 : z_m210.2.2.2.2.2.lookup 24 = some (.lconst 0, 1) := by decide +kernel
theorem q210_25 : z_m210.2.2.2.2.2.lookup 25 = some (.ldc2_w 358, 3) := by decide +kernel
theorem q210_28 : z_m210.2.2.2.2.2.lookup 28 = some (.invokestatic 3, 3) := by decide +kernel
theorem q210_31 : z_m210.2.2.2.2.2.lookup 31 = some (.ifCond .eq 16, 3) := by decide +kernel
theorem q210_34 : z_m210.2.2.2.2.2.lookup 34 = some (.iload 6, 2) := by decide +kernel
theorem q210_36 : z_m210.2.2.2.2.2.lookup 36 = some (.i2l, 1) := by decide +kernel
theorem q210_37 : z_m210.2.2.2.2.2.lookup 37 = some (.lconst 0, 1) := by decide +kernel
theorem q210_38 : z_m210.2.2.2.2.2.lookup 38 = some (.ldc2_w 456, 3) := by decide +kernel
theorem q210_41 : z_m210.2.2.2.2.2.lookup 41 = some (.invokestatic 3, 3) := by decide +kernel
theorem q210_44 : z_m210.2.2.2.2.2.lookup 44 = some (.ifCond .ne 6, 3) := by decide +kernel
theorem q210_47 : z_m210.2.2.2.2.2.lookup 47 = some (.bipush (-2), 2) := by decide +kernel
theorem q210_49 : z_m210.2.2.2.2.2.lookup 49 = some (.ireturn, 1) := by decide +kernel
theorem q210_50 : z_m210.2.2.2.2.2.lookup 50 = some (.aload_n 0, 1) := by decide +kernel
theorem q210_51 : z_m210.2.2.2.2.2.lookup 51 = some (.getfield 343, 3) := by decide +kernel
theorem q210_54 : z_m210.2.2.2.2.2.lookup 54 = some (.iload_n 3, 1) := by decide +kernel
theorem q210_55 : z_m210.2.2.2.2.2.lookup 55 = some (.iaload, 1) := by decide +kernel
theorem q210_56 : z_m210.2.2.2.2.2.lookup 56 = some (.ifCond .lt 17, 3) := by decide +kernel
theorem q210_59 : z_m210.2.2.2.2.2.lookup 59 = some (.aload_n 0, 1) := by decide +kernel
theorem q210_60 : z_m210.2.2.2.2.2.lookup 60 = some (.getfield 343, 3) := by decide +kernel
theorem q210_63 : z_m210.2.2.2.2.2.lookup 63 = some (.iload_n 3, 1) := by decide +kernel
theorem q210_64 : z_m210.2.2.2.2.2.lookup 64 = some (.iaload, 1) := by decide +kernel
theorem q210_65 : z_m210.2.2.2.2.2.lookup 65 = some (.iload 4, 2) := by decide +kernel
theorem q210_67 : z_m210.2.2.2.2.2.lookup 67 = some (.if_icmp .eq 6, 3) := by decide +kernel
theorem q210_70 : z_m210.2.2.2.2.2.lookup 70 = some (.bipush (-13), 2) := by decide +kernel
theorem q210_72 : z_m210.2.2.2.2.2.lookup 72 = some (.ireturn, 1) := by decide +kernel
theorem q210_73 : z_m210.2.2.2.2.2.lookup 73 = some (.aload_n 0, 1) := by decide +kernel
theorem q210_74 : z_m210.2.2.2.2.2.lookup 74 = some (.getfield 343, 3) := by decide +kernel
theorem q210_77 : z_m210.2.2.2.2.2.lookup 77 = some (.iload_n 3, 1) := by decide +kernel
theorem q210_78 : z_m210.2.2.2.2.2.lookup 78 = some (.iaload, 1) := by decide +kernel
theorem q210_79 : z_m210.2.2.2.2.2.lookup 79 = some (.ifCond .ge 6, 3) := by decide +kernel
theorem q210_82 : z_m210.2.2.2.2.2.lookup 82 = some (.bipush (-11), 2) := by decide +kernel
theorem q210_84 : z_m210.2.2.2.2.2.lookup 84 = some (.ireturn, 1) := by decide +kernel
theorem q210_85 : z_m210.2.2.2.2.2.lookup 85 = some (.iconst 0, 1) := by decide +kernel
theorem q210_86 : z_m210.2.2.2.2.2.lookup 86 = some (.istore 7, 2) := by decide +kernel
theorem q210_88 : z_m210.2.2.2.2.2.lookup 88 = some (.iconst 0, 1) := by decide +kernel
theorem q210_89 : z_m210.2.2.2.2.2.lookup 89 = some (.istore 8, 2) := by decide +kernel
theorem q210_91 : z_m210.2.2.2.2.2.lookup 91 = some (.iload 8, 2) := by decide +kernel
theorem q210_93 : z_m210.2.2.2.2.2.lookup 93 = some (.iload 6, 2) := by decide +kernel
theorem q210_95 : z_m210.2.2.2.2.2.lookup 95 = some (.if_icmp .ge 76, 3) := by decide +kernel
theorem q210_98 : z_m210.2.2.2.2.2.lookup 98 = some (.iload 5, 2) := by decide +kernel
theorem q210_100 : z_m210.2.2.2.2.2.lookup 100 = some (.i2l, 1) := by decide +kernel
theorem q210_101 : z_m210.2.2.2.2.2.lookup 101 = some (.iload 8, 2) := by decide +kernel
theorem q210_103 : z_m210.2.2.2.2.2.lookup 103 = some (.i2l, 1) := by decide +kernel
theorem q210_104 : z_m210.2.2.2.2.2.lookup 104 = some (.ladd, 1) := by decide +kernel
theorem q210_105 : z_m210.2.2.2.2.2.lookup 105 = some (.lstore 9, 2) := by decide +kernel
theorem q210_107 : z_m210.2.2.2.2.2.lookup 107 = some (.lload 9, 2) := by decide +kernel
theorem q210_109 : z_m210.2.2.2.2.2.lookup 109 = some (.lconst 0, 1) := by decide +kernel
theorem q210_110 : z_m210.2.2.2.2.2.lookup 110 = some (.lcmp, 1) := by decide +kernel
theorem q210_111 : z_m210.2.2.2.2.2.lookup 111 = some (.ifCond .lt 16, 3) := by decide +kernel
theorem q210_114 : z_m210.2.2.2.2.2.lookup 114 = some (.lload 9, 2) := by decide +kernel
theorem q210_116 : z_m210.2.2.2.2.2.lookup 116 = some (.aload_n 0, 1) := by decide +kernel
theorem q210_117 : z_m210.2.2.2.2.2.lookup 117 = some (.getfield 346, 3) := by decide +kernel
theorem q210_120 : z_m210.2.2.2.2.2.lookup 120 = some (.iload_n 3, 1) := by decide +kernel
theorem q210_121 : z_m210.2.2.2.2.2.lookup 121 = some (.iaload, 1) := by decide +kernel
theorem q210_122 : z_m210.2.2.2.2.2.lookup 122 = some (.i2l, 1) := by decide +kernel
theorem q210_123 : z_m210.2.2.2.2.2.lookup 123 = some (.lcmp, 1) := by decide +kernel
theorem q210_124 : z_m210.2.2.2.2.2.lookup 124 = some (.ifCond .lt 6, 3) := by decide +kernel
theorem q210_127 : z_m210.2.2.2.2.2.lookup 127 = some (.bipush (-12), 2) := by decide +kernel
theorem q210_129 : z_m210.2.2.2.2.2.lookup 129 = some (.ireturn, 1) := by decide +kernel
theorem q210_130 : z_m210.2.2.2.2.2.lookup 130 = some (.iload 7, 2) := by decide +kernel
theorem q210_132 : z_m210.2.2.2.2.2.lookup 132 = some (.aload_n 0, 1) := by decide +kernel
theorem q210_133 : z_m210.2.2.2.2.2.lookup 133 = some (.iload_n 1, 1) := by decide +kernel
theorem q210_134 : z_m210.2.2.2.2.2.lookup 134 = some (.iload_n 2, 1) := by decide +kernel
theorem q210_135 : z_m210.2.2.2.2.2.lookup 135 = some (.iload 8, 2) := by decide +kernel
theorem q210_137 : z_m210.2.2.2.2.2.lookup 137 = some (.iadd, 1) := by decide +kernel
theorem q210_138 : z_m210.2.2.2.2.2.lookup 138 = some (.aload_n 0, 1) := by decide +kernel
theorem q210_139 : z_m210.2.2.2.2.2.lookup 139 = some (.getfield 349, 3) := by decide +kernel
theorem q210_142 : z_m210.2.2.2.2.2.lookup 142 = some (.bipush 40, 2) := by decide +kernel
theorem q210_144 : z_m210.2.2.2.2.2.lookup 144 = some (.iload_n 3, 1) := by decide +kernel
theorem q210_145 : z_m210.2.2.2.2.2.lookup 145 = some (.imul, 1) := by decide +kernel
theorem q210_146 : z_m210.2.2.2.2.2.lookup 146 = some (.lload 9, 2) := by decide +kernel
theorem q210_148 : z_m210.2.2.2.2.2.lookup 148 = some (.l2i, 1) := by decide +kernel
theorem q210_149 : z_m210.2.2.2.2.2.lookup 149 = some (.iadd, 1) := by decide +kernel
theorem q210_150 : z_m210.2.2.2.2.2.lookup 150 = some (.iaload, 1) := by decide +kernel
theorem q210_151 : z_m210.2.2.2.2.2.lookup 151 = some (.invokevirtual 458, 3) := by decide +kernel
theorem q210_154 : z_m210.2.2.2.2.2.lookup 154 = some (.ifCond .lt 7, 3) := by decide +kernel
theorem q210_157 : z_m210.2.2.2.2.2.lookup 157 = some (.iconst 1, 1) := by decide +kernel
theorem q210_158 : z_m210.2.2.2.2.2.lookup 158 = some (.goto 4, 3) := by decide +kernel
theorem q210_161 : z_m210.2.2.2.2.2.lookup 161 = some (.iconst 0, 1) := by decide +kernel
theorem q210_162 : z_m210.2.2.2.2.2.lookup 162 = some (.iadd, 1) := by decide +kernel
theorem q210_163 : z_m210.2.2.2.2.2.lookup 163 = some (.istore 7, 2) := by decide +kernel
theorem q210_165 : z_m210.2.2.2.2.2.lookup 165 = some (.iinc 8 1, 3) := by decide +kernel
theorem q210_168 : z_m210.2.2.2.2.2.lookup 168 = some (.goto (-77), 3) := by decide +kernel
theorem q210_171 : z_m210.2.2.2.2.2.lookup 171 = some (.iload 7, 2) := by decide +kernel
theorem q210_173 : z_m210.2.2.2.2.2.lookup 173 = some (.ireturn, 1) := by decide +kernel

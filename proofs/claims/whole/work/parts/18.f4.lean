theorem q211_0 : z_m211.2.2.2.2.2.lookup 0 = some (.iload_n 2, 1) := by decide +kernel
theorem q211_1 : z_m211.2.2.2.2.2.lookup 1 = some (.i2l, 1) := by decide +kernel
theorem q211_2 : z_m211.2.2.2.2.2.lookup 2 = some (.lconst 0, 1) := by decide +kernel
theorem q211_3 : z_m211.2.2.2.2.2.lookup 3 = some (.ldc2_w 15, 3) := by decide +kernel
theorem q211_6 : z_m211.2.2.2.2.2.lookup 6 = some (.invokestatic 3, 3) := by decide +kernel
theorem q211_9 : z_m211.2.2.2.2.2.lookup 9 = some (.ifCond .ne 6, 3) := by decide +kernel
theorem q211_12 : z_m211.2.2.2.2.2.lookup 12 = some (.bipush (-2), 2) := by decide +kernel
theorem q211_14 : z_m211.2.2.2.2.2.lookup 14 = some (.ireturn, 1) := by decide +kernel
theorem q211_15 : z_m211.2.2.2.2.2.lookup 15 = some (.aload_n 0, 1) := by decide +kernel
theorem q211_16 : z_m211.2.2.2.2.2.lookup 16 = some (.iload_n 1, 1) := by decide +kernel
theorem q211_17 : z_m211.2.2.2.2.2.lookup 17 = some (.invokevirtual 73, 3) := by decide +kernel
theorem q211_20 : z_m211.2.2.2.2.2.lookup 20 = some (.ifCond .ne 6, 3) := by decide +kernel
theorem q211_23 : z_m211.2.2.2.2.2.lookup 23 = some (.bipush (-11), 2) := by decide +kernel
theorem q211_25 : z_m211.2.2.2.2.2.lookup 25 = some (.ireturn, 1) := by decide +kernel
theorem q211_26 : z_m211.2.2.2.2.2.lookup 26 = some (.aload_n 0, 1) := by decide +kernel
theorem q211_27 : z_m211.2.2.2.2.2.lookup 27 = some (.getfield 35, 3) := by decide +kernel
theorem q211_30 : z_m211.2.2.2.2.2.lookup 30 = some (.iload_n 1, 1) := by decide +kernel
theorem q211_31 : z_m211.2.2.2.2.2.lookup 31 = some (.iaload, 1) := by decide +kernel
theorem q211_32 : z_m211.2.2.2.2.2.lookup 32 = some (.istore_n 3, 1) := by decide +kernel
theorem q211_33 : z_m211.2.2.2.2.2.lookup 33 = some (.iload_n 2, 1) := by decide +kernel
theorem q211_34 : z_m211.2.2.2.2.2.lookup 34 = some (.ifCond .eq 33, 3) := by decide +kernel
theorem q211_37 : z_m211.2.2.2.2.2.lookup 37 = some (.iload_n 3, 1) := by decide +kernel
theorem q211_38 : z_m211.2.2.2.2.2.lookup 38 = some (.iload_n 2, 1) := by decide +kernel
theorem q211_39 : z_m211.2.2.2.2.2.lookup 39 = some (.if_icmp .eq 28, 3) := by decide +kernel
theorem q211_42 : z_m211.2.2.2.2.2.lookup 42 = some (.iload_n 2, 1) := by decide +kernel
theorem q211_43 : z_m211.2.2.2.2.2.lookup 43 = some (.iconst 1, 1) := by decide +kernel
theorem q211_44 : z_m211.2.2.2.2.2.lookup 44 = some (.if_icmp .ne 13, 3) := by decide +kernel
theorem q211_47 : z_m211.2.2.2.2.2.lookup 47 = some (.iload_n 3, 1) := by decide +kernel
theorem q211_48 : z_m211.2.2.2.2.2.lookup 48 = some (.iconst 3, 1) := by decide +kernel
theorem q211_49 : z_m211.2.2.2.2.2.lookup 49 = some (.if_icmp .eq 18, 3) := by decide +kernel
theorem q211_52 : z_m211.2.2.2.2.2.lookup 52 = some (.iload_n 3, 1) := by decide +kernel
theorem q211_53 : z_m211.2.2.2.2.2.lookup 53 = some (.iconst 5, 1) := by decide +kernel
theorem q211_54 : z_m211.2.2.2.2.2.lookup 54 = some (.if_icmp .eq 13, 3) := by decide +kernel
theorem q211_57 : z_m211.2.2.2.2.2.lookup 57 = some (.iload_n 2, 1) := by decide +kernel
theorem q211_58 : z_m211.2.2.2.2.2.lookup 58 = some (.iconst 2, 1) := by decide +kernel
theorem q211_59 : z_m211.2.2.2.2.2.lookup 59 = some (.if_icmp .ne 12, 3) := by decide +kernel
theorem q211_62 : z_m211.2.2.2.2.2.lookup 62 = some (.iload_n 3, 1) := by decide +kernel
theorem q211_63 : z_m211.2.2.2.2.2.lookup 63 = some (.iconst 4, 1) := by decide +kernel
theorem q211_64 : z_m211.2.2.2.2.2.lookup 64 = some (.if_icmp .ne 7, 3) := by decide +kernel
theorem q211_67 : z_m211.2.2.2.2.2.lookup 67 = some (.iconst 1, 1) := by decide +kernel
theorem q211_68 : z_m211.2.2.2.2.2.lookup 68 = some (.goto 4, 3) := by decide +kernel
theorem q211_71 : z_m211.2.2.2.2.2.lookup 71 = some (.iconst 0, 1) := by decide +kernel
theorem q211_72 : z_m211.2.2.2.2.2.lookup 72 = some (.istore 4, 2) := by decide +kernel
theorem q211_74 : z_m211.2.2.2.2.2.lookup 74 = some (.iload 4, 2) := by decide +kernel
theorem q211_76 : z_m211.2.2.2.2.2.lookup 76 = some (.ifCond .eq 12, 3) := by decide +kernel
theorem q211_79 : z_m211.2.2.2.2.2.lookup 79 = some (.aload_n 0, 1) := by decide +kernel
theorem q211_80 : z_m211.2.2.2.2.2.lookup 80 = some (.getfield 45, 3) := by decide +kernel
theorem q211_83 : z_m211.2.2.2.2.2.lookup 83 = some (.iload_n 1, 1) := by decide +kernel
theorem q211_84 : z_m211.2.2.2.2.2.lookup 84 = some (.iaload, 1) := by decide +kernel
theorem q211_85 : z_m211.2.2.2.2.2.lookup 85 = some (.goto 5, 3) := by decide +kernel
theorem q211_88 : z_m211.2.2.2.2.2.lookup 88 = some (.bipush (-13), 2) := by decide +kernel
theorem q211_90 : z_m211.2.2.2.2.2.lookup 90 = some (.ireturn, 1) := by decide +kernel
theorem q212_0 : z_m212.2.2.2.2.2.lookup 0 = some (.iload_n 0, 1) := by decide +kernel
theorem q212_1 : z_m212.2.2.2.2.2.lookup 1 = some (.iload_n 0, 1) := by decide +kernel
theorem q212_2 : z_m212.2.2.2.2.2.lookup 2 = some (.iconst 1, 1) := by decide +kernel
theorem q212_3 : z_m212.2.2.2.2.2.lookup 3 = some (.iushr, 1) := by decide +kernel
theorem q212_4 : z_m212.2.2.2.2.2.lookup 4 = some (.ldc_w 265, 3) := by decide +kernel
theorem q212_7 : z_m212.2.2.2.2.2.lookup 7 = some (.iand, 1) := by decide +kernel
theorem q212_8 : z_m212.2.2.2.2.2.lookup 8 = some (.isub, 1) := by decide +kernel
theorem q212_9 : z_m212.2.2.2.2.2.lookup 9 = some (.istore_n 0, 1) := by decide +kernel
theorem q212_10 : z_m212.2.2.2.2.2.lookup 10 = some (.iload_n 0, 1) := by decide +kernel
theorem q212_11 : z_m212.2.2.2.2.2.lookup 11 = some (.ldc_w 266, 3) := by decide +kernel
theorem q212_14 : z_m212.2.2.2.2.2.lookup 14 = some (.iand, 1) := by decide +kernel
theorem q212_15 : z_m212.2.2.2.2.2.lookup 15 = some (.iload_n 0, 1) := by decide +kernel
theorem q212_16 : z_m212.2.2.2.2.2.lookup 16 = some (.iconst 2, 1) := by decide +kernel
theorem q212_17 : z_m212.2.2.2.2.2.lookup 17 = some (.iushr, 1) := by decide +kernel
theorem q212_18 : z_m212.2.2.2.2.2.lookup 18 = some (.ldc_w 266, 3) := by decide +kernel
theorem q212_21 : z_m212.2.2.2.2.2.lookup 21 = some (.iand, 1) := by decide +kernel
theorem q212_22 : z_m212.2.2.2.2.2.lookup 22 = some (.iadd, 1) := by decide +kernel
theorem q212_23 : z_m212.2.2.2.2.2.lookup 23 = some (.istore_n 0, 1) := by decide +kernel
theorem q212_24 : z_m212.2.2.2.2.2.lookup 24 = some (.iload_n 0, 1) := by decide +kernel
theorem q212_25 : z_m212.2.2.2.2.2.lookup 25 = some (.iload_n 0, 1) := by decide +kernel
theorem q212_26 : z_m212.2.2.2.2.2.lookup 26 = some (.iconst 4, 1) := by decide +kernel
theorem q212_27 : z_m212.2.2.2.2.2.lookup 27 = some (.iushr, 1) := by decide +kernel
theorem q212_28 : z_m212.2.2.2.2.2.lookup 28 = some (.iadd, 1) := by decide +kernel
theorem q212_29 : z_m212.2.2.2.2.2.lookup 29 = some (.ldc_w 267, 3) := by decide +kernel
theorem q212_32 : z_m212.2.2.2.2.2.lookup 32 = some (.iand, 1) := by decide +kernel
theorem q212_33 : z_m212.2.2.2.2.2.lookup 33 = some (.istore_n 0, 1) := by decide +kernel
theorem q212_34 : z_m212.2.2.2.2.2.lookup 34 = some (.iload_n 0, 1) := by decide +kernel
theorem q212_35 : z_m212.2.2.2.2.2.lookup 35 = some (.iload_n 0, 1) := by decide +kernel
theorem q212_36 : z_m212.2.2.2.2.2.lookup 36 = some (.bipush 8, 2) := by decide +kernel
theorem q212_38 : z_m212.2.2.2.2.2.lookup 38 = some (.iushr, 1) := by decide +kernel
theorem q212_39 : z_m212.2.2.2.2.2.lookup 39 = some (.iadd, 1) := by decide +kernel
theorem q212_40 : z_m212.2.2.2.2.2.lookup 40 = some (.istore_n 0, 1) := by decide +kernel
theorem q212_41 : z_m212.2.2.2.2.2.lookup 41 = some (.iload_n 0, 1) := by decide +kernel
theorem q212_42 : z_m212.2.2.2.2.2.lookup 42 = some (.iload_n 0, 1) := by decide +kernel
theorem q212_43 : z_m212.2.2.2.2.2.lookup 43 = some (.bipush 16, 2) := by decide +kernel
theorem q212_45 : z_m212.2.2.2.2.2.lookup 45 = some (.iushr, 1) := by decide +kernel
theorem q212_46 : z_m212.2.2.2.2.2.lookup 46 = some (.iadd, 1) := by decide +kernel
theorem q212_47 : z_m212.2.2.2.2.2.lookup 47 = some (.istore_n 0, 1) := by decide +kernel
theorem q212_48 : z_m212.2.2.2.2.2.lookup 48 = some (.iload_n 0, 1) := by decide +kernel
theorem q212_49 : z_m212.2.2.2.2.2.lookup 49 = some (.bipush 63, 2) := by decide +kernel
theorem q212_51 : z_m212.2.2.2.2.2.lookup 51 = some (.iand, 1) := by decide +kernel
theorem q212_52 : z_m212.2.2.2.2.2.lookup 52 = some (.ireturn, 1) := by decide +kernel
theorem q213_0 : z_m213.2.2.2.2.2.lookup 0 = some (.iload_n 0, 1) := by decide +kernel
theorem q213_1 : z_m213.2.2.2.2.2.lookup 1 = some (.iload_n 1, 1) := by decide +kernel
theorem q213_2 : z_m213.2.2.2.2.2.lookup 2 = some (.irem, 1) := by decide +kernel
theorem q213_3 : z_m213.2.2.2.2.2.lookup 3 = some (.istore_n 2, 1) := by decide +kernel
theorem q213_4 : z_m213.2.2.2.2.2.lookup 4 = some (.iload_n 0, 1) := by decide +kernel
theorem q213_5 : z_m213.2.2.2.2.2.lookup 5 = some (.iload_n 1, 1) := by decide +kernel
theorem q213_6 : z_m213.2.2.2.2.2.lookup 6 = some (.ixor, 1) := by decide +kernel
theorem q213_7 : z_m213.2.2.2.2.2.lookup 7 = some (.ifCond .ge 11, 3) := by decide +kernel
theorem q213_10 : z_m213.2.2.2.2.2.lookup 10 = some (.iload_n 2, 1) := by decide +kernel
theorem q213_11 : z_m213.2.2.2.2.2.lookup 11 = some (.ifCond .eq 7, 3) := by decide +kernel
theorem q213_14 : z_m213.2.2.2.2.2.lookup 14 = some (.iload_n 2, 1) := by decide +kernel
theorem q213_15 : z_m213.2.2.2.2.2.lookup 15 = some (.iload_n 1, 1) := by decide +kernel
theorem q213_16 : z_m213.2.2.2.2.2.lookup 16 = some (.iadd, 1) := by decide +kernel
theorem q213_17 : z_m213.2.2.2.2.2.lookup 17 = some (.ireturn, 1) := by decide +kernel
theorem q213_18 : z_m213.2.2.2.2.2.lookup 18 = some (.iload_n 2, 1) := by decide +kernel
theorem q213_19 : z_m213.2.2.2.2.2.lookup 19 = some (.ireturn, 1) := by decide +kernel
theorem q214_0 : z_m214.2.2.2.2.2.lookup 0 = some (.iload_n 0, 1) := by decide +kernel
theorem q214_1 : z_m214.2.2.2.2.2.lookup 1 = some (.iload_n 1, 1) := by decide +kernel
theorem q214_2 : z_m214.2.2.2.2.2.lookup 2 = some (.if_icmp .lt 7, 3) := by decide +kernel
theorem q214_5 : z_m214.2.2.2.2.2.lookup 5 = some (.iload_n 0, 1) := by decide +kernel
theorem q214_6 : z_m214.2.2.2.2.2.lookup 6 = some (.goto 4, 3) := by decide +kernel
theorem q214_9 : z_m214.2.2.2.2.2.lookup 9 = some (.iload_n 1, 1) := by decide +kernel
theorem q214_10 : z_m214.2.2.2.2.2.lookup 10 = some (.ireturn, 1) := by decide +kernel
theorem q215_0 : z_m215.2.2.2.2.2.lookup 0 = some (.iload_n 0, 1) := by decide +kernel
theorem q215_1 : z_m215.2.2.2.2.2.lookup 1 = some (.iload_n 1, 1) := by decide +kernel
theorem q215_2 : z_m215.2.2.2.2.2.lookup 2 = some (.if_icmp .gt 7, 3) := by decide +kernel
theorem q215_5 : z_m215.2.2.2.2.2.lookup 5 = some (.iload_n 0, 1) := by decide +kernel
theorem q215_6 : z_m215.2.2.2.2.2.lookup 6 = some (.goto 4, 3) := by decide +kernel
theorem q215_9 : z_m215.2.2.2.2.2.lookup 9 = some (.iload_n 1, 1) := by decide +kernel
theorem q215_10 : z_m215.2.2.2.2.2.lookup 10 = some (.ireturn, 1) := by decide +kernel
theorem q216_0 : z_m216.2.2.2.2.2.lookup 0 = some (.aload_n 0, 1) := by decide +kernel
theorem q216_1 : z_m216.2.2.2.2.2.lookup 1 = some (.getfield 9, 3) := by decide +kernel
theorem q216_4 : z_m216.2.2.2.2.2.lookup 4 = some (.arraylength, 1) := by decide +kernel
theorem q216_5 : z_m216.2.2.2.2.2.lookup 5 = some (.aload_n 0, 1) := by decide +kernel
theorem q216_6 : z_m216.2.2.2.2.2.lookup 6 = some (.invokevirtual 335, 3) := by decide +kernel
theorem q216_9 : z_m216.2.2.2.2.2.lookup 9 = some (.ishr, 1) := by decide +kernel
theorem q216_10 : z_m216.2.2.2.2.2.lookup 10 = some (.ireturn, 1) := by decide +kernel
theorem q217_0 : z_m217.2.2.2.2.2.lookup 0 = some (.aload_n 0, 1) := by decide +kernel
theorem q217_1 : z_m217.2.2.2.2.2.lookup 1 = some (.invokevirtual 492, 3) := by decide +kernel
theorem q217_4 : z_m217.2.2.2.2.2.lookup 4 = some (.ifCond .eq 12, 3) := by decide +kernel
theorem q217_7 : z_m217.2.2.2.2.2.lookup 7 = some (.aload_n 0, 1) := by decide +kernel
theorem q217_8 : z_m217.2.2.2.2.2.lookup 8 = some (.getfield 9, 3) := by decide +kernel
theorem q217_11 : z_m217.2.2.2.2.2.lookup 11 = some (.iload_n 1, 1) := by decide +kernel
theorem q217_12 : z_m217.2.2.2.2.2.lookup 12 = some (.invokestatic 495, 3) := by decide +kernel
theorem q217_15 : z_m217.2.2.2.2.2.lookup 15 = some (.ireturn, 1) := by decide +kernel
theorem q217_16 : z_m217.2.2.2.2.2.lookup 16 = some (.aload_n 0, 1) := by decide +kernel
theorem q217_17 : z_m217.2.2.2.2.2.lookup 17 = some (.getfield 9, 3) := by decide +kernel
theorem q217_20 : z_m217.2.2.2.2.2.lookup 20 = some (.iload_n 1, 1) := by decide +kernel
theorem q217_21 : z_m217.2.2.2.2.2.lookup 21 = some (.invokestatic 498, 3) := by decide +kernel
theorem q217_24 : z_m217.2.2.2.2.2.lookup 24 = some (.ireturn, 1) := by decide +kernel
theorem q218_0 : z_m218.2.2.2.2.2.lookup 0 = some (.getstatic 38, 3) := by decide +kernel
theorem q218_3 : z_m218.2.2.2.2.2.lookup 3 = some (.ifCond .eq 10, 3) := by decide +kernel
theorem q218_6 : z_m218.2.2.2.2.2.lookup 6 = some (.aload_n 0, 1) := by decide +kernel
theorem q218_7 : z_m218.2.2.2.2.2.lookup 7 = some (.getfield 15, 3) := by decide +kernel
theorem q218_10 : z_m218.2.2.2.2.2.lookup 10 = some (.goto 4, 3) := by decide +kernel
theorem q218_13 : z_m218.2.2.2.2.2.lookup 13 = some (.iconst 1, 1) := by decide +kernel
theorem q218_14 : z_m218.2.2.2.2.2.lookup 14 = some (.ireturn, 1) := by decide +kernel
theorem q219_0 : z_m219.2.2.2.2.2.lookup 0 = some (.getstatic 38, 3) := by decide +kernel
theorem q219_3 : z_m219.2.2.2.2.2.lookup 3 = some (.ifCond .eq 14, 3) := by decide +kernel
theorem q219_6 : z_m219.2.2.2.2.2.lookup 6 = some (.aload_n 0, 1) := by decide +kernel
theorem q219_7 : z_m219.2.2.2.2.2.lookup 7 = some (.getfield 15, 3) := by decide +kernel
theorem q219_10 : z_m219.2.2.2.2.2.lookup 10 = some (.ifCond .ne 7, 3) := by decide +kernel
theorem q219_13 : z_m219.2.2.2.2.2.lookup 13 = some (.iconst 1, 1) := by decide +kernel
theorem q219_14 : z_m219.2.2.2.2.2.lookup 14 = some (.goto 4, 3) := by decide +kernel
theorem q219_17 : z_m219.2.2.2.2.2.lookup 17 = some (.iconst 0, 1) := by decide +kernel
theorem q219_18 : z_m219.2.2.2.2.2.lookup 18 = some (.ireturn, 1) := by decide +kernel
theorem q220_0 : z_m220.2.2.2.2.2.lookup 0 = some (.iload_n 0, 1) := by decide +kernel
theorem q220_1 : z_m220.2.2.2.2.2.lookup 1 = some (.iload_n 1, 1) := by decide +kernel
theorem q220_2 : z_m220.2.2.2.2.2.lookup 2 = some (.getstatic 1053, 3) := by decide +kernel
theorem q220_5 : z_m220.2.2.2.2.2.lookup 5 = some (.invokestatic 1059, 3) := by decide +kernel
theorem q220_8 : z_m220.2.2.2.2.2.lookup 8 = some (.pop, 1) := by decide +kernel
theorem q220_9 : z_m220.2.2.2.2.2.lookup 9 = some (.return_, 1) := by decide +kernel
theorem q221_0 : z_m221.2.2.2.2.2.lookup 0 = some (.iload_n 1, 1) := by decide +kernel
theorem q221_1 : z_m221.2.2.2.2.2.lookup 1 = some (.aload_n 0, 1) := by decide +kernel
theorem q221_2 : z_m221.2.2.2.2.2.lookup 2 = some (.arraylength, 1) := by decide +kernel
theorem q221_3 : z_m221.2.2.2.2.2.lookup 3 = some (.invokestatic 9, 3) := by decide +kernel
theorem q221_6 : z_m221.2.2.2.2.2.lookup 6 = some (.aload_n 0, 1) := by decide +kernel
theorem q221_7 : z_m221.2.2.2.2.2.lookup 7 = some (.iload_n 1, 1) := by decide +kernel
theorem q221_8 : z_m221.2.2.2.2.2.lookup 8 = some (.baload, 1) := by decide +kernel
theorem q221_9 : z_m221.2.2.2.2.2.lookup 9 = some (.sipush 255, 3) := by decide +kernel
theorem q221_12 : z_m221.2.2.2.2.2.lookup 12 = some (.iand, 1) := by decide +kernel
theorem q221_13 : z_m221.2.2.2.2.2.lookup 13 = some (.i2c, 1) := by decide +kernel
theorem q221_14 : z_m221.2.2.2.2.2.lookup 14 = some (.ireturn, 1) := by decide +kernel
theorem q222_0 : z_m222.2.2.2.2.2.lookup 0 = some (.iconst 0, 1) := by decide +kernel
theorem q222_1 : z_m222.2.2.2.2.2.lookup 1 = some (.istore_n 2, 1) := by decide +kernel
theorem q222_2 : z_m222.2.2.2.2.2.lookup 2 = some (.aload_n 0, 1) := by decide +kernel
theorem q222_3 : z_m222.2.2.2.2.2.lookup 3 = some (.arraylength, 1) := by decide +kernel
theorem q222_4 : z_m222.2.2.2.2.2.lookup 4 = some (.istore_n 3, 1) := by decide +kernel
theorem q222_5 : z_m222.2.2.2.2.2.lookup 5 = some (.iload_n 2, 1) := by decide +kernel
theorem q222_6 : z_m222.2.2.2.2.2.lookup 6 = some (.iload_n 3, 1) := by decide +kernel
theorem q222_7 : z_m222.2.2.2.2.2.lookup 7 = some (.if_icmp .ge 13, 3) := by decide +kernel
theorem q222_10 : z_m222.2.2.2.2.2.lookup 10 = some (.aload_n 0, 1) := by decide +kernel
theorem q222_11 : z_m222.2.2.2.2.2.lookup 11 = some (.iload_n 2, 1) := by decide +kernel
theorem q222_12 : z_m222.2.2.2.2.2.lookup 12 = some (.iload_n 1, 1) := by decide +kernel
theorem q222_13 : z_m222.2.2.2.2.2.lookup 13 = some (.iastore, 1) := by decide +kernel
theorem q222_14 : z_m222.2.2.2.2.2.lookup 14 = some (.iinc 2 1, 3) := by decide +kernel
theorem q222_17 : z_m222.2.2.2.2.2.lookup 17 = some (.goto (-12), 3) := by decide +kernel
theorem q222_20 : z_m222.2.2.2.2.2.lookup 20 = some (.return_, 1) := by decide +kernel
theorem q223_0 : z_m223.2.2.2.2.2.lookup 0 = some (.iload_n 0, 1) := by decide +kernel
theorem q223_1 : z_m223.2.2.2.2.2.lookup 1 = some (.ifCond .lt 8, 3) := by decide +kernel
theorem q223_4 : z_m223.2.2.2.2.2.lookup 4 = some (.iload_n 0, 1) := by decide +kernel
theorem q223_5 : z_m223.2.2.2.2.2.lookup 5 = some (.iload_n 1, 1) := by decide +kernel
theorem q223_6 : z_m223.2.2.2.2.2.lookup 6 = some (.if_icmp .lt 10, 3) := by decide +kernel
theorem q223_9 : z_m223.2.2.2.2.2.lookup 9 = some (.aload_n 2, 1) := by decide +kernel
theorem q223_10 : z_m223.2.2.2.2.2.lookup 10 = some (.iload_n 0, 1) := by decide +kernel
theorem q223_11 : z_m223.2.2.2.2.2.lookup 11 = some (.iload_n 1, 1) := by decide +kernel
theorem q223_12 : z_m223.2.2.2.2.2.lookup 12 = some (.invokestatic 95, 3) := by decide +kernel
theorem q223_15 : z_m223.2.2.2.2.2.lookup 15 = some (.athrow, 1) := by decide +kernel
theorem q223_16 : z_m223.2.2.2.2.2.lookup 16 = some (.iload_n 0, 1) := by decide +kernel
theorem q223_17 : z_m223.2.2.2.2.2.lookup 17 = some (.ireturn, 1) := by decide +kernel

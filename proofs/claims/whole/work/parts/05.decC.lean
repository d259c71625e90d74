theorem dX6_init_0 : decode cX6_init 0 = .ok (.aload_n 0, 1) := by decide +kernel
theorem dX6_init_1 : decode cX6_init 1 = .ok (.invokespecial 1, 3) := by decide +kernel
theorem dX6_init_4 : decode cX6_init 4 = .ok (.aload_n 0, 1) := by decide +kernel
theorem dX6_init_5 : decode cX6_init 5 = .ok (.bipush 120, 2) := by decide +kernel
theorem dX6_init_7 : decode cX6_init 7 = .ok (.newarray .int, 2) := by decide +kernel
theorem dX6_init_9 : decode cX6_init 9 = .ok (.putfield 7, 3) := by decide +kernel
theorem dX6_init_12 : decode cX6_init 12 = .ok (.aload_n 0, 1) := by decide +kernel
theorem dX6_init_13 : decode cX6_init 13 = .ok (.sipush 4086, 3) := by decide +kernel
theorem dX6_init_16 : decode cX6_init 16 = .ok (.newarray .int, 2) := by decide +kernel
theorem dX6_init_18 : decode cX6_init 18 = .ok (.putfield 13, 3) := by decide +kernel
theorem dX6_init_21 : decode cX6_init 21 = .ok (.aload_n 0, 1) := by decide +kernel
theorem dX6_init_22 : decode cX6_init 22 = .ok (.sipush 4086, 3) := by decide +kernel
theorem dX6_init_25 : decode cX6_init 25 = .ok (.newarray .int, 2) := by decide +kernel
theorem dX6_init_27 : decode cX6_init 27 = .ok (.putfield 16, 3) := by decide +kernel
theorem dX6_init_30 : decode cX6_init 30 = .ok (.aload_n 0, 1) := by decide +kernel
theorem dX6_init_31 : decode cX6_init 31 = .ok (.sipush 4086, 3) := by decide +kernel
theorem dX6_init_34 : decode cX6_init 34 = .ok (.newarray .int, 2) := by decide +kernel
theorem dX6_init_36 : decode cX6_init 36 = .ok (.putfield 19, 3) := by decide +kernel
theorem dX6_init_39 : decode cX6_init 39 = .ok (.aload_n 0, 1) := by decide +kernel
theorem dX6_init_40 : decode cX6_init 40 = .ok (.sipush 16344, 3) := by decide +kernel
theorem dX6_init_43 : decode cX6_init 43 = .ok (.newarray .int, 2) := by decide +kernel
theorem dX6_init_45 : decode cX6_init 45 = .ok (.putfield 22, 3) := by decide +kernel
theorem dX6_init_48 : decode cX6_init 48 = .ok (.aload_n 0, 1) := by decide +kernel
theorem dX6_init_49 : decode cX6_init 49 = .ok (.sipush 16344, 3) := by decide +kernel
theorem dX6_init_52 : decode cX6_init 52 = .ok (.newarray .int, 2) := by decide +kernel
theorem dX6_init_54 : decode cX6_init 54 = .ok (.putfield 25, 3) := by decide +kernel
theorem dX6_init_57 : decode cX6_init 57 = .ok (.aload_n 0, 1) := by decide +kernel
theorem dX6_init_58 : decode cX6_init 58 = .ok (.sipush 16344, 3) := by decide +kernel
theorem dX6_init_61 : decode cX6_init 61 = .ok (.newarray .int, 2) := by decide +kernel
theorem dX6_init_63 : decode cX6_init 63 = .ok (.putfield 28, 3) := by decide +kernel
theorem dX6_init_66 : decode cX6_init 66 = .ok (.aload_n 0, 1) := by decide +kernel
theorem dX6_init_67 : decode cX6_init 67 = .ok (.sipush 16344, 3) := by decide +kernel
theorem dX6_init_70 : decode cX6_init 70 = .ok (.newarray .int, 2) := by decide +kernel
theorem dX6_init_72 : decode cX6_init 72 = .ok (.putfield 31, 3) := by decide +kernel
theorem dX6_init_75 : decode cX6_init 75 = .ok (.aload_n 0, 1) := by decide +kernel
theorem dX6_init_76 : decode cX6_init 76 = .ok (.sipush 8172, 3) := by decide +kernel
theorem dX6_init_79 : decode cX6_init 79 = .ok (.newarray .int, 2) := by decide +kernel
theorem dX6_init_81 : decode cX6_init 81 = .ok (.putfield 34, 3) := by decide +kernel
theorem dX6_init_84 : decode cX6_init 84 = .ok (.aload_n 0, 1) := by decide +kernel
theorem dX6_init_85 : decode cX6_init 85 = .ok (.iconst 2, 1) := by decide +kernel
theorem dX6_init_86 : decode cX6_init 86 = .ok (.newarray .boolean, 2) := by decide +kernel
theorem dX6_init_88 : decode cX6_init 88 = .ok (.putfield 37, 3) := by decide +kernel
theorem dX6_init_91 : decode cX6_init 91 = .ok (.aload_n 0, 1) := by decide +kernel
theorem dX6_init_92 : decode cX6_init 92 = .ok (.getfield 16, 3) := by decide +kernel
theorem dX6_init_95 : decode cX6_init 95 = .ok (.invokestatic 41, 3) := by decide +kernel
theorem dX6_init_98 : decode cX6_init 98 = .ok (.return_, 1) := by decide +kernel
theorem dX6_thrown_0 : decode cX6_thrown 0 = .ok (.aload_n 0, 1) := by decide +kernel
theorem dX6_thrown_1 : decode cX6_thrown 1 = .ok (.getfield 45, 3) := by decide +kernel
theorem dX6_thrown_4 : decode cX6_thrown 4 = .ok (.ireturn, 1) := by decide +kernel
theorem dX6_refused_0 : decode cX6_refused 0 = .ok (.aload_n 0, 1) := by decide +kernel
theorem dX6_refused_1 : decode cX6_refused 1 = .ok (.iload_n 1, 1) := by decide +kernel
theorem dX6_refused_2 : decode cX6_refused 2 = .ok (.putfield 45, 3) := by decide +kernel
theorem dX6_refused_5 : decode cX6_refused 5 = .ok (.iload_n 1, 1) := by decide +kernel
theorem dX6_refused_6 : decode cX6_refused 6 = .ok (.ifCond .le 7, 3) := by decide +kernel
theorem dX6_refused_9 : decode cX6_refused 9 = .ok (.iconst 1, 1) := by decide +kernel
theorem dX6_refused_10 : decode cX6_refused 10 = .ok (.goto 4, 3) := by decide +kernel
theorem dX6_refused_13 : decode cX6_refused 13 = .ok (.iconst 0, 1) := by decide +kernel
theorem dX6_refused_14 : decode cX6_refused 14 = .ok (.ireturn, 1) := by decide +kernel
theorem dX6_in_0 : decode cX6_in 0 = .ok (.lload_n 0, 1) := by decide +kernel
theorem dX6_in_1 : decode cX6_in 1 = .ok (.lload_n 2, 1) := by decide +kernel
theorem dX6_in_2 : decode cX6_in 2 = .ok (.lcmp, 1) := by decide +kernel
theorem dX6_in_3 : decode cX6_in 3 = .ok (.ifCond .lt 14, 3) := by decide +kernel
theorem dX6_in_6 : decode cX6_in 6 = .ok (.lload_n 0, 1) := by decide +kernel
theorem dX6_in_7 : decode cX6_in 7 = .ok (.lload 4, 2) := by decide +kernel
theorem dX6_in_9 : decode cX6_in 9 = .ok (.lcmp, 1) := by decide +kernel
theorem dX6_in_10 : decode cX6_in 10 = .ok (.ifCond .gt 7, 3) := by decide +kernel
theorem dX6_in_13 : decode cX6_in 13 = .ok (.iconst 1, 1) := by decide +kernel
theorem dX6_in_14 : decode cX6_in 14 = .ok (.goto 4, 3) := by decide +kernel
theorem dX6_in_17 : decode cX6_in 17 = .ok (.iconst 0, 1) := by decide +kernel
theorem dX6_in_18 : decode cX6_in 18 = .ok (.ireturn, 1) := by decide +kernel
theorem dX6_copy_0 : decode cX6_copy 0 = .ok (.iconst 0, 1) := by decide +kernel
theorem dX6_copy_1 : decode cX6_copy 1 = .ok (.istore 5, 2) := by decide +kernel
theorem dX6_copy_3 : decode cX6_copy 3 = .ok (.iload 5, 2) := by decide +kernel
theorem dX6_copy_5 : decode cX6_copy 5 = .ok (.iload 4, 2) := by decide +kernel
theorem dX6_copy_7 : decode cX6_copy 7 = .ok (.if_icmp .ge 21, 3) := by decide +kernel
theorem dX6_copy_10 : decode cX6_copy 10 = .ok (.aload_n 2, 1) := by decide +kernel
theorem dX6_copy_11 : decode cX6_copy 11 = .ok (.iload_n 3, 1) := by decide +kernel
theorem dX6_copy_12 : decode cX6_copy 12 = .ok (.iload 5, 2) := by decide +kernel
theorem dX6_copy_14 : decode cX6_copy 14 = .ok (.iadd, 1) := by decide +kernel
theorem dX6_copy_15 : decode cX6_copy 15 = .ok (.aload_n 0, 1) := by decide +kernel
theorem dX6_copy_16 : decode cX6_copy 16 = .ok (.iload_n 1, 1) := by decide +kernel
theorem dX6_copy_17 : decode cX6_copy 17 = .ok (.iload 5, 2) := by decide +kernel
theorem dX6_copy_19 : decode cX6_copy 19 = .ok (.iadd, 1) := by decide +kernel
theorem dX6_copy_20 : decode cX6_copy 20 = .ok (.iaload, 1) := by decide +kernel
theorem dX6_copy_21 : decode cX6_copy 21 = .ok (.iastore, 1) := by decide +kernel
theorem dX6_copy_22 : decode cX6_copy 22 = .ok (.iinc 5 1, 3) := by decide +kernel
theorem dX6_copy_25 : decode cX6_copy 25 = .ok (.goto (-22), 3) := by decide +kernel
theorem dX6_copy_28 : decode cX6_copy 28 = .ok (.return_, 1) := by decide +kernel
theorem dX6_tenTo_0 : decode cX6_tenTo 0 = .ok (.lconst 1, 1) := by decide +kernel
theorem dX6_tenTo_1 : decode cX6_tenTo 1 = .ok (.lstore_n 1, 1) := by decide +kernel
theorem dX6_tenTo_2 : decode cX6_tenTo 2 = .ok (.iconst 0, 1) := by decide +kernel
theorem dX6_tenTo_3 : decode cX6_tenTo 3 = .ok (.istore_n 3, 1) := by decide +kernel
theorem dX6_tenTo_4 : decode cX6_tenTo 4 = .ok (.iload_n 3, 1) := by decide +kernel
theorem dX6_tenTo_5 : decode cX6_tenTo 5 = .ok (.iload_n 0, 1) := by decide +kernel
theorem dX6_tenTo_6 : decode cX6_tenTo 6 = .ok (.if_icmp .ge 15, 3) := by decide +kernel
theorem dX6_tenTo_9 : decode cX6_tenTo 9 = .ok (.lload_n 1, 1) := by decide +kernel
theorem dX6_tenTo_10 : decode cX6_tenTo 10 = .ok (.ldc2_w 49, 3) := by decide +kernel
theorem dX6_tenTo_13 : decode cX6_tenTo 13 = .ok (.lmul, 1) := by decide +kernel
theorem dX6_tenTo_14 : decode cX6_tenTo 14 = .ok (.lstore_n 1, 1) := by decide +kernel
theorem dX6_tenTo_15 : decode cX6_tenTo 15 = .ok (.iinc 3 1, 3) := by decide +kernel
theorem dX6_tenTo_18 : decode cX6_tenTo 18 = .ok (.goto (-14), 3) := by decide +kernel
theorem dX6_tenTo_21 : decode cX6_tenTo 21 = .ok (.lload_n 1, 1) := by decide +kernel
theorem dX6_tenTo_22 : decode cX6_tenTo 22 = .ok (.lreturn, 1) := by decide +kernel
theorem dX6_clean_0 : decode cX6_clean 0 = .ok (.iconst 0, 1) := by decide +kernel
theorem dX6_clean_1 : decode cX6_clean 1 = .ok (.istore_n 1, 1) := by decide +kernel
theorem dX6_clean_2 : decode cX6_clean 2 = .ok (.iload_n 1, 1) := by decide +kernel
theorem dX6_clean_3 : decode cX6_clean 3 = .ok (.sipush 4086, 3) := by decide +kernel
theorem dX6_clean_6 : decode cX6_clean 6 = .ok (.if_icmp .ge 13, 3) := by decide +kernel
theorem dX6_clean_9 : decode cX6_clean 9 = .ok (.aload_n 0, 1) := by decide +kernel
theorem dX6_clean_10 : decode cX6_clean 10 = .ok (.iload_n 1, 1) := by decide +kernel
theorem dX6_clean_11 : decode cX6_clean 11 = .ok (.iconst 0, 1) := by decide +kernel
theorem dX6_clean_12 : decode cX6_clean 12 = .ok (.iastore, 1) := by decide +kernel
theorem dX6_clean_13 : decode cX6_clean 13 = .ok (.iinc 1 1, 3) := by decide +kernel
theorem dX6_clean_16 : decode cX6_clean 16 = .ok (.goto (-14), 3) := by decide +kernel
theorem dX6_clean_19 : decode cX6_clean 19 = .ok (.aload_n 0, 1) := by decide +kernel
theorem dX6_clean_20 : decode cX6_clean 20 = .ok (.bipush 32, 2) := by decide +kernel
theorem dX6_clean_22 : decode cX6_clean 22 = .ok (.iconst 1, 1) := by decide +kernel
theorem dX6_clean_23 : decode cX6_clean 23 = .ok (.iastore, 1) := by decide +kernel
theorem dX6_clean_24 : decode cX6_clean 24 = .ok (.return_, 1) := by decide +kernel
theorem dX6_layDown_0 : decode cX6_layDown 0 = .ok (.aload_n 0, 1) := by decide +kernel
theorem dX6_layDown_1 : decode cX6_layDown 1 = .ok (.getfield 51, 3) := by decide +kernel
theorem dX6_layDown_4 : decode cX6_layDown 4 = .ok (.iload_n 1, 1) := by decide +kernel
theorem dX6_layDown_5 : decode cX6_layDown 5 = .ok (.iadd, 1) := by decide +kernel
theorem dX6_layDown_6 : decode cX6_layDown 6 = .ok (.bipush 16, 2) := by decide +kernel
theorem dX6_layDown_8 : decode cX6_layDown 8 = .ok (.irem, 1) := by decide +kernel
theorem dX6_layDown_9 : decode cX6_layDown 9 = .ok (.iconst 4, 1) := by decide +kernel
theorem dX6_layDown_10 : decode cX6_layDown 10 = .ok (.idiv, 1) := by decide +kernel
theorem dX6_layDown_11 : decode cX6_layDown 11 = .ok (.istore_n 2, 1) := by decide +kernel
theorem dX6_layDown_12 : decode cX6_layDown 12 = .ok (.sipush 4086, 3) := by decide +kernel
theorem dX6_layDown_15 : decode cX6_layDown 15 = .ok (.aload_n 0, 1) := by decide +kernel
theorem dX6_layDown_16 : decode cX6_layDown 16 = .ok (.getfield 51, 3) := by decide +kernel
theorem dX6_layDown_19 : decode cX6_layDown 19 = .ok (.iload_n 1, 1) := by decide +kernel
theorem dX6_layDown_20 : decode cX6_layDown 20 = .ok (.iadd, 1) := by decide +kernel
theorem dX6_layDown_21 : decode cX6_layDown 21 = .ok (.bipush 16, 2) := by decide +kernel
theorem dX6_layDown_23 : decode cX6_layDown 23 = .ok (.irem, 1) := by decide +kernel
theorem dX6_layDown_24 : decode cX6_layDown 24 = .ok (.iconst 4, 1) := by decide +kernel
theorem dX6_layDown_25 : decode cX6_layDown 25 = .ok (.irem, 1) := by decide +kernel
theorem dX6_layDown_26 : decode cX6_layDown 26 = .ok (.imul, 1) := by decide +kernel
theorem dX6_layDown_27 : decode cX6_layDown 27 = .ok (.istore_n 3, 1) := by decide +kernel
theorem dX6_layDown_28 : decode cX6_layDown 28 = .ok (.iload_n 2, 1) := by decide +kernel
theorem dX6_layDown_29 : decode cX6_layDown 29 = .ok (.ifCond .ne 22, 3) := by decide +kernel
theorem dX6_layDown_32 : decode cX6_layDown 32 = .ok (.aload_n 0, 1) := by decide +kernel
theorem dX6_layDown_33 : decode cX6_layDown 33 = .ok (.getfield 16, 3) := by decide +kernel
theorem dX6_layDown_36 : decode cX6_layDown 36 = .ok (.iconst 0, 1) := by decide +kernel
theorem dX6_layDown_37 : decode cX6_layDown 37 = .ok (.aload_n 0, 1) := by decide +kernel
theorem dX6_layDown_38 : decode cX6_layDown 38 = .ok (.getfield 22, 3) := by decide +kernel
theorem dX6_layDown_41 : decode cX6_layDown 41 = .ok (.iload_n 3, 1) := by decide +kernel
theorem dX6_layDown_42 : decode cX6_layDown 42 = .ok (.sipush 4086, 3) := by decide +kernel
theorem dX6_layDown_45 : decode cX6_layDown 45 = .ok (.invokestatic 54, 3) := by decide +kernel
theorem dX6_layDown_48 : decode cX6_layDown 48 = .ok (.goto 67, 3) := by decide +kernel
theorem dX6_layDown_51 : decode cX6_layDown 51 = .ok (.iload_n 2, 1) := by decide +kernel
theorem dX6_layDown_52 : decode cX6_layDown 52 = .ok (.iconst 1, 1) := by decide +kernel
theorem dX6_layDown_53 : decode cX6_layDown 53 = .ok (.if_icmp .ne 22, 3) := by decide +kernel
theorem dX6_layDown_56 : decode cX6_layDown 56 = .ok (.aload_n 0, 1) := by decide +kernel
theorem dX6_layDown_57 : decode cX6_layDown 57 = .ok (.getfield 16, 3) := by decide +kernel
theorem dX6_layDown_60 : decode cX6_layDown 60 = .ok (.iconst 0, 1) := by decide +kernel
theorem dX6_layDown_61 : decode cX6_layDown 61 = .ok (.aload_n 0, 1) := by decide +kernel
theorem dX6_layDown_62 : decode cX6_layDown 62 = .ok (.getfield 25, 3) := by decide +kernel
theorem dX6_layDown_65 : decode cX6_layDown 65 = .ok (.iload_n 3, 1) := by decide +kernel
theorem dX6_layDown_66 : decode cX6_layDown 66 = .ok (.sipush 4086, 3) := by decide +kernel
theorem dX6_layDown_69 : decode cX6_layDown 69 = .ok (.invokestatic 54, 3) := by decide +kernel
theorem dX6_layDown_72 : decode cX6_layDown 72 = .ok (.goto 43, 3) := by decide +kernel
theorem dX6_layDown_75 : decode cX6_layDown 75 = .ok (.iload_n 2, 1) := by decide +kernel
theorem dX6_layDown_76 : decode cX6_layDown 76 = .ok (.iconst 2, 1) := by decide +kernel
theorem dX6_layDown_77 : decode cX6_layDown 77 = .ok (.if_icmp .ne 22, 3) := by decide +kernel
theorem dX6_layDown_80 : decode cX6_layDown 80 = .ok (.aload_n 0, 1) := by decide +kernel
theorem dX6_layDown_81 : decode cX6_layDown 81 = .ok (.getfield 16, 3) := by decide +kernel
theorem dX6_layDown_84 : decode cX6_layDown 84 = .ok (.iconst 0, 1) := by decide +kernel
theorem dX6_layDown_85 : decode cX6_layDown 85 = .ok (.aload_n 0, 1) := by decide +kernel
theorem dX6_layDown_86 : decode cX6_layDown 86 = .ok (.getfield 28, 3) := by decide +kernel
theorem dX6_layDown_89 : decode cX6_layDown 89 = .ok (.iload_n 3, 1) := by decide +kernel
theorem dX6_layDown_90 : decode cX6_layDown 90 = .ok (.sipush 4086, 3) := by decide +kernel
theorem dX6_layDown_93 : decode cX6_layDown 93 = .ok (.invokestatic 54, 3) := by decide +kernel
theorem dX6_layDown_96 : decode cX6_layDown 96 = .ok (.goto 19, 3) := by decide +kernel
theorem dX6_layDown_99 : decode cX6_layDown 99 = .ok (.aload_n 0, 1) := by decide +kernel
theorem dX6_layDown_100 : decode cX6_layDown 100 = .ok (.getfield 16, 3) := by decide +kernel
theorem dX6_layDown_103 : decode cX6_layDown 103 = .ok (.iconst 0, 1) := by decide +kernel
theorem dX6_layDown_104 : decode cX6_layDown 104 = .ok (.aload_n 0, 1) := by decide +kernel
theorem dX6_layDown_105 : decode cX6_layDown 105 = .ok (.getfield 31, 3) := by decide +kernel
theorem dX6_layDown_108 : decode cX6_layDown 108 = .ok (.iload_n 3, 1) := by decide +kernel
theorem dX6_layDown_109 : decode cX6_layDown 109 = .ok (.sipush 4086, 3) := by decide +kernel
theorem dX6_layDown_112 : decode cX6_layDown 112 = .ok (.invokestatic 54, 3) := by decide +kernel
theorem dX6_layDown_115 : decode cX6_layDown 115 = .ok (.return_, 1) := by decide +kernel
theorem dX6_takeUp_0 : decode cX6_takeUp 0 = .ok (.aload_n 0, 1) := by decide +kernel
theorem dX6_takeUp_1 : decode cX6_takeUp 1 = .ok (.getfield 51, 3) := by decide +kernel
theorem dX6_takeUp_4 : decode cX6_takeUp 4 = .ok (.iload_n 1, 1) := by decide +kernel
theorem dX6_takeUp_5 : decode cX6_takeUp 5 = .ok (.iadd, 1) := by decide +kernel
theorem dX6_takeUp_6 : decode cX6_takeUp 6 = .ok (.bipush 16, 2) := by decide +kernel
theorem dX6_takeUp_8 : decode cX6_takeUp 8 = .ok (.irem, 1) := by decide +kernel
theorem dX6_takeUp_9 : decode cX6_takeUp 9 = .ok (.iconst 4, 1) := by decide +kernel
theorem dX6_takeUp_10 : decode cX6_takeUp 10 = .ok (.idiv, 1) := by decide +kernel
theorem dX6_takeUp_11 : decode cX6_takeUp 11 = .ok (.istore_n 2, 1) := by decide +kernel
theorem dX6_takeUp_12 : decode cX6_takeUp 12 = .ok (.sipush 4086, 3) := by decide +kernel
theorem dX6_takeUp_15 : decode cX6_takeUp 15 = .ok (.aload_n 0, 1) := by decide +kernel
theorem dX6_takeUp_16 : decode cX6_takeUp 16 = .ok (.getfield 51, 3) := by decide +kernel
theorem dX6_takeUp_19 : decode cX6_takeUp 19 = .ok (.iload_n 1, 1) := by decide +kernel
theorem dX6_takeUp_20 : decode cX6_takeUp 20 = .ok (.iadd, 1) := by decide +kernel
theorem dX6_takeUp_21 : decode cX6_takeUp 21 = .ok (.bipush 16, 2) := by decide +kernel
theorem dX6_takeUp_23 : decode cX6_takeUp 23 = .ok (.irem, 1) := by decide +kernel
theorem dX6_takeUp_24 : decode cX6_takeUp 24 = .ok (.iconst 4, 1) := by decide +kernel
theorem dX6_takeUp_25 : decode cX6_takeUp 25 = .ok (.irem, 1) := by decide +kernel
theorem dX6_takeUp_26 : decode cX6_takeUp 26 = .ok (.imul, 1) := by decide +kernel
theorem dX6_takeUp_27 : decode cX6_takeUp 27 = .ok (.istore_n 3, 1) := by decide +kernel
theorem dX6_takeUp_28 : decode cX6_takeUp 28 = .ok (.iload_n 2, 1) := by decide +kernel
theorem dX6_takeUp_29 : decode cX6_takeUp 29 = .ok (.ifCond .ne 22, 3) := by decide +kernel
theorem dX6_takeUp_32 : decode cX6_takeUp 32 = .ok (.aload_n 0, 1) := by decide +kernel
theorem dX6_takeUp_33 : decode cX6_takeUp 33 = .ok (.getfield 22, 3) := by decide +kernel
theorem dX6_takeUp_36 : decode cX6_takeUp 36 = .ok (.iload_n 3, 1) := by decide +kernel
theorem dX6_takeUp_37 : decode cX6_takeUp 37 = .ok (.aload_n 0, 1) := by decide +kernel
theorem dX6_takeUp_38 : decode cX6_takeUp 38 = .ok (.getfield 16, 3) := by decide +kernel
theorem dX6_takeUp_41 : decode cX6_takeUp 41 = .ok (.iconst 0, 1) := by decide +kernel
theorem dX6_takeUp_42 : decode cX6_takeUp 42 = .ok (.sipush 4086, 3) := by decide +kernel
theorem dX6_takeUp_45 : decode cX6_takeUp 45 = .ok (.invokestatic 54, 3) := by decide +kernel
theorem dX6_takeUp_48 : decode cX6_takeUp 48 = .ok (.goto 67, 3) := by decide +kernel
theorem dX6_takeUp_51 : decode cX6_takeUp 51 = .ok (.iload_n 2, 1) := by decide +kernel
theorem dX6_takeUp_52 : decode cX6_takeUp 52 = .ok (.iconst 1, 1) := by decide +kernel
theorem dX6_takeUp_53 : decode cX6_takeUp 53 = .ok (.if_icmp .ne 22, 3) := by decide +kernel
theorem dX6_takeUp_56 : decode cX6_takeUp 56 = .ok (.aload_n 0, 1) := by decide +kernel
theorem dX6_takeUp_57 : decode cX6_takeUp 57 = .ok (.getfield 25, 3) := by decide +kernel
theorem dX6_takeUp_60 : decode cX6_takeUp 60 = .ok (.iload_n 3, 1) := by decide +kernel
theorem dX6_takeUp_61 : decode cX6_takeUp 61 = .ok (.aload_n 0, 1) := by decide +kernel
theorem dX6_takeUp_62 : decode cX6_takeUp 62 = .ok (.getfield 16, 3) := by decide +kernel
theorem dX6_takeUp_65 : decode cX6_takeUp 65 = .ok (.iconst 0, 1) := by decide +kernel
theorem dX6_takeUp_66 : decode cX6_takeUp 66 = .ok (.sipush 4086, 3) := by decide +kernel
theorem dX6_takeUp_69 : decode cX6_takeUp 69 = .ok (.invokestatic 54, 3) := by decide +kernel
theorem dX6_takeUp_72 : decode cX6_takeUp 72 = .ok (.goto 43, 3) := by decide +kernel
theorem dX6_takeUp_75 : decode cX6_takeUp 75 = .ok (.iload_n 2, 1) := by decide +kernel
theorem dX6_takeUp_76 : decode cX6_takeUp 76 = .ok (.iconst 2, 1) := by decide +kernel
theorem dX6_takeUp_77 : decode cX6_takeUp 77 = .ok (.if_icmp .ne 22, 3) := by decide +kernel
theorem dX6_takeUp_80 : decode cX6_takeUp 80 = .ok (.aload_n 0, 1) := by decide +kernel
theorem dX6_takeUp_81 : decode cX6_takeUp 81 = .ok (.getfield 28, 3) := by decide +kernel
theorem dX6_takeUp_84 : decode cX6_takeUp 84 = .ok (.iload_n 3, 1) := by decide +kernel
theorem dX6_takeUp_85 : decode cX6_takeUp 85 = .ok (.aload_n 0, 1) := by decide +kernel
theorem dX6_takeUp_86 : decode cX6_takeUp 86 = .ok (.getfield 16, 3) := by decide +kernel
theorem dX6_takeUp_89 : decode cX6_takeUp 89 = .ok (.iconst 0, 1) := by decide +kernel
theorem dX6_takeUp_90 : decode cX6_takeUp 90 = .ok (.sipush 4086, 3) := by decide +kernel
theorem dX6_takeUp_93 : decode cX6_takeUp 93 = .ok (.invokestatic 54, 3) := by decide +kernel
theorem dX6_takeUp_96 : decode cX6_takeUp 96 = .ok (.goto 19, 3) := by decide +kernel
theorem dX6_takeUp_99 : decode cX6_takeUp 99 = .ok (.aload_n 0, 1) := by decide +kernel
theorem dX6_takeUp_100 : decode cX6_takeUp 100 = .ok (.getfield 31, 3) := by decide +kernel
theorem dX6_takeUp_103 : decode cX6_takeUp 103 = .ok (.iload_n 3, 1) := by decide +kernel
theorem dX6_takeUp_104 : decode cX6_takeUp 104 = .ok (.aload_n 0, 1) := by decide +kernel
theorem dX6_takeUp_105 : decode cX6_takeUp 105 = .ok (.getfield 16, 3) := by decide +kernel
theorem dX6_takeUp_108 : decode cX6_takeUp 108 = .ok (.iconst 0, 1) := by decide +kernel
theorem dX6_takeUp_109 : decode cX6_takeUp 109 = .ok (.sipush 4086, 3) := by decide +kernel
theorem dX6_takeUp_112 : decode cX6_takeUp 112 = .ok (.invokestatic 54, 3) := by decide +kernel
theorem dX6_takeUp_115 : decode cX6_takeUp 115 = .ok (.return_, 1) := by decide +kernel
theorem dX6_remember_0 : decode cX6_remember 0 = .ok (.aload_n 0, 1) := by decide +kernel
theorem dX6_remember_1 : decode cX6_remember 1 = .ok (.getfield 58, 3) := by decide +kernel
theorem dX6_remember_4 : decode cX6_remember 4 = .ok (.bipush 14, 2) := by decide +kernel
theorem dX6_remember_6 : decode cX6_remember 6 = .ok (.if_icmp .ne 26, 3) := by decide +kernel
theorem dX6_remember_9 : decode cX6_remember 9 = .ok (.aload_n 0, 1) := by decide +kernel
theorem dX6_remember_10 : decode cX6_remember 10 = .ok (.aload_n 0, 1) := by decide +kernel
theorem dX6_remember_11 : decode cX6_remember 11 = .ok (.getfield 51, 3) := by decide +kernel
theorem dX6_remember_14 : decode cX6_remember 14 = .ok (.iconst 1, 1) := by decide +kernel
theorem dX6_remember_15 : decode cX6_remember 15 = .ok (.iadd, 1) := by decide +kernel
theorem dX6_remember_16 : decode cX6_remember 16 = .ok (.bipush 16, 2) := by decide +kernel
theorem dX6_remember_18 : decode cX6_remember 18 = .ok (.irem, 1) := by decide +kernel
theorem dX6_remember_19 : decode cX6_remember 19 = .ok (.putfield 51, 3) := by decide +kernel
theorem dX6_remember_22 : decode cX6_remember 22 = .ok (.aload_n 0, 1) := by decide +kernel
theorem dX6_remember_23 : decode cX6_remember 23 = .ok (.dup, 1) := by decide +kernel
theorem dX6_remember_24 : decode cX6_remember 24 = .ok (.getfield 58, 3) := by decide +kernel
theorem dX6_remember_27 : decode cX6_remember 27 = .ok (.iconst 1, 1) := by decide +kernel
theorem dX6_remember_28 : decode cX6_remember 28 = .ok (.isub, 1) := by decide +kernel
theorem dX6_remember_29 : decode cX6_remember 29 = .ok (.putfield 58, 3) := by decide +kernel
theorem dX6_remember_32 : decode cX6_remember 32 = .ok (.aload_n 0, 1) := by decide +kernel
theorem dX6_remember_33 : decode cX6_remember 33 = .ok (.aload_n 0, 1) := by decide +kernel
theorem dX6_remember_34 : decode cX6_remember 34 = .ok (.getfield 58, 3) := by decide +kernel
theorem dX6_remember_37 : decode cX6_remember 37 = .ok (.invokevirtual 61, 3) := by decide +kernel
theorem dX6_remember_40 : decode cX6_remember 40 = .ok (.aload_n 0, 1) := by decide +kernel
theorem dX6_remember_41 : decode cX6_remember 41 = .ok (.dup, 1) := by decide +kernel
theorem dX6_remember_42 : decode cX6_remember 42 = .ok (.getfield 58, 3) := by decide +kernel
theorem dX6_remember_45 : decode cX6_remember 45 = .ok (.iconst 1, 1) := by decide +kernel
theorem dX6_remember_46 : decode cX6_remember 46 = .ok (.iadd, 1) := by decide +kernel
theorem dX6_remember_47 : decode cX6_remember 47 = .ok (.putfield 58, 3) := by decide +kernel
theorem dX6_remember_50 : decode cX6_remember 50 = .ok (.return_, 1) := by decide +kernel
theorem dX6_tryIt_0 : decode cX6_tryIt 0 = .ok (.aload_n 0, 1) := by decide +kernel
theorem dX6_tryIt_1 : decode cX6_tryIt 1 = .ok (.getfield 16, 3) := by decide +kernel
theorem dX6_tryIt_4 : decode cX6_tryIt 4 = .ok (.iconst 0, 1) := by decide +kernel
theorem dX6_tryIt_5 : decode cX6_tryIt 5 = .ok (.aload_n 0, 1) := by decide +kernel
theorem dX6_tryIt_6 : decode cX6_tryIt 6 = .ok (.getfield 19, 3) := by decide +kernel
theorem dX6_tryIt_9 : decode cX6_tryIt 9 = .ok (.iconst 0, 1) := by decide +kernel
theorem dX6_tryIt_10 : decode cX6_tryIt 10 = .ok (.sipush 4086, 3) := by decide +kernel
theorem dX6_tryIt_13 : decode cX6_tryIt 13 = .ok (.invokestatic 54, 3) := by decide +kernel
theorem dX6_tryIt_16 : decode cX6_tryIt 16 = .ok (.return_, 1) := by decide +kernel
theorem dX6_at_0 : decode cX6_at 0 = .ok (.bipush 36, 2) := by decide +kernel
theorem dX6_at_2 : decode cX6_at 2 = .ok (.sipush 1350, 3) := by decide +kernel
theorem dX6_at_5 : decode cX6_at 5 = .ok (.iload_n 0, 1) := by decide +kernel
theorem dX6_at_6 : decode cX6_at 6 = .ok (.imul, 1) := by decide +kernel
theorem dX6_at_7 : decode cX6_at 7 = .ok (.iadd, 1) := by decide +kernel
theorem dX6_at_8 : decode cX6_at 8 = .ok (.iload_n 1, 1) := by decide +kernel
theorem dX6_at_9 : decode cX6_at 9 = .ok (.iadd, 1) := by decide +kernel
theorem dX6_at_10 : decode cX6_at 10 = .ok (.ireturn, 1) := by decide +kernel
theorem dX6_many_0 : decode cX6_many 0 = .ok (.aload_n 0, 1) := by decide +kernel
theorem dX6_many_1 : decode cX6_many 1 = .ok (.iload_n 1, 1) := by decide +kernel
theorem dX6_many_2 : decode cX6_many 2 = .ok (.iconst 0, 1) := by decide +kernel
theorem dX6_many_3 : decode cX6_many 3 = .ok (.invokestatic 65, 3) := by decide +kernel
theorem dX6_many_6 : decode cX6_many 6 = .ok (.iaload, 1) := by decide +kernel
theorem dX6_many_7 : decode cX6_many 7 = .ok (.ireturn, 1) := by decide +kernel
theorem dX6_workAt_0 : decode cX6_workAt 0 = .ok (.iload_n 0, 1) := by decide +kernel
theorem dX6_workAt_1 : decode cX6_workAt 1 = .ok (.iconst 5, 1) := by decide +kernel
theorem dX6_workAt_2 : decode cX6_workAt 2 = .ok (.bipush 13, 2) := by decide +kernel
theorem dX6_workAt_4 : decode cX6_workAt 4 = .ok (.iload_n 1, 1) := by decide +kernel
theorem dX6_workAt_5 : decode cX6_workAt 5 = .ok (.imul, 1) := by decide +kernel
theorem dX6_workAt_6 : decode cX6_workAt 6 = .ok (.iadd, 1) := by decide +kernel
theorem dX6_workAt_7 : decode cX6_workAt 7 = .ok (.iload_n 2, 1) := by decide +kernel
theorem dX6_workAt_8 : decode cX6_workAt 8 = .ok (.iadd, 1) := by decide +kernel
theorem dX6_workAt_9 : decode cX6_workAt 9 = .ok (.invokestatic 65, 3) := by decide +kernel
theorem dX6_workAt_12 : decode cX6_workAt 12 = .ok (.ireturn, 1) := by decide +kernel
theorem dX6_innerAt_0 : decode cX6_innerAt 0 = .ok (.iload_n 1, 1) := by decide +kernel
theorem dX6_innerAt_1 : decode cX6_innerAt 1 = .ok (.aload_n 0, 1) := by decide +kernel
theorem dX6_innerAt_2 : decode cX6_innerAt 2 = .ok (.iload_n 1, 1) := by decide +kernel
theorem dX6_innerAt_3 : decode cX6_innerAt 3 = .ok (.invokestatic 69, 3) := by decide +kernel
theorem dX6_innerAt_6 : decode cX6_innerAt 6 = .ok (.iconst 1, 1) := by decide +kernel
theorem dX6_innerAt_7 : decode cX6_innerAt 7 = .ok (.isub, 1) := by decide +kernel
theorem dX6_innerAt_8 : decode cX6_innerAt 8 = .ok (.iload_n 2, 1) := by decide +kernel
theorem dX6_innerAt_9 : decode cX6_innerAt 9 = .ok (.invokestatic 73, 3) := by decide +kernel
theorem dX6_innerAt_12 : decode cX6_innerAt 12 = .ok (.ireturn, 1) := by decide +kernel
theorem dX6_isSpoiled_0 : decode cX6_isSpoiled 0 = .ok (.aload_n 0, 1) := by decide +kernel
theorem dX6_isSpoiled_1 : decode cX6_isSpoiled 1 = .ok (.iload_n 1, 1) := by decide +kernel
theorem dX6_isSpoiled_2 : decode cX6_isSpoiled 2 = .ok (.invokestatic 69, 3) := by decide +kernel
theorem dX6_isSpoiled_5 : decode cX6_isSpoiled 5 = .ok (.ifCond .le 19, 3) := by decide +kernel
theorem dX6_isSpoiled_8 : decode cX6_isSpoiled 8 = .ok (.aload_n 0, 1) := by decide +kernel
theorem dX6_isSpoiled_9 : decode cX6_isSpoiled 9 = .ok (.aload_n 0, 1) := by decide +kernel
theorem dX6_isSpoiled_10 : decode cX6_isSpoiled 10 = .ok (.iload_n 1, 1) := by decide +kernel
theorem dX6_isSpoiled_11 : decode cX6_isSpoiled 11 = .ok (.iconst 4, 1) := by decide +kernel
theorem dX6_isSpoiled_12 : decode cX6_isSpoiled 12 = .ok (.invokestatic 77, 3) := by decide +kernel
theorem dX6_isSpoiled_15 : decode cX6_isSpoiled 15 = .ok (.iaload, 1) := by decide +kernel
theorem dX6_isSpoiled_16 : decode cX6_isSpoiled 16 = .ok (.iconst 1, 1) := by decide +kernel
theorem dX6_isSpoiled_17 : decode cX6_isSpoiled 17 = .ok (.if_icmp .ne 7, 3) := by decide +kernel
theorem dX6_isSpoiled_20 : decode cX6_isSpoiled 20 = .ok (.iconst 1, 1) := by decide +kernel
theorem dX6_isSpoiled_21 : decode cX6_isSpoiled 21 = .ok (.goto 4, 3) := by decide +kernel
theorem dX6_isSpoiled_24 : decode cX6_isSpoiled 24 = .ok (.iconst 0, 1) := by decide +kernel
theorem dX6_isSpoiled_25 : decode cX6_isSpoiled 25 = .ok (.ireturn, 1) := by decide +kernel
theorem dX6_isOpen_0 : decode cX6_isOpen 0 = .ok (.aload_n 0, 1) := by decide +kernel
theorem dX6_isOpen_1 : decode cX6_isOpen 1 = .ok (.iload_n 1, 1) := by decide +kernel
theorem dX6_isOpen_2 : decode cX6_isOpen 2 = .ok (.invokestatic 69, 3) := by decide +kernel
theorem dX6_isOpen_5 : decode cX6_isOpen 5 = .ok (.ifCond .le 15, 3) := by decide +kernel
theorem dX6_isOpen_8 : decode cX6_isOpen 8 = .ok (.aload_n 0, 1) := by decide +kernel
theorem dX6_isOpen_9 : decode cX6_isOpen 9 = .ok (.iload_n 1, 1) := by decide +kernel
theorem dX6_isOpen_10 : decode cX6_isOpen 10 = .ok (.invokestatic 81, 3) := by decide +kernel
theorem dX6_isOpen_13 : decode cX6_isOpen 13 = .ok (.ifCond .ne 7, 3) := by decide +kernel
theorem dX6_isOpen_16 : decode cX6_isOpen 16 = .ok (.iconst 1, 1) := by decide +kernel
theorem dX6_isOpen_17 : decode cX6_isOpen 17 = .ok (.goto 4, 3) := by decide +kernel
theorem dX6_isOpen_20 : decode cX6_isOpen 20 = .ok (.iconst 0, 1) := by decide +kernel
theorem dX6_isOpen_21 : decode cX6_isOpen 21 = .ok (.ireturn, 1) := by decide +kernel
theorem dX6_reason_0 : decode cX6_reason 0 = .ok (.aload_n 0, 1) := by decide +kernel
theorem dX6_reason_1 : decode cX6_reason 1 = .ok (.iload_n 1, 1) := by decide +kernel
theorem dX6_reason_2 : decode cX6_reason 2 = .ok (.invokestatic 69, 3) := by decide +kernel
theorem dX6_reason_5 : decode cX6_reason 5 = .ok (.ifCond .ne 5, 3) := by decide +kernel
theorem dX6_reason_8 : decode cX6_reason 8 = .ok (.iconst 1, 1) := by decide +kernel
theorem dX6_reason_9 : decode cX6_reason 9 = .ok (.ireturn, 1) := by decide +kernel
theorem dX6_reason_10 : decode cX6_reason 10 = .ok (.aload_n 0, 1) := by decide +kernel
theorem dX6_reason_11 : decode cX6_reason 11 = .ok (.iload_n 1, 1) := by decide +kernel
theorem dX6_reason_12 : decode cX6_reason 12 = .ok (.invokestatic 81, 3) := by decide +kernel
theorem dX6_reason_15 : decode cX6_reason 15 = .ok (.ifCond .eq 5, 3) := by decide +kernel
theorem dX6_reason_18 : decode cX6_reason 18 = .ok (.iconst 2, 1) := by decide +kernel
theorem dX6_reason_19 : decode cX6_reason 19 = .ok (.ireturn, 1) := by decide +kernel
theorem dX6_reason_20 : decode cX6_reason 20 = .ok (.aload_n 0, 1) := by decide +kernel
theorem dX6_reason_21 : decode cX6_reason 21 = .ok (.bipush 16, 2) := by decide +kernel
theorem dX6_reason_23 : decode cX6_reason 23 = .ok (.iload_n 2, 1) := by decide +kernel
theorem dX6_reason_24 : decode cX6_reason 24 = .ok (.iadd, 1) := by decide +kernel
theorem dX6_reason_25 : decode cX6_reason 25 = .ok (.iaload, 1) := by decide +kernel
theorem dX6_reason_26 : decode cX6_reason 26 = .ok (.ifCond .eq 17, 3) := by decide +kernel
theorem dX6_reason_29 : decode cX6_reason 29 = .ok (.aload_n 0, 1) := by decide +kernel
theorem dX6_reason_30 : decode cX6_reason 30 = .ok (.bipush 16, 2) := by decide +kernel
theorem dX6_reason_32 : decode cX6_reason 32 = .ok (.iload_n 2, 1) := by decide +kernel
theorem dX6_reason_33 : decode cX6_reason 33 = .ok (.iadd, 1) := by decide +kernel
theorem dX6_reason_34 : decode cX6_reason 34 = .ok (.iaload, 1) := by decide +kernel
theorem dX6_reason_35 : decode cX6_reason 35 = .ok (.iload_n 1, 1) := by decide +kernel
theorem dX6_reason_36 : decode cX6_reason 36 = .ok (.iconst 1, 1) := by decide +kernel
theorem dX6_reason_37 : decode cX6_reason 37 = .ok (.iadd, 1) := by decide +kernel
theorem dX6_reason_38 : decode cX6_reason 38 = .ok (.if_icmp .eq 5, 3) := by decide +kernel
theorem dX6_reason_41 : decode cX6_reason 41 = .ok (.iconst 3, 1) := by decide +kernel
theorem dX6_reason_42 : decode cX6_reason 42 = .ok (.ireturn, 1) := by decide +kernel
theorem dX6_reason_43 : decode cX6_reason 43 = .ok (.aload_n 0, 1) := by decide +kernel
theorem dX6_reason_44 : decode cX6_reason 44 = .ok (.iload_n 1, 1) := by decide +kernel
theorem dX6_reason_45 : decode cX6_reason 45 = .ok (.iconst 1, 1) := by decide +kernel
theorem dX6_reason_46 : decode cX6_reason 46 = .ok (.invokestatic 65, 3) := by decide +kernel
theorem dX6_reason_49 : decode cX6_reason 49 = .ok (.iaload, 1) := by decide +kernel
theorem dX6_reason_50 : decode cX6_reason 50 = .ok (.bipush 40, 2) := by decide +kernel
theorem dX6_reason_52 : decode cX6_reason 52 = .ok (.if_icmp .lt 7, 3) := by decide +kernel
theorem dX6_reason_55 : decode cX6_reason 55 = .ok (.iconst 4, 1) := by decide +kernel
theorem dX6_reason_56 : decode cX6_reason 56 = .ok (.goto 4, 3) := by decide +kernel
theorem dX6_reason_59 : decode cX6_reason 59 = .ok (.iconst 0, 1) := by decide +kernel
theorem dX6_reason_60 : decode cX6_reason 60 = .ok (.ireturn, 1) := by decide +kernel
theorem dX6_regretsOf_0 : decode cX6_regretsOf 0 = .ok (.iload_n 2, 1) := by decide +kernel
theorem dX6_regretsOf_1 : decode cX6_regretsOf 1 = .ok (.iconst 1, 1) := by decide +kernel
theorem dX6_regretsOf_2 : decode cX6_regretsOf 2 = .ok (.iadd, 1) := by decide +kernel
theorem dX6_regretsOf_3 : decode cX6_regretsOf 3 = .ok (.aload_n 0, 1) := by decide +kernel
theorem dX6_regretsOf_4 : decode cX6_regretsOf 4 = .ok (.iload_n 1, 1) := by decide +kernel
theorem dX6_regretsOf_5 : decode cX6_regretsOf 5 = .ok (.invokestatic 69, 3) := by decide +kernel
theorem dX6_regretsOf_8 : decode cX6_regretsOf 8 = .ok (.if_icmp .ge 16, 3) := by decide +kernel
theorem dX6_regretsOf_11 : decode cX6_regretsOf 11 = .ok (.aload_n 0, 1) := by decide +kernel
theorem dX6_regretsOf_12 : decode cX6_regretsOf 12 = .ok (.iload_n 1, 1) := by decide +kernel
theorem dX6_regretsOf_13 : decode cX6_regretsOf 13 = .ok (.iload_n 2, 1) := by decide +kernel
theorem dX6_regretsOf_14 : decode cX6_regretsOf 14 = .ok (.iconst 1, 1) := by decide +kernel
theorem dX6_regretsOf_15 : decode cX6_regretsOf 15 = .ok (.iadd, 1) := by decide +kernel
theorem dX6_regretsOf_16 : decode cX6_regretsOf 16 = .ok (.iconst 1, 1) := by decide +kernel
theorem dX6_regretsOf_17 : decode cX6_regretsOf 17 = .ok (.invokestatic 73, 3) := by decide +kernel
theorem dX6_regretsOf_20 : decode cX6_regretsOf 20 = .ok (.iaload, 1) := by decide +kernel
theorem dX6_regretsOf_21 : decode cX6_regretsOf 21 = .ok (.goto 10, 3) := by decide +kernel
theorem dX6_regretsOf_24 : decode cX6_regretsOf 24 = .ok (.aload_n 0, 1) := by decide +kernel
theorem dX6_regretsOf_25 : decode cX6_regretsOf 25 = .ok (.iload_n 1, 1) := by decide +kernel
theorem dX6_regretsOf_26 : decode cX6_regretsOf 26 = .ok (.iconst 2, 1) := by decide +kernel
theorem dX6_regretsOf_27 : decode cX6_regretsOf 27 = .ok (.invokestatic 65, 3) := by decide +kernel
theorem dX6_regretsOf_30 : decode cX6_regretsOf 30 = .ok (.iaload, 1) := by decide +kernel
theorem dX6_regretsOf_31 : decode cX6_regretsOf 31 = .ok (.istore_n 3, 1) := by decide +kernel
theorem dX6_regretsOf_32 : decode cX6_regretsOf 32 = .ok (.iload_n 3, 1) := by decide +kernel
theorem dX6_regretsOf_33 : decode cX6_regretsOf 33 = .ok (.aload_n 0, 1) := by decide +kernel
theorem dX6_regretsOf_34 : decode cX6_regretsOf 34 = .ok (.iload_n 1, 1) := by decide +kernel
theorem dX6_regretsOf_35 : decode cX6_regretsOf 35 = .ok (.iload_n 2, 1) := by decide +kernel
theorem dX6_regretsOf_36 : decode cX6_regretsOf 36 = .ok (.iconst 1, 1) := by decide +kernel
theorem dX6_regretsOf_37 : decode cX6_regretsOf 37 = .ok (.invokestatic 73, 3) := by decide +kernel
theorem dX6_regretsOf_40 : decode cX6_regretsOf 40 = .ok (.iaload, 1) := by decide +kernel
theorem dX6_regretsOf_41 : decode cX6_regretsOf 41 = .ok (.isub, 1) := by decide +kernel
theorem dX6_regretsOf_42 : decode cX6_regretsOf 42 = .ok (.ireturn, 1) := by decide +kernel
theorem dX6_canBegin_0 : decode cX6_canBegin 0 = .ok (.aload_n 0, 1) := by decide +kernel
theorem dX6_canBegin_1 : decode cX6_canBegin 1 = .ok (.iload_n 1, 1) := by decide +kernel
theorem dX6_canBegin_2 : decode cX6_canBegin 2 = .ok (.invokestatic 69, 3) := by decide +kernel
theorem dX6_canBegin_5 : decode cX6_canBegin 5 = .ok (.iconst 5, 1) := by decide +kernel
theorem dX6_canBegin_6 : decode cX6_canBegin 6 = .ok (.if_icmp .ge 15, 3) := by decide +kernel
theorem dX6_canBegin_9 : decode cX6_canBegin 9 = .ok (.aload_n 0, 1) := by decide +kernel
theorem dX6_canBegin_10 : decode cX6_canBegin 10 = .ok (.iload_n 1, 1) := by decide +kernel
theorem dX6_canBegin_11 : decode cX6_canBegin 11 = .ok (.invokestatic 81, 3) := by decide +kernel
theorem dX6_canBegin_14 : decode cX6_canBegin 14 = .ok (.ifCond .ne 7, 3) := by decide +kernel
theorem dX6_canBegin_17 : decode cX6_canBegin 17 = .ok (.iconst 1, 1) := by decide +kernel
theorem dX6_canBegin_18 : decode cX6_canBegin 18 = .ok (.goto 4, 3) := by decide +kernel
theorem dX6_canBegin_21 : decode cX6_canBegin 21 = .ok (.iconst 0, 1) := by decide +kernel
theorem dX6_canBegin_22 : decode cX6_canBegin 22 = .ok (.ireturn, 1) := by decide +kernel
theorem dX6_beginIn_0 : decode cX6_beginIn 0 = .ok (.aload_n 0, 1) := by decide +kernel
theorem dX6_beginIn_1 : decode cX6_beginIn 1 = .ok (.iload_n 1, 1) := by decide +kernel
theorem dX6_beginIn_2 : decode cX6_beginIn 2 = .ok (.invokestatic 69, 3) := by decide +kernel
theorem dX6_beginIn_5 : decode cX6_beginIn 5 = .ok (.istore_n 2, 1) := by decide +kernel
theorem dX6_beginIn_6 : decode cX6_beginIn 6 = .ok (.iconst 0, 1) := by decide +kernel
theorem dX6_beginIn_7 : decode cX6_beginIn 7 = .ok (.istore_n 3, 1) := by decide +kernel
theorem dX6_beginIn_8 : decode cX6_beginIn 8 = .ok (.iload_n 3, 1) := by decide +kernel
theorem dX6_beginIn_9 : decode cX6_beginIn 9 = .ok (.bipush 13, 2) := by decide +kernel
theorem dX6_beginIn_11 : decode cX6_beginIn 11 = .ok (.if_icmp .ge 18, 3) := by decide +kernel
theorem dX6_beginIn_14 : decode cX6_beginIn 14 = .ok (.aload_n 0, 1) := by decide +kernel
theorem dX6_beginIn_15 : decode cX6_beginIn 15 = .ok (.iload_n 1, 1) := by decide +kernel
theorem dX6_beginIn_16 : decode cX6_beginIn 16 = .ok (.iload_n 2, 1) := by decide +kernel
theorem dX6_beginIn_17 : decode cX6_beginIn 17 = .ok (.iload_n 3, 1) := by decide +kernel
theorem dX6_beginIn_18 : decode cX6_beginIn 18 = .ok (.invokestatic 73, 3) := by decide +kernel
theorem dX6_beginIn_21 : decode cX6_beginIn 21 = .ok (.iconst 0, 1) := by decide +kernel
theorem dX6_beginIn_22 : decode cX6_beginIn 22 = .ok (.iastore, 1) := by decide +kernel
theorem dX6_beginIn_23 : decode cX6_beginIn 23 = .ok (.iinc 3 1, 3) := by decide +kernel
theorem dX6_beginIn_26 : decode cX6_beginIn 26 = .ok (.goto (-18), 3) := by decide +kernel
theorem dX6_beginIn_29 : decode cX6_beginIn 29 = .ok (.aload_n 0, 1) := by decide +kernel
theorem dX6_beginIn_30 : decode cX6_beginIn 30 = .ok (.iload_n 1, 1) := by decide +kernel
theorem dX6_beginIn_31 : decode cX6_beginIn 31 = .ok (.iload_n 2, 1) := by decide +kernel
theorem dX6_beginIn_32 : decode cX6_beginIn 32 = .ok (.iconst 0, 1) := by decide +kernel
theorem dX6_beginIn_33 : decode cX6_beginIn 33 = .ok (.invokestatic 73, 3) := by decide +kernel
theorem dX6_beginIn_36 : decode cX6_beginIn 36 = .ok (.aload_n 0, 1) := by decide +kernel
theorem dX6_beginIn_37 : decode cX6_beginIn 37 = .ok (.iload_n 1, 1) := by decide +kernel
theorem dX6_beginIn_38 : decode cX6_beginIn 38 = .ok (.iconst 1, 1) := by decide +kernel
theorem dX6_beginIn_39 : decode cX6_beginIn 39 = .ok (.invokestatic 65, 3) := by decide +kernel
theorem dX6_beginIn_42 : decode cX6_beginIn 42 = .ok (.iaload, 1) := by decide +kernel
theorem dX6_beginIn_43 : decode cX6_beginIn 43 = .ok (.iastore, 1) := by decide +kernel
theorem dX6_beginIn_44 : decode cX6_beginIn 44 = .ok (.aload_n 0, 1) := by decide +kernel
theorem dX6_beginIn_45 : decode cX6_beginIn 45 = .ok (.iload_n 1, 1) := by decide +kernel
theorem dX6_beginIn_46 : decode cX6_beginIn 46 = .ok (.iload_n 2, 1) := by decide +kernel
theorem dX6_beginIn_47 : decode cX6_beginIn 47 = .ok (.iconst 1, 1) := by decide +kernel
theorem dX6_beginIn_48 : decode cX6_beginIn 48 = .ok (.invokestatic 73, 3) := by decide +kernel
theorem dX6_beginIn_51 : decode cX6_beginIn 51 = .ok (.aload_n 0, 1) := by decide +kernel
theorem dX6_beginIn_52 : decode cX6_beginIn 52 = .ok (.iload_n 1, 1) := by decide +kernel
theorem dX6_beginIn_53 : decode cX6_beginIn 53 = .ok (.iconst 2, 1) := by decide +kernel
theorem dX6_beginIn_54 : decode cX6_beginIn 54 = .ok (.invokestatic 65, 3) := by decide +kernel
theorem dX6_beginIn_57 : decode cX6_beginIn 57 = .ok (.iaload, 1) := by decide +kernel
theorem dX6_beginIn_58 : decode cX6_beginIn 58 = .ok (.iastore, 1) := by decide +kernel
theorem dX6_beginIn_59 : decode cX6_beginIn 59 = .ok (.aload_n 0, 1) := by decide +kernel
theorem dX6_beginIn_60 : decode cX6_beginIn 60 = .ok (.iload_n 1, 1) := by decide +kernel
theorem dX6_beginIn_61 : decode cX6_beginIn 61 = .ok (.iconst 0, 1) := by decide +kernel
theorem dX6_beginIn_62 : decode cX6_beginIn 62 = .ok (.invokestatic 65, 3) := by decide +kernel
theorem dX6_beginIn_65 : decode cX6_beginIn 65 = .ok (.dup2, 1) := by decide +kernel
theorem dX6_beginIn_66 : decode cX6_beginIn 66 = .ok (.iaload, 1) := by decide +kernel
theorem dX6_beginIn_67 : decode cX6_beginIn 67 = .ok (.iconst 1, 1) := by decide +kernel
theorem dX6_beginIn_68 : decode cX6_beginIn 68 = .ok (.iadd, 1) := by decide +kernel
theorem dX6_beginIn_69 : decode cX6_beginIn 69 = .ok (.iastore, 1) := by decide +kernel
theorem dX6_beginIn_70 : decode cX6_beginIn 70 = .ok (.return_, 1) := by decide +kernel
theorem dX6_enter_0 : decode cX6_enter 0 = .ok (.aload_n 0, 1) := by decide +kernel
theorem dX6_enter_1 : decode cX6_enter 1 = .ok (.iload_n 1, 1) := by decide +kernel
theorem dX6_enter_2 : decode cX6_enter 2 = .ok (.bipush 70, 2) := by decide +kernel
theorem dX6_enter_4 : decode cX6_enter 4 = .ok (.aload_n 0, 1) := by decide +kernel
theorem dX6_enter_5 : decode cX6_enter 5 = .ok (.iload_n 1, 1) := by decide +kernel
theorem dX6_enter_6 : decode cX6_enter 6 = .ok (.iconst 1, 1) := by decide +kernel
theorem dX6_enter_7 : decode cX6_enter 7 = .ok (.invokestatic 65, 3) := by decide +kernel
theorem dX6_enter_10 : decode cX6_enter 10 = .ok (.iaload, 1) := by decide +kernel
theorem dX6_enter_11 : decode cX6_enter 11 = .ok (.iadd, 1) := by decide +kernel
theorem dX6_enter_12 : decode cX6_enter 12 = .ok (.invokestatic 65, 3) := by decide +kernel
theorem dX6_enter_15 : decode cX6_enter 15 = .ok (.bipush 100, 2) := by decide +kernel
theorem dX6_enter_17 : decode cX6_enter 17 = .ok (.iload_n 2, 1) := by decide +kernel
theorem dX6_enter_18 : decode cX6_enter 18 = .ok (.imul, 1) := by decide +kernel
theorem dX6_enter_19 : decode cX6_enter 19 = .ok (.aload_n 0, 1) := by decide +kernel
theorem dX6_enter_20 : decode cX6_enter 20 = .ok (.iload_n 2, 1) := by decide +kernel
theorem dX6_enter_21 : decode cX6_enter 21 = .ok (.iaload, 1) := by decide +kernel
theorem dX6_enter_22 : decode cX6_enter 22 = .ok (.iadd, 1) := by decide +kernel
theorem dX6_enter_23 : decode cX6_enter 23 = .ok (.iastore, 1) := by decide +kernel
theorem dX6_enter_24 : decode cX6_enter 24 = .ok (.aload_n 0, 1) := by decide +kernel
theorem dX6_enter_25 : decode cX6_enter 25 = .ok (.iload_n 1, 1) := by decide +kernel
theorem dX6_enter_26 : decode cX6_enter 26 = .ok (.iconst 1, 1) := by decide +kernel
theorem dX6_enter_27 : decode cX6_enter 27 = .ok (.invokestatic 65, 3) := by decide +kernel
theorem dX6_enter_30 : decode cX6_enter 30 = .ok (.dup2, 1) := by decide +kernel
theorem dX6_enter_31 : decode cX6_enter 31 = .ok (.iaload, 1) := by decide +kernel
theorem dX6_enter_32 : decode cX6_enter 32 = .ok (.iconst 1, 1) := by decide +kernel
theorem dX6_enter_33 : decode cX6_enter 33 = .ok (.iadd, 1) := by decide +kernel
theorem dX6_enter_34 : decode cX6_enter 34 = .ok (.iastore, 1) := by decide +kernel
theorem dX6_enter_35 : decode cX6_enter 35 = .ok (.return_, 1) := by decide +kernel
theorem dX6_writeIn_0 : decode cX6_writeIn 0 = .ok (.aload_n 0, 1) := by decide +kernel
theorem dX6_writeIn_1 : decode cX6_writeIn 1 = .ok (.iload_n 2, 1) := by decide +kernel
theorem dX6_writeIn_2 : decode cX6_writeIn 2 = .ok (.iaload, 1) := by decide +kernel
theorem dX6_writeIn_3 : decode cX6_writeIn 3 = .ok (.istore 4, 2) := by decide +kernel
theorem dX6_writeIn_5 : decode cX6_writeIn 5 = .ok (.aload_n 0, 1) := by decide +kernel
theorem dX6_writeIn_6 : decode cX6_writeIn 6 = .ok (.bipush 16, 2) := by decide +kernel
theorem dX6_writeIn_8 : decode cX6_writeIn 8 = .ok (.iload_n 2, 1) := by decide +kernel
theorem dX6_writeIn_9 : decode cX6_writeIn 9 = .ok (.iadd, 1) := by decide +kernel
theorem dX6_writeIn_10 : decode cX6_writeIn 10 = .ok (.iload_n 1, 1) := by decide +kernel
theorem dX6_writeIn_11 : decode cX6_writeIn 11 = .ok (.iconst 1, 1) := by decide +kernel
theorem dX6_writeIn_12 : decode cX6_writeIn 12 = .ok (.iadd, 1) := by decide +kernel
theorem dX6_writeIn_13 : decode cX6_writeIn 13 = .ok (.iastore, 1) := by decide +kernel
theorem dX6_writeIn_14 : decode cX6_writeIn 14 = .ok (.aload_n 0, 1) := by decide +kernel
theorem dX6_writeIn_15 : decode cX6_writeIn 15 = .ok (.iload_n 1, 1) := by decide +kernel
theorem dX6_writeIn_16 : decode cX6_writeIn 16 = .ok (.iload_n 2, 1) := by decide +kernel
theorem dX6_writeIn_17 : decode cX6_writeIn 17 = .ok (.invokestatic 85, 3) := by decide +kernel
theorem dX6_writeIn_20 : decode cX6_writeIn 20 = .ok (.aload_n 0, 1) := by decide +kernel
theorem dX6_writeIn_21 : decode cX6_writeIn 21 = .ok (.iload_n 2, 1) := by decide +kernel
theorem dX6_writeIn_22 : decode cX6_writeIn 22 = .ok (.iload_n 3, 1) := by decide +kernel
theorem dX6_writeIn_23 : decode cX6_writeIn 23 = .ok (.iastore, 1) := by decide +kernel
theorem dX6_writeIn_24 : decode cX6_writeIn 24 = .ok (.aload_n 0, 1) := by decide +kernel
theorem dX6_writeIn_25 : decode cX6_writeIn 25 = .ok (.bipush 34, 2) := by decide +kernel
theorem dX6_writeIn_27 : decode cX6_writeIn 27 = .ok (.dup2, 1) := by decide +kernel
theorem dX6_writeIn_28 : decode cX6_writeIn 28 = .ok (.iaload, 1) := by decide +kernel
theorem dX6_writeIn_29 : decode cX6_writeIn 29 = .ok (.iconst 1, 1) := by decide +kernel
theorem dX6_writeIn_30 : decode cX6_writeIn 30 = .ok (.iadd, 1) := by decide +kernel
theorem dX6_writeIn_31 : decode cX6_writeIn 31 = .ok (.iastore, 1) := by decide +kernel
theorem dX6_writeIn_32 : decode cX6_writeIn 32 = .ok (.iload 4, 2) := by decide +kernel
theorem dX6_writeIn_34 : decode cX6_writeIn 34 = .ok (.ireturn, 1) := by decide +kernel
theorem dX6_canPoint_0 : decode cX6_canPoint 0 = .ok (.aload_n 0, 1) := by decide +kernel
theorem dX6_canPoint_1 : decode cX6_canPoint 1 = .ok (.iload_n 1, 1) := by decide +kernel
theorem dX6_canPoint_2 : decode cX6_canPoint 2 = .ok (.invokestatic 89, 3) := by decide +kernel
theorem dX6_canPoint_5 : decode cX6_canPoint 5 = .ok (.ifCond .eq 19, 3) := by decide +kernel
theorem dX6_canPoint_8 : decode cX6_canPoint 8 = .ok (.aload_n 0, 1) := by decide +kernel
theorem dX6_canPoint_9 : decode cX6_canPoint 9 = .ok (.aload_n 0, 1) := by decide +kernel
theorem dX6_canPoint_10 : decode cX6_canPoint 10 = .ok (.iload_n 1, 1) := by decide +kernel
theorem dX6_canPoint_11 : decode cX6_canPoint 11 = .ok (.iconst 2, 1) := by decide +kernel
theorem dX6_canPoint_12 : decode cX6_canPoint 12 = .ok (.invokestatic 77, 3) := by decide +kernel
theorem dX6_canPoint_15 : decode cX6_canPoint 15 = .ok (.iaload, 1) := by decide +kernel
theorem dX6_canPoint_16 : decode cX6_canPoint 16 = .ok (.iconst 4, 1) := by decide +kernel
theorem dX6_canPoint_17 : decode cX6_canPoint 17 = .ok (.if_icmp .ge 7, 3) := by decide +kernel
theorem dX6_canPoint_20 : decode cX6_canPoint 20 = .ok (.iconst 1, 1) := by decide +kernel
theorem dX6_canPoint_21 : decode cX6_canPoint 21 = .ok (.goto 4, 3) := by decide +kernel
theorem dX6_canPoint_24 : decode cX6_canPoint 24 = .ok (.iconst 0, 1) := by decide +kernel
theorem dX6_canPoint_25 : decode cX6_canPoint 25 = .ok (.ireturn, 1) := by decide +kernel
theorem dX6_pointIn_0 : decode cX6_pointIn 0 = .ok (.aload_n 0, 1) := by decide +kernel
theorem dX6_pointIn_1 : decode cX6_pointIn 1 = .ok (.aload_n 0, 1) := by decide +kernel
theorem dX6_pointIn_2 : decode cX6_pointIn 2 = .ok (.iload_n 1, 1) := by decide +kernel
theorem dX6_pointIn_3 : decode cX6_pointIn 3 = .ok (.iconst 2, 1) := by decide +kernel
theorem dX6_pointIn_4 : decode cX6_pointIn 4 = .ok (.invokestatic 77, 3) := by decide +kernel
theorem dX6_pointIn_7 : decode cX6_pointIn 7 = .ok (.iaload, 1) := by decide +kernel
theorem dX6_pointIn_8 : decode cX6_pointIn 8 = .ok (.istore_n 2, 1) := by decide +kernel
theorem dX6_pointIn_9 : decode cX6_pointIn 9 = .ok (.aload_n 0, 1) := by decide +kernel
theorem dX6_pointIn_10 : decode cX6_pointIn 10 = .ok (.aload_n 0, 1) := by decide +kernel
theorem dX6_pointIn_11 : decode cX6_pointIn 11 = .ok (.iload_n 1, 1) := by decide +kernel
theorem dX6_pointIn_12 : decode cX6_pointIn 12 = .ok (.iconst 5, 1) := by decide +kernel
theorem dX6_pointIn_13 : decode cX6_pointIn 13 = .ok (.iload_n 2, 1) := by decide +kernel
theorem dX6_pointIn_14 : decode cX6_pointIn 14 = .ok (.iadd, 1) := by decide +kernel
theorem dX6_pointIn_15 : decode cX6_pointIn 15 = .ok (.invokestatic 77, 3) := by decide +kernel
theorem dX6_pointIn_18 : decode cX6_pointIn 18 = .ok (.aload_n 0, 1) := by decide +kernel
theorem dX6_pointIn_19 : decode cX6_pointIn 19 = .ok (.iload_n 1, 1) := by decide +kernel
theorem dX6_pointIn_20 : decode cX6_pointIn 20 = .ok (.iconst 1, 1) := by decide +kernel
theorem dX6_pointIn_21 : decode cX6_pointIn 21 = .ok (.invokestatic 65, 3) := by decide +kernel
theorem dX6_pointIn_24 : decode cX6_pointIn 24 = .ok (.iaload, 1) := by decide +kernel
theorem dX6_pointIn_25 : decode cX6_pointIn 25 = .ok (.iastore, 1) := by decide +kernel
theorem dX6_pointIn_26 : decode cX6_pointIn 26 = .ok (.aload_n 0, 1) := by decide +kernel
theorem dX6_pointIn_27 : decode cX6_pointIn 27 = .ok (.aload_n 0, 1) := by decide +kernel
theorem dX6_pointIn_28 : decode cX6_pointIn 28 = .ok (.iload_n 1, 1) := by decide +kernel
theorem dX6_pointIn_29 : decode cX6_pointIn 29 = .ok (.bipush 9, 2) := by decide +kernel
theorem dX6_pointIn_31 : decode cX6_pointIn 31 = .ok (.iload_n 2, 1) := by decide +kernel
theorem dX6_pointIn_32 : decode cX6_pointIn 32 = .ok (.iadd, 1) := by decide +kernel
theorem dX6_pointIn_33 : decode cX6_pointIn 33 = .ok (.invokestatic 77, 3) := by decide +kernel
theorem dX6_pointIn_36 : decode cX6_pointIn 36 = .ok (.aload_n 0, 1) := by decide +kernel
theorem dX6_pointIn_37 : decode cX6_pointIn 37 = .ok (.iload_n 1, 1) := by decide +kernel
theorem dX6_pointIn_38 : decode cX6_pointIn 38 = .ok (.iconst 2, 1) := by decide +kernel
theorem dX6_pointIn_39 : decode cX6_pointIn 39 = .ok (.invokestatic 65, 3) := by decide +kernel
theorem dX6_pointIn_42 : decode cX6_pointIn 42 = .ok (.iaload, 1) := by decide +kernel
theorem dX6_pointIn_43 : decode cX6_pointIn 43 = .ok (.iastore, 1) := by decide +kernel
theorem dX6_pointIn_44 : decode cX6_pointIn 44 = .ok (.aload_n 0, 1) := by decide +kernel
theorem dX6_pointIn_45 : decode cX6_pointIn 45 = .ok (.aload_n 0, 1) := by decide +kernel
theorem dX6_pointIn_46 : decode cX6_pointIn 46 = .ok (.iload_n 1, 1) := by decide +kernel
theorem dX6_pointIn_47 : decode cX6_pointIn 47 = .ok (.iconst 2, 1) := by decide +kernel
theorem dX6_pointIn_48 : decode cX6_pointIn 48 = .ok (.invokestatic 77, 3) := by decide +kernel
theorem dX6_pointIn_51 : decode cX6_pointIn 51 = .ok (.dup2, 1) := by decide +kernel
theorem dX6_pointIn_52 : decode cX6_pointIn 52 = .ok (.iaload, 1) := by decide +kernel
theorem dX6_pointIn_53 : decode cX6_pointIn 53 = .ok (.iconst 1, 1) := by decide +kernel
theorem dX6_pointIn_54 : decode cX6_pointIn 54 = .ok (.iadd, 1) := by decide +kernel
theorem dX6_pointIn_55 : decode cX6_pointIn 55 = .ok (.iastore, 1) := by decide +kernel
theorem dX6_pointIn_56 : decode cX6_pointIn 56 = .ok (.iload_n 2, 1) := by decide +kernel
theorem dX6_pointIn_57 : decode cX6_pointIn 57 = .ok (.ireturn, 1) := by decide +kernel
theorem dX6_hasPoint_0 : decode cX6_hasPoint 0 = .ok (.aload_n 0, 1) := by decide +kernel
theorem dX6_hasPoint_1 : decode cX6_hasPoint 1 = .ok (.iload_n 1, 1) := by decide +kernel
theorem dX6_hasPoint_2 : decode cX6_hasPoint 2 = .ok (.invokestatic 69, 3) := by decide +kernel
theorem dX6_hasPoint_5 : decode cX6_hasPoint 5 = .ok (.ifCond .le 27, 3) := by decide +kernel
theorem dX6_hasPoint_8 : decode cX6_hasPoint 8 = .ok (.iload_n 2, 1) := by decide +kernel
theorem dX6_hasPoint_9 : decode cX6_hasPoint 9 = .ok (.i2l, 1) := by decide +kernel
theorem dX6_hasPoint_10 : decode cX6_hasPoint 10 = .ok (.lconst 0, 1) := by decide +kernel
theorem dX6_hasPoint_11 : decode cX6_hasPoint 11 = .ok (.aload_n 0, 1) := by decide +kernel
theorem dX6_hasPoint_12 : decode cX6_hasPoint 12 = .ok (.aload_n 0, 1) := by decide +kernel
theorem dX6_hasPoint_13 : decode cX6_hasPoint 13 = .ok (.iload_n 1, 1) := by decide +kernel
theorem dX6_hasPoint_14 : decode cX6_hasPoint 14 = .ok (.iconst 2, 1) := by decide +kernel
theorem dX6_hasPoint_15 : decode cX6_hasPoint 15 = .ok (.invokestatic 77, 3) := by decide +kernel
theorem dX6_hasPoint_18 : decode cX6_hasPoint 18 = .ok (.iaload, 1) := by decide +kernel
theorem dX6_hasPoint_19 : decode cX6_hasPoint 19 = .ok (.iconst 1, 1) := by decide +kernel
theorem dX6_hasPoint_20 : decode cX6_hasPoint 20 = .ok (.isub, 1) := by decide +kernel
theorem dX6_hasPoint_21 : decode cX6_hasPoint 21 = .ok (.i2l, 1) := by decide +kernel
theorem dX6_hasPoint_22 : decode cX6_hasPoint 22 = .ok (.invokestatic 92, 3) := by decide +kernel
theorem dX6_hasPoint_25 : decode cX6_hasPoint 25 = .ok (.ifCond .eq 7, 3) := by decide +kernel
theorem dX6_hasPoint_28 : decode cX6_hasPoint 28 = .ok (.iconst 1, 1) := by decide +kernel
theorem dX6_hasPoint_29 : decode cX6_hasPoint 29 = .ok (.goto 4, 3) := by decide +kernel
theorem dX6_hasPoint_32 : decode cX6_hasPoint 32 = .ok (.iconst 0, 1) := by decide +kernel
theorem dX6_hasPoint_33 : decode cX6_hasPoint 33 = .ok (.ireturn, 1) := by decide +kernel
theorem dX6_undoTo_0 : decode cX6_undoTo 0 = .ok (.aload_n 0, 1) := by decide +kernel
theorem dX6_undoTo_1 : decode cX6_undoTo 1 = .ok (.iload_n 1, 1) := by decide +kernel
theorem dX6_undoTo_2 : decode cX6_undoTo 2 = .ok (.iconst 1, 1) := by decide +kernel
theorem dX6_undoTo_3 : decode cX6_undoTo 3 = .ok (.invokestatic 65, 3) := by decide +kernel
theorem dX6_undoTo_6 : decode cX6_undoTo 6 = .ok (.iaload, 1) := by decide +kernel
theorem dX6_undoTo_7 : decode cX6_undoTo 7 = .ok (.iload_n 2, 1) := by decide +kernel
theorem dX6_undoTo_8 : decode cX6_undoTo 8 = .ok (.isub, 1) := by decide +kernel
theorem dX6_undoTo_9 : decode cX6_undoTo 9 = .ok (.istore_n 3, 1) := by decide +kernel
theorem dX6_undoTo_10 : decode cX6_undoTo 10 = .ok (.aload_n 0, 1) := by decide +kernel
theorem dX6_undoTo_11 : decode cX6_undoTo 11 = .ok (.iload_n 1, 1) := by decide +kernel
theorem dX6_undoTo_12 : decode cX6_undoTo 12 = .ok (.iconst 1, 1) := by decide +kernel
theorem dX6_undoTo_13 : decode cX6_undoTo 13 = .ok (.invokestatic 65, 3) := by decide +kernel
theorem dX6_undoTo_16 : decode cX6_undoTo 16 = .ok (.iaload, 1) := by decide +kernel
theorem dX6_undoTo_17 : decode cX6_undoTo 17 = .ok (.iload_n 2, 1) := by decide +kernel
theorem dX6_undoTo_18 : decode cX6_undoTo 18 = .ok (.if_icmp .le 47, 3) := by decide +kernel
theorem dX6_undoTo_21 : decode cX6_undoTo 21 = .ok (.aload_n 0, 1) := by decide +kernel
theorem dX6_undoTo_22 : decode cX6_undoTo 22 = .ok (.iload_n 1, 1) := by decide +kernel
theorem dX6_undoTo_23 : decode cX6_undoTo 23 = .ok (.iconst 1, 1) := by decide +kernel
theorem dX6_undoTo_24 : decode cX6_undoTo 24 = .ok (.invokestatic 65, 3) := by decide +kernel
theorem dX6_undoTo_27 : decode cX6_undoTo 27 = .ok (.dup2, 1) := by decide +kernel
theorem dX6_undoTo_28 : decode cX6_undoTo 28 = .ok (.iaload, 1) := by decide +kernel
theorem dX6_undoTo_29 : decode cX6_undoTo 29 = .ok (.iconst 1, 1) := by decide +kernel
theorem dX6_undoTo_30 : decode cX6_undoTo 30 = .ok (.isub, 1) := by decide +kernel
theorem dX6_undoTo_31 : decode cX6_undoTo 31 = .ok (.iastore, 1) := by decide +kernel
theorem dX6_undoTo_32 : decode cX6_undoTo 32 = .ok (.aload_n 0, 1) := by decide +kernel
theorem dX6_undoTo_33 : decode cX6_undoTo 33 = .ok (.iload_n 1, 1) := by decide +kernel
theorem dX6_undoTo_34 : decode cX6_undoTo 34 = .ok (.bipush 70, 2) := by decide +kernel
theorem dX6_undoTo_36 : decode cX6_undoTo 36 = .ok (.aload_n 0, 1) := by decide +kernel
theorem dX6_undoTo_37 : decode cX6_undoTo 37 = .ok (.iload_n 1, 1) := by decide +kernel
theorem dX6_undoTo_38 : decode cX6_undoTo 38 = .ok (.iconst 1, 1) := by decide +kernel
theorem dX6_undoTo_39 : decode cX6_undoTo 39 = .ok (.invokestatic 65, 3) := by decide +kernel
theorem dX6_undoTo_42 : decode cX6_undoTo 42 = .ok (.iaload, 1) := by decide +kernel
theorem dX6_undoTo_43 : decode cX6_undoTo 43 = .ok (.iadd, 1) := by decide +kernel
theorem dX6_undoTo_44 : decode cX6_undoTo 44 = .ok (.invokestatic 65, 3) := by decide +kernel
theorem dX6_undoTo_47 : decode cX6_undoTo 47 = .ok (.iaload, 1) := by decide +kernel
theorem dX6_undoTo_48 : decode cX6_undoTo 48 = .ok (.istore 4, 2) := by decide +kernel
theorem dX6_undoTo_50 : decode cX6_undoTo 50 = .ok (.aload_n 0, 1) := by decide +kernel
theorem dX6_undoTo_51 : decode cX6_undoTo 51 = .ok (.iload 4, 2) := by decide +kernel
theorem dX6_undoTo_53 : decode cX6_undoTo 53 = .ok (.bipush 100, 2) := by decide +kernel
theorem dX6_undoTo_55 : decode cX6_undoTo 55 = .ok (.idiv, 1) := by decide +kernel
theorem dX6_undoTo_56 : decode cX6_undoTo 56 = .ok (.iload 4, 2) := by decide +kernel
theorem dX6_undoTo_58 : decode cX6_undoTo 58 = .ok (.bipush 100, 2) := by decide +kernel
theorem dX6_undoTo_60 : decode cX6_undoTo 60 = .ok (.irem, 1) := by decide +kernel
theorem dX6_undoTo_61 : decode cX6_undoTo 61 = .ok (.iastore, 1) := by decide +kernel
theorem dX6_undoTo_62 : decode cX6_undoTo 62 = .ok (.goto (-52), 3) := by decide +kernel
theorem dX6_undoTo_65 : decode cX6_undoTo 65 = .ok (.iload_n 3, 1) := by decide +kernel
theorem dX6_undoTo_66 : decode cX6_undoTo 66 = .ok (.ireturn, 1) := by decide +kernel
theorem dX6_backIn_0 : decode cX6_backIn 0 = .ok (.aload_n 0, 1) := by decide +kernel
theorem dX6_backIn_1 : decode cX6_backIn 1 = .ok (.iload_n 1, 1) := by decide +kernel
theorem dX6_backIn_2 : decode cX6_backIn 2 = .ok (.aload_n 0, 1) := by decide +kernel
theorem dX6_backIn_3 : decode cX6_backIn 3 = .ok (.aload_n 0, 1) := by decide +kernel
theorem dX6_backIn_4 : decode cX6_backIn 4 = .ok (.iload_n 1, 1) := by decide +kernel
theorem dX6_backIn_5 : decode cX6_backIn 5 = .ok (.iconst 5, 1) := by decide +kernel
theorem dX6_backIn_6 : decode cX6_backIn 6 = .ok (.iload_n 2, 1) := by decide +kernel
theorem dX6_backIn_7 : decode cX6_backIn 7 = .ok (.iadd, 1) := by decide +kernel
theorem dX6_backIn_8 : decode cX6_backIn 8 = .ok (.invokestatic 77, 3) := by decide +kernel
theorem dX6_backIn_11 : decode cX6_backIn 11 = .ok (.iaload, 1) := by decide +kernel
theorem dX6_backIn_12 : decode cX6_backIn 12 = .ok (.invokestatic 96, 3) := by decide +kernel
theorem dX6_backIn_15 : decode cX6_backIn 15 = .ok (.istore_n 3, 1) := by decide +kernel
theorem dX6_backIn_16 : decode cX6_backIn 16 = .ok (.aload_n 0, 1) := by decide +kernel
theorem dX6_backIn_17 : decode cX6_backIn 17 = .ok (.iload_n 1, 1) := by decide +kernel
theorem dX6_backIn_18 : decode cX6_backIn 18 = .ok (.iconst 2, 1) := by decide +kernel
theorem dX6_backIn_19 : decode cX6_backIn 19 = .ok (.invokestatic 65, 3) := by decide +kernel
theorem dX6_backIn_22 : decode cX6_backIn 22 = .ok (.aload_n 0, 1) := by decide +kernel
theorem dX6_backIn_23 : decode cX6_backIn 23 = .ok (.aload_n 0, 1) := by decide +kernel
theorem dX6_backIn_24 : decode cX6_backIn 24 = .ok (.iload_n 1, 1) := by decide +kernel
theorem dX6_backIn_25 : decode cX6_backIn 25 = .ok (.bipush 9, 2) := by decide +kernel
theorem dX6_backIn_27 : decode cX6_backIn 27 = .ok (.iload_n 2, 1) := by decide +kernel
theorem dX6_backIn_28 : decode cX6_backIn 28 = .ok (.iadd, 1) := by decide +kernel
theorem dX6_backIn_29 : decode cX6_backIn 29 = .ok (.invokestatic 77, 3) := by decide +kernel
theorem dX6_backIn_32 : decode cX6_backIn 32 = .ok (.iaload, 1) := by decide +kernel
theorem dX6_backIn_33 : decode cX6_backIn 33 = .ok (.iastore, 1) := by decide +kernel
theorem dX6_backIn_34 : decode cX6_backIn 34 = .ok (.aload_n 0, 1) := by decide +kernel
theorem dX6_backIn_35 : decode cX6_backIn 35 = .ok (.aload_n 0, 1) := by decide +kernel
theorem dX6_backIn_36 : decode cX6_backIn 36 = .ok (.iload_n 1, 1) := by decide +kernel
theorem dX6_backIn_37 : decode cX6_backIn 37 = .ok (.iconst 2, 1) := by decide +kernel
theorem dX6_backIn_38 : decode cX6_backIn 38 = .ok (.invokestatic 77, 3) := by decide +kernel
theorem dX6_backIn_41 : decode cX6_backIn 41 = .ok (.iload_n 2, 1) := by decide +kernel
theorem dX6_backIn_42 : decode cX6_backIn 42 = .ok (.iconst 1, 1) := by decide +kernel
theorem dX6_backIn_43 : decode cX6_backIn 43 = .ok (.iadd, 1) := by decide +kernel
theorem dX6_backIn_44 : decode cX6_backIn 44 = .ok (.iastore, 1) := by decide +kernel
theorem dX6_backIn_45 : decode cX6_backIn 45 = .ok (.iload_n 3, 1) := by decide +kernel
theorem dX6_backIn_46 : decode cX6_backIn 46 = .ok (.ireturn, 1) := by decide +kernel
theorem dX6_canRegret_0 : decode cX6_canRegret 0 = .ok (.aload_n 0, 1) := by decide +kernel
theorem dX6_canRegret_1 : decode cX6_canRegret 1 = .ok (.iload_n 1, 1) := by decide +kernel
theorem dX6_canRegret_2 : decode cX6_canRegret 2 = .ok (.iload_n 2, 1) := by decide +kernel
theorem dX6_canRegret_3 : decode cX6_canRegret 3 = .ok (.invokestatic 99, 3) := by decide +kernel
theorem dX6_canRegret_6 : decode cX6_canRegret 6 = .ok (.istore_n 3, 1) := by decide +kernel
theorem dX6_canRegret_7 : decode cX6_canRegret 7 = .ok (.iload_n 3, 1) := by decide +kernel
theorem dX6_canRegret_8 : decode cX6_canRegret 8 = .ok (.ifCond .eq 8, 3) := by decide +kernel
theorem dX6_canRegret_11 : decode cX6_canRegret 11 = .ok (.iload_n 3, 1) := by decide +kernel
theorem dX6_canRegret_12 : decode cX6_canRegret 12 = .ok (.iconst 4, 1) := by decide +kernel
theorem dX6_canRegret_13 : decode cX6_canRegret 13 = .ok (.if_icmp .ne 24, 3) := by decide +kernel
theorem dX6_canRegret_16 : decode cX6_canRegret 16 = .ok (.aload_n 0, 1) := by decide +kernel
theorem dX6_canRegret_17 : decode cX6_canRegret 17 = .ok (.iload_n 1, 1) := by decide +kernel
theorem dX6_canRegret_18 : decode cX6_canRegret 18 = .ok (.aload_n 0, 1) := by decide +kernel
theorem dX6_canRegret_19 : decode cX6_canRegret 19 = .ok (.iload_n 1, 1) := by decide +kernel
theorem dX6_canRegret_20 : decode cX6_canRegret 20 = .ok (.invokestatic 69, 3) := by decide +kernel
theorem dX6_canRegret_23 : decode cX6_canRegret 23 = .ok (.iconst 1, 1) := by decide +kernel
theorem dX6_canRegret_24 : decode cX6_canRegret 24 = .ok (.isub, 1) := by decide +kernel
theorem dX6_canRegret_25 : decode cX6_canRegret 25 = .ok (.invokestatic 102, 3) := by decide +kernel
theorem dX6_canRegret_28 : decode cX6_canRegret 28 = .ok (.bipush 6, 2) := by decide +kernel
theorem dX6_canRegret_30 : decode cX6_canRegret 30 = .ok (.if_icmp .ge 7, 3) := by decide +kernel
theorem dX6_canRegret_33 : decode cX6_canRegret 33 = .ok (.iconst 1, 1) := by decide +kernel
theorem dX6_canRegret_34 : decode cX6_canRegret 34 = .ok (.goto 4, 3) := by decide +kernel
theorem dX6_canRegret_37 : decode cX6_canRegret 37 = .ok (.iconst 0, 1) := by decide +kernel
theorem dX6_canRegret_38 : decode cX6_canRegret 38 = .ok (.ireturn, 1) := by decide +kernel
theorem dX6_regretIn_0 : decode cX6_regretIn 0 = .ok (.aload_n 0, 1) := by decide +kernel
theorem dX6_regretIn_1 : decode cX6_regretIn 1 = .ok (.bipush 16, 2) := by decide +kernel
theorem dX6_regretIn_3 : decode cX6_regretIn 3 = .ok (.iload_n 2, 1) := by decide +kernel
theorem dX6_regretIn_4 : decode cX6_regretIn 4 = .ok (.iadd, 1) := by decide +kernel
theorem dX6_regretIn_5 : decode cX6_regretIn 5 = .ok (.iload_n 1, 1) := by decide +kernel
theorem dX6_regretIn_6 : decode cX6_regretIn 6 = .ok (.iconst 1, 1) := by decide +kernel
theorem dX6_regretIn_7 : decode cX6_regretIn 7 = .ok (.iadd, 1) := by decide +kernel
theorem dX6_regretIn_8 : decode cX6_regretIn 8 = .ok (.iastore, 1) := by decide +kernel
theorem dX6_regretIn_9 : decode cX6_regretIn 9 = .ok (.aload_n 0, 1) := by decide +kernel
theorem dX6_regretIn_10 : decode cX6_regretIn 10 = .ok (.iload_n 1, 1) := by decide +kernel
theorem dX6_regretIn_11 : decode cX6_regretIn 11 = .ok (.sipush 710, 3) := by decide +kernel
theorem dX6_regretIn_14 : decode cX6_regretIn 14 = .ok (.aload_n 0, 1) := by decide +kernel
theorem dX6_regretIn_15 : decode cX6_regretIn 15 = .ok (.iload_n 1, 1) := by decide +kernel
theorem dX6_regretIn_16 : decode cX6_regretIn 16 = .ok (.iconst 2, 1) := by decide +kernel
theorem dX6_regretIn_17 : decode cX6_regretIn 17 = .ok (.invokestatic 65, 3) := by decide +kernel
theorem dX6_regretIn_20 : decode cX6_regretIn 20 = .ok (.iaload, 1) := by decide +kernel
theorem dX6_regretIn_21 : decode cX6_regretIn 21 = .ok (.iadd, 1) := by decide +kernel
theorem dX6_regretIn_22 : decode cX6_regretIn 22 = .ok (.invokestatic 65, 3) := by decide +kernel
theorem dX6_regretIn_25 : decode cX6_regretIn 25 = .ok (.bipush 100, 2) := by decide +kernel
theorem dX6_regretIn_27 : decode cX6_regretIn 27 = .ok (.iload_n 2, 1) := by decide +kernel
theorem dX6_regretIn_28 : decode cX6_regretIn 28 = .ok (.imul, 1) := by decide +kernel
theorem dX6_regretIn_29 : decode cX6_regretIn 29 = .ok (.iload_n 3, 1) := by decide +kernel
theorem dX6_regretIn_30 : decode cX6_regretIn 30 = .ok (.iadd, 1) := by decide +kernel
theorem dX6_regretIn_31 : decode cX6_regretIn 31 = .ok (.iastore, 1) := by decide +kernel
theorem dX6_regretIn_32 : decode cX6_regretIn 32 = .ok (.aload_n 0, 1) := by decide +kernel
theorem dX6_regretIn_33 : decode cX6_regretIn 33 = .ok (.iload_n 1, 1) := by decide +kernel
theorem dX6_regretIn_34 : decode cX6_regretIn 34 = .ok (.iconst 2, 1) := by decide +kernel
theorem dX6_regretIn_35 : decode cX6_regretIn 35 = .ok (.invokestatic 65, 3) := by decide +kernel
theorem dX6_regretIn_38 : decode cX6_regretIn 38 = .ok (.dup2, 1) := by decide +kernel
theorem dX6_regretIn_39 : decode cX6_regretIn 39 = .ok (.iaload, 1) := by decide +kernel
theorem dX6_regretIn_40 : decode cX6_regretIn 40 = .ok (.iconst 1, 1) := by decide +kernel
theorem dX6_regretIn_41 : decode cX6_regretIn 41 = .ok (.iadd, 1) := by decide +kernel
theorem dX6_regretIn_42 : decode cX6_regretIn 42 = .ok (.iastore, 1) := by decide +kernel
theorem dX6_regretIn_43 : decode cX6_regretIn 43 = .ok (.aload_n 0, 1) := by decide +kernel
theorem dX6_regretIn_44 : decode cX6_regretIn 44 = .ok (.iload_n 1, 1) := by decide +kernel
theorem dX6_regretIn_45 : decode cX6_regretIn 45 = .ok (.aload_n 0, 1) := by decide +kernel
theorem dX6_regretIn_46 : decode cX6_regretIn 46 = .ok (.iload_n 1, 1) := by decide +kernel
theorem dX6_regretIn_47 : decode cX6_regretIn 47 = .ok (.invokestatic 69, 3) := by decide +kernel
theorem dX6_regretIn_50 : decode cX6_regretIn 50 = .ok (.iconst 1, 1) := by decide +kernel
theorem dX6_regretIn_51 : decode cX6_regretIn 51 = .ok (.isub, 1) := by decide +kernel
theorem dX6_regretIn_52 : decode cX6_regretIn 52 = .ok (.invokestatic 102, 3) := by decide +kernel
theorem dX6_regretIn_55 : decode cX6_regretIn 55 = .ok (.ireturn, 1) := by decide +kernel
theorem dX6_end_0 : decode cX6_end 0 = .ok (.aload_n 0, 1) := by decide +kernel
theorem dX6_end_1 : decode cX6_end 1 = .ok (.iload_n 1, 1) := by decide +kernel
theorem dX6_end_2 : decode cX6_end 2 = .ok (.iconst 1, 1) := by decide +kernel
theorem dX6_end_3 : decode cX6_end 3 = .ok (.invokestatic 65, 3) := by decide +kernel
theorem dX6_end_6 : decode cX6_end 6 = .ok (.iconst 0, 1) := by decide +kernel
theorem dX6_end_7 : decode cX6_end 7 = .ok (.iastore, 1) := by decide +kernel
theorem dX6_end_8 : decode cX6_end 8 = .ok (.aload_n 0, 1) := by decide +kernel
theorem dX6_end_9 : decode cX6_end 9 = .ok (.iload_n 1, 1) := by decide +kernel
theorem dX6_end_10 : decode cX6_end 10 = .ok (.iconst 2, 1) := by decide +kernel
theorem dX6_end_11 : decode cX6_end 11 = .ok (.invokestatic 65, 3) := by decide +kernel
theorem dX6_end_14 : decode cX6_end 14 = .ok (.iconst 0, 1) := by decide +kernel
theorem dX6_end_15 : decode cX6_end 15 = .ok (.iastore, 1) := by decide +kernel
theorem dX6_end_16 : decode cX6_end 16 = .ok (.iconst 0, 1) := by decide +kernel
theorem dX6_end_17 : decode cX6_end 17 = .ok (.istore_n 2, 1) := by decide +kernel
theorem dX6_end_18 : decode cX6_end 18 = .ok (.iload_n 2, 1) := by decide +kernel
theorem dX6_end_19 : decode cX6_end 19 = .ok (.bipush 16, 2) := by decide +kernel
theorem dX6_end_21 : decode cX6_end 21 = .ok (.if_icmp .ge 37, 3) := by decide +kernel
theorem dX6_end_24 : decode cX6_end 24 = .ok (.aload_n 0, 1) := by decide +kernel
theorem dX6_end_25 : decode cX6_end 25 = .ok (.bipush 16, 2) := by decide +kernel
theorem dX6_end_27 : decode cX6_end 27 = .ok (.iload_n 2, 1) := by decide +kernel
theorem dX6_end_28 : decode cX6_end 28 = .ok (.iadd, 1) := by decide +kernel
theorem dX6_end_29 : decode cX6_end 29 = .ok (.aload_n 0, 1) := by decide +kernel
theorem dX6_end_30 : decode cX6_end 30 = .ok (.bipush 16, 2) := by decide +kernel
theorem dX6_end_32 : decode cX6_end 32 = .ok (.iload_n 2, 1) := by decide +kernel
theorem dX6_end_33 : decode cX6_end 33 = .ok (.iadd, 1) := by decide +kernel
theorem dX6_end_34 : decode cX6_end 34 = .ok (.iaload, 1) := by decide +kernel
theorem dX6_end_35 : decode cX6_end 35 = .ok (.iload_n 1, 1) := by decide +kernel
theorem dX6_end_36 : decode cX6_end 36 = .ok (.iconst 1, 1) := by decide +kernel
theorem dX6_end_37 : decode cX6_end 37 = .ok (.iadd, 1) := by decide +kernel
theorem dX6_end_38 : decode cX6_end 38 = .ok (.if_icmp .ne 7, 3) := by decide +kernel
theorem dX6_end_41 : decode cX6_end 41 = .ok (.iconst 0, 1) := by decide +kernel
theorem dX6_end_42 : decode cX6_end 42 = .ok (.goto 9, 3) := by decide +kernel
theorem dX6_end_45 : decode cX6_end 45 = .ok (.aload_n 0, 1) := by decide +kernel
theorem dX6_end_46 : decode cX6_end 46 = .ok (.bipush 16, 2) := by decide +kernel
theorem dX6_end_48 : decode cX6_end 48 = .ok (.iload_n 2, 1) := by decide +kernel
theorem dX6_end_49 : decode cX6_end 49 = .ok (.iadd, 1) := by decide +kernel
theorem dX6_end_50 : decode cX6_end 50 = .ok (.iaload, 1) := by decide +kernel
theorem dX6_end_51 : decode cX6_end 51 = .ok (.iastore, 1) := by decide +kernel
theorem dX6_end_52 : decode cX6_end 52 = .ok (.iinc 2 1, 3) := by decide +kernel
theorem dX6_end_55 : decode cX6_end 55 = .ok (.goto (-37), 3) := by decide +kernel
theorem dX6_end_58 : decode cX6_end 58 = .ok (.return_, 1) := by decide +kernel
theorem dX6_doneIn_0 : decode cX6_doneIn 0 = .ok (.aload_n 0, 1) := by decide +kernel
theorem dX6_doneIn_1 : decode cX6_doneIn 1 = .ok (.iload_n 1, 1) := by decide +kernel
theorem dX6_doneIn_2 : decode cX6_doneIn 2 = .ok (.iconst 0, 1) := by decide +kernel
theorem dX6_doneIn_3 : decode cX6_doneIn 3 = .ok (.invokestatic 65, 3) := by decide +kernel
theorem dX6_doneIn_6 : decode cX6_doneIn 6 = .ok (.dup2, 1) := by decide +kernel
theorem dX6_doneIn_7 : decode cX6_doneIn 7 = .ok (.iaload, 1) := by decide +kernel
theorem dX6_doneIn_8 : decode cX6_doneIn 8 = .ok (.iconst 1, 1) := by decide +kernel
theorem dX6_doneIn_9 : decode cX6_doneIn 9 = .ok (.isub, 1) := by decide +kernel
theorem dX6_doneIn_10 : decode cX6_doneIn 10 = .ok (.iastore, 1) := by decide +kernel
theorem dX6_doneIn_11 : decode cX6_doneIn 11 = .ok (.aload_n 0, 1) := by decide +kernel
theorem dX6_doneIn_12 : decode cX6_doneIn 12 = .ok (.iload_n 1, 1) := by decide +kernel
theorem dX6_doneIn_13 : decode cX6_doneIn 13 = .ok (.invokestatic 69, 3) := by decide +kernel
theorem dX6_doneIn_16 : decode cX6_doneIn 16 = .ok (.ifCond .ne 19, 3) := by decide +kernel
theorem dX6_doneIn_19 : decode cX6_doneIn 19 = .ok (.aload_n 0, 1) := by decide +kernel
theorem dX6_doneIn_20 : decode cX6_doneIn 20 = .ok (.iload_n 1, 1) := by decide +kernel
theorem dX6_doneIn_21 : decode cX6_doneIn 21 = .ok (.invokestatic 105, 3) := by decide +kernel
theorem dX6_doneIn_24 : decode cX6_doneIn 24 = .ok (.aload_n 0, 1) := by decide +kernel
theorem dX6_doneIn_25 : decode cX6_doneIn 25 = .ok (.iload_n 1, 1) := by decide +kernel
theorem dX6_doneIn_26 : decode cX6_doneIn 26 = .ok (.iconst 3, 1) := by decide +kernel
theorem dX6_doneIn_27 : decode cX6_doneIn 27 = .ok (.invokestatic 65, 3) := by decide +kernel
theorem dX6_doneIn_30 : decode cX6_doneIn 30 = .ok (.dup2, 1) := by decide +kernel
theorem dX6_doneIn_31 : decode cX6_doneIn 31 = .ok (.iaload, 1) := by decide +kernel
theorem dX6_doneIn_32 : decode cX6_doneIn 32 = .ok (.iconst 1, 1) := by decide +kernel
theorem dX6_doneIn_33 : decode cX6_doneIn 33 = .ok (.iadd, 1) := by decide +kernel
theorem dX6_doneIn_34 : decode cX6_doneIn 34 = .ok (.iastore, 1) := by decide +kernel
theorem dX6_doneIn_35 : decode cX6_doneIn 35 = .ok (.aload_n 0, 1) := by decide +kernel
theorem dX6_doneIn_36 : decode cX6_doneIn 36 = .ok (.iload_n 1, 1) := by decide +kernel
theorem dX6_doneIn_37 : decode cX6_doneIn 37 = .ok (.invokestatic 69, 3) := by decide +kernel
theorem dX6_doneIn_40 : decode cX6_doneIn 40 = .ok (.ireturn, 1) := by decide +kernel
theorem dX6_rue_0 : decode cX6_rue 0 = .ok (.aload_n 0, 1) := by decide +kernel
theorem dX6_rue_1 : decode cX6_rue 1 = .ok (.iload_n 1, 1) := by decide +kernel
theorem dX6_rue_2 : decode cX6_rue 2 = .ok (.iconst 2, 1) := by decide +kernel
theorem dX6_rue_3 : decode cX6_rue 3 = .ok (.invokestatic 65, 3) := by decide +kernel
theorem dX6_rue_6 : decode cX6_rue 6 = .ok (.iaload, 1) := by decide +kernel
theorem dX6_rue_7 : decode cX6_rue 7 = .ok (.iload_n 2, 1) := by decide +kernel
theorem dX6_rue_8 : decode cX6_rue 8 = .ok (.if_icmp .le 79, 3) := by decide +kernel
theorem dX6_rue_11 : decode cX6_rue 11 = .ok (.aload_n 0, 1) := by decide +kernel
theorem dX6_rue_12 : decode cX6_rue 12 = .ok (.iload_n 1, 1) := by decide +kernel
theorem dX6_rue_13 : decode cX6_rue 13 = .ok (.iconst 2, 1) := by decide +kernel
theorem dX6_rue_14 : decode cX6_rue 14 = .ok (.invokestatic 65, 3) := by decide +kernel
theorem dX6_rue_17 : decode cX6_rue 17 = .ok (.dup2, 1) := by decide +kernel
theorem dX6_rue_18 : decode cX6_rue 18 = .ok (.iaload, 1) := by decide +kernel
theorem dX6_rue_19 : decode cX6_rue 19 = .ok (.iconst 1, 1) := by decide +kernel
theorem dX6_rue_20 : decode cX6_rue 20 = .ok (.isub, 1) := by decide +kernel
theorem dX6_rue_21 : decode cX6_rue 21 = .ok (.iastore, 1) := by decide +kernel
theorem dX6_rue_22 : decode cX6_rue 22 = .ok (.aload_n 0, 1) := by decide +kernel
theorem dX6_rue_23 : decode cX6_rue 23 = .ok (.iload_n 1, 1) := by decide +kernel
theorem dX6_rue_24 : decode cX6_rue 24 = .ok (.sipush 710, 3) := by decide +kernel
theorem dX6_rue_27 : decode cX6_rue 27 = .ok (.aload_n 0, 1) := by decide +kernel
theorem dX6_rue_28 : decode cX6_rue 28 = .ok (.iload_n 1, 1) := by decide +kernel
theorem dX6_rue_29 : decode cX6_rue 29 = .ok (.iconst 2, 1) := by decide +kernel
theorem dX6_rue_30 : decode cX6_rue 30 = .ok (.invokestatic 65, 3) := by decide +kernel
theorem dX6_rue_33 : decode cX6_rue 33 = .ok (.iaload, 1) := by decide +kernel
theorem dX6_rue_34 : decode cX6_rue 34 = .ok (.iadd, 1) := by decide +kernel
theorem dX6_rue_35 : decode cX6_rue 35 = .ok (.invokestatic 65, 3) := by decide +kernel
theorem dX6_rue_38 : decode cX6_rue 38 = .ok (.iaload, 1) := by decide +kernel
theorem dX6_rue_39 : decode cX6_rue 39 = .ok (.istore 4, 2) := by decide +kernel
theorem dX6_rue_41 : decode cX6_rue 41 = .ok (.iload 4, 2) := by decide +kernel
theorem dX6_rue_43 : decode cX6_rue 43 = .ok (.bipush 100, 2) := by decide +kernel
theorem dX6_rue_45 : decode cX6_rue 45 = .ok (.idiv, 1) := by decide +kernel
theorem dX6_rue_46 : decode cX6_rue 46 = .ok (.istore 5, 2) := by decide +kernel
theorem dX6_rue_48 : decode cX6_rue 48 = .ok (.iload_n 3, 1) := by decide +kernel
theorem dX6_rue_49 : decode cX6_rue 49 = .ok (.ifCond .ne 10, 3) := by decide +kernel
theorem dX6_rue_52 : decode cX6_rue 52 = .ok (.aload_n 0, 1) := by decide +kernel
theorem dX6_rue_53 : decode cX6_rue 53 = .ok (.iload_n 1, 1) := by decide +kernel
theorem dX6_rue_54 : decode cX6_rue 54 = .ok (.iload 5, 2) := by decide +kernel
theorem dX6_rue_56 : decode cX6_rue 56 = .ok (.invokestatic 85, 3) := by decide +kernel
theorem dX6_rue_59 : decode cX6_rue 59 = .ok (.aload_n 0, 1) := by decide +kernel
theorem dX6_rue_60 : decode cX6_rue 60 = .ok (.iload 5, 2) := by decide +kernel
theorem dX6_rue_62 : decode cX6_rue 62 = .ok (.aload_n 0, 1) := by decide +kernel
theorem dX6_rue_63 : decode cX6_rue 63 = .ok (.iload 5, 2) := by decide +kernel
theorem dX6_rue_65 : decode cX6_rue 65 = .ok (.iaload, 1) := by decide +kernel
theorem dX6_rue_66 : decode cX6_rue 66 = .ok (.iload 4, 2) := by decide +kernel
theorem dX6_rue_68 : decode cX6_rue 68 = .ok (.bipush 100, 2) := by decide +kernel
theorem dX6_rue_70 : decode cX6_rue 70 = .ok (.irem, 1) := by decide +kernel
theorem dX6_rue_71 : decode cX6_rue 71 = .ok (.iadd, 1) := by decide +kernel
theorem dX6_rue_72 : decode cX6_rue 72 = .ok (.bipush 100, 2) := by decide +kernel
theorem dX6_rue_74 : decode cX6_rue 74 = .ok (.irem, 1) := by decide +kernel
theorem dX6_rue_75 : decode cX6_rue 75 = .ok (.iastore, 1) := by decide +kernel
theorem dX6_rue_76 : decode cX6_rue 76 = .ok (.aload_n 0, 1) := by decide +kernel
theorem dX6_rue_77 : decode cX6_rue 77 = .ok (.bipush 35, 2) := by decide +kernel
theorem dX6_rue_79 : decode cX6_rue 79 = .ok (.dup2, 1) := by decide +kernel
theorem dX6_rue_80 : decode cX6_rue 80 = .ok (.iaload, 1) := by decide +kernel
theorem dX6_rue_81 : decode cX6_rue 81 = .ok (.iconst 1, 1) := by decide +kernel
theorem dX6_rue_82 : decode cX6_rue 82 = .ok (.iadd, 1) := by decide +kernel
theorem dX6_rue_83 : decode cX6_rue 83 = .ok (.iastore, 1) := by decide +kernel
theorem dX6_rue_84 : decode cX6_rue 84 = .ok (.goto (-84), 3) := by decide +kernel
theorem dX6_rue_87 : decode cX6_rue 87 = .ok (.return_, 1) := by decide +kernel
theorem dX6_failIn_0 : decode cX6_failIn 0 = .ok (.aload_n 0, 1) := by decide +kernel
theorem dX6_failIn_1 : decode cX6_failIn 1 = .ok (.aload_n 0, 1) := by decide +kernel
theorem dX6_failIn_2 : decode cX6_failIn 2 = .ok (.iload_n 1, 1) := by decide +kernel
theorem dX6_failIn_3 : decode cX6_failIn 3 = .ok (.iconst 0, 1) := by decide +kernel
theorem dX6_failIn_4 : decode cX6_failIn 4 = .ok (.invokestatic 77, 3) := by decide +kernel
theorem dX6_failIn_7 : decode cX6_failIn 7 = .ok (.iaload, 1) := by decide +kernel
theorem dX6_failIn_8 : decode cX6_failIn 8 = .ok (.istore_n 2, 1) := by decide +kernel
theorem dX6_failIn_9 : decode cX6_failIn 9 = .ok (.aload_n 0, 1) := by decide +kernel
theorem dX6_failIn_10 : decode cX6_failIn 10 = .ok (.aload_n 0, 1) := by decide +kernel
theorem dX6_failIn_11 : decode cX6_failIn 11 = .ok (.iload_n 1, 1) := by decide +kernel
theorem dX6_failIn_12 : decode cX6_failIn 12 = .ok (.iconst 1, 1) := by decide +kernel
theorem dX6_failIn_13 : decode cX6_failIn 13 = .ok (.invokestatic 77, 3) := by decide +kernel
theorem dX6_failIn_16 : decode cX6_failIn 16 = .ok (.iaload, 1) := by decide +kernel
theorem dX6_failIn_17 : decode cX6_failIn 17 = .ok (.istore_n 3, 1) := by decide +kernel
theorem dX6_failIn_18 : decode cX6_failIn 18 = .ok (.aload_n 0, 1) := by decide +kernel
theorem dX6_failIn_19 : decode cX6_failIn 19 = .ok (.iload_n 1, 1) := by decide +kernel
theorem dX6_failIn_20 : decode cX6_failIn 20 = .ok (.iload_n 2, 1) := by decide +kernel
theorem dX6_failIn_21 : decode cX6_failIn 21 = .ok (.invokestatic 96, 3) := by decide +kernel
theorem dX6_failIn_24 : decode cX6_failIn 24 = .ok (.pop, 1) := by decide +kernel
theorem dX6_failIn_25 : decode cX6_failIn 25 = .ok (.aload_n 0, 1) := by decide +kernel
theorem dX6_failIn_26 : decode cX6_failIn 26 = .ok (.iload_n 1, 1) := by decide +kernel
theorem dX6_failIn_27 : decode cX6_failIn 27 = .ok (.iconst 0, 1) := by decide +kernel
theorem dX6_failIn_28 : decode cX6_failIn 28 = .ok (.invokestatic 65, 3) := by decide +kernel
theorem dX6_failIn_31 : decode cX6_failIn 31 = .ok (.dup2, 1) := by decide +kernel
theorem dX6_failIn_32 : decode cX6_failIn 32 = .ok (.iaload, 1) := by decide +kernel
theorem dX6_failIn_33 : decode cX6_failIn 33 = .ok (.iconst 1, 1) := by decide +kernel
theorem dX6_failIn_34 : decode cX6_failIn 34 = .ok (.isub, 1) := by decide +kernel
theorem dX6_failIn_35 : decode cX6_failIn 35 = .ok (.iastore, 1) := by decide +kernel
theorem dX6_failIn_36 : decode cX6_failIn 36 = .ok (.aload_n 0, 1) := by decide +kernel
theorem dX6_failIn_37 : decode cX6_failIn 37 = .ok (.iload_n 1, 1) := by decide +kernel
theorem dX6_failIn_38 : decode cX6_failIn 38 = .ok (.iload_n 3, 1) := by decide +kernel
theorem dX6_failIn_39 : decode cX6_failIn 39 = .ok (.aload_n 0, 1) := by decide +kernel
theorem dX6_failIn_40 : decode cX6_failIn 40 = .ok (.iload_n 1, 1) := by decide +kernel
theorem dX6_failIn_41 : decode cX6_failIn 41 = .ok (.invokestatic 69, 3) := by decide +kernel
theorem dX6_failIn_44 : decode cX6_failIn 44 = .ok (.ifCond .ne 7, 3) := by decide +kernel
theorem dX6_failIn_47 : decode cX6_failIn 47 = .ok (.iconst 1, 1) := by decide +kernel
theorem dX6_failIn_48 : decode cX6_failIn 48 = .ok (.goto 4, 3) := by decide +kernel
theorem dX6_failIn_51 : decode cX6_failIn 51 = .ok (.iconst 0, 1) := by decide +kernel
theorem dX6_failIn_52 : decode cX6_failIn 52 = .ok (.invokestatic 109, 3) := by decide +kernel
theorem dX6_failIn_55 : decode cX6_failIn 55 = .ok (.aload_n 0, 1) := by decide +kernel
theorem dX6_failIn_56 : decode cX6_failIn 56 = .ok (.iload_n 1, 1) := by decide +kernel
theorem dX6_failIn_57 : decode cX6_failIn 57 = .ok (.invokestatic 69, 3) := by decide +kernel
theorem dX6_failIn_60 : decode cX6_failIn 60 = .ok (.ifCond .ne 21, 3) := by decide +kernel
theorem dX6_failIn_63 : decode cX6_failIn 63 = .ok (.aload_n 0, 1) := by decide +kernel
theorem dX6_failIn_64 : decode cX6_failIn 64 = .ok (.iload_n 1, 1) := by decide +kernel
theorem dX6_failIn_65 : decode cX6_failIn 65 = .ok (.invokestatic 105, 3) := by decide +kernel
theorem dX6_failIn_68 : decode cX6_failIn 68 = .ok (.aload_n 0, 1) := by decide +kernel
theorem dX6_failIn_69 : decode cX6_failIn 69 = .ok (.iload_n 1, 1) := by decide +kernel
theorem dX6_failIn_70 : decode cX6_failIn 70 = .ok (.iconst 4, 1) := by decide +kernel
theorem dX6_failIn_71 : decode cX6_failIn 71 = .ok (.invokestatic 65, 3) := by decide +kernel
theorem dX6_failIn_74 : decode cX6_failIn 74 = .ok (.dup2, 1) := by decide +kernel
theorem dX6_failIn_75 : decode cX6_failIn 75 = .ok (.iaload, 1) := by decide +kernel
theorem dX6_failIn_76 : decode cX6_failIn 76 = .ok (.iconst 1, 1) := by decide +kernel
theorem dX6_failIn_77 : decode cX6_failIn 77 = .ok (.iadd, 1) := by decide +kernel
theorem dX6_failIn_78 : decode cX6_failIn 78 = .ok (.iastore, 1) := by decide +kernel
theorem dX6_failIn_79 : decode cX6_failIn 79 = .ok (.iconst 0, 1) := by decide +kernel
theorem dX6_failIn_80 : decode cX6_failIn 80 = .ok (.ireturn, 1) := by decide +kernel
theorem dX6_failIn_81 : decode cX6_failIn 81 = .ok (.aload_n 0, 1) := by decide +kernel
theorem dX6_failIn_82 : decode cX6_failIn 82 = .ok (.aload_n 0, 1) := by decide +kernel
theorem dX6_failIn_83 : decode cX6_failIn 83 = .ok (.iload_n 1, 1) := by decide +kernel
theorem dX6_failIn_84 : decode cX6_failIn 84 = .ok (.iconst 3, 1) := by decide +kernel
theorem dX6_failIn_85 : decode cX6_failIn 85 = .ok (.invokestatic 77, 3) := by decide +kernel
theorem dX6_failIn_88 : decode cX6_failIn 88 = .ok (.iaload, 1) := by decide +kernel
theorem dX6_failIn_89 : decode cX6_failIn 89 = .ok (.aload_n 0, 1) := by decide +kernel
theorem dX6_failIn_90 : decode cX6_failIn 90 = .ok (.bipush 32, 2) := by decide +kernel
theorem dX6_failIn_92 : decode cX6_failIn 92 = .ok (.iaload, 1) := by decide +kernel
theorem dX6_failIn_93 : decode cX6_failIn 93 = .ok (.if_icmp .ge 25, 3) := by decide +kernel
theorem dX6_failIn_96 : decode cX6_failIn 96 = .ok (.aload_n 0, 1) := by decide +kernel
theorem dX6_failIn_97 : decode cX6_failIn 97 = .ok (.aload_n 0, 1) := by decide +kernel
theorem dX6_failIn_98 : decode cX6_failIn 98 = .ok (.iload_n 1, 1) := by decide +kernel
theorem dX6_failIn_99 : decode cX6_failIn 99 = .ok (.iconst 3, 1) := by decide +kernel
theorem dX6_failIn_100 : decode cX6_failIn 100 = .ok (.invokestatic 77, 3) := by decide +kernel
theorem dX6_failIn_103 : decode cX6_failIn 103 = .ok (.dup2, 1) := by decide +kernel
theorem dX6_failIn_104 : decode cX6_failIn 104 = .ok (.iaload, 1) := by decide +kernel
theorem dX6_failIn_105 : decode cX6_failIn 105 = .ok (.iconst 1, 1) := by decide +kernel
theorem dX6_failIn_106 : decode cX6_failIn 106 = .ok (.iadd, 1) := by decide +kernel
theorem dX6_failIn_107 : decode cX6_failIn 107 = .ok (.iastore, 1) := by decide +kernel
theorem dX6_failIn_108 : decode cX6_failIn 108 = .ok (.aload_n 0, 1) := by decide +kernel
theorem dX6_failIn_109 : decode cX6_failIn 109 = .ok (.bipush 33, 2) := by decide +kernel
theorem dX6_failIn_111 : decode cX6_failIn 111 = .ok (.dup2, 1) := by decide +kernel
theorem dX6_failIn_112 : decode cX6_failIn 112 = .ok (.iaload, 1) := by decide +kernel
theorem dX6_failIn_113 : decode cX6_failIn 113 = .ok (.iconst 1, 1) := by decide +kernel
theorem dX6_failIn_114 : decode cX6_failIn 114 = .ok (.iadd, 1) := by decide +kernel
theorem dX6_failIn_115 : decode cX6_failIn 115 = .ok (.iastore, 1) := by decide +kernel
theorem dX6_failIn_116 : decode cX6_failIn 116 = .ok (.iconst 1, 1) := by decide +kernel
theorem dX6_failIn_117 : decode cX6_failIn 117 = .ok (.ireturn, 1) := by decide +kernel
theorem dX6_failIn_118 : decode cX6_failIn 118 = .ok (.aload_n 0, 1) := by decide +kernel
theorem dX6_failIn_119 : decode cX6_failIn 119 = .ok (.aload_n 0, 1) := by decide +kernel
theorem dX6_failIn_120 : decode cX6_failIn 120 = .ok (.iload_n 1, 1) := by decide +kernel
theorem dX6_failIn_121 : decode cX6_failIn 121 = .ok (.iconst 4, 1) := by decide +kernel
theorem dX6_failIn_122 : decode cX6_failIn 122 = .ok (.invokestatic 77, 3) := by decide +kernel
theorem dX6_failIn_125 : decode cX6_failIn 125 = .ok (.iconst 1, 1) := by decide +kernel
theorem dX6_failIn_126 : decode cX6_failIn 126 = .ok (.iastore, 1) := by decide +kernel
theorem dX6_failIn_127 : decode cX6_failIn 127 = .ok (.iconst 2, 1) := by decide +kernel
theorem dX6_failIn_128 : decode cX6_failIn 128 = .ok (.ireturn, 1) := by decide +kernel
theorem dX6_append_0 : decode cX6_append 0 = .ok (.aload_n 0, 1) := by decide +kernel
theorem dX6_append_1 : decode cX6_append 1 = .ok (.iload_n 1, 1) := by decide +kernel
theorem dX6_append_2 : decode cX6_append 2 = .ok (.i2l, 1) := by decide +kernel
theorem dX6_append_3 : decode cX6_append 3 = .ok (.lconst 0, 1) := by decide +kernel
theorem dX6_append_4 : decode cX6_append 4 = .ok (.ldc2_w 113, 3) := by decide +kernel
theorem dX6_append_7 : decode cX6_append 7 = .ok (.invokestatic 92, 3) := by decide +kernel
theorem dX6_append_10 : decode cX6_append 10 = .ok (.ifCond .ne 7, 3) := by decide +kernel
theorem dX6_append_13 : decode cX6_append 13 = .ok (.iconst 1, 1) := by decide +kernel
theorem dX6_append_14 : decode cX6_append 14 = .ok (.goto 17, 3) := by decide +kernel
theorem dX6_append_17 : decode cX6_append 17 = .ok (.aload_n 0, 1) := by decide +kernel
theorem dX6_append_18 : decode cX6_append 18 = .ok (.getfield 115, 3) := by decide +kernel
theorem dX6_append_21 : decode cX6_append 21 = .ok (.bipush 120, 2) := by decide +kernel
theorem dX6_append_23 : decode cX6_append 23 = .ok (.if_icmp .ne 7, 3) := by decide +kernel
theorem dX6_append_26 : decode cX6_append 26 = .ok (.iconst 2, 1) := by decide +kernel
theorem dX6_append_27 : decode cX6_append 27 = .ok (.goto 4, 3) := by decide +kernel
theorem dX6_append_30 : decode cX6_append 30 = .ok (.iconst 0, 1) := by decide +kernel
theorem dX6_append_31 : decode cX6_append 31 = .ok (.invokevirtual 118, 3) := by decide +kernel
theorem dX6_append_34 : decode cX6_append 34 = .ok (.ifCond .eq 5, 3) := by decide +kernel
theorem dX6_append_37 : decode cX6_append 37 = .ok (.iconst 0, 1) := by decide +kernel
theorem dX6_append_38 : decode cX6_append 38 = .ok (.ireturn, 1) := by decide +kernel
theorem dX6_append_39 : decode cX6_append 39 = .ok (.aload_n 0, 1) := by decide +kernel
theorem dX6_append_40 : decode cX6_append 40 = .ok (.getfield 7, 3) := by decide +kernel
theorem dX6_append_43 : decode cX6_append 43 = .ok (.aload_n 0, 1) := by decide +kernel
theorem dX6_append_44 : decode cX6_append 44 = .ok (.getfield 115, 3) := by decide +kernel
theorem dX6_append_47 : decode cX6_append 47 = .ok (.iload_n 1, 1) := by decide +kernel
theorem dX6_append_48 : decode cX6_append 48 = .ok (.iastore, 1) := by decide +kernel
theorem dX6_append_49 : decode cX6_append 49 = .ok (.aload_n 0, 1) := by decide +kernel
theorem dX6_append_50 : decode cX6_append 50 = .ok (.dup, 1) := by decide +kernel
theorem dX6_append_51 : decode cX6_append 51 = .ok (.getfield 115, 3) := by decide +kernel
theorem dX6_append_54 : decode cX6_append 54 = .ok (.iconst 1, 1) := by decide +kernel
theorem dX6_append_55 : decode cX6_append 55 = .ok (.iadd, 1) := by decide +kernel
theorem dX6_append_56 : decode cX6_append 56 = .ok (.putfield 115, 3) := by decide +kernel
theorem dX6_append_59 : decode cX6_append 59 = .ok (.aload_n 0, 1) := by decide +kernel
theorem dX6_append_60 : decode cX6_append 60 = .ok (.getfield 115, 3) := by decide +kernel
theorem dX6_append_63 : decode cX6_append 63 = .ok (.ireturn, 1) := by decide +kernel
theorem dX6_clearText_0 : decode cX6_clearText 0 = .ok (.aload_n 0, 1) := by decide +kernel
theorem dX6_clearText_1 : decode cX6_clearText 1 = .ok (.iconst 0, 1) := by decide +kernel
theorem dX6_clearText_2 : decode cX6_clearText 2 = .ok (.putfield 45, 3) := by decide +kernel
theorem dX6_clearText_5 : decode cX6_clearText 5 = .ok (.aload_n 0, 1) := by decide +kernel
theorem dX6_clearText_6 : decode cX6_clearText 6 = .ok (.getfield 115, 3) := by decide +kernel
theorem dX6_clearText_9 : decode cX6_clearText 9 = .ok (.istore_n 1, 1) := by decide +kernel
theorem dX6_clearText_10 : decode cX6_clearText 10 = .ok (.aload_n 0, 1) := by decide +kernel
theorem dX6_clearText_11 : decode cX6_clearText 11 = .ok (.iconst 0, 1) := by decide +kernel
theorem dX6_clearText_12 : decode cX6_clearText 12 = .ok (.putfield 115, 3) := by decide +kernel
theorem dX6_clearText_15 : decode cX6_clearText 15 = .ok (.iload_n 1, 1) := by decide +kernel
theorem dX6_clearText_16 : decode cX6_clearText 16 = .ok (.ireturn, 1) := by decide +kernel
theorem dX6_isNext_0 : decode cX6_isNext 0 = .ok (.aload_n 0, 1) := by decide +kernel
theorem dX6_isNext_1 : decode cX6_isNext 1 = .ok (.getfield 122, 3) := by decide +kernel
theorem dX6_isNext_4 : decode cX6_isNext 4 = .ok (.aload_n 0, 1) := by decide +kernel
theorem dX6_isNext_5 : decode cX6_isNext 5 = .ok (.getfield 115, 3) := by decide +kernel
theorem dX6_isNext_8 : decode cX6_isNext 8 = .ok (.if_icmp .ge 20, 3) := by decide +kernel
theorem dX6_isNext_11 : decode cX6_isNext 11 = .ok (.aload_n 0, 1) := by decide +kernel
theorem dX6_isNext_12 : decode cX6_isNext 12 = .ok (.getfield 7, 3) := by decide +kernel
theorem dX6_isNext_15 : decode cX6_isNext 15 = .ok (.aload_n 0, 1) := by decide +kernel
theorem dX6_isNext_16 : decode cX6_isNext 16 = .ok (.getfield 122, 3) := by decide +kernel
theorem dX6_isNext_19 : decode cX6_isNext 19 = .ok (.iaload, 1) := by decide +kernel
theorem dX6_isNext_20 : decode cX6_isNext 20 = .ok (.iload_n 1, 1) := by decide +kernel
theorem dX6_isNext_21 : decode cX6_isNext 21 = .ok (.if_icmp .ne 7, 3) := by decide +kernel
theorem dX6_isNext_24 : decode cX6_isNext 24 = .ok (.iconst 1, 1) := by decide +kernel
theorem dX6_isNext_25 : decode cX6_isNext 25 = .ok (.goto 4, 3) := by decide +kernel
theorem dX6_isNext_28 : decode cX6_isNext 28 = .ok (.iconst 0, 1) := by decide +kernel
theorem dX6_isNext_29 : decode cX6_isNext 29 = .ok (.ireturn, 1) := by decide +kernel
theorem dX6_accept_0 : decode cX6_accept 0 = .ok (.aload_n 0, 1) := by decide +kernel
theorem dX6_accept_1 : decode cX6_accept 1 = .ok (.aload_n 0, 1) := by decide +kernel
theorem dX6_accept_2 : decode cX6_accept 2 = .ok (.getfield 125, 3) := by decide +kernel
theorem dX6_accept_5 : decode cX6_accept 5 = .ok (.ifCond .eq 11, 3) := by decide +kernel
theorem dX6_accept_8 : decode cX6_accept 8 = .ok (.iload_n 1, 1) := by decide +kernel
theorem dX6_accept_9 : decode cX6_accept 9 = .ok (.ifCond .eq 7, 3) := by decide +kernel
theorem dX6_accept_12 : decode cX6_accept 12 = .ok (.iconst 1, 1) := by decide +kernel
theorem dX6_accept_13 : decode cX6_accept 13 = .ok (.goto 4, 3) := by decide +kernel
theorem dX6_accept_16 : decode cX6_accept 16 = .ok (.iconst 0, 1) := by decide +kernel
theorem dX6_accept_17 : decode cX6_accept 17 = .ok (.putfield 125, 3) := by decide +kernel
theorem dX6_accept_20 : decode cX6_accept 20 = .ok (.aload_n 0, 1) := by decide +kernel
theorem dX6_accept_21 : decode cX6_accept 21 = .ok (.dup, 1) := by decide +kernel
theorem dX6_accept_22 : decode cX6_accept 22 = .ok (.getfield 122, 3) := by decide +kernel
theorem dX6_accept_25 : decode cX6_accept 25 = .ok (.aload_n 0, 1) := by decide +kernel
theorem dX6_accept_26 : decode cX6_accept 26 = .ok (.getfield 125, 3) := by decide +kernel
theorem dX6_accept_29 : decode cX6_accept 29 = .ok (.ifCond .eq 7, 3) := by decide +kernel
theorem dX6_accept_32 : decode cX6_accept 32 = .ok (.iconst 1, 1) := by decide +kernel
theorem dX6_accept_33 : decode cX6_accept 33 = .ok (.goto 4, 3) := by decide +kernel
theorem dX6_accept_36 : decode cX6_accept 36 = .ok (.iconst 0, 1) := by decide +kernel
theorem dX6_accept_37 : decode cX6_accept 37 = .ok (.iadd, 1) := by decide +kernel
theorem dX6_accept_38 : decode cX6_accept 38 = .ok (.putfield 122, 3) := by decide +kernel
theorem dX6_accept_41 : decode cX6_accept 41 = .ok (.return_, 1) := by decide +kernel
theorem dX6_digit_0 : decode cX6_digit 0 = .ok (.aload_n 0, 1) := by decide +kernel
theorem dX6_digit_1 : decode cX6_digit 1 = .ok (.getfield 122, 3) := by decide +kernel
theorem dX6_digit_4 : decode cX6_digit 4 = .ok (.aload_n 0, 1) := by decide +kernel
theorem dX6_digit_5 : decode cX6_digit 5 = .ok (.getfield 115, 3) := by decide +kernel
theorem dX6_digit_8 : decode cX6_digit 8 = .ok (.if_icmp .ge 18, 3) := by decide +kernel
theorem dX6_digit_11 : decode cX6_digit 11 = .ok (.aload_n 0, 1) := by decide +kernel
theorem dX6_digit_12 : decode cX6_digit 12 = .ok (.getfield 7, 3) := by decide +kernel
theorem dX6_digit_15 : decode cX6_digit 15 = .ok (.aload_n 0, 1) := by decide +kernel
theorem dX6_digit_16 : decode cX6_digit 16 = .ok (.getfield 122, 3) := by decide +kernel
theorem dX6_digit_19 : decode cX6_digit 19 = .ok (.iaload, 1) := by decide +kernel
theorem dX6_digit_20 : decode cX6_digit 20 = .ok (.bipush 48, 2) := by decide +kernel
theorem dX6_digit_22 : decode cX6_digit 22 = .ok (.isub, 1) := by decide +kernel
theorem dX6_digit_23 : decode cX6_digit 23 = .ok (.goto 4, 3) := by decide +kernel
theorem dX6_digit_26 : decode cX6_digit 26 = .ok (.iconst (-1), 1) := by decide +kernel
theorem dX6_digit_27 : decode cX6_digit 27 = .ok (.istore_n 3, 1) := by decide +kernel
theorem dX6_digit_28 : decode cX6_digit 28 = .ok (.aload_n 0, 1) := by decide +kernel
theorem dX6_digit_29 : decode cX6_digit 29 = .ok (.iload_n 3, 1) := by decide +kernel
theorem dX6_digit_30 : decode cX6_digit 30 = .ok (.i2l, 1) := by decide +kernel
theorem dX6_digit_31 : decode cX6_digit 31 = .ok (.lconst 0, 1) := by decide +kernel
theorem dX6_digit_32 : decode cX6_digit 32 = .ok (.ldc2_w 129, 3) := by decide +kernel
theorem dX6_digit_35 : decode cX6_digit 35 = .ok (.invokestatic 92, 3) := by decide +kernel
theorem dX6_digit_38 : decode cX6_digit 38 = .ok (.ifCond .eq 19, 3) := by decide +kernel
theorem dX6_digit_41 : decode cX6_digit 41 = .ok (.iload_n 3, 1) := by decide +kernel
theorem dX6_digit_42 : decode cX6_digit 42 = .ok (.i2l, 1) := by decide +kernel
theorem dX6_digit_43 : decode cX6_digit 43 = .ok (.iload_n 1, 1) := by decide +kernel
theorem dX6_digit_44 : decode cX6_digit 44 = .ok (.i2l, 1) := by decide +kernel
theorem dX6_digit_45 : decode cX6_digit 45 = .ok (.iload_n 2, 1) := by decide +kernel
theorem dX6_digit_46 : decode cX6_digit 46 = .ok (.i2l, 1) := by decide +kernel
theorem dX6_digit_47 : decode cX6_digit 47 = .ok (.invokestatic 92, 3) := by decide +kernel
theorem dX6_digit_50 : decode cX6_digit 50 = .ok (.ifCond .eq 7, 3) := by decide +kernel
theorem dX6_digit_53 : decode cX6_digit 53 = .ok (.iconst 1, 1) := by decide +kernel
theorem dX6_digit_54 : decode cX6_digit 54 = .ok (.goto 4, 3) := by decide +kernel
theorem dX6_digit_57 : decode cX6_digit 57 = .ok (.iconst 0, 1) := by decide +kernel
theorem dX6_digit_58 : decode cX6_digit 58 = .ok (.invokevirtual 131, 3) := by decide +kernel
theorem dX6_digit_61 : decode cX6_digit 61 = .ok (.aload_n 0, 1) := by decide +kernel
theorem dX6_digit_62 : decode cX6_digit 62 = .ok (.getfield 125, 3) := by decide +kernel
theorem dX6_digit_65 : decode cX6_digit 65 = .ok (.ifCond .eq 7, 3) := by decide +kernel
theorem dX6_digit_68 : decode cX6_digit 68 = .ok (.iload_n 3, 1) := by decide +kernel
theorem dX6_digit_69 : decode cX6_digit 69 = .ok (.goto 4, 3) := by decide +kernel
theorem dX6_digit_72 : decode cX6_digit 72 = .ok (.iload_n 1, 1) := by decide +kernel
theorem dX6_digit_73 : decode cX6_digit 73 = .ok (.ireturn, 1) := by decide +kernel
theorem dX6_cellRead_0 : decode cX6_cellRead 0 = .ok (.aload_n 0, 1) := by decide +kernel
theorem dX6_cellRead_1 : decode cX6_cellRead 1 = .ok (.iconst 0, 1) := by decide +kernel
theorem dX6_cellRead_2 : decode cX6_cellRead 2 = .ok (.iconst 1, 1) := by decide +kernel
theorem dX6_cellRead_3 : decode cX6_cellRead 3 = .ok (.invokevirtual 135, 3) := by decide +kernel
theorem dX6_cellRead_6 : decode cX6_cellRead 6 = .ok (.istore_n 1, 1) := by decide +kernel
theorem dX6_cellRead_7 : decode cX6_cellRead 7 = .ok (.bipush 10, 2) := by decide +kernel
theorem dX6_cellRead_9 : decode cX6_cellRead 9 = .ok (.iload_n 1, 1) := by decide +kernel
theorem dX6_cellRead_10 : decode cX6_cellRead 10 = .ok (.imul, 1) := by decide +kernel
theorem dX6_cellRead_11 : decode cX6_cellRead 11 = .ok (.aload_n 0, 1) := by decide +kernel
theorem dX6_cellRead_12 : decode cX6_cellRead 12 = .ok (.iconst 0, 1) := by decide +kernel
theorem dX6_cellRead_13 : decode cX6_cellRead 13 = .ok (.iload_n 1, 1) := by decide +kernel
theorem dX6_cellRead_14 : decode cX6_cellRead 14 = .ok (.iconst 1, 1) := by decide +kernel
theorem dX6_cellRead_15 : decode cX6_cellRead 15 = .ok (.if_icmp .ne 7, 3) := by decide +kernel
theorem dX6_cellRead_18 : decode cX6_cellRead 18 = .ok (.iconst 5, 1) := by decide +kernel
theorem dX6_cellRead_19 : decode cX6_cellRead 19 = .ok (.goto 5, 3) := by decide +kernel
theorem dX6_cellRead_22 : decode cX6_cellRead 22 = .ok (.bipush 9, 2) := by decide +kernel
theorem dX6_cellRead_24 : decode cX6_cellRead 24 = .ok (.invokevirtual 135, 3) := by decide +kernel
theorem dX6_cellRead_27 : decode cX6_cellRead 27 = .ok (.iadd, 1) := by decide +kernel
theorem dX6_cellRead_28 : decode cX6_cellRead 28 = .ok (.ireturn, 1) := by decide +kernel
theorem dX6_twoRead_0 : decode cX6_twoRead 0 = .ok (.aload_n 0, 1) := by decide +kernel
theorem dX6_twoRead_1 : decode cX6_twoRead 1 = .ok (.iconst 0, 1) := by decide +kernel
theorem dX6_twoRead_2 : decode cX6_twoRead 2 = .ok (.bipush 9, 2) := by decide +kernel
theorem dX6_twoRead_4 : decode cX6_twoRead 4 = .ok (.invokevirtual 135, 3) := by decide +kernel
theorem dX6_twoRead_7 : decode cX6_twoRead 7 = .ok (.istore_n 2, 1) := by decide +kernel
theorem dX6_twoRead_8 : decode cX6_twoRead 8 = .ok (.bipush 10, 2) := by decide +kernel
theorem dX6_twoRead_10 : decode cX6_twoRead 10 = .ok (.iload_n 2, 1) := by decide +kernel
theorem dX6_twoRead_11 : decode cX6_twoRead 11 = .ok (.imul, 1) := by decide +kernel
theorem dX6_twoRead_12 : decode cX6_twoRead 12 = .ok (.aload_n 0, 1) := by decide +kernel
theorem dX6_twoRead_13 : decode cX6_twoRead 13 = .ok (.iload_n 2, 1) := by decide +kernel
theorem dX6_twoRead_14 : decode cX6_twoRead 14 = .ok (.ifCond .ne 7, 3) := by decide +kernel
theorem dX6_twoRead_17 : decode cX6_twoRead 17 = .ok (.iload_n 1, 1) := by decide +kernel
theorem dX6_twoRead_18 : decode cX6_twoRead 18 = .ok (.goto 4, 3) := by decide +kernel
theorem dX6_twoRead_21 : decode cX6_twoRead 21 = .ok (.iconst 0, 1) := by decide +kernel
theorem dX6_twoRead_22 : decode cX6_twoRead 22 = .ok (.bipush 9, 2) := by decide +kernel
theorem dX6_twoRead_24 : decode cX6_twoRead 24 = .ok (.invokevirtual 135, 3) := by decide +kernel
theorem dX6_twoRead_27 : decode cX6_twoRead 27 = .ok (.iadd, 1) := by decide +kernel
theorem dX6_twoRead_28 : decode cX6_twoRead 28 = .ok (.ireturn, 1) := by decide +kernel
theorem dX6_doIt_0 : decode cX6_doIt 0 = .ok (.aload_n 0, 1) := by decide +kernel
theorem dX6_doIt_1 : decode cX6_doIt 1 = .ok (.dup, 1) := by decide +kernel
theorem dX6_doIt_2 : decode cX6_doIt 2 = .ok (.getfield 138, 3) := by decide +kernel
theorem dX6_doIt_5 : decode cX6_doIt 5 = .ok (.aload_n 0, 1) := by decide +kernel
theorem dX6_doIt_6 : decode cX6_doIt 6 = .ok (.getfield 125, 3) := by decide +kernel
theorem dX6_doIt_9 : decode cX6_doIt 9 = .ok (.ifCond .eq 11, 3) := by decide +kernel
theorem dX6_doIt_12 : decode cX6_doIt 12 = .ok (.iload_n 1, 1) := by decide +kernel
theorem dX6_doIt_13 : decode cX6_doIt 13 = .ok (.ifCond .ne 7, 3) := by decide +kernel
theorem dX6_doIt_16 : decode cX6_doIt 16 = .ok (.iconst 1, 1) := by decide +kernel
theorem dX6_doIt_17 : decode cX6_doIt 17 = .ok (.goto 4, 3) := by decide +kernel
theorem dX6_doIt_20 : decode cX6_doIt 20 = .ok (.iconst 0, 1) := by decide +kernel
theorem dX6_doIt_21 : decode cX6_doIt 21 = .ok (.iadd, 1) := by decide +kernel
theorem dX6_doIt_22 : decode cX6_doIt 22 = .ok (.putfield 138, 3) := by decide +kernel
theorem dX6_doIt_25 : decode cX6_doIt 25 = .ok (.return_, 1) := by decide +kernel
theorem dX6_readWrite_0 : decode cX6_readWrite 0 = .ok (.aload_n 0, 1) := by decide +kernel
theorem dX6_readWrite_1 : decode cX6_readWrite 1 = .ok (.invokevirtual 141, 3) := by decide +kernel
theorem dX6_readWrite_4 : decode cX6_readWrite 4 = .ok (.istore_n 2, 1) := by decide +kernel
theorem dX6_readWrite_5 : decode cX6_readWrite 5 = .ok (.aload_n 0, 1) := by decide +kernel
theorem dX6_readWrite_6 : decode cX6_readWrite 6 = .ok (.iconst 0, 1) := by decide +kernel
theorem dX6_readWrite_7 : decode cX6_readWrite 7 = .ok (.invokevirtual 145, 3) := by decide +kernel
theorem dX6_readWrite_10 : decode cX6_readWrite 10 = .ok (.istore_n 3, 1) := by decide +kernel
theorem dX6_readWrite_11 : decode cX6_readWrite 11 = .ok (.aload_n 0, 1) := by decide +kernel
theorem dX6_readWrite_12 : decode cX6_readWrite 12 = .ok (.getfield 13, 3) := by decide +kernel
theorem dX6_readWrite_15 : decode cX6_readWrite 15 = .ok (.iload_n 1, 1) := by decide +kernel
theorem dX6_readWrite_16 : decode cX6_readWrite 16 = .ok (.iload_n 2, 1) := by decide +kernel
theorem dX6_readWrite_17 : decode cX6_readWrite 17 = .ok (.invokestatic 99, 3) := by decide +kernel
theorem dX6_readWrite_20 : decode cX6_readWrite 20 = .ok (.ifCond .ne 7, 3) := by decide +kernel
theorem dX6_readWrite_23 : decode cX6_readWrite 23 = .ok (.iconst 1, 1) := by decide +kernel
theorem dX6_readWrite_24 : decode cX6_readWrite 24 = .ok (.goto 4, 3) := by decide +kernel
theorem dX6_readWrite_27 : decode cX6_readWrite 27 = .ok (.iconst 0, 1) := by decide +kernel
theorem dX6_readWrite_28 : decode cX6_readWrite 28 = .ok (.istore 4, 2) := by decide +kernel
theorem dX6_readWrite_30 : decode cX6_readWrite 30 = .ok (.aload_n 0, 1) := by decide +kernel
theorem dX6_readWrite_31 : decode cX6_readWrite 31 = .ok (.iload 4, 2) := by decide +kernel
theorem dX6_readWrite_33 : decode cX6_readWrite 33 = .ok (.invokevirtual 149, 3) := by decide +kernel
theorem dX6_readWrite_36 : decode cX6_readWrite 36 = .ok (.aload_n 0, 1) := by decide +kernel
theorem dX6_readWrite_37 : decode cX6_readWrite 37 = .ok (.getfield 125, 3) := by decide +kernel
theorem dX6_readWrite_40 : decode cX6_readWrite 40 = .ok (.ifCond .eq 19, 3) := by decide +kernel
theorem dX6_readWrite_43 : decode cX6_readWrite 43 = .ok (.iload 4, 2) := by decide +kernel
theorem dX6_readWrite_45 : decode cX6_readWrite 45 = .ok (.ifCond .eq 14, 3) := by decide +kernel
theorem dX6_readWrite_48 : decode cX6_readWrite 48 = .ok (.aload_n 0, 1) := by decide +kernel
theorem dX6_readWrite_49 : decode cX6_readWrite 49 = .ok (.getfield 13, 3) := by decide +kernel
theorem dX6_readWrite_52 : decode cX6_readWrite 52 = .ok (.iload_n 1, 1) := by decide +kernel
theorem dX6_readWrite_53 : decode cX6_readWrite 53 = .ok (.iload_n 2, 1) := by decide +kernel
theorem dX6_readWrite_54 : decode cX6_readWrite 54 = .ok (.iload_n 3, 1) := by decide +kernel
theorem dX6_readWrite_55 : decode cX6_readWrite 55 = .ok (.invokestatic 152, 3) := by decide +kernel
theorem dX6_readWrite_58 : decode cX6_readWrite 58 = .ok (.pop, 1) := by decide +kernel
theorem dX6_readWrite_59 : decode cX6_readWrite 59 = .ok (.return_, 1) := by decide +kernel
theorem dX6_readRegret_0 : decode cX6_readRegret 0 = .ok (.aload_n 0, 1) := by decide +kernel
theorem dX6_readRegret_1 : decode cX6_readRegret 1 = .ok (.invokevirtual 141, 3) := by decide +kernel
theorem dX6_readRegret_4 : decode cX6_readRegret 4 = .ok (.istore_n 2, 1) := by decide +kernel
theorem dX6_readRegret_5 : decode cX6_readRegret 5 = .ok (.aload_n 0, 1) := by decide +kernel
theorem dX6_readRegret_6 : decode cX6_readRegret 6 = .ok (.iconst 1, 1) := by decide +kernel
theorem dX6_readRegret_7 : decode cX6_readRegret 7 = .ok (.invokevirtual 145, 3) := by decide +kernel
theorem dX6_readRegret_10 : decode cX6_readRegret 10 = .ok (.istore_n 3, 1) := by decide +kernel
theorem dX6_readRegret_11 : decode cX6_readRegret 11 = .ok (.aload_n 0, 1) := by decide +kernel
theorem dX6_readRegret_12 : decode cX6_readRegret 12 = .ok (.getfield 13, 3) := by decide +kernel
theorem dX6_readRegret_15 : decode cX6_readRegret 15 = .ok (.iload_n 1, 1) := by decide +kernel
theorem dX6_readRegret_16 : decode cX6_readRegret 16 = .ok (.iload_n 2, 1) := by decide +kernel
theorem dX6_readRegret_17 : decode cX6_readRegret 17 = .ok (.invokestatic 156, 3) := by decide +kernel
theorem dX6_readRegret_20 : decode cX6_readRegret 20 = .ok (.istore 4, 2) := by decide +kernel
theorem dX6_readRegret_22 : decode cX6_readRegret 22 = .ok (.aload_n 0, 1) := by decide +kernel
theorem dX6_readRegret_23 : decode cX6_readRegret 23 = .ok (.iload 4, 2) := by decide +kernel
theorem dX6_readRegret_25 : decode cX6_readRegret 25 = .ok (.invokevirtual 149, 3) := by decide +kernel
theorem dX6_readRegret_28 : decode cX6_readRegret 28 = .ok (.aload_n 0, 1) := by decide +kernel
theorem dX6_readRegret_29 : decode cX6_readRegret 29 = .ok (.getfield 125, 3) := by decide +kernel
theorem dX6_readRegret_32 : decode cX6_readRegret 32 = .ok (.ifCond .eq 19, 3) := by decide +kernel
theorem dX6_readRegret_35 : decode cX6_readRegret 35 = .ok (.iload 4, 2) := by decide +kernel
theorem dX6_readRegret_37 : decode cX6_readRegret 37 = .ok (.ifCond .eq 14, 3) := by decide +kernel
theorem dX6_readRegret_40 : decode cX6_readRegret 40 = .ok (.aload_n 0, 1) := by decide +kernel
theorem dX6_readRegret_41 : decode cX6_readRegret 41 = .ok (.getfield 13, 3) := by decide +kernel
theorem dX6_readRegret_44 : decode cX6_readRegret 44 = .ok (.iload_n 1, 1) := by decide +kernel
theorem dX6_readRegret_45 : decode cX6_readRegret 45 = .ok (.iload_n 2, 1) := by decide +kernel
theorem dX6_readRegret_46 : decode cX6_readRegret 46 = .ok (.iload_n 3, 1) := by decide +kernel
theorem dX6_readRegret_47 : decode cX6_readRegret 47 = .ok (.invokestatic 160, 3) := by decide +kernel
theorem dX6_readRegret_50 : decode cX6_readRegret 50 = .ok (.pop, 1) := by decide +kernel
theorem dX6_readRegret_51 : decode cX6_readRegret 51 = .ok (.return_, 1) := by decide +kernel
theorem dX6_readBack_0 : decode cX6_readBack 0 = .ok (.aload_n 0, 1) := by decide +kernel
theorem dX6_readBack_1 : decode cX6_readBack 1 = .ok (.iconst 0, 1) := by decide +kernel
theorem dX6_readBack_2 : decode cX6_readBack 2 = .ok (.iconst 3, 1) := by decide +kernel
theorem dX6_readBack_3 : decode cX6_readBack 3 = .ok (.invokevirtual 135, 3) := by decide +kernel
theorem dX6_readBack_6 : decode cX6_readBack 6 = .ok (.istore_n 2, 1) := by decide +kernel
theorem dX6_readBack_7 : decode cX6_readBack 7 = .ok (.aload_n 0, 1) := by decide +kernel
theorem dX6_readBack_8 : decode cX6_readBack 8 = .ok (.getfield 13, 3) := by decide +kernel
theorem dX6_readBack_11 : decode cX6_readBack 11 = .ok (.iload_n 1, 1) := by decide +kernel
theorem dX6_readBack_12 : decode cX6_readBack 12 = .ok (.iload_n 2, 1) := by decide +kernel
theorem dX6_readBack_13 : decode cX6_readBack 13 = .ok (.invokestatic 163, 3) := by decide +kernel
theorem dX6_readBack_16 : decode cX6_readBack 16 = .ok (.ifCond .eq 18, 3) := by decide +kernel
theorem dX6_readBack_19 : decode cX6_readBack 19 = .ok (.aload_n 0, 1) := by decide +kernel
theorem dX6_readBack_20 : decode cX6_readBack 20 = .ok (.getfield 13, 3) := by decide +kernel
theorem dX6_readBack_23 : decode cX6_readBack 23 = .ok (.iload_n 1, 1) := by decide +kernel
theorem dX6_readBack_24 : decode cX6_readBack 24 = .ok (.invokestatic 81, 3) := by decide +kernel
theorem dX6_readBack_27 : decode cX6_readBack 27 = .ok (.ifCond .ne 7, 3) := by decide +kernel
theorem dX6_readBack_30 : decode cX6_readBack 30 = .ok (.iconst 1, 1) := by decide +kernel
theorem dX6_readBack_31 : decode cX6_readBack 31 = .ok (.goto 4, 3) := by decide +kernel
theorem dX6_readBack_34 : decode cX6_readBack 34 = .ok (.iconst 0, 1) := by decide +kernel
theorem dX6_readBack_35 : decode cX6_readBack 35 = .ok (.istore_n 3, 1) := by decide +kernel
theorem dX6_readBack_36 : decode cX6_readBack 36 = .ok (.aload_n 0, 1) := by decide +kernel
theorem dX6_readBack_37 : decode cX6_readBack 37 = .ok (.iload_n 3, 1) := by decide +kernel
theorem dX6_readBack_38 : decode cX6_readBack 38 = .ok (.invokevirtual 149, 3) := by decide +kernel
theorem dX6_readBack_41 : decode cX6_readBack 41 = .ok (.aload_n 0, 1) := by decide +kernel
theorem dX6_readBack_42 : decode cX6_readBack 42 = .ok (.getfield 125, 3) := by decide +kernel
theorem dX6_readBack_45 : decode cX6_readBack 45 = .ok (.ifCond .eq 17, 3) := by decide +kernel
theorem dX6_readBack_48 : decode cX6_readBack 48 = .ok (.iload_n 3, 1) := by decide +kernel
theorem dX6_readBack_49 : decode cX6_readBack 49 = .ok (.ifCond .eq 13, 3) := by decide +kernel
theorem dX6_readBack_52 : decode cX6_readBack 52 = .ok (.aload_n 0, 1) := by decide +kernel
theorem dX6_readBack_53 : decode cX6_readBack 53 = .ok (.getfield 13, 3) := by decide +kernel
theorem dX6_readBack_56 : decode cX6_readBack 56 = .ok (.iload_n 1, 1) := by decide +kernel
theorem dX6_readBack_57 : decode cX6_readBack 57 = .ok (.iload_n 2, 1) := by decide +kernel
theorem dX6_readBack_58 : decode cX6_readBack 58 = .ok (.invokestatic 166, 3) := by decide +kernel
theorem dX6_readBack_61 : decode cX6_readBack 61 = .ok (.pop, 1) := by decide +kernel
theorem dX6_readBack_62 : decode cX6_readBack 62 = .ok (.return_, 1) := by decide +kernel
theorem dX6_readBare_0 : decode cX6_readBare 0 = .ok (.iload_n 1, 1) := by decide +kernel
theorem dX6_readBare_1 : decode cX6_readBare 1 = .ok (.bipush 98, 2) := by decide +kernel
theorem dX6_readBare_3 : decode cX6_readBare 3 = .ok (.if_icmp .ne 14, 3) := by decide +kernel
theorem dX6_readBare_6 : decode cX6_readBare 6 = .ok (.aload_n 0, 1) := by decide +kernel
theorem dX6_readBare_7 : decode cX6_readBare 7 = .ok (.getfield 13, 3) := by decide +kernel
theorem dX6_readBare_10 : decode cX6_readBare 10 = .ok (.iload_n 2, 1) := by decide +kernel
theorem dX6_readBare_11 : decode cX6_readBare 11 = .ok (.invokestatic 169, 3) := by decide +kernel
theorem dX6_readBare_14 : decode cX6_readBare 14 = .ok (.goto 53, 3) := by decide +kernel
theorem dX6_readBare_17 : decode cX6_readBare 17 = .ok (.iload_n 1, 1) := by decide +kernel
theorem dX6_readBare_18 : decode cX6_readBare 18 = .ok (.bipush 112, 2) := by decide +kernel
theorem dX6_readBare_20 : decode cX6_readBare 20 = .ok (.if_icmp .ne 14, 3) := by decide +kernel
theorem dX6_readBare_23 : decode cX6_readBare 23 = .ok (.aload_n 0, 1) := by decide +kernel
theorem dX6_readBare_24 : decode cX6_readBare 24 = .ok (.getfield 13, 3) := by decide +kernel
theorem dX6_readBare_27 : decode cX6_readBare 27 = .ok (.iload_n 2, 1) := by decide +kernel
theorem dX6_readBare_28 : decode cX6_readBare 28 = .ok (.invokestatic 172, 3) := by decide +kernel
theorem dX6_readBare_31 : decode cX6_readBare 31 = .ok (.goto 36, 3) := by decide +kernel
theorem dX6_readBare_34 : decode cX6_readBare 34 = .ok (.iload_n 1, 1) := by decide +kernel
theorem dX6_readBare_35 : decode cX6_readBare 35 = .ok (.bipush 100, 2) := by decide +kernel
theorem dX6_readBare_37 : decode cX6_readBare 37 = .ok (.if_icmp .ne 14, 3) := by decide +kernel
theorem dX6_readBare_40 : decode cX6_readBare 40 = .ok (.aload_n 0, 1) := by decide +kernel
theorem dX6_readBare_41 : decode cX6_readBare 41 = .ok (.getfield 13, 3) := by decide +kernel
theorem dX6_readBare_44 : decode cX6_readBare 44 = .ok (.iload_n 2, 1) := by decide +kernel
theorem dX6_readBare_45 : decode cX6_readBare 45 = .ok (.invokestatic 89, 3) := by decide +kernel
theorem dX6_readBare_48 : decode cX6_readBare 48 = .ok (.goto 19, 3) := by decide +kernel
theorem dX6_readBare_51 : decode cX6_readBare 51 = .ok (.aload_n 0, 1) := by decide +kernel
theorem dX6_readBare_52 : decode cX6_readBare 52 = .ok (.getfield 13, 3) := by decide +kernel
theorem dX6_readBare_55 : decode cX6_readBare 55 = .ok (.iload_n 2, 1) := by decide +kernel
theorem dX6_readBare_56 : decode cX6_readBare 56 = .ok (.invokestatic 69, 3) := by decide +kernel
theorem dX6_readBare_59 : decode cX6_readBare 59 = .ok (.ifCond .le 7, 3) := by decide +kernel
theorem dX6_readBare_62 : decode cX6_readBare 62 = .ok (.iconst 1, 1) := by decide +kernel
theorem dX6_readBare_63 : decode cX6_readBare 63 = .ok (.goto 4, 3) := by decide +kernel
theorem dX6_readBare_66 : decode cX6_readBare 66 = .ok (.iconst 0, 1) := by decide +kernel
theorem dX6_readBare_67 : decode cX6_readBare 67 = .ok (.istore_n 3, 1) := by decide +kernel
theorem dX6_readBare_68 : decode cX6_readBare 68 = .ok (.aload_n 0, 1) := by decide +kernel
theorem dX6_readBare_69 : decode cX6_readBare 69 = .ok (.iload_n 3, 1) := by decide +kernel
theorem dX6_readBare_70 : decode cX6_readBare 70 = .ok (.invokevirtual 149, 3) := by decide +kernel
theorem dX6_readBare_73 : decode cX6_readBare 73 = .ok (.aload_n 0, 1) := by decide +kernel
theorem dX6_readBare_74 : decode cX6_readBare 74 = .ok (.getfield 125, 3) := by decide +kernel
theorem dX6_readBare_77 : decode cX6_readBare 77 = .ok (.ifCond .eq 7, 3) := by decide +kernel
theorem dX6_readBare_80 : decode cX6_readBare 80 = .ok (.iload_n 3, 1) := by decide +kernel
theorem dX6_readBare_81 : decode cX6_readBare 81 = .ok (.ifCond .ne 4, 3) := by decide +kernel
theorem dX6_readBare_84 : decode cX6_readBare 84 = .ok (.return_, 1) := by decide +kernel
theorem dX6_readBare_85 : decode cX6_readBare 85 = .ok (.iload_n 1, 1) := by decide +kernel
theorem dX6_readBare_86 : decode cX6_readBare 86 = .ok (.bipush 98, 2) := by decide +kernel
theorem dX6_readBare_88 : decode cX6_readBare 88 = .ok (.if_icmp .ne 14, 3) := by decide +kernel
theorem dX6_readBare_91 : decode cX6_readBare 91 = .ok (.aload_n 0, 1) := by decide +kernel
theorem dX6_readBare_92 : decode cX6_readBare 92 = .ok (.getfield 13, 3) := by decide +kernel
theorem dX6_readBare_95 : decode cX6_readBare 95 = .ok (.iload_n 2, 1) := by decide +kernel
theorem dX6_readBare_96 : decode cX6_readBare 96 = .ok (.invokestatic 175, 3) := by decide +kernel
theorem dX6_readBare_99 : decode cX6_readBare 99 = .ok (.goto 48, 3) := by decide +kernel
theorem dX6_readBare_102 : decode cX6_readBare 102 = .ok (.iload_n 1, 1) := by decide +kernel
theorem dX6_readBare_103 : decode cX6_readBare 103 = .ok (.bipush 112, 2) := by decide +kernel
theorem dX6_readBare_105 : decode cX6_readBare 105 = .ok (.if_icmp .ne 15, 3) := by decide +kernel
theorem dX6_readBare_108 : decode cX6_readBare 108 = .ok (.aload_n 0, 1) := by decide +kernel
theorem dX6_readBare_109 : decode cX6_readBare 109 = .ok (.getfield 13, 3) := by decide +kernel
theorem dX6_readBare_112 : decode cX6_readBare 112 = .ok (.iload_n 2, 1) := by decide +kernel
theorem dX6_readBare_113 : decode cX6_readBare 113 = .ok (.invokestatic 178, 3) := by decide +kernel
theorem dX6_readBare_116 : decode cX6_readBare 116 = .ok (.pop, 1) := by decide +kernel
theorem dX6_readBare_117 : decode cX6_readBare 117 = .ok (.goto 30, 3) := by decide +kernel
theorem dX6_readBare_120 : decode cX6_readBare 120 = .ok (.iload_n 1, 1) := by decide +kernel
theorem dX6_readBare_121 : decode cX6_readBare 121 = .ok (.bipush 100, 2) := by decide +kernel
theorem dX6_readBare_123 : decode cX6_readBare 123 = .ok (.if_icmp .ne 15, 3) := by decide +kernel
theorem dX6_readBare_126 : decode cX6_readBare 126 = .ok (.aload_n 0, 1) := by decide +kernel
theorem dX6_readBare_127 : decode cX6_readBare 127 = .ok (.getfield 13, 3) := by decide +kernel
theorem dX6_readBare_130 : decode cX6_readBare 130 = .ok (.iload_n 2, 1) := by decide +kernel
theorem dX6_readBare_131 : decode cX6_readBare 131 = .ok (.invokestatic 181, 3) := by decide +kernel
theorem dX6_readBare_134 : decode cX6_readBare 134 = .ok (.pop, 1) := by decide +kernel
theorem dX6_readBare_135 : decode cX6_readBare 135 = .ok (.goto 12, 3) := by decide +kernel
theorem dX6_readBare_138 : decode cX6_readBare 138 = .ok (.aload_n 0, 1) := by decide +kernel
theorem dX6_readBare_139 : decode cX6_readBare 139 = .ok (.getfield 13, 3) := by decide +kernel
theorem dX6_readBare_142 : decode cX6_readBare 142 = .ok (.iload_n 2, 1) := by decide +kernel
theorem dX6_readBare_143 : decode cX6_readBare 143 = .ok (.invokestatic 184, 3) := by decide +kernel
theorem dX6_readBare_146 : decode cX6_readBare 146 = .ok (.pop, 1) := by decide +kernel
theorem dX6_readBare_147 : decode cX6_readBare 147 = .ok (.return_, 1) := by decide +kernel
theorem dX6_readCommand_0 : decode cX6_readCommand 0 = .ok (.aload_n 0, 1) := by decide +kernel
theorem dX6_readCommand_1 : decode cX6_readCommand 1 = .ok (.bipush 109, 2) := by decide +kernel
theorem dX6_readCommand_3 : decode cX6_readCommand 3 = .ok (.invokevirtual 187, 3) := by decide +kernel
theorem dX6_readCommand_6 : decode cX6_readCommand 6 = .ok (.ifCond .eq 41, 3) := by decide +kernel
theorem dX6_readCommand_9 : decode cX6_readCommand 9 = .ok (.aload_n 0, 1) := by decide +kernel
theorem dX6_readCommand_10 : decode cX6_readCommand 10 = .ok (.iconst 1, 1) := by decide +kernel
theorem dX6_readCommand_11 : decode cX6_readCommand 11 = .ok (.invokevirtual 131, 3) := by decide +kernel
theorem dX6_readCommand_14 : decode cX6_readCommand 14 = .ok (.aload_n 0, 1) := by decide +kernel
theorem dX6_readCommand_15 : decode cX6_readCommand 15 = .ok (.iconst 0, 1) := by decide +kernel
theorem dX6_readCommand_16 : decode cX6_readCommand 16 = .ok (.iconst 3, 1) := by decide +kernel
theorem dX6_readCommand_17 : decode cX6_readCommand 17 = .ok (.invokevirtual 135, 3) := by decide +kernel
theorem dX6_readCommand_20 : decode cX6_readCommand 20 = .ok (.istore_n 1, 1) := by decide +kernel
theorem dX6_readCommand_21 : decode cX6_readCommand 21 = .ok (.aload_n 0, 1) := by decide +kernel
theorem dX6_readCommand_22 : decode cX6_readCommand 22 = .ok (.getfield 13, 3) := by decide +kernel
theorem dX6_readCommand_25 : decode cX6_readCommand 25 = .ok (.bipush 32, 2) := by decide +kernel
theorem dX6_readCommand_27 : decode cX6_readCommand 27 = .ok (.aload_n 0, 1) := by decide +kernel
theorem dX6_readCommand_28 : decode cX6_readCommand 28 = .ok (.getfield 125, 3) := by decide +kernel
theorem dX6_readCommand_31 : decode cX6_readCommand 31 = .ok (.ifCond .eq 7, 3) := by decide +kernel
theorem dX6_readCommand_34 : decode cX6_readCommand 34 = .ok (.iload_n 1, 1) := by decide +kernel
theorem dX6_readCommand_35 : decode cX6_readCommand 35 = .ok (.goto 10, 3) := by decide +kernel
theorem dX6_readCommand_38 : decode cX6_readCommand 38 = .ok (.aload_n 0, 1) := by decide +kernel
theorem dX6_readCommand_39 : decode cX6_readCommand 39 = .ok (.getfield 13, 3) := by decide +kernel
theorem dX6_readCommand_42 : decode cX6_readCommand 42 = .ok (.bipush 32, 2) := by decide +kernel
theorem dX6_readCommand_44 : decode cX6_readCommand 44 = .ok (.iaload, 1) := by decide +kernel
theorem dX6_readCommand_45 : decode cX6_readCommand 45 = .ok (.iastore, 1) := by decide +kernel
theorem dX6_readCommand_46 : decode cX6_readCommand 46 = .ok (.return_, 1) := by decide +kernel
theorem dX6_readCommand_47 : decode cX6_readCommand 47 = .ok (.aload_n 0, 1) := by decide +kernel
theorem dX6_readCommand_48 : decode cX6_readCommand 48 = .ok (.getfield 122, 3) := by decide +kernel
theorem dX6_readCommand_51 : decode cX6_readCommand 51 = .ok (.aload_n 0, 1) := by decide +kernel
theorem dX6_readCommand_52 : decode cX6_readCommand 52 = .ok (.getfield 115, 3) := by decide +kernel
theorem dX6_readCommand_55 : decode cX6_readCommand 55 = .ok (.if_icmp .ge 15, 3) := by decide +kernel
theorem dX6_readCommand_58 : decode cX6_readCommand 58 = .ok (.aload_n 0, 1) := by decide +kernel
theorem dX6_readCommand_59 : decode cX6_readCommand 59 = .ok (.getfield 7, 3) := by decide +kernel
theorem dX6_readCommand_62 : decode cX6_readCommand 62 = .ok (.aload_n 0, 1) := by decide +kernel
theorem dX6_readCommand_63 : decode cX6_readCommand 63 = .ok (.getfield 122, 3) := by decide +kernel
theorem dX6_readCommand_66 : decode cX6_readCommand 66 = .ok (.iaload, 1) := by decide +kernel
theorem dX6_readCommand_67 : decode cX6_readCommand 67 = .ok (.goto 4, 3) := by decide +kernel
theorem dX6_readCommand_70 : decode cX6_readCommand 70 = .ok (.iconst 0, 1) := by decide +kernel
theorem dX6_readCommand_71 : decode cX6_readCommand 71 = .ok (.istore_n 1, 1) := by decide +kernel
theorem dX6_readCommand_72 : decode cX6_readCommand 72 = .ok (.aload_n 0, 1) := by decide +kernel
theorem dX6_readCommand_73 : decode cX6_readCommand 73 = .ok (.aload_n 0, 1) := by decide +kernel
theorem dX6_readCommand_74 : decode cX6_readCommand 74 = .ok (.bipush 98, 2) := by decide +kernel
theorem dX6_readCommand_76 : decode cX6_readCommand 76 = .ok (.invokevirtual 187, 3) := by decide +kernel
theorem dX6_readCommand_79 : decode cX6_readCommand 79 = .ok (.ifCond .ne 57, 3) := by decide +kernel
theorem dX6_readCommand_82 : decode cX6_readCommand 82 = .ok (.aload_n 0, 1) := by decide +kernel
theorem dX6_readCommand_83 : decode cX6_readCommand 83 = .ok (.bipush 115, 2) := by decide +kernel
theorem dX6_readCommand_85 : decode cX6_readCommand 85 = .ok (.invokevirtual 187, 3) := by decide +kernel
theorem dX6_readCommand_88 : decode cX6_readCommand 88 = .ok (.ifCond .ne 48, 3) := by decide +kernel
theorem dX6_readCommand_91 : decode cX6_readCommand 91 = .ok (.aload_n 0, 1) := by decide +kernel
theorem dX6_readCommand_92 : decode cX6_readCommand 92 = .ok (.bipush 112, 2) := by decide +kernel
theorem dX6_readCommand_94 : decode cX6_readCommand 94 = .ok (.invokevirtual 187, 3) := by decide +kernel
theorem dX6_readCommand_97 : decode cX6_readCommand 97 = .ok (.ifCond .ne 39, 3) := by decide +kernel
theorem dX6_readCommand_100 : decode cX6_readCommand 100 = .ok (.aload_n 0, 1) := by decide +kernel
theorem dX6_readCommand_101 : decode cX6_readCommand 101 = .ok (.bipush 114, 2) := by decide +kernel
theorem dX6_readCommand_103 : decode cX6_readCommand 103 = .ok (.invokevirtual 187, 3) := by decide +kernel
theorem dX6_readCommand_106 : decode cX6_readCommand 106 = .ok (.ifCond .ne 30, 3) := by decide +kernel
theorem dX6_readCommand_109 : decode cX6_readCommand 109 = .ok (.aload_n 0, 1) := by decide +kernel
theorem dX6_readCommand_110 : decode cX6_readCommand 110 = .ok (.bipush 103, 2) := by decide +kernel
theorem dX6_readCommand_112 : decode cX6_readCommand 112 = .ok (.invokevirtual 187, 3) := by decide +kernel
theorem dX6_readCommand_115 : decode cX6_readCommand 115 = .ok (.ifCond .ne 21, 3) := by decide +kernel
theorem dX6_readCommand_118 : decode cX6_readCommand 118 = .ok (.aload_n 0, 1) := by decide +kernel
theorem dX6_readCommand_119 : decode cX6_readCommand 119 = .ok (.bipush 100, 2) := by decide +kernel
theorem dX6_readCommand_121 : decode cX6_readCommand 121 = .ok (.invokevirtual 187, 3) := by decide +kernel
theorem dX6_readCommand_124 : decode cX6_readCommand 124 = .ok (.ifCond .ne 12, 3) := by decide +kernel
theorem dX6_readCommand_127 : decode cX6_readCommand 127 = .ok (.aload_n 0, 1) := by decide +kernel
theorem dX6_readCommand_128 : decode cX6_readCommand 128 = .ok (.bipush 102, 2) := by decide +kernel
theorem dX6_readCommand_130 : decode cX6_readCommand 130 = .ok (.invokevirtual 187, 3) := by decide +kernel
theorem dX6_readCommand_133 : decode cX6_readCommand 133 = .ok (.ifCond .eq 7, 3) := by decide +kernel
theorem dX6_readCommand_136 : decode cX6_readCommand 136 = .ok (.iconst 1, 1) := by decide +kernel
theorem dX6_readCommand_137 : decode cX6_readCommand 137 = .ok (.goto 4, 3) := by decide +kernel
theorem dX6_readCommand_140 : decode cX6_readCommand 140 = .ok (.iconst 0, 1) := by decide +kernel
theorem dX6_readCommand_141 : decode cX6_readCommand 141 = .ok (.invokevirtual 131, 3) := by decide +kernel
theorem dX6_readCommand_144 : decode cX6_readCommand 144 = .ok (.aload_n 0, 1) := by decide +kernel
theorem dX6_readCommand_145 : decode cX6_readCommand 145 = .ok (.iconst 0, 1) := by decide +kernel
theorem dX6_readCommand_146 : decode cX6_readCommand 146 = .ok (.iconst 2, 1) := by decide +kernel
theorem dX6_readCommand_147 : decode cX6_readCommand 147 = .ok (.invokevirtual 135, 3) := by decide +kernel
theorem dX6_readCommand_150 : decode cX6_readCommand 150 = .ok (.istore_n 2, 1) := by decide +kernel
theorem dX6_readCommand_151 : decode cX6_readCommand 151 = .ok (.iload_n 1, 1) := by decide +kernel
theorem dX6_readCommand_152 : decode cX6_readCommand 152 = .ok (.bipush 115, 2) := by decide +kernel
theorem dX6_readCommand_154 : decode cX6_readCommand 154 = .ok (.if_icmp .ne 11, 3) := by decide +kernel
theorem dX6_readCommand_157 : decode cX6_readCommand 157 = .ok (.aload_n 0, 1) := by decide +kernel
theorem dX6_readCommand_158 : decode cX6_readCommand 158 = .ok (.iload_n 2, 1) := by decide +kernel
theorem dX6_readCommand_159 : decode cX6_readCommand 159 = .ok (.invokevirtual 190, 3) := by decide +kernel
theorem dX6_readCommand_162 : decode cX6_readCommand 162 = .ok (.goto 37, 3) := by decide +kernel
theorem dX6_readCommand_165 : decode cX6_readCommand 165 = .ok (.iload_n 1, 1) := by decide +kernel
theorem dX6_readCommand_166 : decode cX6_readCommand 166 = .ok (.bipush 103, 2) := by decide +kernel
theorem dX6_readCommand_168 : decode cX6_readCommand 168 = .ok (.if_icmp .ne 11, 3) := by decide +kernel
theorem dX6_readCommand_171 : decode cX6_readCommand 171 = .ok (.aload_n 0, 1) := by decide +kernel
theorem dX6_readCommand_172 : decode cX6_readCommand 172 = .ok (.iload_n 2, 1) := by decide +kernel
theorem dX6_readCommand_173 : decode cX6_readCommand 173 = .ok (.invokevirtual 193, 3) := by decide +kernel
theorem dX6_readCommand_176 : decode cX6_readCommand 176 = .ok (.goto 23, 3) := by decide +kernel
theorem dX6_readCommand_179 : decode cX6_readCommand 179 = .ok (.iload_n 1, 1) := by decide +kernel
theorem dX6_readCommand_180 : decode cX6_readCommand 180 = .ok (.bipush 114, 2) := by decide +kernel
theorem dX6_readCommand_182 : decode cX6_readCommand 182 = .ok (.if_icmp .ne 11, 3) := by decide +kernel
theorem dX6_readCommand_185 : decode cX6_readCommand 185 = .ok (.aload_n 0, 1) := by decide +kernel
theorem dX6_readCommand_186 : decode cX6_readCommand 186 = .ok (.iload_n 2, 1) := by decide +kernel
theorem dX6_readCommand_187 : decode cX6_readCommand 187 = .ok (.invokevirtual 196, 3) := by decide +kernel
theorem dX6_readCommand_190 : decode cX6_readCommand 190 = .ok (.goto 9, 3) := by decide +kernel
theorem dX6_readCommand_193 : decode cX6_readCommand 193 = .ok (.aload_n 0, 1) := by decide +kernel
theorem dX6_readCommand_194 : decode cX6_readCommand 194 = .ok (.iload_n 1, 1) := by decide +kernel
theorem dX6_readCommand_195 : decode cX6_readCommand 195 = .ok (.iload_n 2, 1) := by decide +kernel
theorem dX6_readCommand_196 : decode cX6_readCommand 196 = .ok (.invokevirtual 199, 3) := by decide +kernel
theorem dX6_readCommand_199 : decode cX6_readCommand 199 = .ok (.return_, 1) := by decide +kernel
theorem dX6_readText_0 : decode cX6_readText 0 = .ok (.aload_n 0, 1) := by decide +kernel
theorem dX6_readText_1 : decode cX6_readText 1 = .ok (.iconst 0, 1) := by decide +kernel
theorem dX6_readText_2 : decode cX6_readText 2 = .ok (.putfield 122, 3) := by decide +kernel
theorem dX6_readText_5 : decode cX6_readText 5 = .ok (.aload_n 0, 1) := by decide +kernel
theorem dX6_readText_6 : decode cX6_readText 6 = .ok (.iconst 1, 1) := by decide +kernel
theorem dX6_readText_7 : decode cX6_readText 7 = .ok (.putfield 125, 3) := by decide +kernel
theorem dX6_readText_10 : decode cX6_readText 10 = .ok (.aload_n 0, 1) := by decide +kernel
theorem dX6_readText_11 : decode cX6_readText 11 = .ok (.iconst 0, 1) := by decide +kernel
theorem dX6_readText_12 : decode cX6_readText 12 = .ok (.putfield 138, 3) := by decide +kernel
theorem dX6_readText_15 : decode cX6_readText 15 = .ok (.aload_n 0, 1) := by decide +kernel
theorem dX6_readText_16 : decode cX6_readText 16 = .ok (.getfield 13, 3) := by decide +kernel
theorem dX6_readText_19 : decode cX6_readText 19 = .ok (.invokestatic 41, 3) := by decide +kernel
theorem dX6_readText_22 : decode cX6_readText 22 = .ok (.aload_n 0, 1) := by decide +kernel
theorem dX6_readText_23 : decode cX6_readText 23 = .ok (.aload_n 0, 1) := by decide +kernel
theorem dX6_readText_24 : decode cX6_readText 24 = .ok (.bipush 87, 2) := by decide +kernel
theorem dX6_readText_26 : decode cX6_readText 26 = .ok (.invokevirtual 187, 3) := by decide +kernel
theorem dX6_readText_29 : decode cX6_readText 29 = .ok (.invokevirtual 131, 3) := by decide +kernel
theorem dX6_readText_32 : decode cX6_readText 32 = .ok (.aload_n 0, 1) := by decide +kernel
theorem dX6_readText_33 : decode cX6_readText 33 = .ok (.getfield 125, 3) := by decide +kernel
theorem dX6_readText_36 : decode cX6_readText 36 = .ok (.ifCond .eq 21, 3) := by decide +kernel
theorem dX6_readText_39 : decode cX6_readText 39 = .ok (.aload_n 0, 1) := by decide +kernel
theorem dX6_readText_40 : decode cX6_readText 40 = .ok (.getfield 122, 3) := by decide +kernel
theorem dX6_readText_43 : decode cX6_readText 43 = .ok (.aload_n 0, 1) := by decide +kernel
theorem dX6_readText_44 : decode cX6_readText 44 = .ok (.getfield 115, 3) := by decide +kernel
theorem dX6_readText_47 : decode cX6_readText 47 = .ok (.if_icmp .ge 10, 3) := by decide +kernel
theorem dX6_readText_50 : decode cX6_readText 50 = .ok (.aload_n 0, 1) := by decide +kernel
theorem dX6_readText_51 : decode cX6_readText 51 = .ok (.invokevirtual 203, 3) := by decide +kernel
theorem dX6_readText_54 : decode cX6_readText 54 = .ok (.goto (-22), 3) := by decide +kernel
theorem dX6_readText_57 : decode cX6_readText 57 = .ok (.aload_n 0, 1) := by decide +kernel
theorem dX6_readText_58 : decode cX6_readText 58 = .ok (.getfield 125, 3) := by decide +kernel
theorem dX6_readText_61 : decode cX6_readText 61 = .ok (.ifCond .eq 7, 3) := by decide +kernel
theorem dX6_readText_64 : decode cX6_readText 64 = .ok (.iconst (-1), 1) := by decide +kernel
theorem dX6_readText_65 : decode cX6_readText 65 = .ok (.goto 7, 3) := by decide +kernel
theorem dX6_readText_68 : decode cX6_readText 68 = .ok (.aload_n 0, 1) := by decide +kernel
theorem dX6_readText_69 : decode cX6_readText 69 = .ok (.getfield 122, 3) := by decide +kernel
theorem dX6_readText_72 : decode cX6_readText 72 = .ok (.ireturn, 1) := by decide +kernel
theorem dX6_errorPosition_0 : decode cX6_errorPosition 0 = .ok (.aload_n 0, 1) := by decide +kernel
theorem dX6_errorPosition_1 : decode cX6_errorPosition 1 = .ok (.iconst 0, 1) := by decide +kernel
theorem dX6_errorPosition_2 : decode cX6_errorPosition 2 = .ok (.putfield 45, 3) := by decide +kernel
theorem dX6_errorPosition_5 : decode cX6_errorPosition 5 = .ok (.aload_n 0, 1) := by decide +kernel
theorem dX6_errorPosition_6 : decode cX6_errorPosition 6 = .ok (.invokevirtual 206, 3) := by decide +kernel
theorem dX6_errorPosition_9 : decode cX6_errorPosition 9 = .ok (.ireturn, 1) := by decide +kernel
theorem dX6_load_0 : decode cX6_load 0 = .ok (.aload_n 0, 1) := by decide +kernel
theorem dX6_load_1 : decode cX6_load 1 = .ok (.aload_n 0, 1) := by decide +kernel
theorem dX6_load_2 : decode cX6_load 2 = .ok (.invokevirtual 206, 3) := by decide +kernel
theorem dX6_load_5 : decode cX6_load 5 = .ok (.iconst (-1), 1) := by decide +kernel
theorem dX6_load_6 : decode cX6_load 6 = .ok (.if_icmp .ne 7, 3) := by decide +kernel
theorem dX6_load_9 : decode cX6_load 9 = .ok (.iconst 0, 1) := by decide +kernel
theorem dX6_load_10 : decode cX6_load 10 = .ok (.goto 4, 3) := by decide +kernel
theorem dX6_load_13 : decode cX6_load 13 = .ok (.iconst 1, 1) := by decide +kernel
theorem dX6_load_14 : decode cX6_load 14 = .ok (.invokevirtual 118, 3) := by decide +kernel
theorem dX6_load_17 : decode cX6_load 17 = .ok (.ifCond .eq 5, 3) := by decide +kernel
theorem dX6_load_20 : decode cX6_load 20 = .ok (.iconst 0, 1) := by decide +kernel
theorem dX6_load_21 : decode cX6_load 21 = .ok (.ireturn, 1) := by decide +kernel
theorem dX6_load_22 : decode cX6_load 22 = .ok (.aload_n 0, 1) := by decide +kernel
theorem dX6_load_23 : decode cX6_load 23 = .ok (.getfield 13, 3) := by decide +kernel
theorem dX6_load_26 : decode cX6_load 26 = .ok (.iconst 0, 1) := by decide +kernel
theorem dX6_load_27 : decode cX6_load 27 = .ok (.aload_n 0, 1) := by decide +kernel
theorem dX6_load_28 : decode cX6_load 28 = .ok (.getfield 16, 3) := by decide +kernel
theorem dX6_load_31 : decode cX6_load 31 = .ok (.iconst 0, 1) := by decide +kernel
theorem dX6_load_32 : decode cX6_load 32 = .ok (.sipush 4086, 3) := by decide +kernel
theorem dX6_load_35 : decode cX6_load 35 = .ok (.invokestatic 54, 3) := by decide +kernel
theorem dX6_load_38 : decode cX6_load 38 = .ok (.aload_n 0, 1) := by decide +kernel
theorem dX6_load_39 : decode cX6_load 39 = .ok (.iconst 0, 1) := by decide +kernel
theorem dX6_load_40 : decode cX6_load 40 = .ok (.putfield 58, 3) := by decide +kernel
theorem dX6_load_43 : decode cX6_load 43 = .ok (.aload_n 0, 1) := by decide +kernel
theorem dX6_load_44 : decode cX6_load 44 = .ok (.getfield 37, 3) := by decide +kernel
theorem dX6_load_47 : decode cX6_load 47 = .ok (.iconst 0, 1) := by decide +kernel
theorem dX6_load_48 : decode cX6_load 48 = .ok (.iconst 0, 1) := by decide +kernel
theorem dX6_load_49 : decode cX6_load 49 = .ok (.bastore, 1) := by decide +kernel
theorem dX6_load_50 : decode cX6_load 50 = .ok (.aload_n 0, 1) := by decide +kernel
theorem dX6_load_51 : decode cX6_load 51 = .ok (.getfield 37, 3) := by decide +kernel
theorem dX6_load_54 : decode cX6_load 54 = .ok (.iconst 1, 1) := by decide +kernel
theorem dX6_load_55 : decode cX6_load 55 = .ok (.iconst 0, 1) := by decide +kernel
theorem dX6_load_56 : decode cX6_load 56 = .ok (.bastore, 1) := by decide +kernel
theorem dX6_load_57 : decode cX6_load 57 = .ok (.aload_n 0, 1) := by decide +kernel
theorem dX6_load_58 : decode cX6_load 58 = .ok (.getfield 138, 3) := by decide +kernel
theorem dX6_load_61 : decode cX6_load 61 = .ok (.ireturn, 1) := by decide +kernel
theorem dX6_sum_0 : decode cX6_sum 0 = .ok (.iconst 0, 1) := by decide +kernel
theorem dX6_sum_1 : decode cX6_sum 1 = .ok (.istore_n 1, 1) := by decide +kernel
theorem dX6_sum_2 : decode cX6_sum 2 = .ok (.iconst 0, 1) := by decide +kernel
theorem dX6_sum_3 : decode cX6_sum 3 = .ok (.istore_n 2, 1) := by decide +kernel
theorem dX6_sum_4 : decode cX6_sum 4 = .ok (.iload_n 2, 1) := by decide +kernel
theorem dX6_sum_5 : decode cX6_sum 5 = .ok (.bipush 16, 2) := by decide +kernel
theorem dX6_sum_7 : decode cX6_sum 7 = .ok (.if_icmp .ge 15, 3) := by decide +kernel
theorem dX6_sum_10 : decode cX6_sum 10 = .ok (.iload_n 1, 1) := by decide +kernel
theorem dX6_sum_11 : decode cX6_sum 11 = .ok (.aload_n 0, 1) := by decide +kernel
theorem dX6_sum_12 : decode cX6_sum 12 = .ok (.iload_n 2, 1) := by decide +kernel
theorem dX6_sum_13 : decode cX6_sum 13 = .ok (.iaload, 1) := by decide +kernel
theorem dX6_sum_14 : decode cX6_sum 14 = .ok (.iadd, 1) := by decide +kernel
theorem dX6_sum_15 : decode cX6_sum 15 = .ok (.istore_n 1, 1) := by decide +kernel
theorem dX6_sum_16 : decode cX6_sum 16 = .ok (.iinc 2 1, 3) := by decide +kernel
theorem dX6_sum_19 : decode cX6_sum 19 = .ok (.goto (-15), 3) := by decide +kernel
theorem dX6_sum_22 : decode cX6_sum 22 = .ok (.iload_n 1, 1) := by decide +kernel
theorem dX6_sum_23 : decode cX6_sum 23 = .ok (.ireturn, 1) := by decide +kernel
theorem dX6_locked_0 : decode cX6_locked 0 = .ok (.iconst 0, 1) := by decide +kernel
theorem dX6_locked_1 : decode cX6_locked 1 = .ok (.istore_n 2, 1) := by decide +kernel
theorem dX6_locked_2 : decode cX6_locked 2 = .ok (.iconst 0, 1) := by decide +kernel
theorem dX6_locked_3 : decode cX6_locked 3 = .ok (.istore_n 3, 1) := by decide +kernel
theorem dX6_locked_4 : decode cX6_locked 4 = .ok (.iload_n 3, 1) := by decide +kernel
theorem dX6_locked_5 : decode cX6_locked 5 = .ok (.bipush 16, 2) := by decide +kernel
theorem dX6_locked_7 : decode cX6_locked 7 = .ok (.if_icmp .ge 43, 3) := by decide +kernel
theorem dX6_locked_10 : decode cX6_locked 10 = .ok (.iload_n 2, 1) := by decide +kernel
theorem dX6_locked_11 : decode cX6_locked 11 = .ok (.aload_n 0, 1) := by decide +kernel
theorem dX6_locked_12 : decode cX6_locked 12 = .ok (.bipush 16, 2) := by decide +kernel
theorem dX6_locked_14 : decode cX6_locked 14 = .ok (.iload_n 3, 1) := by decide +kernel
theorem dX6_locked_15 : decode cX6_locked 15 = .ok (.iadd, 1) := by decide +kernel
theorem dX6_locked_16 : decode cX6_locked 16 = .ok (.iaload, 1) := by decide +kernel
theorem dX6_locked_17 : decode cX6_locked 17 = .ok (.ifCond .eq 24, 3) := by decide +kernel
theorem dX6_locked_20 : decode cX6_locked 20 = .ok (.iload_n 1, 1) := by decide +kernel
theorem dX6_locked_21 : decode cX6_locked 21 = .ok (.iconst (-1), 1) := by decide +kernel
theorem dX6_locked_22 : decode cX6_locked 22 = .ok (.if_icmp .eq 15, 3) := by decide +kernel
theorem dX6_locked_25 : decode cX6_locked 25 = .ok (.aload_n 0, 1) := by decide +kernel
theorem dX6_locked_26 : decode cX6_locked 26 = .ok (.bipush 16, 2) := by decide +kernel
theorem dX6_locked_28 : decode cX6_locked 28 = .ok (.iload_n 3, 1) := by decide +kernel
theorem dX6_locked_29 : decode cX6_locked 29 = .ok (.iadd, 1) := by decide +kernel
theorem dX6_locked_30 : decode cX6_locked 30 = .ok (.iaload, 1) := by decide +kernel
theorem dX6_locked_31 : decode cX6_locked 31 = .ok (.iload_n 1, 1) := by decide +kernel
theorem dX6_locked_32 : decode cX6_locked 32 = .ok (.iconst 1, 1) := by decide +kernel
theorem dX6_locked_33 : decode cX6_locked 33 = .ok (.iadd, 1) := by decide +kernel
theorem dX6_locked_34 : decode cX6_locked 34 = .ok (.if_icmp .ne 7, 3) := by decide +kernel
theorem dX6_locked_37 : decode cX6_locked 37 = .ok (.iconst 1, 1) := by decide +kernel
theorem dX6_locked_38 : decode cX6_locked 38 = .ok (.goto 4, 3) := by decide +kernel
theorem dX6_locked_41 : decode cX6_locked 41 = .ok (.iconst 0, 1) := by decide +kernel
theorem dX6_locked_42 : decode cX6_locked 42 = .ok (.iadd, 1) := by decide +kernel
theorem dX6_locked_43 : decode cX6_locked 43 = .ok (.istore_n 2, 1) := by decide +kernel
theorem dX6_locked_44 : decode cX6_locked 44 = .ok (.iinc 3 1, 3) := by decide +kernel
theorem dX6_locked_47 : decode cX6_locked 47 = .ok (.goto (-43), 3) := by decide +kernel
theorem dX6_locked_50 : decode cX6_locked 50 = .ok (.iload_n 2, 1) := by decide +kernel
theorem dX6_locked_51 : decode cX6_locked 51 = .ok (.ireturn, 1) := by decide +kernel
theorem dX6_together_0 : decode cX6_together 0 = .ok (.iconst 0, 1) := by decide +kernel
theorem dX6_together_1 : decode cX6_together 1 = .ok (.istore_n 2, 1) := by decide +kernel
theorem dX6_together_2 : decode cX6_together 2 = .ok (.iconst 0, 1) := by decide +kernel
theorem dX6_together_3 : decode cX6_together 3 = .ok (.istore_n 3, 1) := by decide +kernel
theorem dX6_together_4 : decode cX6_together 4 = .ok (.iload_n 3, 1) := by decide +kernel
theorem dX6_together_5 : decode cX6_together 5 = .ok (.iconst 3, 1) := by decide +kernel
theorem dX6_together_6 : decode cX6_together 6 = .ok (.if_icmp .ge 19, 3) := by decide +kernel
theorem dX6_together_9 : decode cX6_together 9 = .ok (.iload_n 2, 1) := by decide +kernel
theorem dX6_together_10 : decode cX6_together 10 = .ok (.aload_n 0, 1) := by decide +kernel
theorem dX6_together_11 : decode cX6_together 11 = .ok (.iload_n 3, 1) := by decide +kernel
theorem dX6_together_12 : decode cX6_together 12 = .ok (.iload_n 1, 1) := by decide +kernel
theorem dX6_together_13 : decode cX6_together 13 = .ok (.invokestatic 65, 3) := by decide +kernel
theorem dX6_together_16 : decode cX6_together 16 = .ok (.iaload, 1) := by decide +kernel
theorem dX6_together_17 : decode cX6_together 17 = .ok (.iadd, 1) := by decide +kernel
theorem dX6_together_18 : decode cX6_together 18 = .ok (.istore_n 2, 1) := by decide +kernel
theorem dX6_together_19 : decode cX6_together 19 = .ok (.iinc 3 1, 3) := by decide +kernel
theorem dX6_together_22 : decode cX6_together 22 = .ok (.goto (-18), 3) := by decide +kernel
theorem dX6_together_25 : decode cX6_together 25 = .ok (.iload_n 2, 1) := by decide +kernel
theorem dX6_together_26 : decode cX6_together 26 = .ok (.ireturn, 1) := by decide +kernel
theorem dX6_spoiled_0 : decode cX6_spoiled 0 = .ok (.iconst 0, 1) := by decide +kernel
theorem dX6_spoiled_1 : decode cX6_spoiled 1 = .ok (.istore_n 1, 1) := by decide +kernel
theorem dX6_spoiled_2 : decode cX6_spoiled 2 = .ok (.iconst 0, 1) := by decide +kernel
theorem dX6_spoiled_3 : decode cX6_spoiled 3 = .ok (.istore_n 2, 1) := by decide +kernel
theorem dX6_spoiled_4 : decode cX6_spoiled 4 = .ok (.iload_n 2, 1) := by decide +kernel
theorem dX6_spoiled_5 : decode cX6_spoiled 5 = .ok (.iconst 3, 1) := by decide +kernel
theorem dX6_spoiled_6 : decode cX6_spoiled 6 = .ok (.if_icmp .ge 25, 3) := by decide +kernel
theorem dX6_spoiled_9 : decode cX6_spoiled 9 = .ok (.iload_n 1, 1) := by decide +kernel
theorem dX6_spoiled_10 : decode cX6_spoiled 10 = .ok (.aload_n 0, 1) := by decide +kernel
theorem dX6_spoiled_11 : decode cX6_spoiled 11 = .ok (.iload_n 2, 1) := by decide +kernel
theorem dX6_spoiled_12 : decode cX6_spoiled 12 = .ok (.invokestatic 81, 3) := by decide +kernel
theorem dX6_spoiled_15 : decode cX6_spoiled 15 = .ok (.ifCond .eq 7, 3) := by decide +kernel
theorem dX6_spoiled_18 : decode cX6_spoiled 18 = .ok (.iconst 1, 1) := by decide +kernel
theorem dX6_spoiled_19 : decode cX6_spoiled 19 = .ok (.goto 4, 3) := by decide +kernel
theorem dX6_spoiled_22 : decode cX6_spoiled 22 = .ok (.iconst 0, 1) := by decide +kernel
theorem dX6_spoiled_23 : decode cX6_spoiled 23 = .ok (.iadd, 1) := by decide +kernel
theorem dX6_spoiled_24 : decode cX6_spoiled 24 = .ok (.istore_n 1, 1) := by decide +kernel
theorem dX6_spoiled_25 : decode cX6_spoiled 25 = .ok (.iinc 2 1, 3) := by decide +kernel
theorem dX6_spoiled_28 : decode cX6_spoiled 28 = .ok (.goto (-24), 3) := by decide +kernel
theorem dX6_spoiled_31 : decode cX6_spoiled 31 = .ok (.iload_n 1, 1) := by decide +kernel
theorem dX6_spoiled_32 : decode cX6_spoiled 32 = .ok (.ireturn, 1) := by decide +kernel
theorem dX6_about_0 : decode cX6_about 0 = .ok (.aload_n 0, 1) := by decide +kernel
theorem dX6_about_1 : decode cX6_about 1 = .ok (.iload_n 1, 1) := by decide +kernel
theorem dX6_about_2 : decode cX6_about 2 = .ok (.i2l, 1) := by decide +kernel
theorem dX6_about_3 : decode cX6_about 3 = .ok (.lconst 0, 1) := by decide +kernel
theorem dX6_about_4 : decode cX6_about 4 = .ok (.ldc2_w 129, 3) := by decide +kernel
theorem dX6_about_7 : decode cX6_about 7 = .ok (.invokestatic 92, 3) := by decide +kernel
theorem dX6_about_10 : decode cX6_about 10 = .ok (.ifCond .eq 7, 3) := by decide +kernel
theorem dX6_about_13 : decode cX6_about 13 = .ok (.iconst 0, 1) := by decide +kernel
theorem dX6_about_14 : decode cX6_about 14 = .ok (.goto 4, 3) := by decide +kernel
theorem dX6_about_17 : decode cX6_about 17 = .ok (.iconst 1, 1) := by decide +kernel
theorem dX6_about_18 : decode cX6_about 18 = .ok (.invokevirtual 118, 3) := by decide +kernel
theorem dX6_about_21 : decode cX6_about 21 = .ok (.ifCond .eq 5, 3) := by decide +kernel
theorem dX6_about_24 : decode cX6_about 24 = .ok (.iconst 0, 1) := by decide +kernel
theorem dX6_about_25 : decode cX6_about 25 = .ok (.ireturn, 1) := by decide +kernel
theorem dX6_about_26 : decode cX6_about 26 = .ok (.iload_n 1, 1) := by decide +kernel
theorem dX6_about_27 : decode cX6_about 27 = .ok (.tableswitch 125 0 8 #[49, 57, 66, 75, 84, 93, 101, 109, 117], 49) := by decide +kernel
theorem dX6_about_76 : decode cX6_about 76 = .ok (.aload_n 0, 1) := by decide +kernel
theorem dX6_about_77 : decode cX6_about 77 = .ok (.getfield 16, 3) := by decide +kernel
theorem dX6_about_80 : decode cX6_about 80 = .ok (.invokestatic 209, 3) := by decide +kernel
theorem dX6_about_83 : decode cX6_about 83 = .ok (.ireturn, 1) := by decide +kernel
theorem dX6_about_84 : decode cX6_about 84 = .ok (.aload_n 0, 1) := by decide +kernel
theorem dX6_about_85 : decode cX6_about 85 = .ok (.getfield 16, 3) := by decide +kernel
theorem dX6_about_88 : decode cX6_about 88 = .ok (.iconst (-1), 1) := by decide +kernel
theorem dX6_about_89 : decode cX6_about 89 = .ok (.invokestatic 213, 3) := by decide +kernel
theorem dX6_about_92 : decode cX6_about 92 = .ok (.ireturn, 1) := by decide +kernel
theorem dX6_about_93 : decode cX6_about 93 = .ok (.aload_n 0, 1) := by decide +kernel
theorem dX6_about_94 : decode cX6_about 94 = .ok (.getfield 16, 3) := by decide +kernel
theorem dX6_about_97 : decode cX6_about 97 = .ok (.iconst 0, 1) := by decide +kernel
theorem dX6_about_98 : decode cX6_about 98 = .ok (.invokestatic 216, 3) := by decide +kernel
theorem dX6_about_101 : decode cX6_about 101 = .ok (.ireturn, 1) := by decide +kernel
theorem dX6_about_102 : decode cX6_about 102 = .ok (.aload_n 0, 1) := by decide +kernel
theorem dX6_about_103 : decode cX6_about 103 = .ok (.getfield 16, 3) := by decide +kernel
theorem dX6_about_106 : decode cX6_about 106 = .ok (.iconst 3, 1) := by decide +kernel
theorem dX6_about_107 : decode cX6_about 107 = .ok (.invokestatic 216, 3) := by decide +kernel
theorem dX6_about_110 : decode cX6_about 110 = .ok (.ireturn, 1) := by decide +kernel
theorem dX6_about_111 : decode cX6_about 111 = .ok (.aload_n 0, 1) := by decide +kernel
theorem dX6_about_112 : decode cX6_about 112 = .ok (.getfield 16, 3) := by decide +kernel
theorem dX6_about_115 : decode cX6_about 115 = .ok (.iconst 4, 1) := by decide +kernel
theorem dX6_about_116 : decode cX6_about 116 = .ok (.invokestatic 216, 3) := by decide +kernel
theorem dX6_about_119 : decode cX6_about 119 = .ok (.ireturn, 1) := by decide +kernel
theorem dX6_about_120 : decode cX6_about 120 = .ok (.aload_n 0, 1) := by decide +kernel
theorem dX6_about_121 : decode cX6_about 121 = .ok (.getfield 16, 3) := by decide +kernel
theorem dX6_about_124 : decode cX6_about 124 = .ok (.bipush 33, 2) := by decide +kernel
theorem dX6_about_126 : decode cX6_about 126 = .ok (.iaload, 1) := by decide +kernel
theorem dX6_about_127 : decode cX6_about 127 = .ok (.ireturn, 1) := by decide +kernel
theorem dX6_about_128 : decode cX6_about 128 = .ok (.aload_n 0, 1) := by decide +kernel
theorem dX6_about_129 : decode cX6_about 129 = .ok (.getfield 16, 3) := by decide +kernel
theorem dX6_about_132 : decode cX6_about 132 = .ok (.invokestatic 219, 3) := by decide +kernel
theorem dX6_about_135 : decode cX6_about 135 = .ok (.ireturn, 1) := by decide +kernel
theorem dX6_about_136 : decode cX6_about 136 = .ok (.aload_n 0, 1) := by decide +kernel
theorem dX6_about_137 : decode cX6_about 137 = .ok (.getfield 16, 3) := by decide +kernel
theorem dX6_about_140 : decode cX6_about 140 = .ok (.bipush 32, 2) := by decide +kernel
theorem dX6_about_142 : decode cX6_about 142 = .ok (.iaload, 1) := by decide +kernel
theorem dX6_about_143 : decode cX6_about 143 = .ok (.ireturn, 1) := by decide +kernel
theorem dX6_about_144 : decode cX6_about 144 = .ok (.aload_n 0, 1) := by decide +kernel
theorem dX6_about_145 : decode cX6_about 145 = .ok (.getfield 16, 3) := by decide +kernel
theorem dX6_about_148 : decode cX6_about 148 = .ok (.bipush 34, 2) := by decide +kernel
theorem dX6_about_150 : decode cX6_about 150 = .ok (.iaload, 1) := by decide +kernel
theorem dX6_about_151 : decode cX6_about 151 = .ok (.ireturn, 1) := by decide +kernel
theorem dX6_about_152 : decode cX6_about 152 = .ok (.aload_n 0, 1) := by decide +kernel
theorem dX6_about_153 : decode cX6_about 153 = .ok (.getfield 16, 3) := by decide +kernel
theorem dX6_about_156 : decode cX6_about 156 = .ok (.bipush 35, 2) := by decide +kernel
theorem dX6_about_158 : decode cX6_about 158 = .ok (.iaload, 1) := by decide +kernel
theorem dX6_about_159 : decode cX6_about 159 = .ok (.ireturn, 1) := by decide +kernel
theorem dX6_isCell_0 : decode cX6_isCell 0 = .ok (.iload_n 0, 1) := by decide +kernel
theorem dX6_isCell_1 : decode cX6_isCell 1 = .ok (.i2l, 1) := by decide +kernel
theorem dX6_isCell_2 : decode cX6_isCell 2 = .ok (.lconst 0, 1) := by decide +kernel
theorem dX6_isCell_3 : decode cX6_isCell 3 = .ok (.ldc2_w 222, 3) := by decide +kernel
theorem dX6_isCell_6 : decode cX6_isCell 6 = .ok (.invokestatic 92, 3) := by decide +kernel
theorem dX6_isCell_9 : decode cX6_isCell 9 = .ok (.ireturn, 1) := by decide +kernel
theorem dX6_isWorker_0 : decode cX6_isWorker 0 = .ok (.iload_n 0, 1) := by decide +kernel
theorem dX6_isWorker_1 : decode cX6_isWorker 1 = .ok (.i2l, 1) := by decide +kernel
theorem dX6_isWorker_2 : decode cX6_isWorker 2 = .ok (.lconst 0, 1) := by decide +kernel
theorem dX6_isWorker_3 : decode cX6_isWorker 3 = .ok (.ldc2_w 224, 3) := by decide +kernel
theorem dX6_isWorker_6 : decode cX6_isWorker 6 = .ok (.invokestatic 92, 3) := by decide +kernel
theorem dX6_isWorker_9 : decode cX6_isWorker 9 = .ok (.ireturn, 1) := by decide +kernel
theorem dX6_oldest_0 : decode cX6_oldest 0 = .ok (.aload_n 0, 1) := by decide +kernel
theorem dX6_oldest_1 : decode cX6_oldest 1 = .ok (.getfield 16, 3) := by decide +kernel
theorem dX6_oldest_4 : decode cX6_oldest 4 = .ok (.bipush 16, 2) := by decide +kernel
theorem dX6_oldest_6 : decode cX6_oldest 6 = .ok (.iload_n 1, 1) := by decide +kernel
theorem dX6_oldest_7 : decode cX6_oldest 7 = .ok (.iadd, 1) := by decide +kernel
theorem dX6_oldest_8 : decode cX6_oldest 8 = .ok (.iaload, 1) := by decide +kernel
theorem dX6_oldest_9 : decode cX6_oldest 9 = .ok (.iconst 1, 1) := by decide +kernel
theorem dX6_oldest_10 : decode cX6_oldest 10 = .ok (.isub, 1) := by decide +kernel
theorem dX6_oldest_11 : decode cX6_oldest 11 = .ok (.istore_n 2, 1) := by decide +kernel
theorem dX6_oldest_12 : decode cX6_oldest 12 = .ok (.aload_n 0, 1) := by decide +kernel
theorem dX6_oldest_13 : decode cX6_oldest 13 = .ok (.getfield 16, 3) := by decide +kernel
theorem dX6_oldest_16 : decode cX6_oldest 16 = .ok (.iload_n 1, 1) := by decide +kernel
theorem dX6_oldest_17 : decode cX6_oldest 17 = .ok (.iaload, 1) := by decide +kernel
theorem dX6_oldest_18 : decode cX6_oldest 18 = .ok (.istore_n 3, 1) := by decide +kernel
theorem dX6_oldest_19 : decode cX6_oldest 19 = .ok (.iload_n 2, 1) := by decide +kernel
theorem dX6_oldest_20 : decode cX6_oldest 20 = .ok (.ifCond .ge 7, 3) := by decide +kernel
theorem dX6_oldest_23 : decode cX6_oldest 23 = .ok (.iconst (-1), 1) := by decide +kernel
theorem dX6_oldest_24 : decode cX6_oldest 24 = .ok (.goto 15, 3) := by decide +kernel
theorem dX6_oldest_27 : decode cX6_oldest 27 = .ok (.aload_n 0, 1) := by decide +kernel
theorem dX6_oldest_28 : decode cX6_oldest 28 = .ok (.getfield 16, 3) := by decide +kernel
theorem dX6_oldest_31 : decode cX6_oldest 31 = .ok (.iload_n 2, 1) := by decide +kernel
theorem dX6_oldest_32 : decode cX6_oldest 32 = .ok (.iconst 1, 1) := by decide +kernel
theorem dX6_oldest_33 : decode cX6_oldest 33 = .ok (.invokestatic 65, 3) := by decide +kernel
theorem dX6_oldest_36 : decode cX6_oldest 36 = .ok (.iaload, 1) := by decide +kernel
theorem dX6_oldest_37 : decode cX6_oldest 37 = .ok (.iconst 1, 1) := by decide +kernel
theorem dX6_oldest_38 : decode cX6_oldest 38 = .ok (.isub, 1) := by decide +kernel
theorem dX6_oldest_39 : decode cX6_oldest 39 = .ok (.istore 4, 2) := by decide +kernel
theorem dX6_oldest_41 : decode cX6_oldest 41 = .ok (.iload 4, 2) := by decide +kernel
theorem dX6_oldest_43 : decode cX6_oldest 43 = .ok (.ifCond .lt 44, 3) := by decide +kernel
theorem dX6_oldest_46 : decode cX6_oldest 46 = .ok (.aload_n 0, 1) := by decide +kernel
theorem dX6_oldest_47 : decode cX6_oldest 47 = .ok (.getfield 16, 3) := by decide +kernel
theorem dX6_oldest_50 : decode cX6_oldest 50 = .ok (.iload_n 2, 1) := by decide +kernel
theorem dX6_oldest_51 : decode cX6_oldest 51 = .ok (.bipush 70, 2) := by decide +kernel
theorem dX6_oldest_53 : decode cX6_oldest 53 = .ok (.iload 4, 2) := by decide +kernel
theorem dX6_oldest_55 : decode cX6_oldest 55 = .ok (.iadd, 1) := by decide +kernel
theorem dX6_oldest_56 : decode cX6_oldest 56 = .ok (.invokestatic 65, 3) := by decide +kernel
theorem dX6_oldest_59 : decode cX6_oldest 59 = .ok (.iaload, 1) := by decide +kernel
theorem dX6_oldest_60 : decode cX6_oldest 60 = .ok (.istore 5, 2) := by decide +kernel
theorem dX6_oldest_62 : decode cX6_oldest 62 = .ok (.iload 5, 2) := by decide +kernel
theorem dX6_oldest_64 : decode cX6_oldest 64 = .ok (.bipush 100, 2) := by decide +kernel
theorem dX6_oldest_66 : decode cX6_oldest 66 = .ok (.idiv, 1) := by decide +kernel
theorem dX6_oldest_67 : decode cX6_oldest 67 = .ok (.iload_n 1, 1) := by decide +kernel
theorem dX6_oldest_68 : decode cX6_oldest 68 = .ok (.if_icmp .ne 11, 3) := by decide +kernel
theorem dX6_oldest_71 : decode cX6_oldest 71 = .ok (.iload 5, 2) := by decide +kernel
theorem dX6_oldest_73 : decode cX6_oldest 73 = .ok (.bipush 100, 2) := by decide +kernel
theorem dX6_oldest_75 : decode cX6_oldest 75 = .ok (.irem, 1) := by decide +kernel
theorem dX6_oldest_76 : decode cX6_oldest 76 = .ok (.goto 4, 3) := by decide +kernel
theorem dX6_oldest_79 : decode cX6_oldest 79 = .ok (.iload_n 3, 1) := by decide +kernel
theorem dX6_oldest_80 : decode cX6_oldest 80 = .ok (.istore_n 3, 1) := by decide +kernel
theorem dX6_oldest_81 : decode cX6_oldest 81 = .ok (.iinc 4 (-1), 3) := by decide +kernel
theorem dX6_oldest_84 : decode cX6_oldest 84 = .ok (.goto (-43), 3) := by decide +kernel
theorem dX6_oldest_87 : decode cX6_oldest 87 = .ok (.iload_n 3, 1) := by decide +kernel
theorem dX6_oldest_88 : decode cX6_oldest 88 = .ok (.ireturn, 1) := by decide +kernel
theorem dX6_cell_0 : decode cX6_cell 0 = .ok (.aload_n 0, 1) := by decide +kernel
theorem dX6_cell_1 : decode cX6_cell 1 = .ok (.iload_n 1, 1) := by decide +kernel
theorem dX6_cell_2 : decode cX6_cell 2 = .ok (.invokestatic 226, 3) := by decide +kernel
theorem dX6_cell_5 : decode cX6_cell 5 = .ok (.ifCond .ne 7, 3) := by decide +kernel
theorem dX6_cell_8 : decode cX6_cell 8 = .ok (.iconst 1, 1) := by decide +kernel
theorem dX6_cell_9 : decode cX6_cell 9 = .ok (.goto 20, 3) := by decide +kernel
theorem dX6_cell_12 : decode cX6_cell 12 = .ok (.iload_n 2, 1) := by decide +kernel
theorem dX6_cell_13 : decode cX6_cell 13 = .ok (.i2l, 1) := by decide +kernel
theorem dX6_cell_14 : decode cX6_cell 14 = .ok (.lconst 0, 1) := by decide +kernel
theorem dX6_cell_15 : decode cX6_cell 15 = .ok (.ldc2_w 224, 3) := by decide +kernel
theorem dX6_cell_18 : decode cX6_cell 18 = .ok (.invokestatic 92, 3) := by decide +kernel
theorem dX6_cell_21 : decode cX6_cell 21 = .ok (.ifCond .eq 7, 3) := by decide +kernel
theorem dX6_cell_24 : decode cX6_cell 24 = .ok (.iconst 0, 1) := by decide +kernel
theorem dX6_cell_25 : decode cX6_cell 25 = .ok (.goto 4, 3) := by decide +kernel
theorem dX6_cell_28 : decode cX6_cell 28 = .ok (.iconst 2, 1) := by decide +kernel
theorem dX6_cell_29 : decode cX6_cell 29 = .ok (.invokevirtual 118, 3) := by decide +kernel
theorem dX6_cell_32 : decode cX6_cell 32 = .ok (.ifCond .eq 5, 3) := by decide +kernel
theorem dX6_cell_35 : decode cX6_cell 35 = .ok (.iconst 0, 1) := by decide +kernel
theorem dX6_cell_36 : decode cX6_cell 36 = .ok (.ireturn, 1) := by decide +kernel
theorem dX6_cell_37 : decode cX6_cell 37 = .ok (.iload_n 2, 1) := by decide +kernel
theorem dX6_cell_38 : decode cX6_cell 38 = .ok (.ifCond .ne 12, 3) := by decide +kernel
theorem dX6_cell_41 : decode cX6_cell 41 = .ok (.aload_n 0, 1) := by decide +kernel
theorem dX6_cell_42 : decode cX6_cell 42 = .ok (.getfield 16, 3) := by decide +kernel
theorem dX6_cell_45 : decode cX6_cell 45 = .ok (.iload_n 1, 1) := by decide +kernel
theorem dX6_cell_46 : decode cX6_cell 46 = .ok (.iaload, 1) := by decide +kernel
theorem dX6_cell_47 : decode cX6_cell 47 = .ok (.goto 27, 3) := by decide +kernel
theorem dX6_cell_50 : decode cX6_cell 50 = .ok (.iload_n 2, 1) := by decide +kernel
theorem dX6_cell_51 : decode cX6_cell 51 = .ok (.iconst 1, 1) := by decide +kernel
theorem dX6_cell_52 : decode cX6_cell 52 = .ok (.if_icmp .ne 17, 3) := by decide +kernel
theorem dX6_cell_55 : decode cX6_cell 55 = .ok (.aload_n 0, 1) := by decide +kernel
theorem dX6_cell_56 : decode cX6_cell 56 = .ok (.getfield 16, 3) := by decide +kernel
theorem dX6_cell_59 : decode cX6_cell 59 = .ok (.bipush 16, 2) := by decide +kernel
theorem dX6_cell_61 : decode cX6_cell 61 = .ok (.iload_n 1, 1) := by decide +kernel
theorem dX6_cell_62 : decode cX6_cell 62 = .ok (.iadd, 1) := by decide +kernel
theorem dX6_cell_63 : decode cX6_cell 63 = .ok (.iaload, 1) := by decide +kernel
theorem dX6_cell_64 : decode cX6_cell 64 = .ok (.iconst 1, 1) := by decide +kernel
theorem dX6_cell_65 : decode cX6_cell 65 = .ok (.isub, 1) := by decide +kernel
theorem dX6_cell_66 : decode cX6_cell 66 = .ok (.goto 8, 3) := by decide +kernel
theorem dX6_cell_69 : decode cX6_cell 69 = .ok (.aload_n 0, 1) := by decide +kernel
theorem dX6_cell_70 : decode cX6_cell 70 = .ok (.iload_n 1, 1) := by decide +kernel
theorem dX6_cell_71 : decode cX6_cell 71 = .ok (.invokevirtual 229, 3) := by decide +kernel
theorem dX6_cell_74 : decode cX6_cell 74 = .ok (.ireturn, 1) := by decide +kernel
theorem dX6_worker_0 : decode cX6_worker 0 = .ok (.aload_n 0, 1) := by decide +kernel
theorem dX6_worker_1 : decode cX6_worker 1 = .ok (.iload_n 1, 1) := by decide +kernel
theorem dX6_worker_2 : decode cX6_worker 2 = .ok (.invokestatic 232, 3) := by decide +kernel
theorem dX6_worker_5 : decode cX6_worker 5 = .ok (.ifCond .ne 7, 3) := by decide +kernel
theorem dX6_worker_8 : decode cX6_worker 8 = .ok (.iconst 1, 1) := by decide +kernel
theorem dX6_worker_9 : decode cX6_worker 9 = .ok (.goto 20, 3) := by decide +kernel
theorem dX6_worker_12 : decode cX6_worker 12 = .ok (.iload_n 2, 1) := by decide +kernel
theorem dX6_worker_13 : decode cX6_worker 13 = .ok (.i2l, 1) := by decide +kernel
theorem dX6_worker_14 : decode cX6_worker 14 = .ok (.lconst 0, 1) := by decide +kernel
theorem dX6_worker_15 : decode cX6_worker 15 = .ok (.ldc2_w 235, 3) := by decide +kernel
theorem dX6_worker_18 : decode cX6_worker 18 = .ok (.invokestatic 92, 3) := by decide +kernel
theorem dX6_worker_21 : decode cX6_worker 21 = .ok (.ifCond .eq 7, 3) := by decide +kernel
theorem dX6_worker_24 : decode cX6_worker 24 = .ok (.iconst 0, 1) := by decide +kernel
theorem dX6_worker_25 : decode cX6_worker 25 = .ok (.goto 4, 3) := by decide +kernel
theorem dX6_worker_28 : decode cX6_worker 28 = .ok (.iconst 2, 1) := by decide +kernel
theorem dX6_worker_29 : decode cX6_worker 29 = .ok (.invokevirtual 118, 3) := by decide +kernel
theorem dX6_worker_32 : decode cX6_worker 32 = .ok (.ifCond .eq 5, 3) := by decide +kernel
theorem dX6_worker_35 : decode cX6_worker 35 = .ok (.iconst 0, 1) := by decide +kernel
theorem dX6_worker_36 : decode cX6_worker 36 = .ok (.ireturn, 1) := by decide +kernel
theorem dX6_worker_37 : decode cX6_worker 37 = .ok (.iload_n 2, 1) := by decide +kernel
theorem dX6_worker_38 : decode cX6_worker 38 = .ok (.tableswitch 87 0 4 #[34, 45, 56, 65, 76], 34) := by decide +kernel
theorem dX6_worker_72 : decode cX6_worker 72 = .ok (.aload_n 0, 1) := by decide +kernel
theorem dX6_worker_73 : decode cX6_worker 73 = .ok (.getfield 16, 3) := by decide +kernel
theorem dX6_worker_76 : decode cX6_worker 76 = .ok (.iload_n 1, 1) := by decide +kernel
theorem dX6_worker_77 : decode cX6_worker 77 = .ok (.iconst 0, 1) := by decide +kernel
theorem dX6_worker_78 : decode cX6_worker 78 = .ok (.invokestatic 65, 3) := by decide +kernel
theorem dX6_worker_81 : decode cX6_worker 81 = .ok (.iaload, 1) := by decide +kernel
theorem dX6_worker_82 : decode cX6_worker 82 = .ok (.ireturn, 1) := by decide +kernel
theorem dX6_worker_83 : decode cX6_worker 83 = .ok (.aload_n 0, 1) := by decide +kernel
theorem dX6_worker_84 : decode cX6_worker 84 = .ok (.getfield 16, 3) := by decide +kernel
theorem dX6_worker_87 : decode cX6_worker 87 = .ok (.iload_n 1, 1) := by decide +kernel
theorem dX6_worker_88 : decode cX6_worker 88 = .ok (.iconst 1, 1) := by decide +kernel
theorem dX6_worker_89 : decode cX6_worker 89 = .ok (.invokestatic 65, 3) := by decide +kernel
theorem dX6_worker_92 : decode cX6_worker 92 = .ok (.iaload, 1) := by decide +kernel
theorem dX6_worker_93 : decode cX6_worker 93 = .ok (.ireturn, 1) := by decide +kernel
theorem dX6_worker_94 : decode cX6_worker 94 = .ok (.aload_n 0, 1) := by decide +kernel
theorem dX6_worker_95 : decode cX6_worker 95 = .ok (.getfield 16, 3) := by decide +kernel
theorem dX6_worker_98 : decode cX6_worker 98 = .ok (.iload_n 1, 1) := by decide +kernel
theorem dX6_worker_99 : decode cX6_worker 99 = .ok (.invokestatic 213, 3) := by decide +kernel
theorem dX6_worker_102 : decode cX6_worker 102 = .ok (.ireturn, 1) := by decide +kernel
theorem dX6_worker_103 : decode cX6_worker 103 = .ok (.aload_n 0, 1) := by decide +kernel
theorem dX6_worker_104 : decode cX6_worker 104 = .ok (.getfield 16, 3) := by decide +kernel
theorem dX6_worker_107 : decode cX6_worker 107 = .ok (.iload_n 1, 1) := by decide +kernel
theorem dX6_worker_108 : decode cX6_worker 108 = .ok (.iconst 3, 1) := by decide +kernel
theorem dX6_worker_109 : decode cX6_worker 109 = .ok (.invokestatic 65, 3) := by decide +kernel
theorem dX6_worker_112 : decode cX6_worker 112 = .ok (.iaload, 1) := by decide +kernel
theorem dX6_worker_113 : decode cX6_worker 113 = .ok (.ireturn, 1) := by decide +kernel
theorem dX6_worker_114 : decode cX6_worker 114 = .ok (.aload_n 0, 1) := by decide +kernel
theorem dX6_worker_115 : decode cX6_worker 115 = .ok (.getfield 16, 3) := by decide +kernel
theorem dX6_worker_118 : decode cX6_worker 118 = .ok (.iload_n 1, 1) := by decide +kernel
theorem dX6_worker_119 : decode cX6_worker 119 = .ok (.iconst 4, 1) := by decide +kernel
theorem dX6_worker_120 : decode cX6_worker 120 = .ok (.invokestatic 65, 3) := by decide +kernel
theorem dX6_worker_123 : decode cX6_worker 123 = .ok (.iaload, 1) := by decide +kernel
theorem dX6_worker_124 : decode cX6_worker 124 = .ok (.ireturn, 1) := by decide +kernel
theorem dX6_worker_125 : decode cX6_worker 125 = .ok (.aload_n 0, 1) := by decide +kernel
theorem dX6_worker_126 : decode cX6_worker 126 = .ok (.getfield 16, 3) := by decide +kernel
theorem dX6_worker_129 : decode cX6_worker 129 = .ok (.iload_n 1, 1) := by decide +kernel
theorem dX6_worker_130 : decode cX6_worker 130 = .ok (.invokestatic 81, 3) := by decide +kernel
theorem dX6_worker_133 : decode cX6_worker 133 = .ok (.ifCond .eq 7, 3) := by decide +kernel
theorem dX6_worker_136 : decode cX6_worker 136 = .ok (.iconst 1, 1) := by decide +kernel
theorem dX6_worker_137 : decode cX6_worker 137 = .ok (.goto 4, 3) := by decide +kernel
theorem dX6_worker_140 : decode cX6_worker 140 = .ok (.iconst 0, 1) := by decide +kernel
theorem dX6_worker_141 : decode cX6_worker 141 = .ok (.ireturn, 1) := by decide +kernel
theorem dX6_work_0 : decode cX6_work 0 = .ok (.iload_n 1, 1) := by decide +kernel
theorem dX6_work_1 : decode cX6_work 1 = .ok (.invokestatic 232, 3) := by decide +kernel
theorem dX6_work_4 : decode cX6_work 4 = .ok (.ifCond .eq 27, 3) := by decide +kernel
theorem dX6_work_7 : decode cX6_work 7 = .ok (.iload_n 2, 1) := by decide +kernel
theorem dX6_work_8 : decode cX6_work 8 = .ok (.i2l, 1) := by decide +kernel
theorem dX6_work_9 : decode cX6_work 9 = .ok (.lconst 0, 1) := by decide +kernel
theorem dX6_work_10 : decode cX6_work 10 = .ok (.aload_n 0, 1) := by decide +kernel
theorem dX6_work_11 : decode cX6_work 11 = .ok (.getfield 16, 3) := by decide +kernel
theorem dX6_work_14 : decode cX6_work 14 = .ok (.iload_n 1, 1) := by decide +kernel
theorem dX6_work_15 : decode cX6_work 15 = .ok (.invokestatic 69, 3) := by decide +kernel
theorem dX6_work_18 : decode cX6_work 18 = .ok (.iconst 1, 1) := by decide +kernel
theorem dX6_work_19 : decode cX6_work 19 = .ok (.isub, 1) := by decide +kernel
theorem dX6_work_20 : decode cX6_work 20 = .ok (.i2l, 1) := by decide +kernel
theorem dX6_work_21 : decode cX6_work 21 = .ok (.invokestatic 92, 3) := by decide +kernel
theorem dX6_work_24 : decode cX6_work 24 = .ok (.ifCond .eq 7, 3) := by decide +kernel
theorem dX6_work_27 : decode cX6_work 27 = .ok (.iconst 1, 1) := by decide +kernel
theorem dX6_work_28 : decode cX6_work 28 = .ok (.goto 4, 3) := by decide +kernel
theorem dX6_work_31 : decode cX6_work 31 = .ok (.iconst 0, 1) := by decide +kernel
theorem dX6_work_32 : decode cX6_work 32 = .ok (.istore 4, 2) := by decide +kernel
theorem dX6_work_34 : decode cX6_work 34 = .ok (.aload_n 0, 1) := by decide +kernel
theorem dX6_work_35 : decode cX6_work 35 = .ok (.iload 4, 2) := by decide +kernel
theorem dX6_work_37 : decode cX6_work 37 = .ok (.ifCond .ne 7, 3) := by decide +kernel
theorem dX6_work_40 : decode cX6_work 40 = .ok (.iconst 1, 1) := by decide +kernel
theorem dX6_work_41 : decode cX6_work 41 = .ok (.goto 20, 3) := by decide +kernel
theorem dX6_work_44 : decode cX6_work 44 = .ok (.iload_n 3, 1) := by decide +kernel
theorem dX6_work_45 : decode cX6_work 45 = .ok (.i2l, 1) := by decide +kernel
theorem dX6_work_46 : decode cX6_work 46 = .ok (.lconst 0, 1) := by decide +kernel
theorem dX6_work_47 : decode cX6_work 47 = .ok (.ldc2_w 237, 3) := by decide +kernel
theorem dX6_work_50 : decode cX6_work 50 = .ok (.invokestatic 92, 3) := by decide +kernel
theorem dX6_work_53 : decode cX6_work 53 = .ok (.ifCond .eq 7, 3) := by decide +kernel
theorem dX6_work_56 : decode cX6_work 56 = .ok (.iconst 0, 1) := by decide +kernel
theorem dX6_work_57 : decode cX6_work 57 = .ok (.goto 4, 3) := by decide +kernel
theorem dX6_work_60 : decode cX6_work 60 = .ok (.iconst 2, 1) := by decide +kernel
theorem dX6_work_61 : decode cX6_work 61 = .ok (.invokevirtual 118, 3) := by decide +kernel
theorem dX6_work_64 : decode cX6_work 64 = .ok (.ifCond .eq 5, 3) := by decide +kernel
theorem dX6_work_67 : decode cX6_work 67 = .ok (.iconst 0, 1) := by decide +kernel
theorem dX6_work_68 : decode cX6_work 68 = .ok (.ireturn, 1) := by decide +kernel
theorem dX6_work_69 : decode cX6_work 69 = .ok (.iload_n 3, 1) := by decide +kernel
theorem dX6_work_70 : decode cX6_work 70 = .ok (.tableswitch 76 0 3 #[30, 42, 54, 64], 30) := by decide +kernel
theorem dX6_work_100 : decode cX6_work 100 = .ok (.aload_n 0, 1) := by decide +kernel
theorem dX6_work_101 : decode cX6_work 101 = .ok (.getfield 16, 3) := by decide +kernel
theorem dX6_work_104 : decode cX6_work 104 = .ok (.iload_n 1, 1) := by decide +kernel
theorem dX6_work_105 : decode cX6_work 105 = .ok (.iload_n 2, 1) := by decide +kernel
theorem dX6_work_106 : decode cX6_work 106 = .ok (.iconst 0, 1) := by decide +kernel
theorem dX6_work_107 : decode cX6_work 107 = .ok (.invokestatic 73, 3) := by decide +kernel
theorem dX6_work_110 : decode cX6_work 110 = .ok (.iaload, 1) := by decide +kernel
theorem dX6_work_111 : decode cX6_work 111 = .ok (.ireturn, 1) := by decide +kernel
theorem dX6_work_112 : decode cX6_work 112 = .ok (.aload_n 0, 1) := by decide +kernel
theorem dX6_work_113 : decode cX6_work 113 = .ok (.getfield 16, 3) := by decide +kernel
theorem dX6_work_116 : decode cX6_work 116 = .ok (.iload_n 1, 1) := by decide +kernel
theorem dX6_work_117 : decode cX6_work 117 = .ok (.iload_n 2, 1) := by decide +kernel
theorem dX6_work_118 : decode cX6_work 118 = .ok (.iconst 2, 1) := by decide +kernel
theorem dX6_work_119 : decode cX6_work 119 = .ok (.invokestatic 73, 3) := by decide +kernel
theorem dX6_work_122 : decode cX6_work 122 = .ok (.iaload, 1) := by decide +kernel
theorem dX6_work_123 : decode cX6_work 123 = .ok (.ireturn, 1) := by decide +kernel
theorem dX6_work_124 : decode cX6_work 124 = .ok (.aload_n 0, 1) := by decide +kernel
theorem dX6_work_125 : decode cX6_work 125 = .ok (.getfield 16, 3) := by decide +kernel
theorem dX6_work_128 : decode cX6_work 128 = .ok (.iload_n 1, 1) := by decide +kernel
theorem dX6_work_129 : decode cX6_work 129 = .ok (.iload_n 2, 1) := by decide +kernel
theorem dX6_work_130 : decode cX6_work 130 = .ok (.invokestatic 102, 3) := by decide +kernel
theorem dX6_work_133 : decode cX6_work 133 = .ok (.ireturn, 1) := by decide +kernel
theorem dX6_work_134 : decode cX6_work 134 = .ok (.aload_n 0, 1) := by decide +kernel
theorem dX6_work_135 : decode cX6_work 135 = .ok (.getfield 16, 3) := by decide +kernel
theorem dX6_work_138 : decode cX6_work 138 = .ok (.iload_n 1, 1) := by decide +kernel
theorem dX6_work_139 : decode cX6_work 139 = .ok (.iload_n 2, 1) := by decide +kernel
theorem dX6_work_140 : decode cX6_work 140 = .ok (.iconst 3, 1) := by decide +kernel
theorem dX6_work_141 : decode cX6_work 141 = .ok (.invokestatic 73, 3) := by decide +kernel
theorem dX6_work_144 : decode cX6_work 144 = .ok (.iaload, 1) := by decide +kernel
theorem dX6_work_145 : decode cX6_work 145 = .ok (.ireturn, 1) := by decide +kernel
theorem dX6_work_146 : decode cX6_work 146 = .ok (.aload_n 0, 1) := by decide +kernel
theorem dX6_work_147 : decode cX6_work 147 = .ok (.getfield 16, 3) := by decide +kernel
theorem dX6_work_150 : decode cX6_work 150 = .ok (.iload_n 1, 1) := by decide +kernel
theorem dX6_work_151 : decode cX6_work 151 = .ok (.iload_n 2, 1) := by decide +kernel
theorem dX6_work_152 : decode cX6_work 152 = .ok (.iconst 4, 1) := by decide +kernel
theorem dX6_work_153 : decode cX6_work 153 = .ok (.invokestatic 73, 3) := by decide +kernel
theorem dX6_work_156 : decode cX6_work 156 = .ok (.iaload, 1) := by decide +kernel
theorem dX6_work_157 : decode cX6_work 157 = .ok (.ireturn, 1) := by decide +kernel
theorem dX6_entry_0 : decode cX6_entry 0 = .ok (.aload_n 0, 1) := by decide +kernel
theorem dX6_entry_1 : decode cX6_entry 1 = .ok (.iload_n 1, 1) := by decide +kernel
theorem dX6_entry_2 : decode cX6_entry 2 = .ok (.invokestatic 232, 3) := by decide +kernel
theorem dX6_entry_5 : decode cX6_entry 5 = .ok (.ifCond .ne 7, 3) := by decide +kernel
theorem dX6_entry_8 : decode cX6_entry 8 = .ok (.iconst 1, 1) := by decide +kernel
theorem dX6_entry_9 : decode cX6_entry 9 = .ok (.goto 12, 3) := by decide +kernel
theorem dX6_entry_12 : decode cX6_entry 12 = .ok (.iload_n 2, 1) := by decide +kernel
theorem dX6_entry_13 : decode cX6_entry 13 = .ok (.ifCond .ge 7, 3) := by decide +kernel
theorem dX6_entry_16 : decode cX6_entry 16 = .ok (.iconst 2, 1) := by decide +kernel
theorem dX6_entry_17 : decode cX6_entry 17 = .ok (.goto 4, 3) := by decide +kernel
theorem dX6_entry_20 : decode cX6_entry 20 = .ok (.iconst 0, 1) := by decide +kernel
theorem dX6_entry_21 : decode cX6_entry 21 = .ok (.invokevirtual 118, 3) := by decide +kernel
theorem dX6_entry_24 : decode cX6_entry 24 = .ok (.ifCond .eq 5, 3) := by decide +kernel
theorem dX6_entry_27 : decode cX6_entry 27 = .ok (.iconst 0, 1) := by decide +kernel
theorem dX6_entry_28 : decode cX6_entry 28 = .ok (.ireturn, 1) := by decide +kernel
theorem dX6_entry_29 : decode cX6_entry 29 = .ok (.aload_n 0, 1) := by decide +kernel
theorem dX6_entry_30 : decode cX6_entry 30 = .ok (.getfield 16, 3) := by decide +kernel
theorem dX6_entry_33 : decode cX6_entry 33 = .ok (.iload_n 1, 1) := by decide +kernel
theorem dX6_entry_34 : decode cX6_entry 34 = .ok (.iconst 1, 1) := by decide +kernel
theorem dX6_entry_35 : decode cX6_entry 35 = .ok (.invokestatic 65, 3) := by decide +kernel
theorem dX6_entry_38 : decode cX6_entry 38 = .ok (.iaload, 1) := by decide +kernel
theorem dX6_entry_39 : decode cX6_entry 39 = .ok (.istore_n 3, 1) := by decide +kernel
theorem dX6_entry_40 : decode cX6_entry 40 = .ok (.iload_n 2, 1) := by decide +kernel
theorem dX6_entry_41 : decode cX6_entry 41 = .ok (.iload_n 3, 1) := by decide +kernel
theorem dX6_entry_42 : decode cX6_entry 42 = .ok (.if_icmp .ge 23, 3) := by decide +kernel
theorem dX6_entry_45 : decode cX6_entry 45 = .ok (.aload_n 0, 1) := by decide +kernel
theorem dX6_entry_46 : decode cX6_entry 46 = .ok (.getfield 16, 3) := by decide +kernel
theorem dX6_entry_49 : decode cX6_entry 49 = .ok (.iload_n 1, 1) := by decide +kernel
theorem dX6_entry_50 : decode cX6_entry 50 = .ok (.bipush 70, 2) := by decide +kernel
theorem dX6_entry_52 : decode cX6_entry 52 = .ok (.iload_n 3, 1) := by decide +kernel
theorem dX6_entry_53 : decode cX6_entry 53 = .ok (.iadd, 1) := by decide +kernel
theorem dX6_entry_54 : decode cX6_entry 54 = .ok (.iconst 1, 1) := by decide +kernel
theorem dX6_entry_55 : decode cX6_entry 55 = .ok (.isub, 1) := by decide +kernel
theorem dX6_entry_56 : decode cX6_entry 56 = .ok (.iload_n 2, 1) := by decide +kernel
theorem dX6_entry_57 : decode cX6_entry 57 = .ok (.isub, 1) := by decide +kernel
theorem dX6_entry_58 : decode cX6_entry 58 = .ok (.invokestatic 65, 3) := by decide +kernel
theorem dX6_entry_61 : decode cX6_entry 61 = .ok (.iaload, 1) := by decide +kernel
theorem dX6_entry_62 : decode cX6_entry 62 = .ok (.goto 4, 3) := by decide +kernel
theorem dX6_entry_65 : decode cX6_entry 65 = .ok (.iconst (-1), 1) := by decide +kernel
theorem dX6_entry_66 : decode cX6_entry 66 = .ok (.ireturn, 1) := by decide +kernel
theorem dX6_begin_0 : decode cX6_begin 0 = .ok (.iload_n 1, 1) := by decide +kernel
theorem dX6_begin_1 : decode cX6_begin 1 = .ok (.invokestatic 232, 3) := by decide +kernel
theorem dX6_begin_4 : decode cX6_begin 4 = .ok (.istore_n 2, 1) := by decide +kernel
theorem dX6_begin_5 : decode cX6_begin 5 = .ok (.aload_n 0, 1) := by decide +kernel
theorem dX6_begin_6 : decode cX6_begin 6 = .ok (.iload_n 2, 1) := by decide +kernel
theorem dX6_begin_7 : decode cX6_begin 7 = .ok (.ifCond .ne 7, 3) := by decide +kernel
theorem dX6_begin_10 : decode cX6_begin 10 = .ok (.iconst 1, 1) := by decide +kernel
theorem dX6_begin_11 : decode cX6_begin 11 = .ok (.goto 19, 3) := by decide +kernel
theorem dX6_begin_14 : decode cX6_begin 14 = .ok (.aload_n 0, 1) := by decide +kernel
theorem dX6_begin_15 : decode cX6_begin 15 = .ok (.getfield 16, 3) := by decide +kernel
theorem dX6_begin_18 : decode cX6_begin 18 = .ok (.iload_n 1, 1) := by decide +kernel
theorem dX6_begin_19 : decode cX6_begin 19 = .ok (.invokestatic 169, 3) := by decide +kernel
theorem dX6_begin_22 : decode cX6_begin 22 = .ok (.ifCond .eq 7, 3) := by decide +kernel
theorem dX6_begin_25 : decode cX6_begin 25 = .ok (.iconst 0, 1) := by decide +kernel
theorem dX6_begin_26 : decode cX6_begin 26 = .ok (.goto 4, 3) := by decide +kernel
theorem dX6_begin_29 : decode cX6_begin 29 = .ok (.iconst 2, 1) := by decide +kernel
theorem dX6_begin_30 : decode cX6_begin 30 = .ok (.invokevirtual 118, 3) := by decide +kernel
theorem dX6_begin_33 : decode cX6_begin 33 = .ok (.ifCond .eq 5, 3) := by decide +kernel
theorem dX6_begin_36 : decode cX6_begin 36 = .ok (.iconst 0, 1) := by decide +kernel
theorem dX6_begin_37 : decode cX6_begin 37 = .ok (.ireturn, 1) := by decide +kernel
theorem dX6_begin_38 : decode cX6_begin 38 = .ok (.aload_n 0, 1) := by decide +kernel
theorem dX6_begin_39 : decode cX6_begin 39 = .ok (.invokevirtual 239, 3) := by decide +kernel
theorem dX6_begin_42 : decode cX6_begin 42 = .ok (.aload_n 0, 1) := by decide +kernel
theorem dX6_begin_43 : decode cX6_begin 43 = .ok (.getfield 16, 3) := by decide +kernel
theorem dX6_begin_46 : decode cX6_begin 46 = .ok (.iload_n 1, 1) := by decide +kernel
theorem dX6_begin_47 : decode cX6_begin 47 = .ok (.invokestatic 175, 3) := by decide +kernel
theorem dX6_begin_50 : decode cX6_begin 50 = .ok (.aload_n 0, 1) := by decide +kernel
theorem dX6_begin_51 : decode cX6_begin 51 = .ok (.getfield 16, 3) := by decide +kernel
theorem dX6_begin_54 : decode cX6_begin 54 = .ok (.iload_n 1, 1) := by decide +kernel
theorem dX6_begin_55 : decode cX6_begin 55 = .ok (.invokestatic 69, 3) := by decide +kernel
theorem dX6_begin_58 : decode cX6_begin 58 = .ok (.ireturn, 1) := by decide +kernel
theorem dX6_write_0 : decode cX6_write 0 = .ok (.iload_n 1, 1) := by decide +kernel
theorem dX6_write_1 : decode cX6_write 1 = .ok (.invokestatic 232, 3) := by decide +kernel
theorem dX6_write_4 : decode cX6_write 4 = .ok (.ifCond .eq 14, 3) := by decide +kernel
theorem dX6_write_7 : decode cX6_write 7 = .ok (.iload_n 2, 1) := by decide +kernel
theorem dX6_write_8 : decode cX6_write 8 = .ok (.invokestatic 226, 3) := by decide +kernel
theorem dX6_write_11 : decode cX6_write 11 = .ok (.ifCond .eq 7, 3) := by decide +kernel
theorem dX6_write_14 : decode cX6_write 14 = .ok (.iconst 1, 1) := by decide +kernel
theorem dX6_write_15 : decode cX6_write 15 = .ok (.goto 4, 3) := by decide +kernel
theorem dX6_write_18 : decode cX6_write 18 = .ok (.iconst 0, 1) := by decide +kernel
theorem dX6_write_19 : decode cX6_write 19 = .ok (.istore 4, 2) := by decide +kernel
theorem dX6_write_21 : decode cX6_write 21 = .ok (.aload_n 0, 1) := by decide +kernel
theorem dX6_write_22 : decode cX6_write 22 = .ok (.iload 4, 2) := by decide +kernel
theorem dX6_write_24 : decode cX6_write 24 = .ok (.ifCond .ne 7, 3) := by decide +kernel
theorem dX6_write_27 : decode cX6_write 27 = .ok (.iconst 1, 1) := by decide +kernel
theorem dX6_write_28 : decode cX6_write 28 = .ok (.goto 36, 3) := by decide +kernel
theorem dX6_write_31 : decode cX6_write 31 = .ok (.iload_n 3, 1) := by decide +kernel
theorem dX6_write_32 : decode cX6_write 32 = .ok (.i2l, 1) := by decide +kernel
theorem dX6_write_33 : decode cX6_write 33 = .ok (.lconst 0, 1) := by decide +kernel
theorem dX6_write_34 : decode cX6_write 34 = .ok (.ldc2_w 242, 3) := by decide +kernel
theorem dX6_write_37 : decode cX6_write 37 = .ok (.invokestatic 92, 3) := by decide +kernel
theorem dX6_write_40 : decode cX6_write 40 = .ok (.ifCond .ne 7, 3) := by decide +kernel
theorem dX6_write_43 : decode cX6_write 43 = .ok (.iconst 2, 1) := by decide +kernel
theorem dX6_write_44 : decode cX6_write 44 = .ok (.goto 20, 3) := by decide +kernel
theorem dX6_write_47 : decode cX6_write 47 = .ok (.aload_n 0, 1) := by decide +kernel
theorem dX6_write_48 : decode cX6_write 48 = .ok (.getfield 16, 3) := by decide +kernel
theorem dX6_write_51 : decode cX6_write 51 = .ok (.iload_n 1, 1) := by decide +kernel
theorem dX6_write_52 : decode cX6_write 52 = .ok (.iload_n 2, 1) := by decide +kernel
theorem dX6_write_53 : decode cX6_write 53 = .ok (.invokestatic 99, 3) := by decide +kernel
theorem dX6_write_56 : decode cX6_write 56 = .ok (.ifCond .ne 7, 3) := by decide +kernel
theorem dX6_write_59 : decode cX6_write 59 = .ok (.iconst 0, 1) := by decide +kernel
theorem dX6_write_60 : decode cX6_write 60 = .ok (.goto 4, 3) := by decide +kernel
theorem dX6_write_63 : decode cX6_write 63 = .ok (.iconst 3, 1) := by decide +kernel
theorem dX6_write_64 : decode cX6_write 64 = .ok (.invokevirtual 118, 3) := by decide +kernel
theorem dX6_write_67 : decode cX6_write 67 = .ok (.ifCond .eq 5, 3) := by decide +kernel
theorem dX6_write_70 : decode cX6_write 70 = .ok (.iconst 0, 1) := by decide +kernel
theorem dX6_write_71 : decode cX6_write 71 = .ok (.ireturn, 1) := by decide +kernel
theorem dX6_write_72 : decode cX6_write 72 = .ok (.aload_n 0, 1) := by decide +kernel
theorem dX6_write_73 : decode cX6_write 73 = .ok (.invokevirtual 239, 3) := by decide +kernel
theorem dX6_write_76 : decode cX6_write 76 = .ok (.aload_n 0, 1) := by decide +kernel
theorem dX6_write_77 : decode cX6_write 77 = .ok (.getfield 16, 3) := by decide +kernel
theorem dX6_write_80 : decode cX6_write 80 = .ok (.iload_n 1, 1) := by decide +kernel
theorem dX6_write_81 : decode cX6_write 81 = .ok (.iload_n 2, 1) := by decide +kernel
theorem dX6_write_82 : decode cX6_write 82 = .ok (.iload_n 3, 1) := by decide +kernel
theorem dX6_write_83 : decode cX6_write 83 = .ok (.invokestatic 152, 3) := by decide +kernel
theorem dX6_write_86 : decode cX6_write 86 = .ok (.ireturn, 1) := by decide +kernel
theorem dX6_point_0 : decode cX6_point 0 = .ok (.iload_n 1, 1) := by decide +kernel
theorem dX6_point_1 : decode cX6_point 1 = .ok (.invokestatic 232, 3) := by decide +kernel
theorem dX6_point_4 : decode cX6_point 4 = .ok (.istore_n 2, 1) := by decide +kernel
theorem dX6_point_5 : decode cX6_point 5 = .ok (.aload_n 0, 1) := by decide +kernel
theorem dX6_point_6 : decode cX6_point 6 = .ok (.iload_n 2, 1) := by decide +kernel
theorem dX6_point_7 : decode cX6_point 7 = .ok (.ifCond .ne 7, 3) := by decide +kernel
theorem dX6_point_10 : decode cX6_point 10 = .ok (.iconst 1, 1) := by decide +kernel
theorem dX6_point_11 : decode cX6_point 11 = .ok (.goto 19, 3) := by decide +kernel
theorem dX6_point_14 : decode cX6_point 14 = .ok (.aload_n 0, 1) := by decide +kernel
theorem dX6_point_15 : decode cX6_point 15 = .ok (.getfield 16, 3) := by decide +kernel
theorem dX6_point_18 : decode cX6_point 18 = .ok (.iload_n 1, 1) := by decide +kernel
theorem dX6_point_19 : decode cX6_point 19 = .ok (.invokestatic 172, 3) := by decide +kernel
theorem dX6_point_22 : decode cX6_point 22 = .ok (.ifCond .eq 7, 3) := by decide +kernel
theorem dX6_point_25 : decode cX6_point 25 = .ok (.iconst 0, 1) := by decide +kernel
theorem dX6_point_26 : decode cX6_point 26 = .ok (.goto 4, 3) := by decide +kernel
theorem dX6_point_29 : decode cX6_point 29 = .ok (.iconst 2, 1) := by decide +kernel
theorem dX6_point_30 : decode cX6_point 30 = .ok (.invokevirtual 118, 3) := by decide +kernel
theorem dX6_point_33 : decode cX6_point 33 = .ok (.ifCond .eq 5, 3) := by decide +kernel
theorem dX6_point_36 : decode cX6_point 36 = .ok (.iconst 0, 1) := by decide +kernel
theorem dX6_point_37 : decode cX6_point 37 = .ok (.ireturn, 1) := by decide +kernel
theorem dX6_point_38 : decode cX6_point 38 = .ok (.aload_n 0, 1) := by decide +kernel
theorem dX6_point_39 : decode cX6_point 39 = .ok (.invokevirtual 239, 3) := by decide +kernel
theorem dX6_point_42 : decode cX6_point 42 = .ok (.aload_n 0, 1) := by decide +kernel
theorem dX6_point_43 : decode cX6_point 43 = .ok (.getfield 16, 3) := by decide +kernel
theorem dX6_point_46 : decode cX6_point 46 = .ok (.iload_n 1, 1) := by decide +kernel
theorem dX6_point_47 : decode cX6_point 47 = .ok (.invokestatic 178, 3) := by decide +kernel
theorem dX6_point_50 : decode cX6_point 50 = .ok (.ireturn, 1) := by decide +kernel
theorem dX6_back_0 : decode cX6_back 0 = .ok (.iload_n 1, 1) := by decide +kernel
theorem dX6_back_1 : decode cX6_back 1 = .ok (.invokestatic 232, 3) := by decide +kernel
theorem dX6_back_4 : decode cX6_back 4 = .ok (.ifCond .eq 19, 3) := by decide +kernel
theorem dX6_back_7 : decode cX6_back 7 = .ok (.aload_n 0, 1) := by decide +kernel
theorem dX6_back_8 : decode cX6_back 8 = .ok (.getfield 16, 3) := by decide +kernel
theorem dX6_back_11 : decode cX6_back 11 = .ok (.iload_n 1, 1) := by decide +kernel
theorem dX6_back_12 : decode cX6_back 12 = .ok (.iload_n 2, 1) := by decide +kernel
theorem dX6_back_13 : decode cX6_back 13 = .ok (.invokestatic 163, 3) := by decide +kernel
theorem dX6_back_16 : decode cX6_back 16 = .ok (.ifCond .eq 7, 3) := by decide +kernel
theorem dX6_back_19 : decode cX6_back 19 = .ok (.iconst 1, 1) := by decide +kernel
theorem dX6_back_20 : decode cX6_back 20 = .ok (.goto 4, 3) := by decide +kernel
theorem dX6_back_23 : decode cX6_back 23 = .ok (.iconst 0, 1) := by decide +kernel
theorem dX6_back_24 : decode cX6_back 24 = .ok (.istore_n 3, 1) := by decide +kernel
theorem dX6_back_25 : decode cX6_back 25 = .ok (.aload_n 0, 1) := by decide +kernel
theorem dX6_back_26 : decode cX6_back 26 = .ok (.iload_n 3, 1) := by decide +kernel
theorem dX6_back_27 : decode cX6_back 27 = .ok (.ifCond .ne 7, 3) := by decide +kernel
theorem dX6_back_30 : decode cX6_back 30 = .ok (.iconst 1, 1) := by decide +kernel
theorem dX6_back_31 : decode cX6_back 31 = .ok (.goto 19, 3) := by decide +kernel
theorem dX6_back_34 : decode cX6_back 34 = .ok (.aload_n 0, 1) := by decide +kernel
theorem dX6_back_35 : decode cX6_back 35 = .ok (.getfield 16, 3) := by decide +kernel
theorem dX6_back_38 : decode cX6_back 38 = .ok (.iload_n 1, 1) := by decide +kernel
theorem dX6_back_39 : decode cX6_back 39 = .ok (.invokestatic 81, 3) := by decide +kernel
theorem dX6_back_42 : decode cX6_back 42 = .ok (.ifCond .eq 7, 3) := by decide +kernel
theorem dX6_back_45 : decode cX6_back 45 = .ok (.iconst 2, 1) := by decide +kernel
theorem dX6_back_46 : decode cX6_back 46 = .ok (.goto 4, 3) := by decide +kernel
theorem dX6_back_49 : decode cX6_back 49 = .ok (.iconst 0, 1) := by decide +kernel
theorem dX6_back_50 : decode cX6_back 50 = .ok (.invokevirtual 118, 3) := by decide +kernel
theorem dX6_back_53 : decode cX6_back 53 = .ok (.ifCond .eq 5, 3) := by decide +kernel
theorem dX6_back_56 : decode cX6_back 56 = .ok (.iconst 0, 1) := by decide +kernel
theorem dX6_back_57 : decode cX6_back 57 = .ok (.ireturn, 1) := by decide +kernel
theorem dX6_back_58 : decode cX6_back 58 = .ok (.aload_n 0, 1) := by decide +kernel
theorem dX6_back_59 : decode cX6_back 59 = .ok (.invokevirtual 239, 3) := by decide +kernel
theorem dX6_back_62 : decode cX6_back 62 = .ok (.aload_n 0, 1) := by decide +kernel
theorem dX6_back_63 : decode cX6_back 63 = .ok (.getfield 16, 3) := by decide +kernel
theorem dX6_back_66 : decode cX6_back 66 = .ok (.iload_n 1, 1) := by decide +kernel
theorem dX6_back_67 : decode cX6_back 67 = .ok (.iload_n 2, 1) := by decide +kernel
theorem dX6_back_68 : decode cX6_back 68 = .ok (.invokestatic 166, 3) := by decide +kernel
theorem dX6_back_71 : decode cX6_back 71 = .ok (.ireturn, 1) := by decide +kernel
theorem dX6_regret_0 : decode cX6_regret 0 = .ok (.iload_n 1, 1) := by decide +kernel
theorem dX6_regret_1 : decode cX6_regret 1 = .ok (.invokestatic 232, 3) := by decide +kernel
theorem dX6_regret_4 : decode cX6_regret 4 = .ok (.ifCond .eq 14, 3) := by decide +kernel
theorem dX6_regret_7 : decode cX6_regret 7 = .ok (.iload_n 2, 1) := by decide +kernel
theorem dX6_regret_8 : decode cX6_regret 8 = .ok (.invokestatic 226, 3) := by decide +kernel
theorem dX6_regret_11 : decode cX6_regret 11 = .ok (.ifCond .eq 7, 3) := by decide +kernel
theorem dX6_regret_14 : decode cX6_regret 14 = .ok (.iconst 1, 1) := by decide +kernel
theorem dX6_regret_15 : decode cX6_regret 15 = .ok (.goto 4, 3) := by decide +kernel
theorem dX6_regret_18 : decode cX6_regret 18 = .ok (.iconst 0, 1) := by decide +kernel
theorem dX6_regret_19 : decode cX6_regret 19 = .ok (.istore 4, 2) := by decide +kernel
theorem dX6_regret_21 : decode cX6_regret 21 = .ok (.aload_n 0, 1) := by decide +kernel
theorem dX6_regret_22 : decode cX6_regret 22 = .ok (.iload 4, 2) := by decide +kernel
theorem dX6_regret_24 : decode cX6_regret 24 = .ok (.ifCond .ne 7, 3) := by decide +kernel
theorem dX6_regret_27 : decode cX6_regret 27 = .ok (.iconst 1, 1) := by decide +kernel
theorem dX6_regret_28 : decode cX6_regret 28 = .ok (.goto 36, 3) := by decide +kernel
theorem dX6_regret_31 : decode cX6_regret 31 = .ok (.iload_n 3, 1) := by decide +kernel
theorem dX6_regret_32 : decode cX6_regret 32 = .ok (.i2l, 1) := by decide +kernel
theorem dX6_regret_33 : decode cX6_regret 33 = .ok (.lconst 1, 1) := by decide +kernel
theorem dX6_regret_34 : decode cX6_regret 34 = .ok (.ldc2_w 242, 3) := by decide +kernel
theorem dX6_regret_37 : decode cX6_regret 37 = .ok (.invokestatic 92, 3) := by decide +kernel
theorem dX6_regret_40 : decode cX6_regret 40 = .ok (.ifCond .ne 7, 3) := by decide +kernel
theorem dX6_regret_43 : decode cX6_regret 43 = .ok (.iconst 2, 1) := by decide +kernel
theorem dX6_regret_44 : decode cX6_regret 44 = .ok (.goto 20, 3) := by decide +kernel
theorem dX6_regret_47 : decode cX6_regret 47 = .ok (.aload_n 0, 1) := by decide +kernel
theorem dX6_regret_48 : decode cX6_regret 48 = .ok (.getfield 16, 3) := by decide +kernel
theorem dX6_regret_51 : decode cX6_regret 51 = .ok (.iload_n 1, 1) := by decide +kernel
theorem dX6_regret_52 : decode cX6_regret 52 = .ok (.iload_n 2, 1) := by decide +kernel
theorem dX6_regret_53 : decode cX6_regret 53 = .ok (.invokestatic 156, 3) := by decide +kernel
theorem dX6_regret_56 : decode cX6_regret 56 = .ok (.ifCond .eq 7, 3) := by decide +kernel
theorem dX6_regret_59 : decode cX6_regret 59 = .ok (.iconst 0, 1) := by decide +kernel
theorem dX6_regret_60 : decode cX6_regret 60 = .ok (.goto 4, 3) := by decide +kernel
theorem dX6_regret_63 : decode cX6_regret 63 = .ok (.iconst 3, 1) := by decide +kernel
theorem dX6_regret_64 : decode cX6_regret 64 = .ok (.invokevirtual 118, 3) := by decide +kernel
theorem dX6_regret_67 : decode cX6_regret 67 = .ok (.ifCond .eq 5, 3) := by decide +kernel
theorem dX6_regret_70 : decode cX6_regret 70 = .ok (.iconst 0, 1) := by decide +kernel
theorem dX6_regret_71 : decode cX6_regret 71 = .ok (.ireturn, 1) := by decide +kernel
theorem dX6_regret_72 : decode cX6_regret 72 = .ok (.aload_n 0, 1) := by decide +kernel
theorem dX6_regret_73 : decode cX6_regret 73 = .ok (.invokevirtual 239, 3) := by decide +kernel
theorem dX6_regret_76 : decode cX6_regret 76 = .ok (.aload_n 0, 1) := by decide +kernel
theorem dX6_regret_77 : decode cX6_regret 77 = .ok (.getfield 16, 3) := by decide +kernel
theorem dX6_regret_80 : decode cX6_regret 80 = .ok (.iload_n 1, 1) := by decide +kernel
theorem dX6_regret_81 : decode cX6_regret 81 = .ok (.iload_n 2, 1) := by decide +kernel
theorem dX6_regret_82 : decode cX6_regret 82 = .ok (.iload_n 3, 1) := by decide +kernel
theorem dX6_regret_83 : decode cX6_regret 83 = .ok (.invokestatic 160, 3) := by decide +kernel
theorem dX6_regret_86 : decode cX6_regret 86 = .ok (.ireturn, 1) := by decide +kernel
theorem dX6_done_0 : decode cX6_done 0 = .ok (.iload_n 1, 1) := by decide +kernel
theorem dX6_done_1 : decode cX6_done 1 = .ok (.invokestatic 232, 3) := by decide +kernel
theorem dX6_done_4 : decode cX6_done 4 = .ok (.istore_n 2, 1) := by decide +kernel
theorem dX6_done_5 : decode cX6_done 5 = .ok (.aload_n 0, 1) := by decide +kernel
theorem dX6_done_6 : decode cX6_done 6 = .ok (.iload_n 2, 1) := by decide +kernel
theorem dX6_done_7 : decode cX6_done 7 = .ok (.ifCond .ne 7, 3) := by decide +kernel
theorem dX6_done_10 : decode cX6_done 10 = .ok (.iconst 1, 1) := by decide +kernel
theorem dX6_done_11 : decode cX6_done 11 = .ok (.goto 19, 3) := by decide +kernel
theorem dX6_done_14 : decode cX6_done 14 = .ok (.aload_n 0, 1) := by decide +kernel
theorem dX6_done_15 : decode cX6_done 15 = .ok (.getfield 16, 3) := by decide +kernel
theorem dX6_done_18 : decode cX6_done 18 = .ok (.iload_n 1, 1) := by decide +kernel
theorem dX6_done_19 : decode cX6_done 19 = .ok (.invokestatic 89, 3) := by decide +kernel
theorem dX6_done_22 : decode cX6_done 22 = .ok (.ifCond .eq 7, 3) := by decide +kernel
theorem dX6_done_25 : decode cX6_done 25 = .ok (.iconst 0, 1) := by decide +kernel
theorem dX6_done_26 : decode cX6_done 26 = .ok (.goto 4, 3) := by decide +kernel
theorem dX6_done_29 : decode cX6_done 29 = .ok (.iconst 2, 1) := by decide +kernel
theorem dX6_done_30 : decode cX6_done 30 = .ok (.invokevirtual 118, 3) := by decide +kernel
theorem dX6_done_33 : decode cX6_done 33 = .ok (.ifCond .eq 5, 3) := by decide +kernel
theorem dX6_done_36 : decode cX6_done 36 = .ok (.iconst 0, 1) := by decide +kernel
theorem dX6_done_37 : decode cX6_done 37 = .ok (.ireturn, 1) := by decide +kernel
theorem dX6_done_38 : decode cX6_done 38 = .ok (.aload_n 0, 1) := by decide +kernel
theorem dX6_done_39 : decode cX6_done 39 = .ok (.invokevirtual 239, 3) := by decide +kernel
theorem dX6_done_42 : decode cX6_done 42 = .ok (.aload_n 0, 1) := by decide +kernel
theorem dX6_done_43 : decode cX6_done 43 = .ok (.getfield 16, 3) := by decide +kernel
theorem dX6_done_46 : decode cX6_done 46 = .ok (.iload_n 1, 1) := by decide +kernel
theorem dX6_done_47 : decode cX6_done 47 = .ok (.invokestatic 181, 3) := by decide +kernel
theorem dX6_done_50 : decode cX6_done 50 = .ok (.ireturn, 1) := by decide +kernel
theorem dX6_fail_0 : decode cX6_fail 0 = .ok (.iload_n 1, 1) := by decide +kernel
theorem dX6_fail_1 : decode cX6_fail 1 = .ok (.invokestatic 232, 3) := by decide +kernel
theorem dX6_fail_4 : decode cX6_fail 4 = .ok (.istore_n 2, 1) := by decide +kernel
theorem dX6_fail_5 : decode cX6_fail 5 = .ok (.aload_n 0, 1) := by decide +kernel
theorem dX6_fail_6 : decode cX6_fail 6 = .ok (.iload_n 2, 1) := by decide +kernel
theorem dX6_fail_7 : decode cX6_fail 7 = .ok (.ifCond .ne 7, 3) := by decide +kernel
theorem dX6_fail_10 : decode cX6_fail 10 = .ok (.iconst 1, 1) := by decide +kernel
theorem dX6_fail_11 : decode cX6_fail 11 = .ok (.goto 19, 3) := by decide +kernel
theorem dX6_fail_14 : decode cX6_fail 14 = .ok (.aload_n 0, 1) := by decide +kernel
theorem dX6_fail_15 : decode cX6_fail 15 = .ok (.getfield 16, 3) := by decide +kernel
theorem dX6_fail_18 : decode cX6_fail 18 = .ok (.iload_n 1, 1) := by decide +kernel
theorem dX6_fail_19 : decode cX6_fail 19 = .ok (.invokestatic 69, 3) := by decide +kernel
theorem dX6_fail_22 : decode cX6_fail 22 = .ok (.ifCond .le 7, 3) := by decide +kernel
theorem dX6_fail_25 : decode cX6_fail 25 = .ok (.iconst 0, 1) := by decide +kernel
theorem dX6_fail_26 : decode cX6_fail 26 = .ok (.goto 4, 3) := by decide +kernel
theorem dX6_fail_29 : decode cX6_fail 29 = .ok (.iconst 2, 1) := by decide +kernel
theorem dX6_fail_30 : decode cX6_fail 30 = .ok (.invokevirtual 118, 3) := by decide +kernel
theorem dX6_fail_33 : decode cX6_fail 33 = .ok (.ifCond .eq 5, 3) := by decide +kernel
theorem dX6_fail_36 : decode cX6_fail 36 = .ok (.iconst 0, 1) := by decide +kernel
theorem dX6_fail_37 : decode cX6_fail 37 = .ok (.ireturn, 1) := by decide +kernel
theorem dX6_fail_38 : decode cX6_fail 38 = .ok (.aload_n 0, 1) := by decide +kernel
theorem dX6_fail_39 : decode cX6_fail 39 = .ok (.invokevirtual 239, 3) := by decide +kernel
theorem dX6_fail_42 : decode cX6_fail 42 = .ok (.aload_n 0, 1) := by decide +kernel
theorem dX6_fail_43 : decode cX6_fail 43 = .ok (.getfield 16, 3) := by decide +kernel
theorem dX6_fail_46 : decode cX6_fail 46 = .ok (.iload_n 1, 1) := by decide +kernel
theorem dX6_fail_47 : decode cX6_fail 47 = .ok (.invokestatic 184, 3) := by decide +kernel
theorem dX6_fail_50 : decode cX6_fail 50 = .ok (.ireturn, 1) := by decide +kernel
theorem dX6_setMercy_0 : decode cX6_setMercy 0 = .ok (.aload_n 0, 1) := by decide +kernel
theorem dX6_setMercy_1 : decode cX6_setMercy 1 = .ok (.iload_n 1, 1) := by decide +kernel
theorem dX6_setMercy_2 : decode cX6_setMercy 2 = .ok (.i2l, 1) := by decide +kernel
theorem dX6_setMercy_3 : decode cX6_setMercy 3 = .ok (.lconst 0, 1) := by decide +kernel
theorem dX6_setMercy_4 : decode cX6_setMercy 4 = .ok (.ldc2_w 244, 3) := by decide +kernel
theorem dX6_setMercy_7 : decode cX6_setMercy 7 = .ok (.invokestatic 92, 3) := by decide +kernel
theorem dX6_setMercy_10 : decode cX6_setMercy 10 = .ok (.ifCond .eq 7, 3) := by decide +kernel
theorem dX6_setMercy_13 : decode cX6_setMercy 13 = .ok (.iconst 0, 1) := by decide +kernel
theorem dX6_setMercy_14 : decode cX6_setMercy 14 = .ok (.goto 4, 3) := by decide +kernel
theorem dX6_setMercy_17 : decode cX6_setMercy 17 = .ok (.iconst 1, 1) := by decide +kernel
theorem dX6_setMercy_18 : decode cX6_setMercy 18 = .ok (.invokevirtual 118, 3) := by decide +kernel
theorem dX6_setMercy_21 : decode cX6_setMercy 21 = .ok (.ifCond .eq 5, 3) := by decide +kernel
theorem dX6_setMercy_24 : decode cX6_setMercy 24 = .ok (.iconst 0, 1) := by decide +kernel
theorem dX6_setMercy_25 : decode cX6_setMercy 25 = .ok (.ireturn, 1) := by decide +kernel
theorem dX6_setMercy_26 : decode cX6_setMercy 26 = .ok (.aload_n 0, 1) := by decide +kernel
theorem dX6_setMercy_27 : decode cX6_setMercy 27 = .ok (.invokevirtual 239, 3) := by decide +kernel
theorem dX6_setMercy_30 : decode cX6_setMercy 30 = .ok (.aload_n 0, 1) := by decide +kernel
theorem dX6_setMercy_31 : decode cX6_setMercy 31 = .ok (.getfield 16, 3) := by decide +kernel
theorem dX6_setMercy_34 : decode cX6_setMercy 34 = .ok (.bipush 32, 2) := by decide +kernel
theorem dX6_setMercy_36 : decode cX6_setMercy 36 = .ok (.iaload, 1) := by decide +kernel
theorem dX6_setMercy_37 : decode cX6_setMercy 37 = .ok (.istore_n 2, 1) := by decide +kernel
theorem dX6_setMercy_38 : decode cX6_setMercy 38 = .ok (.aload_n 0, 1) := by decide +kernel
theorem dX6_setMercy_39 : decode cX6_setMercy 39 = .ok (.getfield 16, 3) := by decide +kernel
theorem dX6_setMercy_42 : decode cX6_setMercy 42 = .ok (.bipush 32, 2) := by decide +kernel
theorem dX6_setMercy_44 : decode cX6_setMercy 44 = .ok (.iload_n 1, 1) := by decide +kernel
theorem dX6_setMercy_45 : decode cX6_setMercy 45 = .ok (.iastore, 1) := by decide +kernel
theorem dX6_setMercy_46 : decode cX6_setMercy 46 = .ok (.iload_n 2, 1) := by decide +kernel
theorem dX6_setMercy_47 : decode cX6_setMercy 47 = .ok (.ireturn, 1) := by decide +kernel
theorem dX6_undo_0 : decode cX6_undo 0 = .ok (.aload_n 0, 1) := by decide +kernel
theorem dX6_undo_1 : decode cX6_undo 1 = .ok (.aload_n 0, 1) := by decide +kernel
theorem dX6_undo_2 : decode cX6_undo 2 = .ok (.getfield 58, 3) := by decide +kernel
theorem dX6_undo_5 : decode cX6_undo 5 = .ok (.ifCond .ne 7, 3) := by decide +kernel
theorem dX6_undo_8 : decode cX6_undo 8 = .ok (.iconst 1, 1) := by decide +kernel
theorem dX6_undo_9 : decode cX6_undo 9 = .ok (.goto 4, 3) := by decide +kernel
theorem dX6_undo_12 : decode cX6_undo 12 = .ok (.iconst 0, 1) := by decide +kernel
theorem dX6_undo_13 : decode cX6_undo 13 = .ok (.invokevirtual 118, 3) := by decide +kernel
theorem dX6_undo_16 : decode cX6_undo 16 = .ok (.ifCond .eq 5, 3) := by decide +kernel
theorem dX6_undo_19 : decode cX6_undo 19 = .ok (.iconst 0, 1) := by decide +kernel
theorem dX6_undo_20 : decode cX6_undo 20 = .ok (.ireturn, 1) := by decide +kernel
theorem dX6_undo_21 : decode cX6_undo 21 = .ok (.aload_n 0, 1) := by decide +kernel
theorem dX6_undo_22 : decode cX6_undo 22 = .ok (.dup, 1) := by decide +kernel
theorem dX6_undo_23 : decode cX6_undo 23 = .ok (.getfield 58, 3) := by decide +kernel
theorem dX6_undo_26 : decode cX6_undo 26 = .ok (.iconst 1, 1) := by decide +kernel
theorem dX6_undo_27 : decode cX6_undo 27 = .ok (.isub, 1) := by decide +kernel
theorem dX6_undo_28 : decode cX6_undo 28 = .ok (.putfield 58, 3) := by decide +kernel
theorem dX6_undo_31 : decode cX6_undo 31 = .ok (.aload_n 0, 1) := by decide +kernel
theorem dX6_undo_32 : decode cX6_undo 32 = .ok (.aload_n 0, 1) := by decide +kernel
theorem dX6_undo_33 : decode cX6_undo 33 = .ok (.getfield 58, 3) := by decide +kernel
theorem dX6_undo_36 : decode cX6_undo 36 = .ok (.invokevirtual 246, 3) := by decide +kernel
theorem dX6_undo_39 : decode cX6_undo 39 = .ok (.aload_n 0, 1) := by decide +kernel
theorem dX6_undo_40 : decode cX6_undo 40 = .ok (.getfield 58, 3) := by decide +kernel
theorem dX6_undo_43 : decode cX6_undo 43 = .ok (.ireturn, 1) := by decide +kernel
theorem dX6_whyNot_0 : decode cX6_whyNot 0 = .ok (.iload_n 1, 1) := by decide +kernel
theorem dX6_whyNot_1 : decode cX6_whyNot 1 = .ok (.invokestatic 232, 3) := by decide +kernel
theorem dX6_whyNot_4 : decode cX6_whyNot 4 = .ok (.ifCond .eq 14, 3) := by decide +kernel
theorem dX6_whyNot_7 : decode cX6_whyNot 7 = .ok (.iload_n 2, 1) := by decide +kernel
theorem dX6_whyNot_8 : decode cX6_whyNot 8 = .ok (.invokestatic 226, 3) := by decide +kernel
theorem dX6_whyNot_11 : decode cX6_whyNot 11 = .ok (.ifCond .eq 7, 3) := by decide +kernel
theorem dX6_whyNot_14 : decode cX6_whyNot 14 = .ok (.iconst 1, 1) := by decide +kernel
theorem dX6_whyNot_15 : decode cX6_whyNot 15 = .ok (.goto 4, 3) := by decide +kernel
theorem dX6_whyNot_18 : decode cX6_whyNot 18 = .ok (.iconst 0, 1) := by decide +kernel
theorem dX6_whyNot_19 : decode cX6_whyNot 19 = .ok (.istore_n 3, 1) := by decide +kernel
theorem dX6_whyNot_20 : decode cX6_whyNot 20 = .ok (.aload_n 0, 1) := by decide +kernel
theorem dX6_whyNot_21 : decode cX6_whyNot 21 = .ok (.iload_n 3, 1) := by decide +kernel
theorem dX6_whyNot_22 : decode cX6_whyNot 22 = .ok (.ifCond .eq 7, 3) := by decide +kernel
theorem dX6_whyNot_25 : decode cX6_whyNot 25 = .ok (.iconst 0, 1) := by decide +kernel
theorem dX6_whyNot_26 : decode cX6_whyNot 26 = .ok (.goto 4, 3) := by decide +kernel
theorem dX6_whyNot_29 : decode cX6_whyNot 29 = .ok (.iconst 1, 1) := by decide +kernel
theorem dX6_whyNot_30 : decode cX6_whyNot 30 = .ok (.invokevirtual 118, 3) := by decide +kernel
theorem dX6_whyNot_33 : decode cX6_whyNot 33 = .ok (.ifCond .eq 7, 3) := by decide +kernel
theorem dX6_whyNot_36 : decode cX6_whyNot 36 = .ok (.iconst 0, 1) := by decide +kernel
theorem dX6_whyNot_37 : decode cX6_whyNot 37 = .ok (.goto 12, 3) := by decide +kernel
theorem dX6_whyNot_40 : decode cX6_whyNot 40 = .ok (.aload_n 0, 1) := by decide +kernel
theorem dX6_whyNot_41 : decode cX6_whyNot 41 = .ok (.getfield 16, 3) := by decide +kernel
theorem dX6_whyNot_44 : decode cX6_whyNot 44 = .ok (.iload_n 1, 1) := by decide +kernel
theorem dX6_whyNot_45 : decode cX6_whyNot 45 = .ok (.iload_n 2, 1) := by decide +kernel
theorem dX6_whyNot_46 : decode cX6_whyNot 46 = .ok (.invokestatic 99, 3) := by decide +kernel
theorem dX6_whyNot_49 : decode cX6_whyNot 49 = .ok (.ireturn, 1) := by decide +kernel
theorem dX6_failed_0 : decode cX6_failed 0 = .ok (.iload_n 1, 1) := by decide +kernel
theorem dX6_failed_1 : decode cX6_failed 1 = .ok (.invokestatic 232, 3) := by decide +kernel
theorem dX6_failed_4 : decode cX6_failed 4 = .ok (.ifCond .eq 14, 3) := by decide +kernel
theorem dX6_failed_7 : decode cX6_failed 7 = .ok (.iload_n 2, 1) := by decide +kernel
theorem dX6_failed_8 : decode cX6_failed 8 = .ok (.invokestatic 226, 3) := by decide +kernel
theorem dX6_failed_11 : decode cX6_failed 11 = .ok (.ifCond .eq 7, 3) := by decide +kernel
theorem dX6_failed_14 : decode cX6_failed 14 = .ok (.iconst 1, 1) := by decide +kernel
theorem dX6_failed_15 : decode cX6_failed 15 = .ok (.goto 4, 3) := by decide +kernel
theorem dX6_failed_18 : decode cX6_failed 18 = .ok (.iconst 0, 1) := by decide +kernel
theorem dX6_failed_19 : decode cX6_failed 19 = .ok (.istore 4, 2) := by decide +kernel
theorem dX6_failed_21 : decode cX6_failed 21 = .ok (.aload_n 0, 1) := by decide +kernel
theorem dX6_failed_22 : decode cX6_failed 22 = .ok (.iload 4, 2) := by decide +kernel
theorem dX6_failed_24 : decode cX6_failed 24 = .ok (.ifCond .ne 7, 3) := by decide +kernel
theorem dX6_failed_27 : decode cX6_failed 27 = .ok (.iconst 1, 1) := by decide +kernel
theorem dX6_failed_28 : decode cX6_failed 28 = .ok (.goto 20, 3) := by decide +kernel
theorem dX6_failed_31 : decode cX6_failed 31 = .ok (.iload_n 3, 1) := by decide +kernel
theorem dX6_failed_32 : decode cX6_failed 32 = .ok (.i2l, 1) := by decide +kernel
theorem dX6_failed_33 : decode cX6_failed 33 = .ok (.lconst 0, 1) := by decide +kernel
theorem dX6_failed_34 : decode cX6_failed 34 = .ok (.ldc2_w 235, 3) := by decide +kernel
theorem dX6_failed_37 : decode cX6_failed 37 = .ok (.invokestatic 92, 3) := by decide +kernel
theorem dX6_failed_40 : decode cX6_failed 40 = .ok (.ifCond .eq 7, 3) := by decide +kernel
theorem dX6_failed_43 : decode cX6_failed 43 = .ok (.iconst 0, 1) := by decide +kernel
theorem dX6_failed_44 : decode cX6_failed 44 = .ok (.goto 4, 3) := by decide +kernel
theorem dX6_failed_47 : decode cX6_failed 47 = .ok (.iconst 2, 1) := by decide +kernel
theorem dX6_failed_48 : decode cX6_failed 48 = .ok (.invokevirtual 118, 3) := by decide +kernel
theorem dX6_failed_51 : decode cX6_failed 51 = .ok (.ifCond .eq 5, 3) := by decide +kernel
theorem dX6_failed_54 : decode cX6_failed 54 = .ok (.iconst 0, 1) := by decide +kernel
theorem dX6_failed_55 : decode cX6_failed 55 = .ok (.ireturn, 1) := by decide +kernel
theorem dX6_failed_56 : decode cX6_failed 56 = .ok (.aload_n 0, 1) := by decide +kernel
theorem dX6_failed_57 : decode cX6_failed 57 = .ok (.invokevirtual 249, 3) := by decide +kernel
theorem dX6_failed_60 : decode cX6_failed 60 = .ok (.iconst 0, 1) := by decide +kernel
theorem dX6_failed_61 : decode cX6_failed 61 = .ok (.istore 5, 2) := by decide +kernel
theorem dX6_failed_63 : decode cX6_failed 63 = .ok (.iload 5, 2) := by decide +kernel
theorem dX6_failed_65 : decode cX6_failed 65 = .ok (.iload_n 3, 1) := by decide +kernel
theorem dX6_failed_66 : decode cX6_failed 66 = .ok (.if_icmp .ge 29, 3) := by decide +kernel
theorem dX6_failed_69 : decode cX6_failed 69 = .ok (.aload_n 0, 1) := by decide +kernel
theorem dX6_failed_70 : decode cX6_failed 70 = .ok (.getfield 19, 3) := by decide +kernel
theorem dX6_failed_73 : decode cX6_failed 73 = .ok (.iload_n 1, 1) := by decide +kernel
theorem dX6_failed_74 : decode cX6_failed 74 = .ok (.invokestatic 69, 3) := by decide +kernel
theorem dX6_failed_77 : decode cX6_failed 77 = .ok (.ifCond .le 18, 3) := by decide +kernel
theorem dX6_failed_80 : decode cX6_failed 80 = .ok (.aload_n 0, 1) := by decide +kernel
theorem dX6_failed_81 : decode cX6_failed 81 = .ok (.getfield 19, 3) := by decide +kernel
theorem dX6_failed_84 : decode cX6_failed 84 = .ok (.iload_n 1, 1) := by decide +kernel
theorem dX6_failed_85 : decode cX6_failed 85 = .ok (.invokestatic 184, 3) := by decide +kernel
theorem dX6_failed_88 : decode cX6_failed 88 = .ok (.pop, 1) := by decide +kernel
theorem dX6_failed_89 : decode cX6_failed 89 = .ok (.iinc 5 1, 3) := by decide +kernel
theorem dX6_failed_92 : decode cX6_failed 92 = .ok (.goto (-29), 3) := by decide +kernel
theorem dX6_failed_95 : decode cX6_failed 95 = .ok (.aload_n 0, 1) := by decide +kernel
theorem dX6_failed_96 : decode cX6_failed 96 = .ok (.getfield 19, 3) := by decide +kernel
theorem dX6_failed_99 : decode cX6_failed 99 = .ok (.iload_n 2, 1) := by decide +kernel
theorem dX6_failed_100 : decode cX6_failed 100 = .ok (.iaload, 1) := by decide +kernel
theorem dX6_failed_101 : decode cX6_failed 101 = .ok (.ireturn, 1) := by decide +kernel
theorem dX6_other_0 : decode cX6_other 0 = .ok (.iconst 0, 1) := by decide +kernel
theorem dX6_other_1 : decode cX6_other 1 = .ok (.istore_n 1, 1) := by decide +kernel
theorem dX6_other_2 : decode cX6_other 2 = .ok (.iconst 0, 1) := by decide +kernel
theorem dX6_other_3 : decode cX6_other 3 = .ok (.istore_n 2, 1) := by decide +kernel
theorem dX6_other_4 : decode cX6_other 4 = .ok (.iload_n 2, 1) := by decide +kernel
theorem dX6_other_5 : decode cX6_other 5 = .ok (.bipush 16, 2) := by decide +kernel
theorem dX6_other_7 : decode cX6_other 7 = .ok (.if_icmp .ge 32, 3) := by decide +kernel
theorem dX6_other_10 : decode cX6_other 10 = .ok (.iload_n 1, 1) := by decide +kernel
theorem dX6_other_11 : decode cX6_other 11 = .ok (.aload_n 0, 1) := by decide +kernel
theorem dX6_other_12 : decode cX6_other 12 = .ok (.getfield 19, 3) := by decide +kernel
theorem dX6_other_15 : decode cX6_other 15 = .ok (.iload_n 2, 1) := by decide +kernel
theorem dX6_other_16 : decode cX6_other 16 = .ok (.iaload, 1) := by decide +kernel
theorem dX6_other_17 : decode cX6_other 17 = .ok (.aload_n 0, 1) := by decide +kernel
theorem dX6_other_18 : decode cX6_other 18 = .ok (.getfield 16, 3) := by decide +kernel
theorem dX6_other_21 : decode cX6_other 21 = .ok (.iload_n 2, 1) := by decide +kernel
theorem dX6_other_22 : decode cX6_other 22 = .ok (.iaload, 1) := by decide +kernel
theorem dX6_other_23 : decode cX6_other 23 = .ok (.if_icmp .eq 7, 3) := by decide +kernel
theorem dX6_other_26 : decode cX6_other 26 = .ok (.iconst 1, 1) := by decide +kernel
theorem dX6_other_27 : decode cX6_other 27 = .ok (.goto 4, 3) := by decide +kernel
theorem dX6_other_30 : decode cX6_other 30 = .ok (.iconst 0, 1) := by decide +kernel
theorem dX6_other_31 : decode cX6_other 31 = .ok (.iadd, 1) := by decide +kernel
theorem dX6_other_32 : decode cX6_other 32 = .ok (.istore_n 1, 1) := by decide +kernel
theorem dX6_other_33 : decode cX6_other 33 = .ok (.iinc 2 1, 3) := by decide +kernel
theorem dX6_other_36 : decode cX6_other 36 = .ok (.goto (-32), 3) := by decide +kernel
theorem dX6_other_39 : decode cX6_other 39 = .ok (.iload_n 1, 1) := by decide +kernel
theorem dX6_other_40 : decode cX6_other 40 = .ok (.ireturn, 1) := by decide +kernel
theorem dX6_changes_0 : decode cX6_changes 0 = .ok (.aload_n 0, 1) := by decide +kernel
theorem dX6_changes_1 : decode cX6_changes 1 = .ok (.iload_n 1, 1) := by decide +kernel
theorem dX6_changes_2 : decode cX6_changes 2 = .ok (.invokestatic 232, 3) := by decide +kernel
theorem dX6_changes_5 : decode cX6_changes 5 = .ok (.ifCond .eq 7, 3) := by decide +kernel
theorem dX6_changes_8 : decode cX6_changes 8 = .ok (.iconst 0, 1) := by decide +kernel
theorem dX6_changes_9 : decode cX6_changes 9 = .ok (.goto 4, 3) := by decide +kernel
theorem dX6_changes_12 : decode cX6_changes 12 = .ok (.iconst 1, 1) := by decide +kernel
theorem dX6_changes_13 : decode cX6_changes 13 = .ok (.invokevirtual 118, 3) := by decide +kernel
theorem dX6_changes_16 : decode cX6_changes 16 = .ok (.ifCond .eq 5, 3) := by decide +kernel
theorem dX6_changes_19 : decode cX6_changes 19 = .ok (.iconst 0, 1) := by decide +kernel
theorem dX6_changes_20 : decode cX6_changes 20 = .ok (.ireturn, 1) := by decide +kernel
theorem dX6_changes_21 : decode cX6_changes 21 = .ok (.aload_n 0, 1) := by decide +kernel
theorem dX6_changes_22 : decode cX6_changes 22 = .ok (.getfield 16, 3) := by decide +kernel
theorem dX6_changes_25 : decode cX6_changes 25 = .ok (.iload_n 1, 1) := by decide +kernel
theorem dX6_changes_26 : decode cX6_changes 26 = .ok (.invokestatic 69, 3) := by decide +kernel
theorem dX6_changes_29 : decode cX6_changes 29 = .ok (.ifCond .ne 5, 3) := by decide +kernel
theorem dX6_changes_32 : decode cX6_changes 32 = .ok (.iconst (-1), 1) := by decide +kernel
theorem dX6_changes_33 : decode cX6_changes 33 = .ok (.ireturn, 1) := by decide +kernel
theorem dX6_changes_34 : decode cX6_changes 34 = .ok (.aload_n 0, 1) := by decide +kernel
theorem dX6_changes_35 : decode cX6_changes 35 = .ok (.invokevirtual 249, 3) := by decide +kernel
theorem dX6_changes_38 : decode cX6_changes 38 = .ok (.aload_n 0, 1) := by decide +kernel
theorem dX6_changes_39 : decode cX6_changes 39 = .ok (.getfield 19, 3) := by decide +kernel
theorem dX6_changes_42 : decode cX6_changes 42 = .ok (.iload_n 1, 1) := by decide +kernel
theorem dX6_changes_43 : decode cX6_changes 43 = .ok (.invokestatic 184, 3) := by decide +kernel
theorem dX6_changes_46 : decode cX6_changes 46 = .ok (.pop, 1) := by decide +kernel
theorem dX6_changes_47 : decode cX6_changes 47 = .ok (.aload_n 0, 1) := by decide +kernel
theorem dX6_changes_48 : decode cX6_changes 48 = .ok (.invokevirtual 252, 3) := by decide +kernel
theorem dX6_changes_51 : decode cX6_changes 51 = .ok (.ireturn, 1) := by decide +kernel
theorem dX6_lost_0 : decode cX6_lost 0 = .ok (.iload_n 1, 1) := by decide +kernel
theorem dX6_lost_1 : decode cX6_lost 1 = .ok (.invokestatic 232, 3) := by decide +kernel
theorem dX6_lost_4 : decode cX6_lost 4 = .ok (.ifCond .eq 19, 3) := by decide +kernel
theorem dX6_lost_7 : decode cX6_lost 7 = .ok (.aload_n 0, 1) := by decide +kernel
theorem dX6_lost_8 : decode cX6_lost 8 = .ok (.getfield 16, 3) := by decide +kernel
theorem dX6_lost_11 : decode cX6_lost 11 = .ok (.iload_n 1, 1) := by decide +kernel
theorem dX6_lost_12 : decode cX6_lost 12 = .ok (.iload_n 2, 1) := by decide +kernel
theorem dX6_lost_13 : decode cX6_lost 13 = .ok (.invokestatic 163, 3) := by decide +kernel
theorem dX6_lost_16 : decode cX6_lost 16 = .ok (.ifCond .eq 7, 3) := by decide +kernel
theorem dX6_lost_19 : decode cX6_lost 19 = .ok (.iconst 1, 1) := by decide +kernel
theorem dX6_lost_20 : decode cX6_lost 20 = .ok (.goto 4, 3) := by decide +kernel
theorem dX6_lost_23 : decode cX6_lost 23 = .ok (.iconst 0, 1) := by decide +kernel
theorem dX6_lost_24 : decode cX6_lost 24 = .ok (.istore_n 3, 1) := by decide +kernel
theorem dX6_lost_25 : decode cX6_lost 25 = .ok (.aload_n 0, 1) := by decide +kernel
theorem dX6_lost_26 : decode cX6_lost 26 = .ok (.iload_n 3, 1) := by decide +kernel
theorem dX6_lost_27 : decode cX6_lost 27 = .ok (.ifCond .eq 7, 3) := by decide +kernel
theorem dX6_lost_30 : decode cX6_lost 30 = .ok (.iconst 0, 1) := by decide +kernel
theorem dX6_lost_31 : decode cX6_lost 31 = .ok (.goto 4, 3) := by decide +kernel
theorem dX6_lost_34 : decode cX6_lost 34 = .ok (.iconst 1, 1) := by decide +kernel
theorem dX6_lost_35 : decode cX6_lost 35 = .ok (.invokevirtual 118, 3) := by decide +kernel
theorem dX6_lost_38 : decode cX6_lost 38 = .ok (.ifCond .eq 5, 3) := by decide +kernel
theorem dX6_lost_41 : decode cX6_lost 41 = .ok (.iconst 0, 1) := by decide +kernel
theorem dX6_lost_42 : decode cX6_lost 42 = .ok (.ireturn, 1) := by decide +kernel
theorem dX6_lost_43 : decode cX6_lost 43 = .ok (.aload_n 0, 1) := by decide +kernel
theorem dX6_lost_44 : decode cX6_lost 44 = .ok (.invokevirtual 249, 3) := by decide +kernel
theorem dX6_lost_47 : decode cX6_lost 47 = .ok (.aload_n 0, 1) := by decide +kernel
theorem dX6_lost_48 : decode cX6_lost 48 = .ok (.getfield 19, 3) := by decide +kernel
theorem dX6_lost_51 : decode cX6_lost 51 = .ok (.iload_n 1, 1) := by decide +kernel
theorem dX6_lost_52 : decode cX6_lost 52 = .ok (.iload_n 2, 1) := by decide +kernel
theorem dX6_lost_53 : decode cX6_lost 53 = .ok (.invokestatic 166, 3) := by decide +kernel
theorem dX6_lost_56 : decode cX6_lost 56 = .ok (.pop, 1) := by decide +kernel
theorem dX6_lost_57 : decode cX6_lost 57 = .ok (.aload_n 0, 1) := by decide +kernel
theorem dX6_lost_58 : decode cX6_lost 58 = .ok (.invokevirtual 252, 3) := by decide +kernel
theorem dX6_lost_61 : decode cX6_lost 61 = .ok (.ireturn, 1) := by decide +kernel
theorem dX6_mercyLeft_0 : decode cX6_mercyLeft 0 = .ok (.aload_n 0, 1) := by decide +kernel
theorem dX6_mercyLeft_1 : decode cX6_mercyLeft 1 = .ok (.iload_n 1, 1) := by decide +kernel
theorem dX6_mercyLeft_2 : decode cX6_mercyLeft 2 = .ok (.invokestatic 232, 3) := by decide +kernel
theorem dX6_mercyLeft_5 : decode cX6_mercyLeft 5 = .ok (.ifCond .eq 7, 3) := by decide +kernel
theorem dX6_mercyLeft_8 : decode cX6_mercyLeft 8 = .ok (.iconst 0, 1) := by decide +kernel
theorem dX6_mercyLeft_9 : decode cX6_mercyLeft 9 = .ok (.goto 4, 3) := by decide +kernel
theorem dX6_mercyLeft_12 : decode cX6_mercyLeft 12 = .ok (.iconst 1, 1) := by decide +kernel
theorem dX6_mercyLeft_13 : decode cX6_mercyLeft 13 = .ok (.invokevirtual 118, 3) := by decide +kernel
theorem dX6_mercyLeft_16 : decode cX6_mercyLeft 16 = .ok (.ifCond .eq 5, 3) := by decide +kernel
theorem dX6_mercyLeft_19 : decode cX6_mercyLeft 19 = .ok (.iconst 0, 1) := by decide +kernel
theorem dX6_mercyLeft_20 : decode cX6_mercyLeft 20 = .ok (.ireturn, 1) := by decide +kernel
theorem dX6_mercyLeft_21 : decode cX6_mercyLeft 21 = .ok (.aload_n 0, 1) := by decide +kernel
theorem dX6_mercyLeft_22 : decode cX6_mercyLeft 22 = .ok (.getfield 16, 3) := by decide +kernel
theorem dX6_mercyLeft_25 : decode cX6_mercyLeft 25 = .ok (.iload_n 1, 1) := by decide +kernel
theorem dX6_mercyLeft_26 : decode cX6_mercyLeft 26 = .ok (.invokestatic 89, 3) := by decide +kernel
theorem dX6_mercyLeft_29 : decode cX6_mercyLeft 29 = .ok (.ifCond .eq 14, 3) := by decide +kernel
theorem dX6_mercyLeft_32 : decode cX6_mercyLeft 32 = .ok (.aload_n 0, 1) := by decide +kernel
theorem dX6_mercyLeft_33 : decode cX6_mercyLeft 33 = .ok (.getfield 16, 3) := by decide +kernel
theorem dX6_mercyLeft_36 : decode cX6_mercyLeft 36 = .ok (.iload_n 1, 1) := by decide +kernel
theorem dX6_mercyLeft_37 : decode cX6_mercyLeft 37 = .ok (.invokestatic 169, 3) := by decide +kernel
theorem dX6_mercyLeft_40 : decode cX6_mercyLeft 40 = .ok (.ifCond .ne 5, 3) := by decide +kernel
theorem dX6_mercyLeft_43 : decode cX6_mercyLeft 43 = .ok (.iconst (-1), 1) := by decide +kernel
theorem dX6_mercyLeft_44 : decode cX6_mercyLeft 44 = .ok (.ireturn, 1) := by decide +kernel
theorem dX6_mercyLeft_45 : decode cX6_mercyLeft 45 = .ok (.aload_n 0, 1) := by decide +kernel
theorem dX6_mercyLeft_46 : decode cX6_mercyLeft 46 = .ok (.getfield 16, 3) := by decide +kernel
theorem dX6_mercyLeft_49 : decode cX6_mercyLeft 49 = .ok (.bipush 32, 2) := by decide +kernel
theorem dX6_mercyLeft_51 : decode cX6_mercyLeft 51 = .ok (.iaload, 1) := by decide +kernel
theorem dX6_mercyLeft_52 : decode cX6_mercyLeft 52 = .ok (.aload_n 0, 1) := by decide +kernel
theorem dX6_mercyLeft_53 : decode cX6_mercyLeft 53 = .ok (.getfield 16, 3) := by decide +kernel
theorem dX6_mercyLeft_56 : decode cX6_mercyLeft 56 = .ok (.aload_n 0, 1) := by decide +kernel
theorem dX6_mercyLeft_57 : decode cX6_mercyLeft 57 = .ok (.getfield 16, 3) := by decide +kernel
theorem dX6_mercyLeft_60 : decode cX6_mercyLeft 60 = .ok (.iload_n 1, 1) := by decide +kernel
theorem dX6_mercyLeft_61 : decode cX6_mercyLeft 61 = .ok (.iconst 3, 1) := by decide +kernel
theorem dX6_mercyLeft_62 : decode cX6_mercyLeft 62 = .ok (.invokestatic 77, 3) := by decide +kernel
theorem dX6_mercyLeft_65 : decode cX6_mercyLeft 65 = .ok (.iaload, 1) := by decide +kernel
theorem dX6_mercyLeft_66 : decode cX6_mercyLeft 66 = .ok (.isub, 1) := by decide +kernel
theorem dX6_mercyLeft_67 : decode cX6_mercyLeft 67 = .ok (.istore_n 2, 1) := by decide +kernel
theorem dX6_mercyLeft_68 : decode cX6_mercyLeft 68 = .ok (.iload_n 2, 1) := by decide +kernel
theorem dX6_mercyLeft_69 : decode cX6_mercyLeft 69 = .ok (.ifCond .ge 7, 3) := by decide +kernel
theorem dX6_mercyLeft_72 : decode cX6_mercyLeft 72 = .ok (.iconst 1, 1) := by decide +kernel
theorem dX6_mercyLeft_73 : decode cX6_mercyLeft 73 = .ok (.goto 6, 3) := by decide +kernel
theorem dX6_mercyLeft_76 : decode cX6_mercyLeft 76 = .ok (.iload_n 2, 1) := by decide +kernel
theorem dX6_mercyLeft_77 : decode cX6_mercyLeft 77 = .ok (.iconst 1, 1) := by decide +kernel
theorem dX6_mercyLeft_78 : decode cX6_mercyLeft 78 = .ok (.iadd, 1) := by decide +kernel
theorem dX6_mercyLeft_79 : decode cX6_mercyLeft 79 = .ok (.ireturn, 1) := by decide +kernel
theorem dX6_bare_0 : decode cX6_bare 0 = .ok (.iload_n 2, 1) := by decide +kernel
theorem dX6_bare_1 : decode cX6_bare 1 = .ok (.tableswitch 126 0 3 #[31, 54, 78, 102], 31) := by decide +kernel
theorem dX6_bare_32 : decode cX6_bare 32 = .ok (.aload_n 0, 1) := by decide +kernel
theorem dX6_bare_33 : decode cX6_bare 33 = .ok (.getfield 19, 3) := by decide +kernel
theorem dX6_bare_36 : decode cX6_bare 36 = .ok (.iload_n 1, 1) := by decide +kernel
theorem dX6_bare_37 : decode cX6_bare 37 = .ok (.invokestatic 169, 3) := by decide +kernel
theorem dX6_bare_40 : decode cX6_bare 40 = .ok (.ifCond .ne 5, 3) := by decide +kernel
theorem dX6_bare_43 : decode cX6_bare 43 = .ok (.iconst 0, 1) := by decide +kernel
theorem dX6_bare_44 : decode cX6_bare 44 = .ok (.ireturn, 1) := by decide +kernel
theorem dX6_bare_45 : decode cX6_bare 45 = .ok (.aload_n 0, 1) := by decide +kernel
theorem dX6_bare_46 : decode cX6_bare 46 = .ok (.getfield 19, 3) := by decide +kernel
theorem dX6_bare_49 : decode cX6_bare 49 = .ok (.iload_n 1, 1) := by decide +kernel
theorem dX6_bare_50 : decode cX6_bare 50 = .ok (.invokestatic 175, 3) := by decide +kernel
theorem dX6_bare_53 : decode cX6_bare 53 = .ok (.iconst 1, 1) := by decide +kernel
theorem dX6_bare_54 : decode cX6_bare 54 = .ok (.ireturn, 1) := by decide +kernel
theorem dX6_bare_55 : decode cX6_bare 55 = .ok (.aload_n 0, 1) := by decide +kernel
theorem dX6_bare_56 : decode cX6_bare 56 = .ok (.getfield 19, 3) := by decide +kernel
theorem dX6_bare_59 : decode cX6_bare 59 = .ok (.iload_n 1, 1) := by decide +kernel
theorem dX6_bare_60 : decode cX6_bare 60 = .ok (.invokestatic 89, 3) := by decide +kernel
theorem dX6_bare_63 : decode cX6_bare 63 = .ok (.ifCond .ne 5, 3) := by decide +kernel
theorem dX6_bare_66 : decode cX6_bare 66 = .ok (.iconst 0, 1) := by decide +kernel
theorem dX6_bare_67 : decode cX6_bare 67 = .ok (.ireturn, 1) := by decide +kernel
theorem dX6_bare_68 : decode cX6_bare 68 = .ok (.aload_n 0, 1) := by decide +kernel
theorem dX6_bare_69 : decode cX6_bare 69 = .ok (.getfield 19, 3) := by decide +kernel
theorem dX6_bare_72 : decode cX6_bare 72 = .ok (.iload_n 1, 1) := by decide +kernel
theorem dX6_bare_73 : decode cX6_bare 73 = .ok (.invokestatic 181, 3) := by decide +kernel
theorem dX6_bare_76 : decode cX6_bare 76 = .ok (.pop, 1) := by decide +kernel
theorem dX6_bare_77 : decode cX6_bare 77 = .ok (.iconst 1, 1) := by decide +kernel
theorem dX6_bare_78 : decode cX6_bare 78 = .ok (.ireturn, 1) := by decide +kernel
theorem dX6_bare_79 : decode cX6_bare 79 = .ok (.aload_n 0, 1) := by decide +kernel
theorem dX6_bare_80 : decode cX6_bare 80 = .ok (.getfield 19, 3) := by decide +kernel
theorem dX6_bare_83 : decode cX6_bare 83 = .ok (.iload_n 1, 1) := by decide +kernel
theorem dX6_bare_84 : decode cX6_bare 84 = .ok (.invokestatic 69, 3) := by decide +kernel
theorem dX6_bare_87 : decode cX6_bare 87 = .ok (.ifCond .ne 5, 3) := by decide +kernel
theorem dX6_bare_90 : decode cX6_bare 90 = .ok (.iconst 0, 1) := by decide +kernel
theorem dX6_bare_91 : decode cX6_bare 91 = .ok (.ireturn, 1) := by decide +kernel
theorem dX6_bare_92 : decode cX6_bare 92 = .ok (.aload_n 0, 1) := by decide +kernel
theorem dX6_bare_93 : decode cX6_bare 93 = .ok (.getfield 19, 3) := by decide +kernel
theorem dX6_bare_96 : decode cX6_bare 96 = .ok (.iload_n 1, 1) := by decide +kernel
theorem dX6_bare_97 : decode cX6_bare 97 = .ok (.invokestatic 184, 3) := by decide +kernel
theorem dX6_bare_100 : decode cX6_bare 100 = .ok (.pop, 1) := by decide +kernel
theorem dX6_bare_101 : decode cX6_bare 101 = .ok (.iconst 1, 1) := by decide +kernel
theorem dX6_bare_102 : decode cX6_bare 102 = .ok (.ireturn, 1) := by decide +kernel
theorem dX6_bare_103 : decode cX6_bare 103 = .ok (.aload_n 0, 1) := by decide +kernel
theorem dX6_bare_104 : decode cX6_bare 104 = .ok (.getfield 19, 3) := by decide +kernel
theorem dX6_bare_107 : decode cX6_bare 107 = .ok (.iload_n 1, 1) := by decide +kernel
theorem dX6_bare_108 : decode cX6_bare 108 = .ok (.invokestatic 172, 3) := by decide +kernel
theorem dX6_bare_111 : decode cX6_bare 111 = .ok (.ifCond .ne 5, 3) := by decide +kernel
theorem dX6_bare_114 : decode cX6_bare 114 = .ok (.iconst 0, 1) := by decide +kernel
theorem dX6_bare_115 : decode cX6_bare 115 = .ok (.ireturn, 1) := by decide +kernel
theorem dX6_bare_116 : decode cX6_bare 116 = .ok (.aload_n 0, 1) := by decide +kernel
theorem dX6_bare_117 : decode cX6_bare 117 = .ok (.getfield 19, 3) := by decide +kernel
theorem dX6_bare_120 : decode cX6_bare 120 = .ok (.iload_n 1, 1) := by decide +kernel
theorem dX6_bare_121 : decode cX6_bare 121 = .ok (.invokestatic 178, 3) := by decide +kernel
theorem dX6_bare_124 : decode cX6_bare 124 = .ok (.pop, 1) := by decide +kernel
theorem dX6_bare_125 : decode cX6_bare 125 = .ok (.iconst 1, 1) := by decide +kernel
theorem dX6_bare_126 : decode cX6_bare 126 = .ok (.ireturn, 1) := by decide +kernel
theorem dX6_bare_127 : decode cX6_bare 127 = .ok (.iconst 0, 1) := by decide +kernel
theorem dX6_bare_128 : decode cX6_bare 128 = .ok (.ireturn, 1) := by decide +kernel
theorem dX6_writes_0 : decode cX6_writes 0 = .ok (.iload_n 2, 1) := by decide +kernel
theorem dX6_writes_1 : decode cX6_writes 1 = .ok (.invokestatic 226, 3) := by decide +kernel
theorem dX6_writes_4 : decode cX6_writes 4 = .ok (.ifCond .eq 15, 3) := by decide +kernel
theorem dX6_writes_7 : decode cX6_writes 7 = .ok (.aload_n 0, 1) := by decide +kernel
theorem dX6_writes_8 : decode cX6_writes 8 = .ok (.getfield 19, 3) := by decide +kernel
theorem dX6_writes_11 : decode cX6_writes 11 = .ok (.iload_n 1, 1) := by decide +kernel
theorem dX6_writes_12 : decode cX6_writes 12 = .ok (.iload_n 2, 1) := by decide +kernel
theorem dX6_writes_13 : decode cX6_writes 13 = .ok (.invokestatic 99, 3) := by decide +kernel
theorem dX6_writes_16 : decode cX6_writes 16 = .ok (.ifCond .eq 5, 3) := by decide +kernel
theorem dX6_writes_19 : decode cX6_writes 19 = .ok (.iconst 0, 1) := by decide +kernel
theorem dX6_writes_20 : decode cX6_writes 20 = .ok (.ireturn, 1) := by decide +kernel
theorem dX6_writes_21 : decode cX6_writes 21 = .ok (.aload_n 0, 1) := by decide +kernel
theorem dX6_writes_22 : decode cX6_writes 22 = .ok (.getfield 19, 3) := by decide +kernel
theorem dX6_writes_25 : decode cX6_writes 25 = .ok (.iload_n 1, 1) := by decide +kernel
theorem dX6_writes_26 : decode cX6_writes 26 = .ok (.iload_n 2, 1) := by decide +kernel
theorem dX6_writes_27 : decode cX6_writes 27 = .ok (.iload_n 3, 1) := by decide +kernel
theorem dX6_writes_28 : decode cX6_writes 28 = .ok (.invokestatic 152, 3) := by decide +kernel
theorem dX6_writes_31 : decode cX6_writes 31 = .ok (.pop, 1) := by decide +kernel
theorem dX6_writes_32 : decode cX6_writes 32 = .ok (.iconst 1, 1) := by decide +kernel
theorem dX6_writes_33 : decode cX6_writes 33 = .ok (.ireturn, 1) := by decide +kernel
theorem dX6_goesBack_0 : decode cX6_goesBack 0 = .ok (.aload_n 0, 1) := by decide +kernel
theorem dX6_goesBack_1 : decode cX6_goesBack 1 = .ok (.getfield 19, 3) := by decide +kernel
theorem dX6_goesBack_4 : decode cX6_goesBack 4 = .ok (.iload_n 1, 1) := by decide +kernel
theorem dX6_goesBack_5 : decode cX6_goesBack 5 = .ok (.iload_n 2, 1) := by decide +kernel
theorem dX6_goesBack_6 : decode cX6_goesBack 6 = .ok (.invokestatic 163, 3) := by decide +kernel
theorem dX6_goesBack_9 : decode cX6_goesBack 9 = .ok (.ifCond .eq 14, 3) := by decide +kernel
theorem dX6_goesBack_12 : decode cX6_goesBack 12 = .ok (.aload_n 0, 1) := by decide +kernel
theorem dX6_goesBack_13 : decode cX6_goesBack 13 = .ok (.getfield 19, 3) := by decide +kernel
theorem dX6_goesBack_16 : decode cX6_goesBack 16 = .ok (.iload_n 1, 1) := by decide +kernel
theorem dX6_goesBack_17 : decode cX6_goesBack 17 = .ok (.invokestatic 81, 3) := by decide +kernel
theorem dX6_goesBack_20 : decode cX6_goesBack 20 = .ok (.ifCond .eq 5, 3) := by decide +kernel
theorem dX6_goesBack_23 : decode cX6_goesBack 23 = .ok (.iconst 0, 1) := by decide +kernel
theorem dX6_goesBack_24 : decode cX6_goesBack 24 = .ok (.ireturn, 1) := by decide +kernel
theorem dX6_goesBack_25 : decode cX6_goesBack 25 = .ok (.aload_n 0, 1) := by decide +kernel
theorem dX6_goesBack_26 : decode cX6_goesBack 26 = .ok (.getfield 19, 3) := by decide +kernel
theorem dX6_goesBack_29 : decode cX6_goesBack 29 = .ok (.iload_n 1, 1) := by decide +kernel
theorem dX6_goesBack_30 : decode cX6_goesBack 30 = .ok (.iload_n 2, 1) := by decide +kernel
theorem dX6_goesBack_31 : decode cX6_goesBack 31 = .ok (.invokestatic 166, 3) := by decide +kernel
theorem dX6_goesBack_34 : decode cX6_goesBack 34 = .ok (.pop, 1) := by decide +kernel
theorem dX6_goesBack_35 : decode cX6_goesBack 35 = .ok (.iconst 1, 1) := by decide +kernel
theorem dX6_goesBack_36 : decode cX6_goesBack 36 = .ok (.ireturn, 1) := by decide +kernel
theorem dX6_regrets_0 : decode cX6_regrets 0 = .ok (.iload_n 2, 1) := by decide +kernel
theorem dX6_regrets_1 : decode cX6_regrets 1 = .ok (.invokestatic 226, 3) := by decide +kernel
theorem dX6_regrets_4 : decode cX6_regrets 4 = .ok (.ifCond .eq 19, 3) := by decide +kernel
theorem dX6_regrets_7 : decode cX6_regrets 7 = .ok (.iload_n 3, 1) := by decide +kernel
theorem dX6_regrets_8 : decode cX6_regrets 8 = .ok (.ifCond .eq 15, 3) := by decide +kernel
theorem dX6_regrets_11 : decode cX6_regrets 11 = .ok (.aload_n 0, 1) := by decide +kernel
theorem dX6_regrets_12 : decode cX6_regrets 12 = .ok (.getfield 19, 3) := by decide +kernel
theorem dX6_regrets_15 : decode cX6_regrets 15 = .ok (.iload_n 1, 1) := by decide +kernel
theorem dX6_regrets_16 : decode cX6_regrets 16 = .ok (.iload_n 2, 1) := by decide +kernel
theorem dX6_regrets_17 : decode cX6_regrets 17 = .ok (.invokestatic 156, 3) := by decide +kernel
theorem dX6_regrets_20 : decode cX6_regrets 20 = .ok (.ifCond .ne 5, 3) := by decide +kernel
theorem dX6_regrets_23 : decode cX6_regrets 23 = .ok (.iconst 0, 1) := by decide +kernel
theorem dX6_regrets_24 : decode cX6_regrets 24 = .ok (.ireturn, 1) := by decide +kernel
theorem dX6_regrets_25 : decode cX6_regrets 25 = .ok (.aload_n 0, 1) := by decide +kernel
theorem dX6_regrets_26 : decode cX6_regrets 26 = .ok (.getfield 19, 3) := by decide +kernel
theorem dX6_regrets_29 : decode cX6_regrets 29 = .ok (.iload_n 1, 1) := by decide +kernel
theorem dX6_regrets_30 : decode cX6_regrets 30 = .ok (.iload_n 2, 1) := by decide +kernel
theorem dX6_regrets_31 : decode cX6_regrets 31 = .ok (.iload_n 3, 1) := by decide +kernel
theorem dX6_regrets_32 : decode cX6_regrets 32 = .ok (.invokestatic 160, 3) := by decide +kernel
theorem dX6_regrets_35 : decode cX6_regrets 35 = .ok (.pop, 1) := by decide +kernel
theorem dX6_regrets_36 : decode cX6_regrets 36 = .ok (.iconst 1, 1) := by decide +kernel
theorem dX6_regrets_37 : decode cX6_regrets 37 = .ok (.ireturn, 1) := by decide +kernel
theorem dX6_does_0 : decode cX6_does 0 = .ok (.iload_n 1, 1) := by decide +kernel
theorem dX6_does_1 : decode cX6_does 1 = .ok (.sipush 10000, 3) := by decide +kernel
theorem dX6_does_4 : decode cX6_does 4 = .ok (.idiv, 1) := by decide +kernel
theorem dX6_does_5 : decode cX6_does 5 = .ok (.istore_n 2, 1) := by decide +kernel
theorem dX6_does_6 : decode cX6_does 6 = .ok (.iload_n 1, 1) := by decide +kernel
theorem dX6_does_7 : decode cX6_does 7 = .ok (.sipush 1000, 3) := by decide +kernel
theorem dX6_does_10 : decode cX6_does 10 = .ok (.idiv, 1) := by decide +kernel
theorem dX6_does_11 : decode cX6_does 11 = .ok (.bipush 10, 2) := by decide +kernel
theorem dX6_does_13 : decode cX6_does 13 = .ok (.irem, 1) := by decide +kernel
theorem dX6_does_14 : decode cX6_does 14 = .ok (.istore_n 3, 1) := by decide +kernel
theorem dX6_does_15 : decode cX6_does 15 = .ok (.iload_n 1, 1) := by decide +kernel
theorem dX6_does_16 : decode cX6_does 16 = .ok (.bipush 10, 2) := by decide +kernel
theorem dX6_does_18 : decode cX6_does 18 = .ok (.idiv, 1) := by decide +kernel
theorem dX6_does_19 : decode cX6_does 19 = .ok (.bipush 100, 2) := by decide +kernel
theorem dX6_does_21 : decode cX6_does 21 = .ok (.irem, 1) := by decide +kernel
theorem dX6_does_22 : decode cX6_does 22 = .ok (.istore 4, 2) := by decide +kernel
theorem dX6_does_24 : decode cX6_does 24 = .ok (.iload_n 1, 1) := by decide +kernel
theorem dX6_does_25 : decode cX6_does 25 = .ok (.bipush 10, 2) := by decide +kernel
theorem dX6_does_27 : decode cX6_does 27 = .ok (.irem, 1) := by decide +kernel
theorem dX6_does_28 : decode cX6_does 28 = .ok (.istore 5, 2) := by decide +kernel
theorem dX6_does_30 : decode cX6_does 30 = .ok (.iload_n 3, 1) := by decide +kernel
theorem dX6_does_31 : decode cX6_does 31 = .ok (.iconst 3, 1) := by decide +kernel
theorem dX6_does_32 : decode cX6_does 32 = .ok (.if_icmp .ge 12, 3) := by decide +kernel
theorem dX6_does_35 : decode cX6_does 35 = .ok (.iload_n 2, 1) := by decide +kernel
theorem dX6_does_36 : decode cX6_does 36 = .ok (.iconst 5, 1) := by decide +kernel
theorem dX6_does_37 : decode cX6_does 37 = .ok (.if_icmp .ne 9, 3) := by decide +kernel
theorem dX6_does_40 : decode cX6_does 40 = .ok (.iload_n 3, 1) := by decide +kernel
theorem dX6_does_41 : decode cX6_does 41 = .ok (.ifCond .eq 5, 3) := by decide +kernel
theorem dX6_does_44 : decode cX6_does 44 = .ok (.iconst 0, 1) := by decide +kernel
theorem dX6_does_45 : decode cX6_does 45 = .ok (.ireturn, 1) := by decide +kernel
theorem dX6_does_46 : decode cX6_does 46 = .ok (.iload_n 2, 1) := by decide +kernel
theorem dX6_does_47 : decode cX6_does 47 = .ok (.tableswitch 256 1 9 #[49, 70, 80, 101, 111, 137, 172, 196, 223], 49) := by decide +kernel
theorem dX6_does_96 : decode cX6_does 96 = .ok (.iload 4, 2) := by decide +kernel
theorem dX6_does_98 : decode cX6_does 98 = .ok (.ifCond .ne 17, 3) := by decide +kernel
theorem dX6_does_101 : decode cX6_does 101 = .ok (.aload_n 0, 1) := by decide +kernel
theorem dX6_does_102 : decode cX6_does 102 = .ok (.iload_n 3, 1) := by decide +kernel
theorem dX6_does_103 : decode cX6_does 103 = .ok (.iload 5, 2) := by decide +kernel
theorem dX6_does_105 : decode cX6_does 105 = .ok (.invokevirtual 255, 3) := by decide +kernel
theorem dX6_does_108 : decode cX6_does 108 = .ok (.ifCond .eq 7, 3) := by decide +kernel
theorem dX6_does_111 : decode cX6_does 111 = .ok (.iconst 1, 1) := by decide +kernel
theorem dX6_does_112 : decode cX6_does 112 = .ok (.goto 4, 3) := by decide +kernel
theorem dX6_does_115 : decode cX6_does 115 = .ok (.iconst 0, 1) := by decide +kernel
theorem dX6_does_116 : decode cX6_does 116 = .ok (.ireturn, 1) := by decide +kernel
theorem dX6_does_117 : decode cX6_does 117 = .ok (.aload_n 0, 1) := by decide +kernel
theorem dX6_does_118 : decode cX6_does 118 = .ok (.iload_n 3, 1) := by decide +kernel
theorem dX6_does_119 : decode cX6_does 119 = .ok (.iload 4, 2) := by decide +kernel
theorem dX6_does_121 : decode cX6_does 121 = .ok (.iload 5, 2) := by decide +kernel
theorem dX6_does_123 : decode cX6_does 123 = .ok (.invokevirtual 259, 3) := by decide +kernel
theorem dX6_does_126 : decode cX6_does 126 = .ok (.ireturn, 1) := by decide +kernel
theorem dX6_does_127 : decode cX6_does 127 = .ok (.iload 4, 2) := by decide +kernel
theorem dX6_does_129 : decode cX6_does 129 = .ok (.ifCond .ne 17, 3) := by decide +kernel
theorem dX6_does_132 : decode cX6_does 132 = .ok (.aload_n 0, 1) := by decide +kernel
theorem dX6_does_133 : decode cX6_does 133 = .ok (.iload_n 3, 1) := by decide +kernel
theorem dX6_does_134 : decode cX6_does 134 = .ok (.iload 5, 2) := by decide +kernel
theorem dX6_does_136 : decode cX6_does 136 = .ok (.invokevirtual 263, 3) := by decide +kernel
theorem dX6_does_139 : decode cX6_does 139 = .ok (.ifCond .eq 7, 3) := by decide +kernel
theorem dX6_does_142 : decode cX6_does 142 = .ok (.iconst 1, 1) := by decide +kernel
theorem dX6_does_143 : decode cX6_does 143 = .ok (.goto 4, 3) := by decide +kernel
theorem dX6_does_146 : decode cX6_does 146 = .ok (.iconst 0, 1) := by decide +kernel
theorem dX6_does_147 : decode cX6_does 147 = .ok (.ireturn, 1) := by decide +kernel
theorem dX6_does_148 : decode cX6_does 148 = .ok (.aload_n 0, 1) := by decide +kernel
theorem dX6_does_149 : decode cX6_does 149 = .ok (.iload_n 3, 1) := by decide +kernel
theorem dX6_does_150 : decode cX6_does 150 = .ok (.iload 4, 2) := by decide +kernel
theorem dX6_does_152 : decode cX6_does 152 = .ok (.iload 5, 2) := by decide +kernel
theorem dX6_does_154 : decode cX6_does 154 = .ok (.invokevirtual 266, 3) := by decide +kernel
theorem dX6_does_157 : decode cX6_does 157 = .ok (.ireturn, 1) := by decide +kernel
theorem dX6_does_158 : decode cX6_does 158 = .ok (.iload 4, 2) := by decide +kernel
theorem dX6_does_160 : decode cX6_does 160 = .ok (.invokestatic 226, 3) := by decide +kernel
theorem dX6_does_163 : decode cX6_does 163 = .ok (.ifCond .eq 19, 3) := by decide +kernel
theorem dX6_does_166 : decode cX6_does 166 = .ok (.aload_n 0, 1) := by decide +kernel
theorem dX6_does_167 : decode cX6_does 167 = .ok (.getfield 19, 3) := by decide +kernel
theorem dX6_does_170 : decode cX6_does 170 = .ok (.iload 4, 2) := by decide +kernel
theorem dX6_does_172 : decode cX6_does 172 = .ok (.iaload, 1) := by decide +kernel
theorem dX6_does_173 : decode cX6_does 173 = .ok (.iload 5, 2) := by decide +kernel
theorem dX6_does_175 : decode cX6_does 175 = .ok (.if_icmp .ne 7, 3) := by decide +kernel
theorem dX6_does_178 : decode cX6_does 178 = .ok (.iconst 1, 1) := by decide +kernel
theorem dX6_does_179 : decode cX6_does 179 = .ok (.goto 4, 3) := by decide +kernel
theorem dX6_does_182 : decode cX6_does 182 = .ok (.iconst 0, 1) := by decide +kernel
theorem dX6_does_183 : decode cX6_does 183 = .ok (.ireturn, 1) := by decide +kernel
theorem dX6_does_184 : decode cX6_does 184 = .ok (.iload 4, 2) := by decide +kernel
theorem dX6_does_186 : decode cX6_does 186 = .ok (.invokestatic 226, 3) := by decide +kernel
theorem dX6_does_189 : decode cX6_does 189 = .ok (.ifCond .eq 28, 3) := by decide +kernel
theorem dX6_does_192 : decode cX6_does 192 = .ok (.iload 5, 2) := by decide +kernel
theorem dX6_does_194 : decode cX6_does 194 = .ok (.ifCond .ne 23, 3) := by decide +kernel
theorem dX6_does_197 : decode cX6_does 197 = .ok (.aload_n 0, 1) := by decide +kernel
theorem dX6_does_198 : decode cX6_does 198 = .ok (.getfield 19, 3) := by decide +kernel
theorem dX6_does_201 : decode cX6_does 201 = .ok (.bipush 16, 2) := by decide +kernel
theorem dX6_does_203 : decode cX6_does 203 = .ok (.iload 4, 2) := by decide +kernel
theorem dX6_does_205 : decode cX6_does 205 = .ok (.iadd, 1) := by decide +kernel
theorem dX6_does_206 : decode cX6_does 206 = .ok (.iaload, 1) := by decide +kernel
theorem dX6_does_207 : decode cX6_does 207 = .ok (.iload_n 3, 1) := by decide +kernel
theorem dX6_does_208 : decode cX6_does 208 = .ok (.iconst 1, 1) := by decide +kernel
theorem dX6_does_209 : decode cX6_does 209 = .ok (.iadd, 1) := by decide +kernel
theorem dX6_does_210 : decode cX6_does 210 = .ok (.if_icmp .ne 7, 3) := by decide +kernel
theorem dX6_does_213 : decode cX6_does 213 = .ok (.iconst 1, 1) := by decide +kernel
theorem dX6_does_214 : decode cX6_does 214 = .ok (.goto 4, 3) := by decide +kernel
theorem dX6_does_217 : decode cX6_does 217 = .ok (.iconst 0, 1) := by decide +kernel
theorem dX6_does_218 : decode cX6_does 218 = .ok (.ireturn, 1) := by decide +kernel
theorem dX6_does_219 : decode cX6_does 219 = .ok (.iload 4, 2) := by decide +kernel
theorem dX6_does_221 : decode cX6_does 221 = .ok (.ifCond .ne 20, 3) := by decide +kernel
theorem dX6_does_224 : decode cX6_does 224 = .ok (.aload_n 0, 1) := by decide +kernel
theorem dX6_does_225 : decode cX6_does 225 = .ok (.getfield 19, 3) := by decide +kernel
theorem dX6_does_228 : decode cX6_does 228 = .ok (.iload_n 3, 1) := by decide +kernel
theorem dX6_does_229 : decode cX6_does 229 = .ok (.invokestatic 69, 3) := by decide +kernel
theorem dX6_does_232 : decode cX6_does 232 = .ok (.iload 5, 2) := by decide +kernel
theorem dX6_does_234 : decode cX6_does 234 = .ok (.if_icmp .ne 7, 3) := by decide +kernel
theorem dX6_does_237 : decode cX6_does 237 = .ok (.iconst 1, 1) := by decide +kernel
theorem dX6_does_238 : decode cX6_does 238 = .ok (.goto 4, 3) := by decide +kernel
theorem dX6_does_241 : decode cX6_does 241 = .ok (.iconst 0, 1) := by decide +kernel
theorem dX6_does_242 : decode cX6_does 242 = .ok (.ireturn, 1) := by decide +kernel
theorem dX6_does_243 : decode cX6_does 243 = .ok (.iload 4, 2) := by decide +kernel
theorem dX6_does_245 : decode cX6_does 245 = .ok (.ifCond .ne 23, 3) := by decide +kernel
theorem dX6_does_248 : decode cX6_does 248 = .ok (.iload 5, 2) := by decide +kernel
theorem dX6_does_250 : decode cX6_does 250 = .ok (.ifCond .ne 18, 3) := by decide +kernel
theorem dX6_does_253 : decode cX6_does 253 = .ok (.aload_n 0, 1) := by decide +kernel
theorem dX6_does_254 : decode cX6_does 254 = .ok (.getfield 19, 3) := by decide +kernel
theorem dX6_does_257 : decode cX6_does 257 = .ok (.iload_n 3, 1) := by decide +kernel
theorem dX6_does_258 : decode cX6_does 258 = .ok (.invokestatic 81, 3) := by decide +kernel
theorem dX6_does_261 : decode cX6_does 261 = .ok (.ifCond .eq 7, 3) := by decide +kernel
theorem dX6_does_264 : decode cX6_does 264 = .ok (.iconst 1, 1) := by decide +kernel
theorem dX6_does_265 : decode cX6_does 265 = .ok (.goto 4, 3) := by decide +kernel
theorem dX6_does_268 : decode cX6_does 268 = .ok (.iconst 0, 1) := by decide +kernel
theorem dX6_does_269 : decode cX6_does 269 = .ok (.ireturn, 1) := by decide +kernel
theorem dX6_does_270 : decode cX6_does 270 = .ok (.iload_n 1, 1) := by decide +kernel
theorem dX6_does_271 : decode cX6_does 271 = .ok (.bipush 100, 2) := by decide +kernel
theorem dX6_does_273 : decode cX6_does 273 = .ok (.idiv, 1) := by decide +kernel
theorem dX6_does_274 : decode cX6_does 274 = .ok (.bipush 10, 2) := by decide +kernel
theorem dX6_does_276 : decode cX6_does 276 = .ok (.irem, 1) := by decide +kernel
theorem dX6_does_277 : decode cX6_does 277 = .ok (.ifCond .ne 24, 3) := by decide +kernel
theorem dX6_does_280 : decode cX6_does 280 = .ok (.aload_n 0, 1) := by decide +kernel
theorem dX6_does_281 : decode cX6_does 281 = .ok (.getfield 19, 3) := by decide +kernel
theorem dX6_does_284 : decode cX6_does 284 = .ok (.iload_n 3, 1) := by decide +kernel
theorem dX6_does_285 : decode cX6_does 285 = .ok (.iconst 1, 1) := by decide +kernel
theorem dX6_does_286 : decode cX6_does 286 = .ok (.invokestatic 65, 3) := by decide +kernel
theorem dX6_does_289 : decode cX6_does 289 = .ok (.iaload, 1) := by decide +kernel
theorem dX6_does_290 : decode cX6_does 290 = .ok (.iload_n 1, 1) := by decide +kernel
theorem dX6_does_291 : decode cX6_does 291 = .ok (.bipush 100, 2) := by decide +kernel
theorem dX6_does_293 : decode cX6_does 293 = .ok (.irem, 1) := by decide +kernel
theorem dX6_does_294 : decode cX6_does 294 = .ok (.if_icmp .gt 7, 3) := by decide +kernel
theorem dX6_does_297 : decode cX6_does 297 = .ok (.iconst 1, 1) := by decide +kernel
theorem dX6_does_298 : decode cX6_does 298 = .ok (.goto 4, 3) := by decide +kernel
theorem dX6_does_301 : decode cX6_does 301 = .ok (.iconst 0, 1) := by decide +kernel
theorem dX6_does_302 : decode cX6_does 302 = .ok (.ireturn, 1) := by decide +kernel
theorem dX6_does_303 : decode cX6_does 303 = .ok (.iconst 0, 1) := by decide +kernel
theorem dX6_does_304 : decode cX6_does 304 = .ok (.ireturn, 1) := by decide +kernel
theorem dX6_runScript_0 : decode cX6_runScript 0 = .ok (.iload_n 1, 1) := by decide +kernel
theorem dX6_runScript_1 : decode cX6_runScript 1 = .ok (.i2l, 1) := by decide +kernel
theorem dX6_runScript_2 : decode cX6_runScript 2 = .ok (.lconst 1, 1) := by decide +kernel
theorem dX6_runScript_3 : decode cX6_runScript 3 = .ok (.ldc2_w 244, 3) := by decide +kernel
theorem dX6_runScript_6 : decode cX6_runScript 6 = .ok (.invokestatic 92, 3) := by decide +kernel
theorem dX6_runScript_9 : decode cX6_runScript 9 = .ok (.istore 4, 2) := by decide +kernel
theorem dX6_runScript_11 : decode cX6_runScript 11 = .ok (.aload_n 0, 1) := by decide +kernel
theorem dX6_runScript_12 : decode cX6_runScript 12 = .ok (.iload 4, 2) := by decide +kernel
theorem dX6_runScript_14 : decode cX6_runScript 14 = .ok (.ifCond .eq 32, 3) := by decide +kernel
theorem dX6_runScript_17 : decode cX6_runScript 17 = .ok (.lload_n 2, 1) := by decide +kernel
theorem dX6_runScript_18 : decode cX6_runScript 18 = .ok (.lconst 0, 1) := by decide +kernel
theorem dX6_runScript_19 : decode cX6_runScript 19 = .ok (.iload 4, 2) := by decide +kernel
theorem dX6_runScript_21 : decode cX6_runScript 21 = .ok (.ifCond .eq 9, 3) := by decide +kernel
theorem dX6_runScript_24 : decode cX6_runScript 24 = .ok (.iconst 5, 1) := by decide +kernel
theorem dX6_runScript_25 : decode cX6_runScript 25 = .ok (.iload_n 1, 1) := by decide +kernel
theorem dX6_runScript_26 : decode cX6_runScript 26 = .ok (.imul, 1) := by decide +kernel
theorem dX6_runScript_27 : decode cX6_runScript 27 = .ok (.goto 4, 3) := by decide +kernel
theorem dX6_runScript_30 : decode cX6_runScript 30 = .ok (.iconst 0, 1) := by decide +kernel
theorem dX6_runScript_31 : decode cX6_runScript 31 = .ok (.invokestatic 269, 3) := by decide +kernel
theorem dX6_runScript_34 : decode cX6_runScript 34 = .ok (.lconst 1, 1) := by decide +kernel
theorem dX6_runScript_35 : decode cX6_runScript 35 = .ok (.lsub, 1) := by decide +kernel
theorem dX6_runScript_36 : decode cX6_runScript 36 = .ok (.invokestatic 92, 3) := by decide +kernel
theorem dX6_runScript_39 : decode cX6_runScript 39 = .ok (.ifCond .eq 7, 3) := by decide +kernel
theorem dX6_runScript_42 : decode cX6_runScript 42 = .ok (.iconst 0, 1) := by decide +kernel
theorem dX6_runScript_43 : decode cX6_runScript 43 = .ok (.goto 4, 3) := by decide +kernel
theorem dX6_runScript_46 : decode cX6_runScript 46 = .ok (.iconst 1, 1) := by decide +kernel
theorem dX6_runScript_47 : decode cX6_runScript 47 = .ok (.invokevirtual 118, 3) := by decide +kernel
theorem dX6_runScript_50 : decode cX6_runScript 50 = .ok (.ifCond .eq 5, 3) := by decide +kernel
theorem dX6_runScript_53 : decode cX6_runScript 53 = .ok (.iconst 0, 1) := by decide +kernel
theorem dX6_runScript_54 : decode cX6_runScript 54 = .ok (.ireturn, 1) := by decide +kernel
theorem dX6_runScript_55 : decode cX6_runScript 55 = .ok (.aload_n 0, 1) := by decide +kernel
theorem dX6_runScript_56 : decode cX6_runScript 56 = .ok (.invokevirtual 249, 3) := by decide +kernel
theorem dX6_runScript_59 : decode cX6_runScript 59 = .ok (.iconst 0, 1) := by decide +kernel
theorem dX6_runScript_60 : decode cX6_runScript 60 = .ok (.istore 5, 2) := by decide +kernel
theorem dX6_runScript_62 : decode cX6_runScript 62 = .ok (.iload 5, 2) := by decide +kernel
theorem dX6_runScript_64 : decode cX6_runScript 64 = .ok (.iload_n 1, 1) := by decide +kernel
theorem dX6_runScript_65 : decode cX6_runScript 65 = .ok (.if_icmp .ge 37, 3) := by decide +kernel
theorem dX6_runScript_68 : decode cX6_runScript 68 = .ok (.aload_n 0, 1) := by decide +kernel
theorem dX6_runScript_69 : decode cX6_runScript 69 = .ok (.lload_n 2, 1) := by decide +kernel
theorem dX6_runScript_70 : decode cX6_runScript 70 = .ok (.iconst 5, 1) := by decide +kernel
theorem dX6_runScript_71 : decode cX6_runScript 71 = .ok (.iload_n 1, 1) := by decide +kernel
theorem dX6_runScript_72 : decode cX6_runScript 72 = .ok (.iconst 1, 1) := by decide +kernel
theorem dX6_runScript_73 : decode cX6_runScript 73 = .ok (.isub, 1) := by decide +kernel
theorem dX6_runScript_74 : decode cX6_runScript 74 = .ok (.iload 5, 2) := by decide +kernel
theorem dX6_runScript_76 : decode cX6_runScript 76 = .ok (.isub, 1) := by decide +kernel
theorem dX6_runScript_77 : decode cX6_runScript 77 = .ok (.imul, 1) := by decide +kernel
theorem dX6_runScript_78 : decode cX6_runScript 78 = .ok (.invokestatic 269, 3) := by decide +kernel
theorem dX6_runScript_81 : decode cX6_runScript 81 = .ok (.ldiv, 1) := by decide +kernel
theorem dX6_runScript_82 : decode cX6_runScript 82 = .ok (.ldc2_w 273, 3) := by decide +kernel
theorem dX6_runScript_85 : decode cX6_runScript 85 = .ok (.lrem, 1) := by decide +kernel
theorem dX6_runScript_86 : decode cX6_runScript 86 = .ok (.l2i, 1) := by decide +kernel
theorem dX6_runScript_87 : decode cX6_runScript 87 = .ok (.invokevirtual 275, 3) := by decide +kernel
theorem dX6_runScript_90 : decode cX6_runScript 90 = .ok (.ifCond .ne 6, 3) := by decide +kernel
theorem dX6_runScript_93 : decode cX6_runScript 93 = .ok (.iload 5, 2) := by decide +kernel
theorem dX6_runScript_95 : decode cX6_runScript 95 = .ok (.ireturn, 1) := by decide +kernel
theorem dX6_runScript_96 : decode cX6_runScript 96 = .ok (.iinc 5 1, 3) := by decide +kernel
theorem dX6_runScript_99 : decode cX6_runScript 99 = .ok (.goto (-37), 3) := by decide +kernel
theorem dX6_runScript_102 : decode cX6_runScript 102 = .ok (.iconst (-1), 1) := by decide +kernel
theorem dX6_runScript_103 : decode cX6_runScript 103 = .ok (.ireturn, 1) := by decide +kernel
theorem dX6_stir_0 : decode cX6_stir 0 = .ok (.iload_n 1, 1) := by decide +kernel
theorem dX6_stir_1 : decode cX6_stir 1 = .ok (.bipush 16, 2) := by decide +kernel
theorem dX6_stir_3 : decode cX6_stir 3 = .ok (.idiv, 1) := by decide +kernel
theorem dX6_stir_4 : decode cX6_stir 4 = .ok (.iconst 3, 1) := by decide +kernel
theorem dX6_stir_5 : decode cX6_stir 5 = .ok (.irem, 1) := by decide +kernel
theorem dX6_stir_6 : decode cX6_stir 6 = .ok (.istore_n 2, 1) := by decide +kernel
theorem dX6_stir_7 : decode cX6_stir 7 = .ok (.iload_n 1, 1) := by decide +kernel
theorem dX6_stir_8 : decode cX6_stir 8 = .ok (.bipush 64, 2) := by decide +kernel
theorem dX6_stir_10 : decode cX6_stir 10 = .ok (.idiv, 1) := by decide +kernel
theorem dX6_stir_11 : decode cX6_stir 11 = .ok (.bipush 16, 2) := by decide +kernel
theorem dX6_stir_13 : decode cX6_stir 13 = .ok (.irem, 1) := by decide +kernel
theorem dX6_stir_14 : decode cX6_stir 14 = .ok (.istore_n 3, 1) := by decide +kernel
theorem dX6_stir_15 : decode cX6_stir 15 = .ok (.iload_n 1, 1) := by decide +kernel
theorem dX6_stir_16 : decode cX6_stir 16 = .ok (.bipush 16, 2) := by decide +kernel
theorem dX6_stir_18 : decode cX6_stir 18 = .ok (.irem, 1) := by decide +kernel
theorem dX6_stir_19 : decode cX6_stir 19 = .ok (.tableswitch 128 0 9 #[53, 53, 53, 63, 63, 73, 73, 83, 93, 108], 53) := by decide +kernel
theorem dX6_stir_72 : decode cX6_stir 72 = .ok (.aload_n 0, 1) := by decide +kernel
theorem dX6_stir_73 : decode cX6_stir 73 = .ok (.iload_n 2, 1) := by decide +kernel
theorem dX6_stir_74 : decode cX6_stir 74 = .ok (.iconst 0, 1) := by decide +kernel
theorem dX6_stir_75 : decode cX6_stir 75 = .ok (.invokevirtual 255, 3) := by decide +kernel
theorem dX6_stir_78 : decode cX6_stir 78 = .ok (.pop, 1) := by decide +kernel
theorem dX6_stir_79 : decode cX6_stir 79 = .ok (.goto 83, 3) := by decide +kernel
theorem dX6_stir_82 : decode cX6_stir 82 = .ok (.aload_n 0, 1) := by decide +kernel
theorem dX6_stir_83 : decode cX6_stir 83 = .ok (.iload_n 2, 1) := by decide +kernel
theorem dX6_stir_84 : decode cX6_stir 84 = .ok (.iconst 1, 1) := by decide +kernel
theorem dX6_stir_85 : decode cX6_stir 85 = .ok (.invokevirtual 255, 3) := by decide +kernel
theorem dX6_stir_88 : decode cX6_stir 88 = .ok (.pop, 1) := by decide +kernel
theorem dX6_stir_89 : decode cX6_stir 89 = .ok (.goto 73, 3) := by decide +kernel
theorem dX6_stir_92 : decode cX6_stir 92 = .ok (.aload_n 0, 1) := by decide +kernel
theorem dX6_stir_93 : decode cX6_stir 93 = .ok (.iload_n 2, 1) := by decide +kernel
theorem dX6_stir_94 : decode cX6_stir 94 = .ok (.iconst 2, 1) := by decide +kernel
theorem dX6_stir_95 : decode cX6_stir 95 = .ok (.invokevirtual 255, 3) := by decide +kernel
theorem dX6_stir_98 : decode cX6_stir 98 = .ok (.pop, 1) := by decide +kernel
theorem dX6_stir_99 : decode cX6_stir 99 = .ok (.goto 63, 3) := by decide +kernel
theorem dX6_stir_102 : decode cX6_stir 102 = .ok (.aload_n 0, 1) := by decide +kernel
theorem dX6_stir_103 : decode cX6_stir 103 = .ok (.iload_n 2, 1) := by decide +kernel
theorem dX6_stir_104 : decode cX6_stir 104 = .ok (.iconst 3, 1) := by decide +kernel
theorem dX6_stir_105 : decode cX6_stir 105 = .ok (.invokevirtual 255, 3) := by decide +kernel
theorem dX6_stir_108 : decode cX6_stir 108 = .ok (.pop, 1) := by decide +kernel
theorem dX6_stir_109 : decode cX6_stir 109 = .ok (.goto 53, 3) := by decide +kernel
theorem dX6_stir_112 : decode cX6_stir 112 = .ok (.aload_n 0, 1) := by decide +kernel
theorem dX6_stir_113 : decode cX6_stir 113 = .ok (.iload_n 2, 1) := by decide +kernel
theorem dX6_stir_114 : decode cX6_stir 114 = .ok (.iload_n 1, 1) := by decide +kernel
theorem dX6_stir_115 : decode cX6_stir 115 = .ok (.bipush 64, 2) := by decide +kernel
theorem dX6_stir_117 : decode cX6_stir 117 = .ok (.idiv, 1) := by decide +kernel
theorem dX6_stir_118 : decode cX6_stir 118 = .ok (.iconst 4, 1) := by decide +kernel
theorem dX6_stir_119 : decode cX6_stir 119 = .ok (.irem, 1) := by decide +kernel
theorem dX6_stir_120 : decode cX6_stir 120 = .ok (.invokevirtual 263, 3) := by decide +kernel
theorem dX6_stir_123 : decode cX6_stir 123 = .ok (.pop, 1) := by decide +kernel
theorem dX6_stir_124 : decode cX6_stir 124 = .ok (.goto 38, 3) := by decide +kernel
theorem dX6_stir_127 : decode cX6_stir 127 = .ok (.aload_n 0, 1) := by decide +kernel
theorem dX6_stir_128 : decode cX6_stir 128 = .ok (.iload_n 2, 1) := by decide +kernel
theorem dX6_stir_129 : decode cX6_stir 129 = .ok (.iload_n 3, 1) := by decide +kernel
theorem dX6_stir_130 : decode cX6_stir 130 = .ok (.iconst 1, 1) := by decide +kernel
theorem dX6_stir_131 : decode cX6_stir 131 = .ok (.iload_n 1, 1) := by decide +kernel
theorem dX6_stir_132 : decode cX6_stir 132 = .ok (.sipush 1024, 3) := by decide +kernel
theorem dX6_stir_135 : decode cX6_stir 135 = .ok (.idiv, 1) := by decide +kernel
theorem dX6_stir_136 : decode cX6_stir 136 = .ok (.bipush 99, 2) := by decide +kernel
theorem dX6_stir_138 : decode cX6_stir 138 = .ok (.irem, 1) := by decide +kernel
theorem dX6_stir_139 : decode cX6_stir 139 = .ok (.iadd, 1) := by decide +kernel
theorem dX6_stir_140 : decode cX6_stir 140 = .ok (.invokevirtual 266, 3) := by decide +kernel
theorem dX6_stir_143 : decode cX6_stir 143 = .ok (.pop, 1) := by decide +kernel
theorem dX6_stir_144 : decode cX6_stir 144 = .ok (.goto 18, 3) := by decide +kernel
theorem dX6_stir_147 : decode cX6_stir 147 = .ok (.aload_n 0, 1) := by decide +kernel
theorem dX6_stir_148 : decode cX6_stir 148 = .ok (.iload_n 2, 1) := by decide +kernel
theorem dX6_stir_149 : decode cX6_stir 149 = .ok (.iload_n 3, 1) := by decide +kernel
theorem dX6_stir_150 : decode cX6_stir 150 = .ok (.iload_n 1, 1) := by decide +kernel
theorem dX6_stir_151 : decode cX6_stir 151 = .ok (.sipush 1024, 3) := by decide +kernel
theorem dX6_stir_154 : decode cX6_stir 154 = .ok (.idiv, 1) := by decide +kernel
theorem dX6_stir_155 : decode cX6_stir 155 = .ok (.bipush 100, 2) := by decide +kernel
theorem dX6_stir_157 : decode cX6_stir 157 = .ok (.irem, 1) := by decide +kernel
theorem dX6_stir_158 : decode cX6_stir 158 = .ok (.invokevirtual 259, 3) := by decide +kernel
theorem dX6_stir_161 : decode cX6_stir 161 = .ok (.pop, 1) := by decide +kernel
theorem dX6_stir_162 : decode cX6_stir 162 = .ok (.return_, 1) := by decide +kernel
theorem dX6_simulate_0 : decode cX6_simulate 0 = .ok (.aload_n 0, 1) := by decide +kernel
theorem dX6_simulate_1 : decode cX6_simulate 1 = .ok (.iload_n 3, 1) := by decide +kernel
theorem dX6_simulate_2 : decode cX6_simulate 2 = .ok (.i2l, 1) := by decide +kernel
theorem dX6_simulate_3 : decode cX6_simulate 3 = .ok (.lconst 1, 1) := by decide +kernel
theorem dX6_simulate_4 : decode cX6_simulate 4 = .ok (.ldc2_w 242, 3) := by decide +kernel
theorem dX6_simulate_7 : decode cX6_simulate 7 = .ok (.invokestatic 92, 3) := by decide +kernel
theorem dX6_simulate_10 : decode cX6_simulate 10 = .ok (.ifCond .eq 7, 3) := by decide +kernel
theorem dX6_simulate_13 : decode cX6_simulate 13 = .ok (.iconst 0, 1) := by decide +kernel
theorem dX6_simulate_14 : decode cX6_simulate 14 = .ok (.goto 4, 3) := by decide +kernel
theorem dX6_simulate_17 : decode cX6_simulate 17 = .ok (.iconst 1, 1) := by decide +kernel
theorem dX6_simulate_18 : decode cX6_simulate 18 = .ok (.invokevirtual 118, 3) := by decide +kernel
theorem dX6_simulate_21 : decode cX6_simulate 21 = .ok (.ifCond .eq 5, 3) := by decide +kernel
theorem dX6_simulate_24 : decode cX6_simulate 24 = .ok (.iconst 0, 1) := by decide +kernel
theorem dX6_simulate_25 : decode cX6_simulate 25 = .ok (.ireturn, 1) := by decide +kernel
theorem dX6_simulate_26 : decode cX6_simulate 26 = .ok (.aload_n 0, 1) := by decide +kernel
theorem dX6_simulate_27 : decode cX6_simulate 27 = .ok (.invokevirtual 249, 3) := by decide +kernel
theorem dX6_simulate_30 : decode cX6_simulate 30 = .ok (.lload_n 1, 1) := by decide +kernel
theorem dX6_simulate_31 : decode cX6_simulate 31 = .ok (.lstore 4, 2) := by decide +kernel
theorem dX6_simulate_33 : decode cX6_simulate 33 = .ok (.iconst 0, 1) := by decide +kernel
theorem dX6_simulate_34 : decode cX6_simulate 34 = .ok (.istore 6, 2) := by decide +kernel
theorem dX6_simulate_36 : decode cX6_simulate 36 = .ok (.iload 6, 2) := by decide +kernel
theorem dX6_simulate_38 : decode cX6_simulate 38 = .ok (.iload_n 3, 1) := by decide +kernel
theorem dX6_simulate_39 : decode cX6_simulate 39 = .ok (.if_icmp .ge 31, 3) := by decide +kernel
theorem dX6_simulate_42 : decode cX6_simulate 42 = .ok (.lload 4, 2) := by decide +kernel
theorem dX6_simulate_44 : decode cX6_simulate 44 = .ok (.ldc2_w 278, 3) := by decide +kernel
theorem dX6_simulate_47 : decode cX6_simulate 47 = .ok (.lmul, 1) := by decide +kernel
theorem dX6_simulate_48 : decode cX6_simulate 48 = .ok (.ldc2_w 280, 3) := by decide +kernel
theorem dX6_simulate_51 : decode cX6_simulate 51 = .ok (.ladd, 1) := by decide +kernel
theorem dX6_simulate_52 : decode cX6_simulate 52 = .ok (.lstore 4, 2) := by decide +kernel
theorem dX6_simulate_54 : decode cX6_simulate 54 = .ok (.aload_n 0, 1) := by decide +kernel
theorem dX6_simulate_55 : decode cX6_simulate 55 = .ok (.lload 4, 2) := by decide +kernel
theorem dX6_simulate_57 : decode cX6_simulate 57 = .ok (.bipush 33, 2) := by decide +kernel
theorem dX6_simulate_59 : decode cX6_simulate 59 = .ok (.lushr, 1) := by decide +kernel
theorem dX6_simulate_60 : decode cX6_simulate 60 = .ok (.l2i, 1) := by decide +kernel
theorem dX6_simulate_61 : decode cX6_simulate 61 = .ok (.invokevirtual 282, 3) := by decide +kernel
theorem dX6_simulate_64 : decode cX6_simulate 64 = .ok (.iinc 6 1, 3) := by decide +kernel
theorem dX6_simulate_67 : decode cX6_simulate 67 = .ok (.goto (-31), 3) := by decide +kernel
theorem dX6_simulate_70 : decode cX6_simulate 70 = .ok (.sipush 1000, 3) := by decide +kernel
theorem dX6_simulate_73 : decode cX6_simulate 73 = .ok (.aload_n 0, 1) := by decide +kernel
theorem dX6_simulate_74 : decode cX6_simulate 74 = .ok (.getfield 19, 3) := by decide +kernel
theorem dX6_simulate_77 : decode cX6_simulate 77 = .ok (.bipush 33, 2) := by decide +kernel
theorem dX6_simulate_79 : decode cX6_simulate 79 = .ok (.iaload, 1) := by decide +kernel
theorem dX6_simulate_80 : decode cX6_simulate 80 = .ok (.aload_n 0, 1) := by decide +kernel
theorem dX6_simulate_81 : decode cX6_simulate 81 = .ok (.getfield 16, 3) := by decide +kernel
theorem dX6_simulate_84 : decode cX6_simulate 84 = .ok (.bipush 33, 2) := by decide +kernel
theorem dX6_simulate_86 : decode cX6_simulate 86 = .ok (.iaload, 1) := by decide +kernel
theorem dX6_simulate_87 : decode cX6_simulate 87 = .ok (.isub, 1) := by decide +kernel
theorem dX6_simulate_88 : decode cX6_simulate 88 = .ok (.imul, 1) := by decide +kernel
theorem dX6_simulate_89 : decode cX6_simulate 89 = .ok (.aload_n 0, 1) := by decide +kernel
theorem dX6_simulate_90 : decode cX6_simulate 90 = .ok (.getfield 19, 3) := by decide +kernel
theorem dX6_simulate_93 : decode cX6_simulate 93 = .ok (.bipush 34, 2) := by decide +kernel
theorem dX6_simulate_95 : decode cX6_simulate 95 = .ok (.iaload, 1) := by decide +kernel
theorem dX6_simulate_96 : decode cX6_simulate 96 = .ok (.iadd, 1) := by decide +kernel
theorem dX6_simulate_97 : decode cX6_simulate 97 = .ok (.aload_n 0, 1) := by decide +kernel
theorem dX6_simulate_98 : decode cX6_simulate 98 = .ok (.getfield 16, 3) := by decide +kernel
theorem dX6_simulate_101 : decode cX6_simulate 101 = .ok (.bipush 34, 2) := by decide +kernel
theorem dX6_simulate_103 : decode cX6_simulate 103 = .ok (.iaload, 1) := by decide +kernel
theorem dX6_simulate_104 : decode cX6_simulate 104 = .ok (.isub, 1) := by decide +kernel
theorem dX6_simulate_105 : decode cX6_simulate 105 = .ok (.ireturn, 1) := by decide +kernel
theorem dX6_save_0 : decode cX6_save 0 = .ok (.aload_n 0, 1) := by decide +kernel
theorem dX6_save_1 : decode cX6_save 1 = .ok (.iload_n 1, 1) := by decide +kernel
theorem dX6_save_2 : decode cX6_save 2 = .ok (.i2l, 1) := by decide +kernel
theorem dX6_save_3 : decode cX6_save 3 = .ok (.lconst 0, 1) := by decide +kernel
theorem dX6_save_4 : decode cX6_save 4 = .ok (.lconst 1, 1) := by decide +kernel
theorem dX6_save_5 : decode cX6_save 5 = .ok (.invokestatic 92, 3) := by decide +kernel
theorem dX6_save_8 : decode cX6_save 8 = .ok (.ifCond .eq 7, 3) := by decide +kernel
theorem dX6_save_11 : decode cX6_save 11 = .ok (.iconst 0, 1) := by decide +kernel
theorem dX6_save_12 : decode cX6_save 12 = .ok (.goto 4, 3) := by decide +kernel
theorem dX6_save_15 : decode cX6_save 15 = .ok (.iconst 1, 1) := by decide +kernel
theorem dX6_save_16 : decode cX6_save 16 = .ok (.invokevirtual 118, 3) := by decide +kernel
theorem dX6_save_19 : decode cX6_save 19 = .ok (.ifCond .eq 5, 3) := by decide +kernel
theorem dX6_save_22 : decode cX6_save 22 = .ok (.iconst 0, 1) := by decide +kernel
theorem dX6_save_23 : decode cX6_save 23 = .ok (.ireturn, 1) := by decide +kernel
theorem dX6_save_24 : decode cX6_save 24 = .ok (.aload_n 0, 1) := by decide +kernel
theorem dX6_save_25 : decode cX6_save 25 = .ok (.getfield 16, 3) := by decide +kernel
theorem dX6_save_28 : decode cX6_save 28 = .ok (.iconst 0, 1) := by decide +kernel
theorem dX6_save_29 : decode cX6_save 29 = .ok (.aload_n 0, 1) := by decide +kernel
theorem dX6_save_30 : decode cX6_save 30 = .ok (.getfield 34, 3) := by decide +kernel
theorem dX6_save_33 : decode cX6_save 33 = .ok (.sipush 4086, 3) := by decide +kernel
theorem dX6_save_36 : decode cX6_save 36 = .ok (.iload_n 1, 1) := by decide +kernel
theorem dX6_save_37 : decode cX6_save 37 = .ok (.imul, 1) := by decide +kernel
theorem dX6_save_38 : decode cX6_save 38 = .ok (.sipush 4086, 3) := by decide +kernel
theorem dX6_save_41 : decode cX6_save 41 = .ok (.invokestatic 54, 3) := by decide +kernel
theorem dX6_save_44 : decode cX6_save 44 = .ok (.aload_n 0, 1) := by decide +kernel
theorem dX6_save_45 : decode cX6_save 45 = .ok (.getfield 37, 3) := by decide +kernel
theorem dX6_save_48 : decode cX6_save 48 = .ok (.iload_n 1, 1) := by decide +kernel
theorem dX6_save_49 : decode cX6_save 49 = .ok (.iconst 1, 1) := by decide +kernel
theorem dX6_save_50 : decode cX6_save 50 = .ok (.bastore, 1) := by decide +kernel
theorem dX6_save_51 : decode cX6_save 51 = .ok (.aload_n 0, 1) := by decide +kernel
theorem dX6_save_52 : decode cX6_save 52 = .ok (.getfield 16, 3) := by decide +kernel
theorem dX6_save_55 : decode cX6_save 55 = .ok (.invokestatic 209, 3) := by decide +kernel
theorem dX6_save_58 : decode cX6_save 58 = .ok (.ireturn, 1) := by decide +kernel
theorem dX6_restore_0 : decode cX6_restore 0 = .ok (.aload_n 0, 1) := by decide +kernel
theorem dX6_restore_1 : decode cX6_restore 1 = .ok (.iload_n 1, 1) := by decide +kernel
theorem dX6_restore_2 : decode cX6_restore 2 = .ok (.i2l, 1) := by decide +kernel
theorem dX6_restore_3 : decode cX6_restore 3 = .ok (.lconst 0, 1) := by decide +kernel
theorem dX6_restore_4 : decode cX6_restore 4 = .ok (.lconst 1, 1) := by decide +kernel
theorem dX6_restore_5 : decode cX6_restore 5 = .ok (.invokestatic 92, 3) := by decide +kernel
theorem dX6_restore_8 : decode cX6_restore 8 = .ok (.ifCond .ne 7, 3) := by decide +kernel
theorem dX6_restore_11 : decode cX6_restore 11 = .ok (.iconst 1, 1) := by decide +kernel
theorem dX6_restore_12 : decode cX6_restore 12 = .ok (.goto 17, 3) := by decide +kernel
theorem dX6_restore_15 : decode cX6_restore 15 = .ok (.aload_n 0, 1) := by decide +kernel
theorem dX6_restore_16 : decode cX6_restore 16 = .ok (.getfield 37, 3) := by decide +kernel
theorem dX6_restore_19 : decode cX6_restore 19 = .ok (.iload_n 1, 1) := by decide +kernel
theorem dX6_restore_20 : decode cX6_restore 20 = .ok (.baload, 1) := by decide +kernel
theorem dX6_restore_21 : decode cX6_restore 21 = .ok (.ifCond .eq 7, 3) := by decide +kernel
theorem dX6_restore_24 : decode cX6_restore 24 = .ok (.iconst 0, 1) := by decide +kernel
theorem dX6_restore_25 : decode cX6_restore 25 = .ok (.goto 4, 3) := by decide +kernel
theorem dX6_restore_28 : decode cX6_restore 28 = .ok (.iconst 2, 1) := by decide +kernel
theorem dX6_restore_29 : decode cX6_restore 29 = .ok (.invokevirtual 118, 3) := by decide +kernel
theorem dX6_restore_32 : decode cX6_restore 32 = .ok (.ifCond .eq 5, 3) := by decide +kernel
theorem dX6_restore_35 : decode cX6_restore 35 = .ok (.iconst 0, 1) := by decide +kernel
theorem dX6_restore_36 : decode cX6_restore 36 = .ok (.ireturn, 1) := by decide +kernel
theorem dX6_restore_37 : decode cX6_restore 37 = .ok (.aload_n 0, 1) := by decide +kernel
theorem dX6_restore_38 : decode cX6_restore 38 = .ok (.getfield 34, 3) := by decide +kernel
theorem dX6_restore_41 : decode cX6_restore 41 = .ok (.sipush 4086, 3) := by decide +kernel
theorem dX6_restore_44 : decode cX6_restore 44 = .ok (.iload_n 1, 1) := by decide +kernel
theorem dX6_restore_45 : decode cX6_restore 45 = .ok (.imul, 1) := by decide +kernel
theorem dX6_restore_46 : decode cX6_restore 46 = .ok (.aload_n 0, 1) := by decide +kernel
theorem dX6_restore_47 : decode cX6_restore 47 = .ok (.getfield 16, 3) := by decide +kernel
theorem dX6_restore_50 : decode cX6_restore 50 = .ok (.iconst 0, 1) := by decide +kernel
theorem dX6_restore_51 : decode cX6_restore 51 = .ok (.sipush 4086, 3) := by decide +kernel
theorem dX6_restore_54 : decode cX6_restore 54 = .ok (.invokestatic 54, 3) := by decide +kernel
theorem dX6_restore_57 : decode cX6_restore 57 = .ok (.aload_n 0, 1) := by decide +kernel
theorem dX6_restore_58 : decode cX6_restore 58 = .ok (.iconst 0, 1) := by decide +kernel
theorem dX6_restore_59 : decode cX6_restore 59 = .ok (.putfield 58, 3) := by decide +kernel
theorem dX6_restore_62 : decode cX6_restore 62 = .ok (.aload_n 0, 1) := by decide +kernel
theorem dX6_restore_63 : decode cX6_restore 63 = .ok (.getfield 16, 3) := by decide +kernel
theorem dX6_restore_66 : decode cX6_restore 66 = .ok (.invokestatic 209, 3) := by decide +kernel
theorem dX6_restore_69 : decode cX6_restore 69 = .ok (.ireturn, 1) := by decide +kernel

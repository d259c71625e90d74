theorem dX5_init_0 : decode cX5_init 0 = .ok (.aload_n 0, 1) := by decide +kernel
theorem dX5_init_1 : decode cX5_init 1 = .ok (.invokespecial 1, 3) := by decide +kernel
theorem dX5_init_4 : decode cX5_init 4 = .ok (.aload_n 0, 1) := by decide +kernel
theorem dX5_init_5 : decode cX5_init 5 = .ok (.new 7, 3) := by decide +kernel
theorem dX5_init_8 : decode cX5_init 8 = .ok (.dup, 1) := by decide +kernel
theorem dX5_init_9 : decode cX5_init 9 = .ok (.bipush 120, 2) := by decide +kernel
theorem dX5_init_11 : decode cX5_init 11 = .ok (.bipush 120, 2) := by decide +kernel
theorem dX5_init_13 : decode cX5_init 13 = .ok (.invokespecial 11, 3) := by decide +kernel
theorem dX5_init_16 : decode cX5_init 16 = .ok (.putfield 14, 3) := by decide +kernel
theorem dX5_init_19 : decode cX5_init 19 = .ok (.aload_n 0, 1) := by decide +kernel
theorem dX5_init_20 : decode cX5_init 20 = .ok (.new 18, 3) := by decide +kernel
theorem dX5_init_23 : decode cX5_init 23 = .ok (.dup, 1) := by decide +kernel
theorem dX5_init_24 : decode cX5_init 24 = .ok (.invokespecial 20, 3) := by decide +kernel
theorem dX5_init_27 : decode cX5_init 27 = .ok (.putfield 21, 3) := by decide +kernel
theorem dX5_init_30 : decode cX5_init 30 = .ok (.aload_n 0, 1) := by decide +kernel
theorem dX5_init_31 : decode cX5_init 31 = .ok (.new 18, 3) := by decide +kernel
theorem dX5_init_34 : decode cX5_init 34 = .ok (.dup, 1) := by decide +kernel
theorem dX5_init_35 : decode cX5_init 35 = .ok (.invokespecial 20, 3) := by decide +kernel
theorem dX5_init_38 : decode cX5_init 38 = .ok (.putfield 25, 3) := by decide +kernel
theorem dX5_init_41 : decode cX5_init 41 = .ok (.aload_n 0, 1) := by decide +kernel
theorem dX5_init_42 : decode cX5_init 42 = .ok (.new 28, 3) := by decide +kernel
theorem dX5_init_45 : decode cX5_init 45 = .ok (.dup, 1) := by decide +kernel
theorem dX5_init_46 : decode cX5_init 46 = .ok (.invokespecial 30, 3) := by decide +kernel
theorem dX5_init_49 : decode cX5_init 49 = .ok (.putfield 31, 3) := by decide +kernel
theorem dX5_init_52 : decode cX5_init 52 = .ok (.aload_n 0, 1) := by decide +kernel
theorem dX5_init_53 : decode cX5_init 53 = .ok (.iconst 2, 1) := by decide +kernel
theorem dX5_init_54 : decode cX5_init 54 = .ok (.anewarray 18, 3) := by decide +kernel
theorem dX5_init_57 : decode cX5_init 57 = .ok (.putfield 35, 3) := by decide +kernel
theorem dX5_init_60 : decode cX5_init 60 = .ok (.aload_n 0, 1) := by decide +kernel
theorem dX5_init_61 : decode cX5_init 61 = .ok (.iconst 2, 1) := by decide +kernel
theorem dX5_init_62 : decode cX5_init 62 = .ok (.newarray .boolean, 2) := by decide +kernel
theorem dX5_init_64 : decode cX5_init 64 = .ok (.putfield 39, 3) := by decide +kernel
theorem dX5_init_67 : decode cX5_init 67 = .ok (.return_, 1) := by decide +kernel
theorem dX5_append_0 : decode cX5_append 0 = .ok (.iload_n 1, 1) := by decide +kernel
theorem dX5_append_1 : decode cX5_append 1 = .ok (.ifCond .lt 10, 3) := by decide +kernel
theorem dX5_append_4 : decode cX5_append 4 = .ok (.iload_n 1, 1) := by decide +kernel
theorem dX5_append_5 : decode cX5_append 5 = .ok (.sipush 255, 3) := by decide +kernel
theorem dX5_append_8 : decode cX5_append 8 = .ok (.if_icmp .le 13, 3) := by decide +kernel
theorem dX5_append_11 : decode cX5_append 11 = .ok (.new 43, 3) := by decide +kernel
theorem dX5_append_14 : decode cX5_append 14 = .ok (.dup, 1) := by decide +kernel
theorem dX5_append_15 : decode cX5_append 15 = .ok (.ldc 45, 2) := by decide +kernel
theorem dX5_append_17 : decode cX5_append 17 = .ok (.invokespecial 47, 3) := by decide +kernel
theorem dX5_append_20 : decode cX5_append 20 = .ok (.athrow, 1) := by decide +kernel
theorem dX5_append_21 : decode cX5_append 21 = .ok (.aload_n 0, 1) := by decide +kernel
theorem dX5_append_22 : decode cX5_append 22 = .ok (.getfield 14, 3) := by decide +kernel
theorem dX5_append_25 : decode cX5_append 25 = .ok (.getfield 50, 3) := by decide +kernel
theorem dX5_append_28 : decode cX5_append 28 = .ok (.bipush 120, 2) := by decide +kernel
theorem dX5_append_30 : decode cX5_append 30 = .ok (.if_icmp .lt 13, 3) := by decide +kernel
theorem dX5_append_33 : decode cX5_append 33 = .ok (.new 54, 3) := by decide +kernel
theorem dX5_append_36 : decode cX5_append 36 = .ok (.dup, 1) := by decide +kernel
theorem dX5_append_37 : decode cX5_append 37 = .ok (.ldc 56, 2) := by decide +kernel
theorem dX5_append_39 : decode cX5_append 39 = .ok (.invokespecial 58, 3) := by decide +kernel
theorem dX5_append_42 : decode cX5_append 42 = .ok (.athrow, 1) := by decide +kernel
theorem dX5_append_43 : decode cX5_append 43 = .ok (.aload_n 0, 1) := by decide +kernel
theorem dX5_append_44 : decode cX5_append 44 = .ok (.getfield 14, 3) := by decide +kernel
theorem dX5_append_47 : decode cX5_append 47 = .ok (.iload_n 1, 1) := by decide +kernel
theorem dX5_append_48 : decode cX5_append 48 = .ok (.invokevirtual 59, 3) := by decide +kernel
theorem dX5_append_51 : decode cX5_append 51 = .ok (.aload_n 0, 1) := by decide +kernel
theorem dX5_append_52 : decode cX5_append 52 = .ok (.getfield 14, 3) := by decide +kernel
theorem dX5_append_55 : decode cX5_append 55 = .ok (.getfield 50, 3) := by decide +kernel
theorem dX5_append_58 : decode cX5_append 58 = .ok (.ireturn, 1) := by decide +kernel
theorem dX5_clearText_0 : decode cX5_clearText 0 = .ok (.aload_n 0, 1) := by decide +kernel
theorem dX5_clearText_1 : decode cX5_clearText 1 = .ok (.getfield 14, 3) := by decide +kernel
theorem dX5_clearText_4 : decode cX5_clearText 4 = .ok (.getfield 50, 3) := by decide +kernel
theorem dX5_clearText_7 : decode cX5_clearText 7 = .ok (.istore_n 1, 1) := by decide +kernel
theorem dX5_clearText_8 : decode cX5_clearText 8 = .ok (.aload_n 0, 1) := by decide +kernel
theorem dX5_clearText_9 : decode cX5_clearText 9 = .ok (.getfield 14, 3) := by decide +kernel
theorem dX5_clearText_12 : decode cX5_clearText 12 = .ok (.iconst 0, 1) := by decide +kernel
theorem dX5_clearText_13 : decode cX5_clearText 13 = .ok (.invokevirtual 63, 3) := by decide +kernel
theorem dX5_clearText_16 : decode cX5_clearText 16 = .ok (.iload_n 1, 1) := by decide +kernel
theorem dX5_clearText_17 : decode cX5_clearText 17 = .ok (.ireturn, 1) := by decide +kernel
theorem dX5_errorPosition_0 : decode cX5_errorPosition 0 = .ok (.aload_n 0, 1) := by decide +kernel
theorem dX5_errorPosition_1 : decode cX5_errorPosition 1 = .ok (.getfield 14, 3) := by decide +kernel
theorem dX5_errorPosition_4 : decode cX5_errorPosition 4 = .ok (.iconst 0, 1) := by decide +kernel
theorem dX5_errorPosition_5 : decode cX5_errorPosition 5 = .ok (.invokevirtual 66, 3) := by decide +kernel
theorem dX5_errorPosition_8 : decode cX5_errorPosition 8 = .ok (.bipush 87, 2) := by decide +kernel
theorem dX5_errorPosition_10 : decode cX5_errorPosition 10 = .ok (.if_icmp .eq 5, 3) := by decide +kernel
theorem dX5_errorPosition_13 : decode cX5_errorPosition 13 = .ok (.iconst 0, 1) := by decide +kernel
theorem dX5_errorPosition_14 : decode cX5_errorPosition 14 = .ok (.ireturn, 1) := by decide +kernel
theorem dX5_errorPosition_15 : decode cX5_errorPosition 15 = .ok (.iconst 1, 1) := by decide +kernel
theorem dX5_errorPosition_16 : decode cX5_errorPosition 16 = .ok (.istore_n 1, 1) := by decide +kernel
theorem dX5_errorPosition_17 : decode cX5_errorPosition 17 = .ok (.iload_n 1, 1) := by decide +kernel
theorem dX5_errorPosition_18 : decode cX5_errorPosition 18 = .ok (.aload_n 0, 1) := by decide +kernel
theorem dX5_errorPosition_19 : decode cX5_errorPosition 19 = .ok (.getfield 14, 3) := by decide +kernel
theorem dX5_errorPosition_22 : decode cX5_errorPosition 22 = .ok (.getfield 50, 3) := by decide +kernel
theorem dX5_errorPosition_25 : decode cX5_errorPosition 25 = .ok (.if_icmp .ge 51, 3) := by decide +kernel
theorem dX5_errorPosition_28 : decode cX5_errorPosition 28 = .ok (.aload_n 0, 1) := by decide +kernel
theorem dX5_errorPosition_29 : decode cX5_errorPosition 29 = .ok (.getfield 14, 3) := by decide +kernel
theorem dX5_errorPosition_32 : decode cX5_errorPosition 32 = .ok (.iload_n 1, 1) := by decide +kernel
theorem dX5_errorPosition_33 : decode cX5_errorPosition 33 = .ok (.invokevirtual 66, 3) := by decide +kernel
theorem dX5_errorPosition_36 : decode cX5_errorPosition 36 = .ok (.invokestatic 70, 3) := by decide +kernel
theorem dX5_errorPosition_39 : decode cX5_errorPosition 39 = .ok (.astore_n 2, 1) := by decide +kernel
theorem dX5_errorPosition_40 : decode cX5_errorPosition 40 = .ok (.aload_n 2, 1) := by decide +kernel
theorem dX5_errorPosition_41 : decode cX5_errorPosition 41 = .ok (.invokevirtual 74, 3) := by decide +kernel
theorem dX5_errorPosition_44 : decode cX5_errorPosition 44 = .ok (.ifCond .eq 5, 3) := by decide +kernel
theorem dX5_errorPosition_47 : decode cX5_errorPosition 47 = .ok (.iload_n 1, 1) := by decide +kernel
theorem dX5_errorPosition_48 : decode cX5_errorPosition 48 = .ok (.ireturn, 1) := by decide +kernel
theorem dX5_errorPosition_49 : decode cX5_errorPosition 49 = .ok (.iinc 1 1, 3) := by decide +kernel
theorem dX5_errorPosition_52 : decode cX5_errorPosition 52 = .ok (.aload_n 0, 1) := by decide +kernel
theorem dX5_errorPosition_53 : decode cX5_errorPosition 53 = .ok (.iload_n 1, 1) := by decide +kernel
theorem dX5_errorPosition_54 : decode cX5_errorPosition 54 = .ok (.aload_n 2, 1) := by decide +kernel
theorem dX5_errorPosition_55 : decode cX5_errorPosition 55 = .ok (.invokevirtual 80, 3) := by decide +kernel
theorem dX5_errorPosition_58 : decode cX5_errorPosition 58 = .ok (.istore_n 3, 1) := by decide +kernel
theorem dX5_errorPosition_59 : decode cX5_errorPosition 59 = .ok (.iload_n 1, 1) := by decide +kernel
theorem dX5_errorPosition_60 : decode cX5_errorPosition 60 = .ok (.iload_n 3, 1) := by decide +kernel
theorem dX5_errorPosition_61 : decode cX5_errorPosition 61 = .ok (.iadd, 1) := by decide +kernel
theorem dX5_errorPosition_62 : decode cX5_errorPosition 62 = .ok (.istore_n 1, 1) := by decide +kernel
theorem dX5_errorPosition_63 : decode cX5_errorPosition 63 = .ok (.iload_n 3, 1) := by decide +kernel
theorem dX5_errorPosition_64 : decode cX5_errorPosition 64 = .ok (.aload_n 2, 1) := by decide +kernel
theorem dX5_errorPosition_65 : decode cX5_errorPosition 65 = .ok (.invokevirtual 84, 3) := by decide +kernel
theorem dX5_errorPosition_68 : decode cX5_errorPosition 68 = .ok (.if_icmp .ge 5, 3) := by decide +kernel
theorem dX5_errorPosition_71 : decode cX5_errorPosition 71 = .ok (.iload_n 1, 1) := by decide +kernel
theorem dX5_errorPosition_72 : decode cX5_errorPosition 72 = .ok (.ireturn, 1) := by decide +kernel
theorem dX5_errorPosition_73 : decode cX5_errorPosition 73 = .ok (.goto (-56), 3) := by decide +kernel
theorem dX5_errorPosition_76 : decode cX5_errorPosition 76 = .ok (.iconst (-1), 1) := by decide +kernel
theorem dX5_errorPosition_77 : decode cX5_errorPosition 77 = .ok (.ireturn, 1) := by decide +kernel
theorem dX5_load_0 : decode cX5_load 0 = .ok (.aload_n 0, 1) := by decide +kernel
theorem dX5_load_1 : decode cX5_load 1 = .ok (.invokevirtual 88, 3) := by decide +kernel
theorem dX5_load_4 : decode cX5_load 4 = .ok (.iconst (-1), 1) := by decide +kernel
theorem dX5_load_5 : decode cX5_load 5 = .ok (.if_icmp .eq 13, 3) := by decide +kernel
theorem dX5_load_8 : decode cX5_load 8 = .ok (.new 54, 3) := by decide +kernel
theorem dX5_load_11 : decode cX5_load 11 = .ok (.dup, 1) := by decide +kernel
theorem dX5_load_12 : decode cX5_load 12 = .ok (.ldc 91, 2) := by decide +kernel
theorem dX5_load_14 : decode cX5_load 14 = .ok (.invokespecial 58, 3) := by decide +kernel
theorem dX5_load_17 : decode cX5_load 17 = .ok (.athrow, 1) := by decide +kernel
theorem dX5_load_18 : decode cX5_load 18 = .ok (.aload_n 0, 1) := by decide +kernel
theorem dX5_load_19 : decode cX5_load 19 = .ok (.getfield 21, 3) := by decide +kernel
theorem dX5_load_22 : decode cX5_load 22 = .ok (.invokevirtual 93, 3) := by decide +kernel
theorem dX5_load_25 : decode cX5_load 25 = .ok (.aload_n 0, 1) := by decide +kernel
theorem dX5_load_26 : decode cX5_load 26 = .ok (.getfield 31, 3) := by decide +kernel
theorem dX5_load_29 : decode cX5_load 29 = .ok (.invokevirtual 96, 3) := by decide +kernel
theorem dX5_load_32 : decode cX5_load 32 = .ok (.aload_n 0, 1) := by decide +kernel
theorem dX5_load_33 : decode cX5_load 33 = .ok (.invokevirtual 99, 3) := by decide +kernel
theorem dX5_load_36 : decode cX5_load 36 = .ok (.iconst 0, 1) := by decide +kernel
theorem dX5_load_37 : decode cX5_load 37 = .ok (.istore_n 1, 1) := by decide +kernel
theorem dX5_load_38 : decode cX5_load 38 = .ok (.iconst 1, 1) := by decide +kernel
theorem dX5_load_39 : decode cX5_load 39 = .ok (.istore_n 2, 1) := by decide +kernel
theorem dX5_load_40 : decode cX5_load 40 = .ok (.iload_n 2, 1) := by decide +kernel
theorem dX5_load_41 : decode cX5_load 41 = .ok (.aload_n 0, 1) := by decide +kernel
theorem dX5_load_42 : decode cX5_load 42 = .ok (.getfield 14, 3) := by decide +kernel
theorem dX5_load_45 : decode cX5_load 45 = .ok (.getfield 50, 3) := by decide +kernel
theorem dX5_load_48 : decode cX5_load 48 = .ok (.if_icmp .ge 36, 3) := by decide +kernel
theorem dX5_load_51 : decode cX5_load 51 = .ok (.aload_n 0, 1) := by decide +kernel
theorem dX5_load_52 : decode cX5_load 52 = .ok (.iload_n 2, 1) := by decide +kernel
theorem dX5_load_53 : decode cX5_load 53 = .ok (.invokevirtual 102, 3) := by decide +kernel
theorem dX5_load_56 : decode cX5_load 56 = .ok (.ifCond .ne 6, 3) := by decide +kernel
theorem dX5_load_59 : decode cX5_load 59 = .ok (.iinc 1 1, 3) := by decide +kernel
theorem dX5_load_62 : decode cX5_load 62 = .ok (.iload_n 2, 1) := by decide +kernel
theorem dX5_load_63 : decode cX5_load 63 = .ok (.iconst 1, 1) := by decide +kernel
theorem dX5_load_64 : decode cX5_load 64 = .ok (.aload_n 0, 1) := by decide +kernel
theorem dX5_load_65 : decode cX5_load 65 = .ok (.getfield 14, 3) := by decide +kernel
theorem dX5_load_68 : decode cX5_load 68 = .ok (.iload_n 2, 1) := by decide +kernel
theorem dX5_load_69 : decode cX5_load 69 = .ok (.invokevirtual 66, 3) := by decide +kernel
theorem dX5_load_72 : decode cX5_load 72 = .ok (.invokestatic 70, 3) := by decide +kernel
theorem dX5_load_75 : decode cX5_load 75 = .ok (.invokevirtual 84, 3) := by decide +kernel
theorem dX5_load_78 : decode cX5_load 78 = .ok (.iadd, 1) := by decide +kernel
theorem dX5_load_79 : decode cX5_load 79 = .ok (.iadd, 1) := by decide +kernel
theorem dX5_load_80 : decode cX5_load 80 = .ok (.istore_n 2, 1) := by decide +kernel
theorem dX5_load_81 : decode cX5_load 81 = .ok (.goto (-41), 3) := by decide +kernel
theorem dX5_load_84 : decode cX5_load 84 = .ok (.iload_n 1, 1) := by decide +kernel
theorem dX5_load_85 : decode cX5_load 85 = .ok (.ireturn, 1) := by decide +kernel
theorem dX5_about_0 : decode cX5_about 0 = .ok (.iload_n 1, 1) := by decide +kernel
theorem dX5_about_1 : decode cX5_about 1 = .ok (.tableswitch 140 0 9 #[55, 63, 72, 81, 90, 99, 107, 116, 124, 132], 55) := by decide +kernel
theorem dX5_about_56 : decode cX5_about 56 = .ok (.aload_n 0, 1) := by decide +kernel
theorem dX5_about_57 : decode cX5_about 57 = .ok (.getfield 21, 3) := by decide +kernel
theorem dX5_about_60 : decode cX5_about 60 = .ok (.invokevirtual 106, 3) := by decide +kernel
theorem dX5_about_63 : decode cX5_about 63 = .ok (.ireturn, 1) := by decide +kernel
theorem dX5_about_64 : decode cX5_about 64 = .ok (.aload_n 0, 1) := by decide +kernel
theorem dX5_about_65 : decode cX5_about 65 = .ok (.getfield 21, 3) := by decide +kernel
theorem dX5_about_68 : decode cX5_about 68 = .ok (.iconst 2, 1) := by decide +kernel
theorem dX5_about_69 : decode cX5_about 69 = .ok (.invokevirtual 109, 3) := by decide +kernel
theorem dX5_about_72 : decode cX5_about 72 = .ok (.ireturn, 1) := by decide +kernel
theorem dX5_about_73 : decode cX5_about 73 = .ok (.aload_n 0, 1) := by decide +kernel
theorem dX5_about_74 : decode cX5_about 74 = .ok (.getfield 21, 3) := by decide +kernel
theorem dX5_about_77 : decode cX5_about 77 = .ok (.iconst 0, 1) := by decide +kernel
theorem dX5_about_78 : decode cX5_about 78 = .ok (.invokevirtual 109, 3) := by decide +kernel
theorem dX5_about_81 : decode cX5_about 81 = .ok (.ireturn, 1) := by decide +kernel
theorem dX5_about_82 : decode cX5_about 82 = .ok (.aload_n 0, 1) := by decide +kernel
theorem dX5_about_83 : decode cX5_about 83 = .ok (.getfield 21, 3) := by decide +kernel
theorem dX5_about_86 : decode cX5_about 86 = .ok (.iconst 3, 1) := by decide +kernel
theorem dX5_about_87 : decode cX5_about 87 = .ok (.invokevirtual 109, 3) := by decide +kernel
theorem dX5_about_90 : decode cX5_about 90 = .ok (.ireturn, 1) := by decide +kernel
theorem dX5_about_91 : decode cX5_about 91 = .ok (.aload_n 0, 1) := by decide +kernel
theorem dX5_about_92 : decode cX5_about 92 = .ok (.getfield 21, 3) := by decide +kernel
theorem dX5_about_95 : decode cX5_about 95 = .ok (.iconst 4, 1) := by decide +kernel
theorem dX5_about_96 : decode cX5_about 96 = .ok (.invokevirtual 109, 3) := by decide +kernel
theorem dX5_about_99 : decode cX5_about 99 = .ok (.ireturn, 1) := by decide +kernel
theorem dX5_about_100 : decode cX5_about 100 = .ok (.aload_n 0, 1) := by decide +kernel
theorem dX5_about_101 : decode cX5_about 101 = .ok (.getfield 21, 3) := by decide +kernel
theorem dX5_about_104 : decode cX5_about 104 = .ok (.getfield 112, 3) := by decide +kernel
theorem dX5_about_107 : decode cX5_about 107 = .ok (.ireturn, 1) := by decide +kernel
theorem dX5_about_108 : decode cX5_about 108 = .ok (.aload_n 0, 1) := by decide +kernel
theorem dX5_about_109 : decode cX5_about 109 = .ok (.getfield 21, 3) := by decide +kernel
theorem dX5_about_112 : decode cX5_about 112 = .ok (.iconst 5, 1) := by decide +kernel
theorem dX5_about_113 : decode cX5_about 113 = .ok (.invokevirtual 109, 3) := by decide +kernel
theorem dX5_about_116 : decode cX5_about 116 = .ok (.ireturn, 1) := by decide +kernel
theorem dX5_about_117 : decode cX5_about 117 = .ok (.aload_n 0, 1) := by decide +kernel
theorem dX5_about_118 : decode cX5_about 118 = .ok (.getfield 21, 3) := by decide +kernel
theorem dX5_about_121 : decode cX5_about 121 = .ok (.getfield 115, 3) := by decide +kernel
theorem dX5_about_124 : decode cX5_about 124 = .ok (.ireturn, 1) := by decide +kernel
theorem dX5_about_125 : decode cX5_about 125 = .ok (.aload_n 0, 1) := by decide +kernel
theorem dX5_about_126 : decode cX5_about 126 = .ok (.getfield 21, 3) := by decide +kernel
theorem dX5_about_129 : decode cX5_about 129 = .ok (.getfield 118, 3) := by decide +kernel
theorem dX5_about_132 : decode cX5_about 132 = .ok (.ireturn, 1) := by decide +kernel
theorem dX5_about_133 : decode cX5_about 133 = .ok (.aload_n 0, 1) := by decide +kernel
theorem dX5_about_134 : decode cX5_about 134 = .ok (.getfield 21, 3) := by decide +kernel
theorem dX5_about_137 : decode cX5_about 137 = .ok (.getfield 121, 3) := by decide +kernel
theorem dX5_about_140 : decode cX5_about 140 = .ok (.ireturn, 1) := by decide +kernel
theorem dX5_about_141 : decode cX5_about 141 = .ok (.new 43, 3) := by decide +kernel
theorem dX5_about_144 : decode cX5_about 144 = .ok (.dup, 1) := by decide +kernel
theorem dX5_about_145 : decode cX5_about 145 = .ok (.ldc 124, 2) := by decide +kernel
theorem dX5_about_147 : decode cX5_about 147 = .ok (.invokespecial 47, 3) := by decide +kernel
theorem dX5_about_150 : decode cX5_about 150 = .ok (.athrow, 1) := by decide +kernel
theorem dX5_cell_0 : decode cX5_cell 0 = .ok (.iload_n 1, 1) := by decide +kernel
theorem dX5_cell_1 : decode cX5_cell 1 = .ok (.invokestatic 126, 3) := by decide +kernel
theorem dX5_cell_4 : decode cX5_cell 4 = .ok (.iload_n 2, 1) := by decide +kernel
theorem dX5_cell_5 : decode cX5_cell 5 = .ok (.tableswitch 60 0 2 #[27, 39, 51], 27) := by decide +kernel
theorem dX5_cell_32 : decode cX5_cell 32 = .ok (.aload_n 0, 1) := by decide +kernel
theorem dX5_cell_33 : decode cX5_cell 33 = .ok (.getfield 21, 3) := by decide +kernel
theorem dX5_cell_36 : decode cX5_cell 36 = .ok (.getfield 129, 3) := by decide +kernel
theorem dX5_cell_39 : decode cX5_cell 39 = .ok (.iload_n 1, 1) := by decide +kernel
theorem dX5_cell_40 : decode cX5_cell 40 = .ok (.invokevirtual 66, 3) := by decide +kernel
theorem dX5_cell_43 : decode cX5_cell 43 = .ok (.ireturn, 1) := by decide +kernel
theorem dX5_cell_44 : decode cX5_cell 44 = .ok (.aload_n 0, 1) := by decide +kernel
theorem dX5_cell_45 : decode cX5_cell 45 = .ok (.getfield 21, 3) := by decide +kernel
theorem dX5_cell_48 : decode cX5_cell 48 = .ok (.getfield 132, 3) := by decide +kernel
theorem dX5_cell_51 : decode cX5_cell 51 = .ok (.iload_n 1, 1) := by decide +kernel
theorem dX5_cell_52 : decode cX5_cell 52 = .ok (.invokevirtual 66, 3) := by decide +kernel
theorem dX5_cell_55 : decode cX5_cell 55 = .ok (.ireturn, 1) := by decide +kernel
theorem dX5_cell_56 : decode cX5_cell 56 = .ok (.aload_n 0, 1) := by decide +kernel
theorem dX5_cell_57 : decode cX5_cell 57 = .ok (.getfield 21, 3) := by decide +kernel
theorem dX5_cell_60 : decode cX5_cell 60 = .ok (.iload_n 1, 1) := by decide +kernel
theorem dX5_cell_61 : decode cX5_cell 61 = .ok (.invokevirtual 135, 3) := by decide +kernel
theorem dX5_cell_64 : decode cX5_cell 64 = .ok (.ireturn, 1) := by decide +kernel
theorem dX5_cell_65 : decode cX5_cell 65 = .ok (.new 43, 3) := by decide +kernel
theorem dX5_cell_68 : decode cX5_cell 68 = .ok (.dup, 1) := by decide +kernel
theorem dX5_cell_69 : decode cX5_cell 69 = .ok (.ldc 138, 2) := by decide +kernel
theorem dX5_cell_71 : decode cX5_cell 71 = .ok (.invokespecial 47, 3) := by decide +kernel
theorem dX5_cell_74 : decode cX5_cell 74 = .ok (.athrow, 1) := by decide +kernel
theorem dX5_worker_0 : decode cX5_worker 0 = .ok (.aload_n 0, 1) := by decide +kernel
theorem dX5_worker_1 : decode cX5_worker 1 = .ok (.iload_n 1, 1) := by decide +kernel
theorem dX5_worker_2 : decode cX5_worker 2 = .ok (.invokevirtual 140, 3) := by decide +kernel
theorem dX5_worker_5 : decode cX5_worker 5 = .ok (.astore_n 3, 1) := by decide +kernel
theorem dX5_worker_6 : decode cX5_worker 6 = .ok (.iload_n 2, 1) := by decide +kernel
theorem dX5_worker_7 : decode cX5_worker 7 = .ok (.ifCond .lt 8, 3) := by decide +kernel
theorem dX5_worker_10 : decode cX5_worker 10 = .ok (.iload_n 2, 1) := by decide +kernel
theorem dX5_worker_11 : decode cX5_worker 11 = .ok (.iconst 5, 1) := by decide +kernel
theorem dX5_worker_12 : decode cX5_worker 12 = .ok (.if_icmp .le 13, 3) := by decide +kernel
theorem dX5_worker_15 : decode cX5_worker 15 = .ok (.new 43, 3) := by decide +kernel
theorem dX5_worker_18 : decode cX5_worker 18 = .ok (.dup, 1) := by decide +kernel
theorem dX5_worker_19 : decode cX5_worker 19 = .ok (.ldc 144, 2) := by decide +kernel
theorem dX5_worker_21 : decode cX5_worker 21 = .ok (.invokespecial 47, 3) := by decide +kernel
theorem dX5_worker_24 : decode cX5_worker 24 = .ok (.athrow, 1) := by decide +kernel
theorem dX5_worker_25 : decode cX5_worker 25 = .ok (.aload_n 0, 1) := by decide +kernel
theorem dX5_worker_26 : decode cX5_worker 26 = .ok (.getfield 21, 3) := by decide +kernel
theorem dX5_worker_29 : decode cX5_worker 29 = .ok (.aload_n 3, 1) := by decide +kernel
theorem dX5_worker_30 : decode cX5_worker 30 = .ok (.iload_n 2, 1) := by decide +kernel
theorem dX5_worker_31 : decode cX5_worker 31 = .ok (.invokevirtual 146, 3) := by decide +kernel
theorem dX5_worker_34 : decode cX5_worker 34 = .ok (.ireturn, 1) := by decide +kernel
theorem dX5_work_0 : decode cX5_work 0 = .ok (.aload_n 0, 1) := by decide +kernel
theorem dX5_work_1 : decode cX5_work 1 = .ok (.iload_n 1, 1) := by decide +kernel
theorem dX5_work_2 : decode cX5_work 2 = .ok (.invokevirtual 140, 3) := by decide +kernel
theorem dX5_work_5 : decode cX5_work 5 = .ok (.astore 4, 2) := by decide +kernel
theorem dX5_work_7 : decode cX5_work 7 = .ok (.aload 4, 2) := by decide +kernel
theorem dX5_work_9 : decode cX5_work 9 = .ok (.iload_n 2, 1) := by decide +kernel
theorem dX5_work_10 : decode cX5_work 10 = .ok (.invokevirtual 150, 3) := by decide +kernel
theorem dX5_work_13 : decode cX5_work 13 = .ok (.astore 5, 2) := by decide +kernel
theorem dX5_work_15 : decode cX5_work 15 = .ok (.aload 5, 2) := by decide +kernel
theorem dX5_work_17 : decode cX5_work 17 = .ok (.ifnonnull 13, 3) := by decide +kernel
theorem dX5_work_20 : decode cX5_work 20 = .ok (.new 156, 3) := by decide +kernel
theorem dX5_work_23 : decode cX5_work 23 = .ok (.dup, 1) := by decide +kernel
theorem dX5_work_24 : decode cX5_work 24 = .ok (.ldc 158, 2) := by decide +kernel
theorem dX5_work_26 : decode cX5_work 26 = .ok (.invokespecial 160, 3) := by decide +kernel
theorem dX5_work_29 : decode cX5_work 29 = .ok (.athrow, 1) := by decide +kernel
theorem dX5_work_30 : decode cX5_work 30 = .ok (.iload_n 3, 1) := by decide +kernel
theorem dX5_work_31 : decode cX5_work 31 = .ok (.tableswitch 73 0 4 #[33, 39, 46, 53, 59], 33) := by decide +kernel
theorem dX5_work_64 : decode cX5_work 64 = .ok (.aload 5, 2) := by decide +kernel
theorem dX5_work_66 : decode cX5_work 66 = .ok (.getfield 161, 3) := by decide +kernel
theorem dX5_work_69 : decode cX5_work 69 = .ok (.ireturn, 1) := by decide +kernel
theorem dX5_work_70 : decode cX5_work 70 = .ok (.aload 4, 2) := by decide +kernel
theorem dX5_work_72 : decode cX5_work 72 = .ok (.iload_n 2, 1) := by decide +kernel
theorem dX5_work_73 : decode cX5_work 73 = .ok (.invokevirtual 166, 3) := by decide +kernel
theorem dX5_work_76 : decode cX5_work 76 = .ok (.ireturn, 1) := by decide +kernel
theorem dX5_work_77 : decode cX5_work 77 = .ok (.aload 4, 2) := by decide +kernel
theorem dX5_work_79 : decode cX5_work 79 = .ok (.iload_n 2, 1) := by decide +kernel
theorem dX5_work_80 : decode cX5_work 80 = .ok (.invokevirtual 169, 3) := by decide +kernel
theorem dX5_work_83 : decode cX5_work 83 = .ok (.ireturn, 1) := by decide +kernel
theorem dX5_work_84 : decode cX5_work 84 = .ok (.aload 5, 2) := by decide +kernel
theorem dX5_work_86 : decode cX5_work 86 = .ok (.getfield 172, 3) := by decide +kernel
theorem dX5_work_89 : decode cX5_work 89 = .ok (.ireturn, 1) := by decide +kernel
theorem dX5_work_90 : decode cX5_work 90 = .ok (.aload 5, 2) := by decide +kernel
theorem dX5_work_92 : decode cX5_work 92 = .ok (.getfield 173, 3) := by decide +kernel
theorem dX5_work_95 : decode cX5_work 95 = .ok (.ifCond .eq 7, 3) := by decide +kernel
theorem dX5_work_98 : decode cX5_work 98 = .ok (.iconst 1, 1) := by decide +kernel
theorem dX5_work_99 : decode cX5_work 99 = .ok (.goto 4, 3) := by decide +kernel
theorem dX5_work_102 : decode cX5_work 102 = .ok (.iconst 0, 1) := by decide +kernel
theorem dX5_work_103 : decode cX5_work 103 = .ok (.ireturn, 1) := by decide +kernel
theorem dX5_work_104 : decode cX5_work 104 = .ok (.new 43, 3) := by decide +kernel
theorem dX5_work_107 : decode cX5_work 107 = .ok (.dup, 1) := by decide +kernel
theorem dX5_work_108 : decode cX5_work 108 = .ok (.ldc 177, 2) := by decide +kernel
theorem dX5_work_110 : decode cX5_work 110 = .ok (.invokespecial 47, 3) := by decide +kernel
theorem dX5_work_113 : decode cX5_work 113 = .ok (.athrow, 1) := by decide +kernel
theorem dX5_entry_0 : decode cX5_entry 0 = .ok (.aload_n 0, 1) := by decide +kernel
theorem dX5_entry_1 : decode cX5_entry 1 = .ok (.iload_n 1, 1) := by decide +kernel
theorem dX5_entry_2 : decode cX5_entry 2 = .ok (.invokevirtual 140, 3) := by decide +kernel
theorem dX5_entry_5 : decode cX5_entry 5 = .ok (.astore_n 3, 1) := by decide +kernel
theorem dX5_entry_6 : decode cX5_entry 6 = .ok (.iload_n 2, 1) := by decide +kernel
theorem dX5_entry_7 : decode cX5_entry 7 = .ok (.ifCond .ge 13, 3) := by decide +kernel
theorem dX5_entry_10 : decode cX5_entry 10 = .ok (.new 43, 3) := by decide +kernel
theorem dX5_entry_13 : decode cX5_entry 13 = .ok (.dup, 1) := by decide +kernel
theorem dX5_entry_14 : decode cX5_entry 14 = .ok (.ldc 179, 2) := by decide +kernel
theorem dX5_entry_16 : decode cX5_entry 16 = .ok (.invokespecial 47, 3) := by decide +kernel
theorem dX5_entry_19 : decode cX5_entry 19 = .ok (.athrow, 1) := by decide +kernel
theorem dX5_entry_20 : decode cX5_entry 20 = .ok (.iload_n 2, 1) := by decide +kernel
theorem dX5_entry_21 : decode cX5_entry 21 = .ok (.aload_n 3, 1) := by decide +kernel
theorem dX5_entry_22 : decode cX5_entry 22 = .ok (.getfield 181, 3) := by decide +kernel
theorem dX5_entry_25 : decode cX5_entry 25 = .ok (.getfield 50, 3) := by decide +kernel
theorem dX5_entry_28 : decode cX5_entry 28 = .ok (.if_icmp .ge 24, 3) := by decide +kernel
theorem dX5_entry_31 : decode cX5_entry 31 = .ok (.aload_n 3, 1) := by decide +kernel
theorem dX5_entry_32 : decode cX5_entry 32 = .ok (.getfield 181, 3) := by decide +kernel
theorem dX5_entry_35 : decode cX5_entry 35 = .ok (.aload_n 3, 1) := by decide +kernel
theorem dX5_entry_36 : decode cX5_entry 36 = .ok (.getfield 181, 3) := by decide +kernel
theorem dX5_entry_39 : decode cX5_entry 39 = .ok (.getfield 50, 3) := by decide +kernel
theorem dX5_entry_42 : decode cX5_entry 42 = .ok (.iconst 1, 1) := by decide +kernel
theorem dX5_entry_43 : decode cX5_entry 43 = .ok (.isub, 1) := by decide +kernel
theorem dX5_entry_44 : decode cX5_entry 44 = .ok (.iload_n 2, 1) := by decide +kernel
theorem dX5_entry_45 : decode cX5_entry 45 = .ok (.isub, 1) := by decide +kernel
theorem dX5_entry_46 : decode cX5_entry 46 = .ok (.invokevirtual 66, 3) := by decide +kernel
theorem dX5_entry_49 : decode cX5_entry 49 = .ok (.goto 4, 3) := by decide +kernel
theorem dX5_entry_52 : decode cX5_entry 52 = .ok (.iconst (-1), 1) := by decide +kernel
theorem dX5_entry_53 : decode cX5_entry 53 = .ok (.ireturn, 1) := by decide +kernel
theorem dX5_begin_0 : decode cX5_begin 0 = .ok (.aload_n 0, 1) := by decide +kernel
theorem dX5_begin_1 : decode cX5_begin 1 = .ok (.iconst 0, 1) := by decide +kernel
theorem dX5_begin_2 : decode cX5_begin 2 = .ok (.aload_n 0, 1) := by decide +kernel
theorem dX5_begin_3 : decode cX5_begin 3 = .ok (.iload_n 1, 1) := by decide +kernel
theorem dX5_begin_4 : decode cX5_begin 4 = .ok (.invokevirtual 140, 3) := by decide +kernel
theorem dX5_begin_7 : decode cX5_begin 7 = .ok (.iconst 0, 1) := by decide +kernel
theorem dX5_begin_8 : decode cX5_begin 8 = .ok (.iconst 0, 1) := by decide +kernel
theorem dX5_begin_9 : decode cX5_begin 9 = .ok (.invokevirtual 184, 3) := by decide +kernel
theorem dX5_begin_12 : decode cX5_begin 12 = .ok (.ireturn, 1) := by decide +kernel
theorem dX5_write_0 : decode cX5_write 0 = .ok (.aload_n 0, 1) := by decide +kernel
theorem dX5_write_1 : decode cX5_write 1 = .ok (.iload_n 1, 1) := by decide +kernel
theorem dX5_write_2 : decode cX5_write 2 = .ok (.invokevirtual 140, 3) := by decide +kernel
theorem dX5_write_5 : decode cX5_write 5 = .ok (.astore 4, 2) := by decide +kernel
theorem dX5_write_7 : decode cX5_write 7 = .ok (.iload_n 2, 1) := by decide +kernel
theorem dX5_write_8 : decode cX5_write 8 = .ok (.invokestatic 126, 3) := by decide +kernel
theorem dX5_write_11 : decode cX5_write 11 = .ok (.iload_n 3, 1) := by decide +kernel
theorem dX5_write_12 : decode cX5_write 12 = .ok (.invokestatic 188, 3) := by decide +kernel
theorem dX5_write_15 : decode cX5_write 15 = .ok (.ifCond .ne 13, 3) := by decide +kernel
theorem dX5_write_18 : decode cX5_write 18 = .ok (.new 43, 3) := by decide +kernel
theorem dX5_write_21 : decode cX5_write 21 = .ok (.dup, 1) := by decide +kernel
theorem dX5_write_22 : decode cX5_write 22 = .ok (.ldc 191, 2) := by decide +kernel
theorem dX5_write_24 : decode cX5_write 24 = .ok (.invokespecial 47, 3) := by decide +kernel
theorem dX5_write_27 : decode cX5_write 27 = .ok (.athrow, 1) := by decide +kernel
theorem dX5_write_28 : decode cX5_write 28 = .ok (.aload_n 0, 1) := by decide +kernel
theorem dX5_write_29 : decode cX5_write 29 = .ok (.bipush 6, 2) := by decide +kernel
theorem dX5_write_31 : decode cX5_write 31 = .ok (.aload 4, 2) := by decide +kernel
theorem dX5_write_33 : decode cX5_write 33 = .ok (.iload_n 2, 1) := by decide +kernel
theorem dX5_write_34 : decode cX5_write 34 = .ok (.iload_n 3, 1) := by decide +kernel
theorem dX5_write_35 : decode cX5_write 35 = .ok (.invokevirtual 184, 3) := by decide +kernel
theorem dX5_write_38 : decode cX5_write 38 = .ok (.ireturn, 1) := by decide +kernel
theorem dX5_point_0 : decode cX5_point 0 = .ok (.aload_n 0, 1) := by decide +kernel
theorem dX5_point_1 : decode cX5_point 1 = .ok (.iconst 3, 1) := by decide +kernel
theorem dX5_point_2 : decode cX5_point 2 = .ok (.aload_n 0, 1) := by decide +kernel
theorem dX5_point_3 : decode cX5_point 3 = .ok (.iload_n 1, 1) := by decide +kernel
theorem dX5_point_4 : decode cX5_point 4 = .ok (.invokevirtual 140, 3) := by decide +kernel
theorem dX5_point_7 : decode cX5_point 7 = .ok (.iconst 0, 1) := by decide +kernel
theorem dX5_point_8 : decode cX5_point 8 = .ok (.iconst 0, 1) := by decide +kernel
theorem dX5_point_9 : decode cX5_point 9 = .ok (.invokevirtual 184, 3) := by decide +kernel
theorem dX5_point_12 : decode cX5_point 12 = .ok (.ireturn, 1) := by decide +kernel
theorem dX5_back_0 : decode cX5_back 0 = .ok (.aload_n 0, 1) := by decide +kernel
theorem dX5_back_1 : decode cX5_back 1 = .ok (.iload_n 1, 1) := by decide +kernel
theorem dX5_back_2 : decode cX5_back 2 = .ok (.invokevirtual 140, 3) := by decide +kernel
theorem dX5_back_5 : decode cX5_back 5 = .ok (.astore_n 3, 1) := by decide +kernel
theorem dX5_back_6 : decode cX5_back 6 = .ok (.aload_n 3, 1) := by decide +kernel
theorem dX5_back_7 : decode cX5_back 7 = .ok (.iload_n 2, 1) := by decide +kernel
theorem dX5_back_8 : decode cX5_back 8 = .ok (.invokestatic 193, 3) := by decide +kernel
theorem dX5_back_11 : decode cX5_back 11 = .ok (.aload_n 0, 1) := by decide +kernel
theorem dX5_back_12 : decode cX5_back 12 = .ok (.iconst 4, 1) := by decide +kernel
theorem dX5_back_13 : decode cX5_back 13 = .ok (.aload_n 3, 1) := by decide +kernel
theorem dX5_back_14 : decode cX5_back 14 = .ok (.iload_n 2, 1) := by decide +kernel
theorem dX5_back_15 : decode cX5_back 15 = .ok (.iconst 0, 1) := by decide +kernel
theorem dX5_back_16 : decode cX5_back 16 = .ok (.invokevirtual 184, 3) := by decide +kernel
theorem dX5_back_19 : decode cX5_back 19 = .ok (.ireturn, 1) := by decide +kernel
theorem dX5_regret_0 : decode cX5_regret 0 = .ok (.aload_n 0, 1) := by decide +kernel
theorem dX5_regret_1 : decode cX5_regret 1 = .ok (.iload_n 1, 1) := by decide +kernel
theorem dX5_regret_2 : decode cX5_regret 2 = .ok (.invokevirtual 140, 3) := by decide +kernel
theorem dX5_regret_5 : decode cX5_regret 5 = .ok (.astore 4, 2) := by decide +kernel
theorem dX5_regret_7 : decode cX5_regret 7 = .ok (.iload_n 2, 1) := by decide +kernel
theorem dX5_regret_8 : decode cX5_regret 8 = .ok (.invokestatic 126, 3) := by decide +kernel
theorem dX5_regret_11 : decode cX5_regret 11 = .ok (.iload_n 3, 1) := by decide +kernel
theorem dX5_regret_12 : decode cX5_regret 12 = .ok (.invokestatic 197, 3) := by decide +kernel
theorem dX5_regret_15 : decode cX5_regret 15 = .ok (.ifCond .ne 13, 3) := by decide +kernel
theorem dX5_regret_18 : decode cX5_regret 18 = .ok (.new 43, 3) := by decide +kernel
theorem dX5_regret_21 : decode cX5_regret 21 = .ok (.dup, 1) := by decide +kernel
theorem dX5_regret_22 : decode cX5_regret 22 = .ok (.ldc 200, 2) := by decide +kernel
theorem dX5_regret_24 : decode cX5_regret 24 = .ok (.invokespecial 47, 3) := by decide +kernel
theorem dX5_regret_27 : decode cX5_regret 27 = .ok (.athrow, 1) := by decide +kernel
theorem dX5_regret_28 : decode cX5_regret 28 = .ok (.aload_n 0, 1) := by decide +kernel
theorem dX5_regret_29 : decode cX5_regret 29 = .ok (.iconst 5, 1) := by decide +kernel
theorem dX5_regret_30 : decode cX5_regret 30 = .ok (.aload 4, 2) := by decide +kernel
theorem dX5_regret_32 : decode cX5_regret 32 = .ok (.iload_n 2, 1) := by decide +kernel
theorem dX5_regret_33 : decode cX5_regret 33 = .ok (.iload_n 3, 1) := by decide +kernel
theorem dX5_regret_34 : decode cX5_regret 34 = .ok (.invokevirtual 184, 3) := by decide +kernel
theorem dX5_regret_37 : decode cX5_regret 37 = .ok (.ireturn, 1) := by decide +kernel
theorem dX5_done_0 : decode cX5_done 0 = .ok (.aload_n 0, 1) := by decide +kernel
theorem dX5_done_1 : decode cX5_done 1 = .ok (.iconst 1, 1) := by decide +kernel
theorem dX5_done_2 : decode cX5_done 2 = .ok (.aload_n 0, 1) := by decide +kernel
theorem dX5_done_3 : decode cX5_done 3 = .ok (.iload_n 1, 1) := by decide +kernel
theorem dX5_done_4 : decode cX5_done 4 = .ok (.invokevirtual 140, 3) := by decide +kernel
theorem dX5_done_7 : decode cX5_done 7 = .ok (.iconst 0, 1) := by decide +kernel
theorem dX5_done_8 : decode cX5_done 8 = .ok (.iconst 0, 1) := by decide +kernel
theorem dX5_done_9 : decode cX5_done 9 = .ok (.invokevirtual 184, 3) := by decide +kernel
theorem dX5_done_12 : decode cX5_done 12 = .ok (.ireturn, 1) := by decide +kernel
theorem dX5_fail_0 : decode cX5_fail 0 = .ok (.aload_n 0, 1) := by decide +kernel
theorem dX5_fail_1 : decode cX5_fail 1 = .ok (.iconst 2, 1) := by decide +kernel
theorem dX5_fail_2 : decode cX5_fail 2 = .ok (.aload_n 0, 1) := by decide +kernel
theorem dX5_fail_3 : decode cX5_fail 3 = .ok (.iload_n 1, 1) := by decide +kernel
theorem dX5_fail_4 : decode cX5_fail 4 = .ok (.invokevirtual 140, 3) := by decide +kernel
theorem dX5_fail_7 : decode cX5_fail 7 = .ok (.iconst 0, 1) := by decide +kernel
theorem dX5_fail_8 : decode cX5_fail 8 = .ok (.iconst 0, 1) := by decide +kernel
theorem dX5_fail_9 : decode cX5_fail 9 = .ok (.invokevirtual 184, 3) := by decide +kernel
theorem dX5_fail_12 : decode cX5_fail 12 = .ok (.ireturn, 1) := by decide +kernel
theorem dX5_setMercy_0 : decode cX5_setMercy 0 = .ok (.iload_n 1, 1) := by decide +kernel
theorem dX5_setMercy_1 : decode cX5_setMercy 1 = .ok (.ifCond .lt 8, 3) := by decide +kernel
theorem dX5_setMercy_4 : decode cX5_setMercy 4 = .ok (.iload_n 1, 1) := by decide +kernel
theorem dX5_setMercy_5 : decode cX5_setMercy 5 = .ok (.iconst 3, 1) := by decide +kernel
theorem dX5_setMercy_6 : decode cX5_setMercy 6 = .ok (.if_icmp .le 13, 3) := by decide +kernel
theorem dX5_setMercy_9 : decode cX5_setMercy 9 = .ok (.new 43, 3) := by decide +kernel
theorem dX5_setMercy_12 : decode cX5_setMercy 12 = .ok (.dup, 1) := by decide +kernel
theorem dX5_setMercy_13 : decode cX5_setMercy 13 = .ok (.ldc 202, 2) := by decide +kernel
theorem dX5_setMercy_15 : decode cX5_setMercy 15 = .ok (.invokespecial 47, 3) := by decide +kernel
theorem dX5_setMercy_18 : decode cX5_setMercy 18 = .ok (.athrow, 1) := by decide +kernel
theorem dX5_setMercy_19 : decode cX5_setMercy 19 = .ok (.aload_n 0, 1) := by decide +kernel
theorem dX5_setMercy_20 : decode cX5_setMercy 20 = .ok (.getfield 31, 3) := by decide +kernel
theorem dX5_setMercy_23 : decode cX5_setMercy 23 = .ok (.aload_n 0, 1) := by decide +kernel
theorem dX5_setMercy_24 : decode cX5_setMercy 24 = .ok (.getfield 21, 3) := by decide +kernel
theorem dX5_setMercy_27 : decode cX5_setMercy 27 = .ok (.invokevirtual 204, 3) := by decide +kernel
theorem dX5_setMercy_30 : decode cX5_setMercy 30 = .ok (.aload_n 0, 1) := by decide +kernel
theorem dX5_setMercy_31 : decode cX5_setMercy 31 = .ok (.getfield 21, 3) := by decide +kernel
theorem dX5_setMercy_34 : decode cX5_setMercy 34 = .ok (.getfield 115, 3) := by decide +kernel
theorem dX5_setMercy_37 : decode cX5_setMercy 37 = .ok (.istore_n 2, 1) := by decide +kernel
theorem dX5_setMercy_38 : decode cX5_setMercy 38 = .ok (.aload_n 0, 1) := by decide +kernel
theorem dX5_setMercy_39 : decode cX5_setMercy 39 = .ok (.getfield 21, 3) := by decide +kernel
theorem dX5_setMercy_42 : decode cX5_setMercy 42 = .ok (.iload_n 1, 1) := by decide +kernel
theorem dX5_setMercy_43 : decode cX5_setMercy 43 = .ok (.putfield 115, 3) := by decide +kernel
theorem dX5_setMercy_46 : decode cX5_setMercy 46 = .ok (.iload_n 2, 1) := by decide +kernel
theorem dX5_setMercy_47 : decode cX5_setMercy 47 = .ok (.ireturn, 1) := by decide +kernel
theorem dX5_undo_0 : decode cX5_undo 0 = .ok (.aload_n 0, 1) := by decide +kernel
theorem dX5_undo_1 : decode cX5_undo 1 = .ok (.getfield 31, 3) := by decide +kernel
theorem dX5_undo_4 : decode cX5_undo 4 = .ok (.getfield 208, 3) := by decide +kernel
theorem dX5_undo_7 : decode cX5_undo 7 = .ok (.ifCond .ne 13, 3) := by decide +kernel
theorem dX5_undo_10 : decode cX5_undo 10 = .ok (.new 54, 3) := by decide +kernel
theorem dX5_undo_13 : decode cX5_undo 13 = .ok (.dup, 1) := by decide +kernel
theorem dX5_undo_14 : decode cX5_undo 14 = .ok (.ldc 211, 2) := by decide +kernel
theorem dX5_undo_16 : decode cX5_undo 16 = .ok (.invokespecial 58, 3) := by decide +kernel
theorem dX5_undo_19 : decode cX5_undo 19 = .ok (.athrow, 1) := by decide +kernel
theorem dX5_undo_20 : decode cX5_undo 20 = .ok (.aload_n 0, 1) := by decide +kernel
theorem dX5_undo_21 : decode cX5_undo 21 = .ok (.getfield 31, 3) := by decide +kernel
theorem dX5_undo_24 : decode cX5_undo 24 = .ok (.aload_n 0, 1) := by decide +kernel
theorem dX5_undo_25 : decode cX5_undo 25 = .ok (.getfield 21, 3) := by decide +kernel
theorem dX5_undo_28 : decode cX5_undo 28 = .ok (.invokevirtual 213, 3) := by decide +kernel
theorem dX5_undo_31 : decode cX5_undo 31 = .ok (.aload_n 0, 1) := by decide +kernel
theorem dX5_undo_32 : decode cX5_undo 32 = .ok (.getfield 31, 3) := by decide +kernel
theorem dX5_undo_35 : decode cX5_undo 35 = .ok (.getfield 208, 3) := by decide +kernel
theorem dX5_undo_38 : decode cX5_undo 38 = .ok (.ireturn, 1) := by decide +kernel
theorem dX5_whyNot_0 : decode cX5_whyNot 0 = .ok (.aload_n 0, 1) := by decide +kernel
theorem dX5_whyNot_1 : decode cX5_whyNot 1 = .ok (.iload_n 1, 1) := by decide +kernel
theorem dX5_whyNot_2 : decode cX5_whyNot 2 = .ok (.invokevirtual 140, 3) := by decide +kernel
theorem dX5_whyNot_5 : decode cX5_whyNot 5 = .ok (.astore_n 3, 1) := by decide +kernel
theorem dX5_whyNot_6 : decode cX5_whyNot 6 = .ok (.iload_n 2, 1) := by decide +kernel
theorem dX5_whyNot_7 : decode cX5_whyNot 7 = .ok (.invokestatic 126, 3) := by decide +kernel
theorem dX5_whyNot_10 : decode cX5_whyNot 10 = .ok (.aload_n 0, 1) := by decide +kernel
theorem dX5_whyNot_11 : decode cX5_whyNot 11 = .ok (.getfield 21, 3) := by decide +kernel
theorem dX5_whyNot_14 : decode cX5_whyNot 14 = .ok (.aload_n 3, 1) := by decide +kernel
theorem dX5_whyNot_15 : decode cX5_whyNot 15 = .ok (.iload_n 2, 1) := by decide +kernel
theorem dX5_whyNot_16 : decode cX5_whyNot 16 = .ok (.invokevirtual 216, 3) := by decide +kernel
theorem dX5_whyNot_19 : decode cX5_whyNot 19 = .ok (.ireturn, 1) := by decide +kernel
theorem dX5_failed_0 : decode cX5_failed 0 = .ok (.aload_n 0, 1) := by decide +kernel
theorem dX5_failed_1 : decode cX5_failed 1 = .ok (.iload_n 1, 1) := by decide +kernel
theorem dX5_failed_2 : decode cX5_failed 2 = .ok (.invokevirtual 140, 3) := by decide +kernel
theorem dX5_failed_5 : decode cX5_failed 5 = .ok (.pop, 1) := by decide +kernel
theorem dX5_failed_6 : decode cX5_failed 6 = .ok (.iload_n 2, 1) := by decide +kernel
theorem dX5_failed_7 : decode cX5_failed 7 = .ok (.invokestatic 126, 3) := by decide +kernel
theorem dX5_failed_10 : decode cX5_failed 10 = .ok (.iload_n 3, 1) := by decide +kernel
theorem dX5_failed_11 : decode cX5_failed 11 = .ok (.ifCond .lt 8, 3) := by decide +kernel
theorem dX5_failed_14 : decode cX5_failed 14 = .ok (.iload_n 3, 1) := by decide +kernel
theorem dX5_failed_15 : decode cX5_failed 15 = .ok (.iconst 5, 1) := by decide +kernel
theorem dX5_failed_16 : decode cX5_failed 16 = .ok (.if_icmp .le 13, 3) := by decide +kernel
theorem dX5_failed_19 : decode cX5_failed 19 = .ok (.new 43, 3) := by decide +kernel
theorem dX5_failed_22 : decode cX5_failed 22 = .ok (.dup, 1) := by decide +kernel
theorem dX5_failed_23 : decode cX5_failed 23 = .ok (.ldc 219, 2) := by decide +kernel
theorem dX5_failed_25 : decode cX5_failed 25 = .ok (.invokespecial 47, 3) := by decide +kernel
theorem dX5_failed_28 : decode cX5_failed 28 = .ok (.athrow, 1) := by decide +kernel
theorem dX5_failed_29 : decode cX5_failed 29 = .ok (.aload_n 0, 1) := by decide +kernel
theorem dX5_failed_30 : decode cX5_failed 30 = .ok (.getfield 25, 3) := by decide +kernel
theorem dX5_failed_33 : decode cX5_failed 33 = .ok (.aload_n 0, 1) := by decide +kernel
theorem dX5_failed_34 : decode cX5_failed 34 = .ok (.getfield 21, 3) := by decide +kernel
theorem dX5_failed_37 : decode cX5_failed 37 = .ok (.invokevirtual 221, 3) := by decide +kernel
theorem dX5_failed_40 : decode cX5_failed 40 = .ok (.iconst 0, 1) := by decide +kernel
theorem dX5_failed_41 : decode cX5_failed 41 = .ok (.istore 4, 2) := by decide +kernel
theorem dX5_failed_43 : decode cX5_failed 43 = .ok (.iload 4, 2) := by decide +kernel
theorem dX5_failed_45 : decode cX5_failed 45 = .ok (.iload_n 3, 1) := by decide +kernel
theorem dX5_failed_46 : decode cX5_failed 46 = .ok (.if_icmp .ge 21, 3) := by decide +kernel
theorem dX5_failed_49 : decode cX5_failed 49 = .ok (.aload_n 0, 1) := by decide +kernel
theorem dX5_failed_50 : decode cX5_failed 50 = .ok (.getfield 25, 3) := by decide +kernel
theorem dX5_failed_53 : decode cX5_failed 53 = .ok (.iconst 2, 1) := by decide +kernel
theorem dX5_failed_54 : decode cX5_failed 54 = .ok (.iload_n 1, 1) := by decide +kernel
theorem dX5_failed_55 : decode cX5_failed 55 = .ok (.iconst 0, 1) := by decide +kernel
theorem dX5_failed_56 : decode cX5_failed 56 = .ok (.iconst 0, 1) := by decide +kernel
theorem dX5_failed_57 : decode cX5_failed 57 = .ok (.invokevirtual 224, 3) := by decide +kernel
theorem dX5_failed_60 : decode cX5_failed 60 = .ok (.pop, 1) := by decide +kernel
theorem dX5_failed_61 : decode cX5_failed 61 = .ok (.iinc 4 1, 3) := by decide +kernel
theorem dX5_failed_64 : decode cX5_failed 64 = .ok (.goto (-21), 3) := by decide +kernel
theorem dX5_failed_67 : decode cX5_failed 67 = .ok (.aload_n 0, 1) := by decide +kernel
theorem dX5_failed_68 : decode cX5_failed 68 = .ok (.getfield 25, 3) := by decide +kernel
theorem dX5_failed_71 : decode cX5_failed 71 = .ok (.getfield 129, 3) := by decide +kernel
theorem dX5_failed_74 : decode cX5_failed 74 = .ok (.iload_n 2, 1) := by decide +kernel
theorem dX5_failed_75 : decode cX5_failed 75 = .ok (.invokevirtual 66, 3) := by decide +kernel
theorem dX5_failed_78 : decode cX5_failed 78 = .ok (.ireturn, 1) := by decide +kernel
theorem dX5_changes_0 : decode cX5_changes 0 = .ok (.aload_n 0, 1) := by decide +kernel
theorem dX5_changes_1 : decode cX5_changes 1 = .ok (.iload_n 1, 1) := by decide +kernel
theorem dX5_changes_2 : decode cX5_changes 2 = .ok (.invokevirtual 140, 3) := by decide +kernel
theorem dX5_changes_5 : decode cX5_changes 5 = .ok (.pop, 1) := by decide +kernel
theorem dX5_changes_6 : decode cX5_changes 6 = .ok (.aload_n 0, 1) := by decide +kernel
theorem dX5_changes_7 : decode cX5_changes 7 = .ok (.getfield 25, 3) := by decide +kernel
theorem dX5_changes_10 : decode cX5_changes 10 = .ok (.aload_n 0, 1) := by decide +kernel
theorem dX5_changes_11 : decode cX5_changes 11 = .ok (.getfield 21, 3) := by decide +kernel
theorem dX5_changes_14 : decode cX5_changes 14 = .ok (.invokevirtual 221, 3) := by decide +kernel
theorem dX5_changes_17 : decode cX5_changes 17 = .ok (.aload_n 0, 1) := by decide +kernel
theorem dX5_changes_18 : decode cX5_changes 18 = .ok (.getfield 25, 3) := by decide +kernel
theorem dX5_changes_21 : decode cX5_changes 21 = .ok (.iconst 2, 1) := by decide +kernel
theorem dX5_changes_22 : decode cX5_changes 22 = .ok (.iload_n 1, 1) := by decide +kernel
theorem dX5_changes_23 : decode cX5_changes 23 = .ok (.iconst 0, 1) := by decide +kernel
theorem dX5_changes_24 : decode cX5_changes 24 = .ok (.iconst 0, 1) := by decide +kernel
theorem dX5_changes_25 : decode cX5_changes 25 = .ok (.invokevirtual 224, 3) := by decide +kernel
theorem dX5_changes_28 : decode cX5_changes 28 = .ok (.ifCond .eq 17, 3) := by decide +kernel
theorem dX5_changes_31 : decode cX5_changes 31 = .ok (.aload_n 0, 1) := by decide +kernel
theorem dX5_changes_32 : decode cX5_changes 32 = .ok (.getfield 21, 3) := by decide +kernel
theorem dX5_changes_35 : decode cX5_changes 35 = .ok (.aload_n 0, 1) := by decide +kernel
theorem dX5_changes_36 : decode cX5_changes 36 = .ok (.getfield 25, 3) := by decide +kernel
theorem dX5_changes_39 : decode cX5_changes 39 = .ok (.invokevirtual 228, 3) := by decide +kernel
theorem dX5_changes_42 : decode cX5_changes 42 = .ok (.goto 4, 3) := by decide +kernel
theorem dX5_changes_45 : decode cX5_changes 45 = .ok (.iconst (-1), 1) := by decide +kernel
theorem dX5_changes_46 : decode cX5_changes 46 = .ok (.ireturn, 1) := by decide +kernel
theorem dX5_lost_0 : decode cX5_lost 0 = .ok (.aload_n 0, 1) := by decide +kernel
theorem dX5_lost_1 : decode cX5_lost 1 = .ok (.iload_n 1, 1) := by decide +kernel
theorem dX5_lost_2 : decode cX5_lost 2 = .ok (.invokevirtual 140, 3) := by decide +kernel
theorem dX5_lost_5 : decode cX5_lost 5 = .ok (.iload_n 2, 1) := by decide +kernel
theorem dX5_lost_6 : decode cX5_lost 6 = .ok (.invokestatic 193, 3) := by decide +kernel
theorem dX5_lost_9 : decode cX5_lost 9 = .ok (.aload_n 0, 1) := by decide +kernel
theorem dX5_lost_10 : decode cX5_lost 10 = .ok (.getfield 25, 3) := by decide +kernel
theorem dX5_lost_13 : decode cX5_lost 13 = .ok (.aload_n 0, 1) := by decide +kernel
theorem dX5_lost_14 : decode cX5_lost 14 = .ok (.getfield 21, 3) := by decide +kernel
theorem dX5_lost_17 : decode cX5_lost 17 = .ok (.invokevirtual 221, 3) := by decide +kernel
theorem dX5_lost_20 : decode cX5_lost 20 = .ok (.aload_n 0, 1) := by decide +kernel
theorem dX5_lost_21 : decode cX5_lost 21 = .ok (.getfield 25, 3) := by decide +kernel
theorem dX5_lost_24 : decode cX5_lost 24 = .ok (.iload_n 1, 1) := by decide +kernel
theorem dX5_lost_25 : decode cX5_lost 25 = .ok (.invokevirtual 232, 3) := by decide +kernel
theorem dX5_lost_28 : decode cX5_lost 28 = .ok (.astore_n 3, 1) := by decide +kernel
theorem dX5_lost_29 : decode cX5_lost 29 = .ok (.aload_n 3, 1) := by decide +kernel
theorem dX5_lost_30 : decode cX5_lost 30 = .ok (.ifnull 13, 3) := by decide +kernel
theorem dX5_lost_33 : decode cX5_lost 33 = .ok (.aload_n 0, 1) := by decide +kernel
theorem dX5_lost_34 : decode cX5_lost 34 = .ok (.getfield 25, 3) := by decide +kernel
theorem dX5_lost_37 : decode cX5_lost 37 = .ok (.aload_n 3, 1) := by decide +kernel
theorem dX5_lost_38 : decode cX5_lost 38 = .ok (.iload_n 2, 1) := by decide +kernel
theorem dX5_lost_39 : decode cX5_lost 39 = .ok (.invokevirtual 235, 3) := by decide +kernel
theorem dX5_lost_42 : decode cX5_lost 42 = .ok (.pop, 1) := by decide +kernel
theorem dX5_lost_43 : decode cX5_lost 43 = .ok (.aload_n 0, 1) := by decide +kernel
theorem dX5_lost_44 : decode cX5_lost 44 = .ok (.getfield 21, 3) := by decide +kernel
theorem dX5_lost_47 : decode cX5_lost 47 = .ok (.aload_n 0, 1) := by decide +kernel
theorem dX5_lost_48 : decode cX5_lost 48 = .ok (.getfield 25, 3) := by decide +kernel
theorem dX5_lost_51 : decode cX5_lost 51 = .ok (.invokevirtual 228, 3) := by decide +kernel
theorem dX5_lost_54 : decode cX5_lost 54 = .ok (.ireturn, 1) := by decide +kernel
theorem dX5_mercyLeft_0 : decode cX5_mercyLeft 0 = .ok (.aload_n 0, 1) := by decide +kernel
theorem dX5_mercyLeft_1 : decode cX5_mercyLeft 1 = .ok (.iload_n 1, 1) := by decide +kernel
theorem dX5_mercyLeft_2 : decode cX5_mercyLeft 2 = .ok (.invokevirtual 140, 3) := by decide +kernel
theorem dX5_mercyLeft_5 : decode cX5_mercyLeft 5 = .ok (.astore_n 2, 1) := by decide +kernel
theorem dX5_mercyLeft_6 : decode cX5_mercyLeft 6 = .ok (.aload_n 2, 1) := by decide +kernel
theorem dX5_mercyLeft_7 : decode cX5_mercyLeft 7 = .ok (.invokevirtual 238, 3) := by decide +kernel
theorem dX5_mercyLeft_10 : decode cX5_mercyLeft 10 = .ok (.astore_n 3, 1) := by decide +kernel
theorem dX5_mercyLeft_11 : decode cX5_mercyLeft 11 = .ok (.aload_n 3, 1) := by decide +kernel
theorem dX5_mercyLeft_12 : decode cX5_mercyLeft 12 = .ok (.ifnull 18, 3) := by decide +kernel
theorem dX5_mercyLeft_15 : decode cX5_mercyLeft 15 = .ok (.aload_n 3, 1) := by decide +kernel
theorem dX5_mercyLeft_16 : decode cX5_mercyLeft 16 = .ok (.getfield 173, 3) := by decide +kernel
theorem dX5_mercyLeft_19 : decode cX5_mercyLeft 19 = .ok (.ifCond .ne 11, 3) := by decide +kernel
theorem dX5_mercyLeft_22 : decode cX5_mercyLeft 22 = .ok (.aload_n 2, 1) := by decide +kernel
theorem dX5_mercyLeft_23 : decode cX5_mercyLeft 23 = .ok (.getfield 242, 3) := by decide +kernel
theorem dX5_mercyLeft_26 : decode cX5_mercyLeft 26 = .ok (.iconst 5, 1) := by decide +kernel
theorem dX5_mercyLeft_27 : decode cX5_mercyLeft 27 = .ok (.if_icmp .lt 5, 3) := by decide +kernel
theorem dX5_mercyLeft_30 : decode cX5_mercyLeft 30 = .ok (.iconst (-1), 1) := by decide +kernel
theorem dX5_mercyLeft_31 : decode cX5_mercyLeft 31 = .ok (.ireturn, 1) := by decide +kernel
theorem dX5_mercyLeft_32 : decode cX5_mercyLeft 32 = .ok (.iconst 0, 1) := by decide +kernel
theorem dX5_mercyLeft_33 : decode cX5_mercyLeft 33 = .ok (.aload_n 0, 1) := by decide +kernel
theorem dX5_mercyLeft_34 : decode cX5_mercyLeft 34 = .ok (.getfield 21, 3) := by decide +kernel
theorem dX5_mercyLeft_37 : decode cX5_mercyLeft 37 = .ok (.getfield 115, 3) := by decide +kernel
theorem dX5_mercyLeft_40 : decode cX5_mercyLeft 40 = .ok (.aload_n 3, 1) := by decide +kernel
theorem dX5_mercyLeft_41 : decode cX5_mercyLeft 41 = .ok (.getfield 172, 3) := by decide +kernel
theorem dX5_mercyLeft_44 : decode cX5_mercyLeft 44 = .ok (.isub, 1) := by decide +kernel
theorem dX5_mercyLeft_45 : decode cX5_mercyLeft 45 = .ok (.invokestatic 245, 3) := by decide +kernel
theorem dX5_mercyLeft_48 : decode cX5_mercyLeft 48 = .ok (.iconst 1, 1) := by decide +kernel
theorem dX5_mercyLeft_49 : decode cX5_mercyLeft 49 = .ok (.iadd, 1) := by decide +kernel
theorem dX5_mercyLeft_50 : decode cX5_mercyLeft 50 = .ok (.ireturn, 1) := by decide +kernel
theorem dX5_runScript_0 : decode cX5_runScript 0 = .ok (.iload_n 1, 1) := by decide +kernel
theorem dX5_runScript_1 : decode cX5_runScript 1 = .ok (.iconst 1, 1) := by decide +kernel
theorem dX5_runScript_2 : decode cX5_runScript 2 = .ok (.if_icmp .lt 8, 3) := by decide +kernel
theorem dX5_runScript_5 : decode cX5_runScript 5 = .ok (.iload_n 1, 1) := by decide +kernel
theorem dX5_runScript_6 : decode cX5_runScript 6 = .ok (.iconst 3, 1) := by decide +kernel
theorem dX5_runScript_7 : decode cX5_runScript 7 = .ok (.if_icmp .le 13, 3) := by decide +kernel
theorem dX5_runScript_10 : decode cX5_runScript 10 = .ok (.new 43, 3) := by decide +kernel
theorem dX5_runScript_13 : decode cX5_runScript 13 = .ok (.dup, 1) := by decide +kernel
theorem dX5_runScript_14 : decode cX5_runScript 14 = .ok (.ldc 251, 2) := by decide +kernel
theorem dX5_runScript_16 : decode cX5_runScript 16 = .ok (.invokespecial 47, 3) := by decide +kernel
theorem dX5_runScript_19 : decode cX5_runScript 19 = .ok (.athrow, 1) := by decide +kernel
theorem dX5_runScript_20 : decode cX5_runScript 20 = .ok (.lload_n 2, 1) := by decide +kernel
theorem dX5_runScript_21 : decode cX5_runScript 21 = .ok (.lconst 0, 1) := by decide +kernel
theorem dX5_runScript_22 : decode cX5_runScript 22 = .ok (.lcmp, 1) := by decide +kernel
theorem dX5_runScript_23 : decode cX5_runScript 23 = .ok (.ifCond .lt 13, 3) := by decide +kernel
theorem dX5_runScript_26 : decode cX5_runScript 26 = .ok (.lload_n 2, 1) := by decide +kernel
theorem dX5_runScript_27 : decode cX5_runScript 27 = .ok (.iload_n 1, 1) := by decide +kernel
theorem dX5_runScript_28 : decode cX5_runScript 28 = .ok (.invokestatic 253, 3) := by decide +kernel
theorem dX5_runScript_31 : decode cX5_runScript 31 = .ok (.lconst 0, 1) := by decide +kernel
theorem dX5_runScript_32 : decode cX5_runScript 32 = .ok (.lcmp, 1) := by decide +kernel
theorem dX5_runScript_33 : decode cX5_runScript 33 = .ok (.ifCond .eq 14, 3) := by decide +kernel
theorem dX5_runScript_36 : decode cX5_runScript 36 = .ok (.new 43, 3) := by decide +kernel
theorem dX5_runScript_39 : decode cX5_runScript 39 = .ok (.dup, 1) := by decide +kernel
theorem dX5_runScript_40 : decode cX5_runScript 40 = .ok (.ldc_w 257, 3) := by decide +kernel
theorem dX5_runScript_43 : decode cX5_runScript 43 = .ok (.invokespecial 47, 3) := by decide +kernel
theorem dX5_runScript_46 : decode cX5_runScript 46 = .ok (.athrow, 1) := by decide +kernel
theorem dX5_runScript_47 : decode cX5_runScript 47 = .ok (.aload_n 0, 1) := by decide +kernel
theorem dX5_runScript_48 : decode cX5_runScript 48 = .ok (.getfield 25, 3) := by decide +kernel
theorem dX5_runScript_51 : decode cX5_runScript 51 = .ok (.aload_n 0, 1) := by decide +kernel
theorem dX5_runScript_52 : decode cX5_runScript 52 = .ok (.getfield 21, 3) := by decide +kernel
theorem dX5_runScript_55 : decode cX5_runScript 55 = .ok (.invokevirtual 221, 3) := by decide +kernel
theorem dX5_runScript_58 : decode cX5_runScript 58 = .ok (.iconst 0, 1) := by decide +kernel
theorem dX5_runScript_59 : decode cX5_runScript 59 = .ok (.istore 4, 2) := by decide +kernel
theorem dX5_runScript_61 : decode cX5_runScript 61 = .ok (.iload 4, 2) := by decide +kernel
theorem dX5_runScript_63 : decode cX5_runScript 63 = .ok (.iload_n 1, 1) := by decide +kernel
theorem dX5_runScript_64 : decode cX5_runScript 64 = .ok (.if_icmp .ge 38, 3) := by decide +kernel
theorem dX5_runScript_67 : decode cX5_runScript 67 = .ok (.lload_n 2, 1) := by decide +kernel
theorem dX5_runScript_68 : decode cX5_runScript 68 = .ok (.iload_n 1, 1) := by decide +kernel
theorem dX5_runScript_69 : decode cX5_runScript 69 = .ok (.iconst 1, 1) := by decide +kernel
theorem dX5_runScript_70 : decode cX5_runScript 70 = .ok (.isub, 1) := by decide +kernel
theorem dX5_runScript_71 : decode cX5_runScript 71 = .ok (.iload 4, 2) := by decide +kernel
theorem dX5_runScript_73 : decode cX5_runScript 73 = .ok (.isub, 1) := by decide +kernel
theorem dX5_runScript_74 : decode cX5_runScript 74 = .ok (.invokestatic 253, 3) := by decide +kernel
theorem dX5_runScript_77 : decode cX5_runScript 77 = .ok (.ldc2_w 259, 3) := by decide +kernel
theorem dX5_runScript_80 : decode cX5_runScript 80 = .ok (.lrem, 1) := by decide +kernel
theorem dX5_runScript_81 : decode cX5_runScript 81 = .ok (.l2i, 1) := by decide +kernel
theorem dX5_runScript_82 : decode cX5_runScript 82 = .ok (.istore 5, 2) := by decide +kernel
theorem dX5_runScript_84 : decode cX5_runScript 84 = .ok (.aload_n 0, 1) := by decide +kernel
theorem dX5_runScript_85 : decode cX5_runScript 85 = .ok (.iload 5, 2) := by decide +kernel
theorem dX5_runScript_87 : decode cX5_runScript 87 = .ok (.invokevirtual 261, 3) := by decide +kernel
theorem dX5_runScript_90 : decode cX5_runScript 90 = .ok (.ifCond .ne 6, 3) := by decide +kernel
theorem dX5_runScript_93 : decode cX5_runScript 93 = .ok (.iload 4, 2) := by decide +kernel
theorem dX5_runScript_95 : decode cX5_runScript 95 = .ok (.ireturn, 1) := by decide +kernel
theorem dX5_runScript_96 : decode cX5_runScript 96 = .ok (.iinc 4 1, 3) := by decide +kernel
theorem dX5_runScript_99 : decode cX5_runScript 99 = .ok (.goto (-38), 3) := by decide +kernel
theorem dX5_runScript_102 : decode cX5_runScript 102 = .ok (.iconst (-1), 1) := by decide +kernel
theorem dX5_runScript_103 : decode cX5_runScript 103 = .ok (.ireturn, 1) := by decide +kernel
theorem dX5_simulate_0 : decode cX5_simulate 0 = .ok (.iload_n 3, 1) := by decide +kernel
theorem dX5_simulate_1 : decode cX5_simulate 1 = .ok (.iconst 1, 1) := by decide +kernel
theorem dX5_simulate_2 : decode cX5_simulate 2 = .ok (.if_icmp .lt 9, 3) := by decide +kernel
theorem dX5_simulate_5 : decode cX5_simulate 5 = .ok (.iload_n 3, 1) := by decide +kernel
theorem dX5_simulate_6 : decode cX5_simulate 6 = .ok (.bipush 99, 2) := by decide +kernel
theorem dX5_simulate_8 : decode cX5_simulate 8 = .ok (.if_icmp .le 14, 3) := by decide +kernel
theorem dX5_simulate_11 : decode cX5_simulate 11 = .ok (.new 43, 3) := by decide +kernel
theorem dX5_simulate_14 : decode cX5_simulate 14 = .ok (.dup, 1) := by decide +kernel
theorem dX5_simulate_15 : decode cX5_simulate 15 = .ok (.ldc_w 264, 3) := by decide +kernel
theorem dX5_simulate_18 : decode cX5_simulate 18 = .ok (.invokespecial 47, 3) := by decide +kernel
theorem dX5_simulate_21 : decode cX5_simulate 21 = .ok (.athrow, 1) := by decide +kernel
theorem dX5_simulate_22 : decode cX5_simulate 22 = .ok (.aload_n 0, 1) := by decide +kernel
theorem dX5_simulate_23 : decode cX5_simulate 23 = .ok (.getfield 25, 3) := by decide +kernel
theorem dX5_simulate_26 : decode cX5_simulate 26 = .ok (.aload_n 0, 1) := by decide +kernel
theorem dX5_simulate_27 : decode cX5_simulate 27 = .ok (.getfield 21, 3) := by decide +kernel
theorem dX5_simulate_30 : decode cX5_simulate 30 = .ok (.invokevirtual 221, 3) := by decide +kernel
theorem dX5_simulate_33 : decode cX5_simulate 33 = .ok (.lload_n 1, 1) := by decide +kernel
theorem dX5_simulate_34 : decode cX5_simulate 34 = .ok (.lstore 4, 2) := by decide +kernel
theorem dX5_simulate_36 : decode cX5_simulate 36 = .ok (.iconst 0, 1) := by decide +kernel
theorem dX5_simulate_37 : decode cX5_simulate 37 = .ok (.istore 6, 2) := by decide +kernel
theorem dX5_simulate_39 : decode cX5_simulate 39 = .ok (.iload 6, 2) := by decide +kernel
theorem dX5_simulate_41 : decode cX5_simulate 41 = .ok (.iload_n 3, 1) := by decide +kernel
theorem dX5_simulate_42 : decode cX5_simulate 42 = .ok (.if_icmp .ge 31, 3) := by decide +kernel
theorem dX5_simulate_45 : decode cX5_simulate 45 = .ok (.lload 4, 2) := by decide +kernel
theorem dX5_simulate_47 : decode cX5_simulate 47 = .ok (.ldc2_w 266, 3) := by decide +kernel
theorem dX5_simulate_50 : decode cX5_simulate 50 = .ok (.lmul, 1) := by decide +kernel
theorem dX5_simulate_51 : decode cX5_simulate 51 = .ok (.ldc2_w 268, 3) := by decide +kernel
theorem dX5_simulate_54 : decode cX5_simulate 54 = .ok (.ladd, 1) := by decide +kernel
theorem dX5_simulate_55 : decode cX5_simulate 55 = .ok (.lstore 4, 2) := by decide +kernel
theorem dX5_simulate_57 : decode cX5_simulate 57 = .ok (.aload_n 0, 1) := by decide +kernel
theorem dX5_simulate_58 : decode cX5_simulate 58 = .ok (.lload 4, 2) := by decide +kernel
theorem dX5_simulate_60 : decode cX5_simulate 60 = .ok (.bipush 33, 2) := by decide +kernel
theorem dX5_simulate_62 : decode cX5_simulate 62 = .ok (.lushr, 1) := by decide +kernel
theorem dX5_simulate_63 : decode cX5_simulate 63 = .ok (.l2i, 1) := by decide +kernel
theorem dX5_simulate_64 : decode cX5_simulate 64 = .ok (.invokevirtual 270, 3) := by decide +kernel
theorem dX5_simulate_67 : decode cX5_simulate 67 = .ok (.iinc 6 1, 3) := by decide +kernel
theorem dX5_simulate_70 : decode cX5_simulate 70 = .ok (.goto (-31), 3) := by decide +kernel
theorem dX5_simulate_73 : decode cX5_simulate 73 = .ok (.sipush 1000, 3) := by decide +kernel
theorem dX5_simulate_76 : decode cX5_simulate 76 = .ok (.aload_n 0, 1) := by decide +kernel
theorem dX5_simulate_77 : decode cX5_simulate 77 = .ok (.getfield 25, 3) := by decide +kernel
theorem dX5_simulate_80 : decode cX5_simulate 80 = .ok (.getfield 112, 3) := by decide +kernel
theorem dX5_simulate_83 : decode cX5_simulate 83 = .ok (.aload_n 0, 1) := by decide +kernel
theorem dX5_simulate_84 : decode cX5_simulate 84 = .ok (.getfield 21, 3) := by decide +kernel
theorem dX5_simulate_87 : decode cX5_simulate 87 = .ok (.getfield 112, 3) := by decide +kernel
theorem dX5_simulate_90 : decode cX5_simulate 90 = .ok (.isub, 1) := by decide +kernel
theorem dX5_simulate_91 : decode cX5_simulate 91 = .ok (.imul, 1) := by decide +kernel
theorem dX5_simulate_92 : decode cX5_simulate 92 = .ok (.aload_n 0, 1) := by decide +kernel
theorem dX5_simulate_93 : decode cX5_simulate 93 = .ok (.getfield 25, 3) := by decide +kernel
theorem dX5_simulate_96 : decode cX5_simulate 96 = .ok (.getfield 118, 3) := by decide +kernel
theorem dX5_simulate_99 : decode cX5_simulate 99 = .ok (.aload_n 0, 1) := by decide +kernel
theorem dX5_simulate_100 : decode cX5_simulate 100 = .ok (.getfield 21, 3) := by decide +kernel
theorem dX5_simulate_103 : decode cX5_simulate 103 = .ok (.getfield 118, 3) := by decide +kernel
theorem dX5_simulate_106 : decode cX5_simulate 106 = .ok (.isub, 1) := by decide +kernel
theorem dX5_simulate_107 : decode cX5_simulate 107 = .ok (.iadd, 1) := by decide +kernel
theorem dX5_simulate_108 : decode cX5_simulate 108 = .ok (.ireturn, 1) := by decide +kernel
theorem dX5_save_0 : decode cX5_save 0 = .ok (.iload_n 1, 1) := by decide +kernel
theorem dX5_save_1 : decode cX5_save 1 = .ok (.invokestatic 273, 3) := by decide +kernel
theorem dX5_save_4 : decode cX5_save 4 = .ok (.aload_n 0, 1) := by decide +kernel
theorem dX5_save_5 : decode cX5_save 5 = .ok (.getfield 35, 3) := by decide +kernel
theorem dX5_save_8 : decode cX5_save 8 = .ok (.iload_n 1, 1) := by decide +kernel
theorem dX5_save_9 : decode cX5_save 9 = .ok (.aaload, 1) := by decide +kernel
theorem dX5_save_10 : decode cX5_save 10 = .ok (.astore_n 2, 1) := by decide +kernel
theorem dX5_save_11 : decode cX5_save 11 = .ok (.aload_n 2, 1) := by decide +kernel
theorem dX5_save_12 : decode cX5_save 12 = .ok (.ifnonnull 18, 3) := by decide +kernel
theorem dX5_save_15 : decode cX5_save 15 = .ok (.new 18, 3) := by decide +kernel
theorem dX5_save_18 : decode cX5_save 18 = .ok (.dup, 1) := by decide +kernel
theorem dX5_save_19 : decode cX5_save 19 = .ok (.invokespecial 20, 3) := by decide +kernel
theorem dX5_save_22 : decode cX5_save 22 = .ok (.astore_n 2, 1) := by decide +kernel
theorem dX5_save_23 : decode cX5_save 23 = .ok (.aload_n 0, 1) := by decide +kernel
theorem dX5_save_24 : decode cX5_save 24 = .ok (.getfield 35, 3) := by decide +kernel
theorem dX5_save_27 : decode cX5_save 27 = .ok (.iload_n 1, 1) := by decide +kernel
theorem dX5_save_28 : decode cX5_save 28 = .ok (.aload_n 2, 1) := by decide +kernel
theorem dX5_save_29 : decode cX5_save 29 = .ok (.aastore, 1) := by decide +kernel
theorem dX5_save_30 : decode cX5_save 30 = .ok (.aload_n 2, 1) := by decide +kernel
theorem dX5_save_31 : decode cX5_save 31 = .ok (.aload_n 0, 1) := by decide +kernel
theorem dX5_save_32 : decode cX5_save 32 = .ok (.getfield 21, 3) := by decide +kernel
theorem dX5_save_35 : decode cX5_save 35 = .ok (.invokevirtual 221, 3) := by decide +kernel
theorem dX5_save_38 : decode cX5_save 38 = .ok (.aload_n 0, 1) := by decide +kernel
theorem dX5_save_39 : decode cX5_save 39 = .ok (.getfield 39, 3) := by decide +kernel
theorem dX5_save_42 : decode cX5_save 42 = .ok (.iload_n 1, 1) := by decide +kernel
theorem dX5_save_43 : decode cX5_save 43 = .ok (.iconst 1, 1) := by decide +kernel
theorem dX5_save_44 : decode cX5_save 44 = .ok (.bastore, 1) := by decide +kernel
theorem dX5_save_45 : decode cX5_save 45 = .ok (.aload_n 0, 1) := by decide +kernel
theorem dX5_save_46 : decode cX5_save 46 = .ok (.getfield 21, 3) := by decide +kernel
theorem dX5_save_49 : decode cX5_save 49 = .ok (.invokevirtual 106, 3) := by decide +kernel
theorem dX5_save_52 : decode cX5_save 52 = .ok (.ireturn, 1) := by decide +kernel
theorem dX5_restore_0 : decode cX5_restore 0 = .ok (.iload_n 1, 1) := by decide +kernel
theorem dX5_restore_1 : decode cX5_restore 1 = .ok (.invokestatic 273, 3) := by decide +kernel
theorem dX5_restore_4 : decode cX5_restore 4 = .ok (.aload_n 0, 1) := by decide +kernel
theorem dX5_restore_5 : decode cX5_restore 5 = .ok (.getfield 35, 3) := by decide +kernel
theorem dX5_restore_8 : decode cX5_restore 8 = .ok (.iload_n 1, 1) := by decide +kernel
theorem dX5_restore_9 : decode cX5_restore 9 = .ok (.aaload, 1) := by decide +kernel
theorem dX5_restore_10 : decode cX5_restore 10 = .ok (.astore_n 2, 1) := by decide +kernel
theorem dX5_restore_11 : decode cX5_restore 11 = .ok (.aload_n 2, 1) := by decide +kernel
theorem dX5_restore_12 : decode cX5_restore 12 = .ok (.ifnull 12, 3) := by decide +kernel
theorem dX5_restore_15 : decode cX5_restore 15 = .ok (.aload_n 0, 1) := by decide +kernel
theorem dX5_restore_16 : decode cX5_restore 16 = .ok (.getfield 39, 3) := by decide +kernel
theorem dX5_restore_19 : decode cX5_restore 19 = .ok (.iload_n 1, 1) := by decide +kernel
theorem dX5_restore_20 : decode cX5_restore 20 = .ok (.baload, 1) := by decide +kernel
theorem dX5_restore_21 : decode cX5_restore 21 = .ok (.ifCond .ne 14, 3) := by decide +kernel
theorem dX5_restore_24 : decode cX5_restore 24 = .ok (.new 54, 3) := by decide +kernel
theorem dX5_restore_27 : decode cX5_restore 27 = .ok (.dup, 1) := by decide +kernel
theorem dX5_restore_28 : decode cX5_restore 28 = .ok (.ldc_w 276, 3) := by decide +kernel
theorem dX5_restore_31 : decode cX5_restore 31 = .ok (.invokespecial 58, 3) := by decide +kernel
theorem dX5_restore_34 : decode cX5_restore 34 = .ok (.athrow, 1) := by decide +kernel
theorem dX5_restore_35 : decode cX5_restore 35 = .ok (.aload_n 0, 1) := by decide +kernel
theorem dX5_restore_36 : decode cX5_restore 36 = .ok (.getfield 21, 3) := by decide +kernel
theorem dX5_restore_39 : decode cX5_restore 39 = .ok (.aload_n 2, 1) := by decide +kernel
theorem dX5_restore_40 : decode cX5_restore 40 = .ok (.invokevirtual 221, 3) := by decide +kernel
theorem dX5_restore_43 : decode cX5_restore 43 = .ok (.aload_n 0, 1) := by decide +kernel
theorem dX5_restore_44 : decode cX5_restore 44 = .ok (.getfield 31, 3) := by decide +kernel
theorem dX5_restore_47 : decode cX5_restore 47 = .ok (.invokevirtual 96, 3) := by decide +kernel
theorem dX5_restore_50 : decode cX5_restore 50 = .ok (.aload_n 0, 1) := by decide +kernel
theorem dX5_restore_51 : decode cX5_restore 51 = .ok (.getfield 21, 3) := by decide +kernel
theorem dX5_restore_54 : decode cX5_restore 54 = .ok (.invokevirtual 106, 3) := by decide +kernel
theorem dX5_restore_57 : decode cX5_restore 57 = .ok (.ireturn, 1) := by decide +kernel
theorem dX5_isCell_0 : decode cX5_isCell 0 = .ok (.iload_n 0, 1) := by decide +kernel
theorem dX5_isCell_1 : decode cX5_isCell 1 = .ok (.ifCond .lt 13, 3) := by decide +kernel
theorem dX5_isCell_4 : decode cX5_isCell 4 = .ok (.iload_n 0, 1) := by decide +kernel
theorem dX5_isCell_5 : decode cX5_isCell 5 = .ok (.bipush 16, 2) := by decide +kernel
theorem dX5_isCell_7 : decode cX5_isCell 7 = .ok (.if_icmp .ge 7, 3) := by decide +kernel
theorem dX5_isCell_10 : decode cX5_isCell 10 = .ok (.iconst 1, 1) := by decide +kernel
theorem dX5_isCell_11 : decode cX5_isCell 11 = .ok (.goto 4, 3) := by decide +kernel
theorem dX5_isCell_14 : decode cX5_isCell 14 = .ok (.iconst 0, 1) := by decide +kernel
theorem dX5_isCell_15 : decode cX5_isCell 15 = .ok (.ireturn, 1) := by decide +kernel
theorem dX5_isValue_0 : decode cX5_isValue 0 = .ok (.iload_n 0, 1) := by decide +kernel
theorem dX5_isValue_1 : decode cX5_isValue 1 = .ok (.ifCond .lt 13, 3) := by decide +kernel
theorem dX5_isValue_4 : decode cX5_isValue 4 = .ok (.iload_n 0, 1) := by decide +kernel
theorem dX5_isValue_5 : decode cX5_isValue 5 = .ok (.bipush 100, 2) := by decide +kernel
theorem dX5_isValue_7 : decode cX5_isValue 7 = .ok (.if_icmp .ge 7, 3) := by decide +kernel
theorem dX5_isValue_10 : decode cX5_isValue 10 = .ok (.iconst 1, 1) := by decide +kernel
theorem dX5_isValue_11 : decode cX5_isValue 11 = .ok (.goto 4, 3) := by decide +kernel
theorem dX5_isValue_14 : decode cX5_isValue 14 = .ok (.iconst 0, 1) := by decide +kernel
theorem dX5_isValue_15 : decode cX5_isValue 15 = .ok (.ireturn, 1) := by decide +kernel
theorem dX5_isRegretNumber_0 : decode cX5_isRegretNumber 0 = .ok (.iload_n 0, 1) := by decide +kernel
theorem dX5_isRegretNumber_1 : decode cX5_isRegretNumber 1 = .ok (.iconst 1, 1) := by decide +kernel
theorem dX5_isRegretNumber_2 : decode cX5_isRegretNumber 2 = .ok (.if_icmp .lt 13, 3) := by decide +kernel
theorem dX5_isRegretNumber_5 : decode cX5_isRegretNumber 5 = .ok (.iload_n 0, 1) := by decide +kernel
theorem dX5_isRegretNumber_6 : decode cX5_isRegretNumber 6 = .ok (.bipush 100, 2) := by decide +kernel
theorem dX5_isRegretNumber_8 : decode cX5_isRegretNumber 8 = .ok (.if_icmp .ge 7, 3) := by decide +kernel
theorem dX5_isRegretNumber_11 : decode cX5_isRegretNumber 11 = .ok (.iconst 1, 1) := by decide +kernel
theorem dX5_isRegretNumber_12 : decode cX5_isRegretNumber 12 = .ok (.goto 4, 3) := by decide +kernel
theorem dX5_isRegretNumber_15 : decode cX5_isRegretNumber 15 = .ok (.iconst 0, 1) := by decide +kernel
theorem dX5_isRegretNumber_16 : decode cX5_isRegretNumber 16 = .ok (.ireturn, 1) := by decide +kernel
theorem dX5_existingWorker_0 : decode cX5_existingWorker 0 = .ok (.aload_n 0, 1) := by decide +kernel
theorem dX5_existingWorker_1 : decode cX5_existingWorker 1 = .ok (.getfield 21, 3) := by decide +kernel
theorem dX5_existingWorker_4 : decode cX5_existingWorker 4 = .ok (.iload_n 1, 1) := by decide +kernel
theorem dX5_existingWorker_5 : decode cX5_existingWorker 5 = .ok (.invokevirtual 232, 3) := by decide +kernel
theorem dX5_existingWorker_8 : decode cX5_existingWorker 8 = .ok (.astore_n 2, 1) := by decide +kernel
theorem dX5_existingWorker_9 : decode cX5_existingWorker 9 = .ok (.aload_n 2, 1) := by decide +kernel
theorem dX5_existingWorker_10 : decode cX5_existingWorker 10 = .ok (.ifnonnull 14, 3) := by decide +kernel
theorem dX5_existingWorker_13 : decode cX5_existingWorker 13 = .ok (.new 156, 3) := by decide +kernel
theorem dX5_existingWorker_16 : decode cX5_existingWorker 16 = .ok (.dup, 1) := by decide +kernel
theorem dX5_existingWorker_17 : decode cX5_existingWorker 17 = .ok (.ldc_w 278, 3) := by decide +kernel
theorem dX5_existingWorker_20 : decode cX5_existingWorker 20 = .ok (.invokespecial 160, 3) := by decide +kernel
theorem dX5_existingWorker_23 : decode cX5_existingWorker 23 = .ok (.athrow, 1) := by decide +kernel
theorem dX5_existingWorker_24 : decode cX5_existingWorker 24 = .ok (.aload_n 2, 1) := by decide +kernel
theorem dX5_existingWorker_25 : decode cX5_existingWorker 25 = .ok (.areturn, 1) := by decide +kernel
theorem dX5_requireCell_0 : decode cX5_requireCell 0 = .ok (.iload_n 0, 1) := by decide +kernel
theorem dX5_requireCell_1 : decode cX5_requireCell 1 = .ok (.invokestatic 280, 3) := by decide +kernel
theorem dX5_requireCell_4 : decode cX5_requireCell 4 = .ok (.ifCond .ne 14, 3) := by decide +kernel
theorem dX5_requireCell_7 : decode cX5_requireCell 7 = .ok (.new 156, 3) := by decide +kernel
theorem dX5_requireCell_10 : decode cX5_requireCell 10 = .ok (.dup, 1) := by decide +kernel
theorem dX5_requireCell_11 : decode cX5_requireCell 11 = .ok (.ldc_w 283, 3) := by decide +kernel
theorem dX5_requireCell_14 : decode cX5_requireCell 14 = .ok (.invokespecial 160, 3) := by decide +kernel
theorem dX5_requireCell_17 : decode cX5_requireCell 17 = .ok (.athrow, 1) := by decide +kernel
theorem dX5_requireCell_18 : decode cX5_requireCell 18 = .ok (.return_, 1) := by decide +kernel
theorem dX5_requirePoint_0 : decode cX5_requirePoint 0 = .ok (.aload_n 0, 1) := by decide +kernel
theorem dX5_requirePoint_1 : decode cX5_requirePoint 1 = .ok (.iload_n 1, 1) := by decide +kernel
theorem dX5_requirePoint_2 : decode cX5_requirePoint 2 = .ok (.invokevirtual 285, 3) := by decide +kernel
theorem dX5_requirePoint_5 : decode cX5_requirePoint 5 = .ok (.ifCond .ne 14, 3) := by decide +kernel
theorem dX5_requirePoint_8 : decode cX5_requirePoint 8 = .ok (.new 156, 3) := by decide +kernel
theorem dX5_requirePoint_11 : decode cX5_requirePoint 11 = .ok (.dup, 1) := by decide +kernel
theorem dX5_requirePoint_12 : decode cX5_requirePoint 12 = .ok (.ldc_w 288, 3) := by decide +kernel
theorem dX5_requirePoint_15 : decode cX5_requirePoint 15 = .ok (.invokespecial 160, 3) := by decide +kernel
theorem dX5_requirePoint_18 : decode cX5_requirePoint 18 = .ok (.athrow, 1) := by decide +kernel
theorem dX5_requirePoint_19 : decode cX5_requirePoint 19 = .ok (.return_, 1) := by decide +kernel
theorem dX5_requireSlot_0 : decode cX5_requireSlot 0 = .ok (.iload_n 0, 1) := by decide +kernel
theorem dX5_requireSlot_1 : decode cX5_requireSlot 1 = .ok (.ifCond .lt 8, 3) := by decide +kernel
theorem dX5_requireSlot_4 : decode cX5_requireSlot 4 = .ok (.iload_n 0, 1) := by decide +kernel
theorem dX5_requireSlot_5 : decode cX5_requireSlot 5 = .ok (.iconst 2, 1) := by decide +kernel
theorem dX5_requireSlot_6 : decode cX5_requireSlot 6 = .ok (.if_icmp .lt 14, 3) := by decide +kernel
theorem dX5_requireSlot_9 : decode cX5_requireSlot 9 = .ok (.new 156, 3) := by decide +kernel
theorem dX5_requireSlot_12 : decode cX5_requireSlot 12 = .ok (.dup, 1) := by decide +kernel
theorem dX5_requireSlot_13 : decode cX5_requireSlot 13 = .ok (.ldc_w 290, 3) := by decide +kernel
theorem dX5_requireSlot_16 : decode cX5_requireSlot 16 = .ok (.invokespecial 160, 3) := by decide +kernel
theorem dX5_requireSlot_19 : decode cX5_requireSlot 19 = .ok (.athrow, 1) := by decide +kernel
theorem dX5_requireSlot_20 : decode cX5_requireSlot 20 = .ok (.return_, 1) := by decide +kernel
theorem dX5_act_0 : decode cX5_act 0 = .ok (.aload_n 0, 1) := by decide +kernel
theorem dX5_act_1 : decode cX5_act 1 = .ok (.getfield 21, 3) := by decide +kernel
theorem dX5_act_4 : decode cX5_act 4 = .ok (.iload_n 1, 1) := by decide +kernel
theorem dX5_act_5 : decode cX5_act 5 = .ok (.aload_n 2, 1) := by decide +kernel
theorem dX5_act_6 : decode cX5_act 6 = .ok (.iload_n 3, 1) := by decide +kernel
theorem dX5_act_7 : decode cX5_act 7 = .ok (.iload 4, 2) := by decide +kernel
theorem dX5_act_9 : decode cX5_act 9 = .ok (.invokevirtual 292, 3) := by decide +kernel
theorem dX5_act_12 : decode cX5_act 12 = .ok (.ifCond .ne 14, 3) := by decide +kernel
theorem dX5_act_15 : decode cX5_act 15 = .ok (.new 54, 3) := by decide +kernel
theorem dX5_act_18 : decode cX5_act 18 = .ok (.dup, 1) := by decide +kernel
theorem dX5_act_19 : decode cX5_act 19 = .ok (.ldc_w 296, 3) := by decide +kernel
theorem dX5_act_22 : decode cX5_act 22 = .ok (.invokespecial 58, 3) := by decide +kernel
theorem dX5_act_25 : decode cX5_act 25 = .ok (.athrow, 1) := by decide +kernel
theorem dX5_act_26 : decode cX5_act 26 = .ok (.aload_n 0, 1) := by decide +kernel
theorem dX5_act_27 : decode cX5_act 27 = .ok (.getfield 31, 3) := by decide +kernel
theorem dX5_act_30 : decode cX5_act 30 = .ok (.aload_n 0, 1) := by decide +kernel
theorem dX5_act_31 : decode cX5_act 31 = .ok (.getfield 21, 3) := by decide +kernel
theorem dX5_act_34 : decode cX5_act 34 = .ok (.invokevirtual 204, 3) := by decide +kernel
theorem dX5_act_37 : decode cX5_act 37 = .ok (.aload_n 0, 1) := by decide +kernel
theorem dX5_act_38 : decode cX5_act 38 = .ok (.getfield 21, 3) := by decide +kernel
theorem dX5_act_41 : decode cX5_act 41 = .ok (.iload_n 1, 1) := by decide +kernel
theorem dX5_act_42 : decode cX5_act 42 = .ok (.aload_n 2, 1) := by decide +kernel
theorem dX5_act_43 : decode cX5_act 43 = .ok (.iload_n 3, 1) := by decide +kernel
theorem dX5_act_44 : decode cX5_act 44 = .ok (.iload 4, 2) := by decide +kernel
theorem dX5_act_46 : decode cX5_act 46 = .ok (.invokevirtual 298, 3) := by decide +kernel
theorem dX5_act_49 : decode cX5_act 49 = .ok (.ireturn, 1) := by decide +kernel
theorem dX5_emptySlots_0 : decode cX5_emptySlots 0 = .ok (.iconst 0, 1) := by decide +kernel
theorem dX5_emptySlots_1 : decode cX5_emptySlots 1 = .ok (.istore_n 1, 1) := by decide +kernel
theorem dX5_emptySlots_2 : decode cX5_emptySlots 2 = .ok (.iload_n 1, 1) := by decide +kernel
theorem dX5_emptySlots_3 : decode cX5_emptySlots 3 = .ok (.aload_n 0, 1) := by decide +kernel
theorem dX5_emptySlots_4 : decode cX5_emptySlots 4 = .ok (.getfield 39, 3) := by decide +kernel
theorem dX5_emptySlots_7 : decode cX5_emptySlots 7 = .ok (.arraylength, 1) := by decide +kernel
theorem dX5_emptySlots_8 : decode cX5_emptySlots 8 = .ok (.if_icmp .ge 16, 3) := by decide +kernel
theorem dX5_emptySlots_11 : decode cX5_emptySlots 11 = .ok (.aload_n 0, 1) := by decide +kernel
theorem dX5_emptySlots_12 : decode cX5_emptySlots 12 = .ok (.getfield 39, 3) := by decide +kernel
theorem dX5_emptySlots_15 : decode cX5_emptySlots 15 = .ok (.iload_n 1, 1) := by decide +kernel
theorem dX5_emptySlots_16 : decode cX5_emptySlots 16 = .ok (.iconst 0, 1) := by decide +kernel
theorem dX5_emptySlots_17 : decode cX5_emptySlots 17 = .ok (.bastore, 1) := by decide +kernel
theorem dX5_emptySlots_18 : decode cX5_emptySlots 18 = .ok (.iinc 1 1, 3) := by decide +kernel
theorem dX5_emptySlots_21 : decode cX5_emptySlots 21 = .ok (.goto (-19), 3) := by decide +kernel
theorem dX5_emptySlots_24 : decode cX5_emptySlots 24 = .ok (.return_, 1) := by decide +kernel
theorem dX5_shapeOf_0 : decode cX5_shapeOf 0 = .ok (.iload_n 0, 1) := by decide +kernel
theorem dX5_shapeOf_1 : decode cX5_shapeOf 1 = .ok (.tableswitch 107 98 115 #[87, 107, 87, 107, 87, 95, 107, 107, 107, 107, 107, 103, 107, 107, 87, 107, 99, 91], 87) := by decide +kernel
theorem dX5_shapeOf_88 : decode cX5_shapeOf 88 = .ok (.ldc_w 301, 3) := by decide +kernel
theorem dX5_shapeOf_91 : decode cX5_shapeOf 91 = .ok (.areturn, 1) := by decide +kernel
theorem dX5_shapeOf_92 : decode cX5_shapeOf 92 = .ok (.ldc_w 303, 3) := by decide +kernel
theorem dX5_shapeOf_95 : decode cX5_shapeOf 95 = .ok (.areturn, 1) := by decide +kernel
theorem dX5_shapeOf_96 : decode cX5_shapeOf 96 = .ok (.ldc_w 305, 3) := by decide +kernel
theorem dX5_shapeOf_99 : decode cX5_shapeOf 99 = .ok (.areturn, 1) := by decide +kernel
theorem dX5_shapeOf_100 : decode cX5_shapeOf 100 = .ok (.ldc_w 307, 3) := by decide +kernel
theorem dX5_shapeOf_103 : decode cX5_shapeOf 103 = .ok (.areturn, 1) := by decide +kernel
theorem dX5_shapeOf_104 : decode cX5_shapeOf 104 = .ok (.ldc_w 309, 3) := by decide +kernel
theorem dX5_shapeOf_107 : decode cX5_shapeOf 107 = .ok (.areturn, 1) := by decide +kernel
theorem dX5_shapeOf_108 : decode cX5_shapeOf 108 = .ok (.ldc_w 311, 3) := by decide +kernel
theorem dX5_shapeOf_111 : decode cX5_shapeOf 111 = .ok (.areturn, 1) := by decide +kernel
theorem dX5_countFitting_0 : decode cX5_countFitting 0 = .ok (.iconst 0, 1) := by decide +kernel
theorem dX5_countFitting_1 : decode cX5_countFitting 1 = .ok (.istore_n 3, 1) := by decide +kernel
theorem dX5_countFitting_2 : decode cX5_countFitting 2 = .ok (.iload_n 3, 1) := by decide +kernel
theorem dX5_countFitting_3 : decode cX5_countFitting 3 = .ok (.aload_n 2, 1) := by decide +kernel
theorem dX5_countFitting_4 : decode cX5_countFitting 4 = .ok (.invokevirtual 84, 3) := by decide +kernel
theorem dX5_countFitting_7 : decode cX5_countFitting 7 = .ok (.if_icmp .ge 42, 3) := by decide +kernel
theorem dX5_countFitting_10 : decode cX5_countFitting 10 = .ok (.iload_n 1, 1) := by decide +kernel
theorem dX5_countFitting_11 : decode cX5_countFitting 11 = .ok (.iload_n 3, 1) := by decide +kernel
theorem dX5_countFitting_12 : decode cX5_countFitting 12 = .ok (.iadd, 1) := by decide +kernel
theorem dX5_countFitting_13 : decode cX5_countFitting 13 = .ok (.istore 4, 2) := by decide +kernel
theorem dX5_countFitting_15 : decode cX5_countFitting 15 = .ok (.iload 4, 2) := by decide +kernel
theorem dX5_countFitting_17 : decode cX5_countFitting 17 = .ok (.aload_n 0, 1) := by decide +kernel
theorem dX5_countFitting_18 : decode cX5_countFitting 18 = .ok (.getfield 14, 3) := by decide +kernel
theorem dX5_countFitting_21 : decode cX5_countFitting 21 = .ok (.getfield 50, 3) := by decide +kernel
theorem dX5_countFitting_24 : decode cX5_countFitting 24 = .ok (.if_icmp .ge 17, 3) := by decide +kernel
theorem dX5_countFitting_27 : decode cX5_countFitting 27 = .ok (.aload_n 0, 1) := by decide +kernel
theorem dX5_countFitting_28 : decode cX5_countFitting 28 = .ok (.aload_n 2, 1) := by decide +kernel
theorem dX5_countFitting_29 : decode cX5_countFitting 29 = .ok (.iload_n 3, 1) := by decide +kernel
theorem dX5_countFitting_30 : decode cX5_countFitting 30 = .ok (.invokevirtual 313, 3) := by decide +kernel
theorem dX5_countFitting_33 : decode cX5_countFitting 33 = .ok (.iload 4, 2) := by decide +kernel
theorem dX5_countFitting_35 : decode cX5_countFitting 35 = .ok (.invokevirtual 317, 3) := by decide +kernel
theorem dX5_countFitting_38 : decode cX5_countFitting 38 = .ok (.ifCond .ne 5, 3) := by decide +kernel
theorem dX5_countFitting_41 : decode cX5_countFitting 41 = .ok (.iload_n 3, 1) := by decide +kernel
theorem dX5_countFitting_42 : decode cX5_countFitting 42 = .ok (.ireturn, 1) := by decide +kernel
theorem dX5_countFitting_43 : decode cX5_countFitting 43 = .ok (.iinc 3 1, 3) := by decide +kernel
theorem dX5_countFitting_46 : decode cX5_countFitting 46 = .ok (.goto (-44), 3) := by decide +kernel
theorem dX5_countFitting_49 : decode cX5_countFitting 49 = .ok (.aload_n 2, 1) := by decide +kernel
theorem dX5_countFitting_50 : decode cX5_countFitting 50 = .ok (.invokevirtual 84, 3) := by decide +kernel
theorem dX5_countFitting_53 : decode cX5_countFitting 53 = .ok (.ireturn, 1) := by decide +kernel
theorem dX5_fits_0 : decode cX5_fits 0 = .ok (.aload_n 0, 1) := by decide +kernel
theorem dX5_fits_1 : decode cX5_fits 1 = .ok (.iload_n 2, 1) := by decide +kernel
theorem dX5_fits_2 : decode cX5_fits 2 = .ok (.invokevirtual 321, 3) := by decide +kernel
theorem dX5_fits_5 : decode cX5_fits 5 = .ok (.istore_n 3, 1) := by decide +kernel
theorem dX5_fits_6 : decode cX5_fits 6 = .ok (.iload_n 3, 1) := by decide +kernel
theorem dX5_fits_7 : decode cX5_fits 7 = .ok (.ifCond .lt 9, 3) := by decide +kernel
theorem dX5_fits_10 : decode cX5_fits 10 = .ok (.iload_n 3, 1) := by decide +kernel
theorem dX5_fits_11 : decode cX5_fits 11 = .ok (.bipush 9, 2) := by decide +kernel
theorem dX5_fits_13 : decode cX5_fits 13 = .ok (.if_icmp .le 5, 3) := by decide +kernel
theorem dX5_fits_16 : decode cX5_fits 16 = .ok (.iconst 0, 1) := by decide +kernel
theorem dX5_fits_17 : decode cX5_fits 17 = .ok (.ireturn, 1) := by decide +kernel
theorem dX5_fits_18 : decode cX5_fits 18 = .ok (.iload_n 1, 1) := by decide +kernel
theorem dX5_fits_19 : decode cX5_fits 19 = .ok (.lookupswitch 120 #[(67, 90), (99, 98), (105, 68), (109, 79), (110, 109), (119, 57)], 57) := by decide +kernel
theorem dX5_fits_76 : decode cX5_fits 76 = .ok (.iload_n 3, 1) := by decide +kernel
theorem dX5_fits_77 : decode cX5_fits 77 = .ok (.iconst 3, 1) := by decide +kernel
theorem dX5_fits_78 : decode cX5_fits 78 = .ok (.if_icmp .ge 7, 3) := by decide +kernel
theorem dX5_fits_81 : decode cX5_fits 81 = .ok (.iconst 1, 1) := by decide +kernel
theorem dX5_fits_82 : decode cX5_fits 82 = .ok (.goto 4, 3) := by decide +kernel
theorem dX5_fits_85 : decode cX5_fits 85 = .ok (.iconst 0, 1) := by decide +kernel
theorem dX5_fits_86 : decode cX5_fits 86 = .ok (.ireturn, 1) := by decide +kernel
theorem dX5_fits_87 : decode cX5_fits 87 = .ok (.iload_n 3, 1) := by decide +kernel
theorem dX5_fits_88 : decode cX5_fits 88 = .ok (.iconst 4, 1) := by decide +kernel
theorem dX5_fits_89 : decode cX5_fits 89 = .ok (.if_icmp .ge 7, 3) := by decide +kernel
theorem dX5_fits_92 : decode cX5_fits 92 = .ok (.iconst 1, 1) := by decide +kernel
theorem dX5_fits_93 : decode cX5_fits 93 = .ok (.goto 4, 3) := by decide +kernel
theorem dX5_fits_96 : decode cX5_fits 96 = .ok (.iconst 0, 1) := by decide +kernel
theorem dX5_fits_97 : decode cX5_fits 97 = .ok (.ireturn, 1) := by decide +kernel
theorem dX5_fits_98 : decode cX5_fits 98 = .ok (.iload_n 3, 1) := by decide +kernel
theorem dX5_fits_99 : decode cX5_fits 99 = .ok (.iconst 3, 1) := by decide +kernel
theorem dX5_fits_100 : decode cX5_fits 100 = .ok (.if_icmp .gt 7, 3) := by decide +kernel
theorem dX5_fits_103 : decode cX5_fits 103 = .ok (.iconst 1, 1) := by decide +kernel
theorem dX5_fits_104 : decode cX5_fits 104 = .ok (.goto 4, 3) := by decide +kernel
theorem dX5_fits_107 : decode cX5_fits 107 = .ok (.iconst 0, 1) := by decide +kernel
theorem dX5_fits_108 : decode cX5_fits 108 = .ok (.ireturn, 1) := by decide +kernel
theorem dX5_fits_109 : decode cX5_fits 109 = .ok (.bipush 10, 2) := by decide +kernel
theorem dX5_fits_111 : decode cX5_fits 111 = .ok (.iload_n 3, 1) := by decide +kernel
theorem dX5_fits_112 : decode cX5_fits 112 = .ok (.imul, 1) := by decide +kernel
theorem dX5_fits_113 : decode cX5_fits 113 = .ok (.invokestatic 280, 3) := by decide +kernel
theorem dX5_fits_116 : decode cX5_fits 116 = .ok (.ireturn, 1) := by decide +kernel
theorem dX5_fits_117 : decode cX5_fits 117 = .ok (.aload_n 0, 1) := by decide +kernel
theorem dX5_fits_118 : decode cX5_fits 118 = .ok (.iload_n 2, 1) := by decide +kernel
theorem dX5_fits_119 : decode cX5_fits 119 = .ok (.iconst 1, 1) := by decide +kernel
theorem dX5_fits_120 : decode cX5_fits 120 = .ok (.isub, 1) := by decide +kernel
theorem dX5_fits_121 : decode cX5_fits 121 = .ok (.invokevirtual 324, 3) := by decide +kernel
theorem dX5_fits_124 : decode cX5_fits 124 = .ok (.invokestatic 280, 3) := by decide +kernel
theorem dX5_fits_127 : decode cX5_fits 127 = .ok (.ireturn, 1) := by decide +kernel
theorem dX5_fits_128 : decode cX5_fits 128 = .ok (.aload_n 0, 1) := by decide +kernel
theorem dX5_fits_129 : decode cX5_fits 129 = .ok (.iload_n 2, 1) := by decide +kernel
theorem dX5_fits_130 : decode cX5_fits 130 = .ok (.iconst 1, 1) := by decide +kernel
theorem dX5_fits_131 : decode cX5_fits 131 = .ok (.isub, 1) := by decide +kernel
theorem dX5_fits_132 : decode cX5_fits 132 = .ok (.invokevirtual 324, 3) := by decide +kernel
theorem dX5_fits_135 : decode cX5_fits 135 = .ok (.invokestatic 197, 3) := by decide +kernel
theorem dX5_fits_138 : decode cX5_fits 138 = .ok (.ireturn, 1) := by decide +kernel
theorem dX5_fits_139 : decode cX5_fits 139 = .ok (.iconst 1, 1) := by decide +kernel
theorem dX5_fits_140 : decode cX5_fits 140 = .ok (.ireturn, 1) := by decide +kernel
theorem dX5_digitAt_0 : decode cX5_digitAt 0 = .ok (.aload_n 0, 1) := by decide +kernel
theorem dX5_digitAt_1 : decode cX5_digitAt 1 = .ok (.getfield 14, 3) := by decide +kernel
theorem dX5_digitAt_4 : decode cX5_digitAt 4 = .ok (.iload_n 1, 1) := by decide +kernel
theorem dX5_digitAt_5 : decode cX5_digitAt 5 = .ok (.invokevirtual 66, 3) := by decide +kernel
theorem dX5_digitAt_8 : decode cX5_digitAt 8 = .ok (.bipush 48, 2) := by decide +kernel
theorem dX5_digitAt_10 : decode cX5_digitAt 10 = .ok (.isub, 1) := by decide +kernel
theorem dX5_digitAt_11 : decode cX5_digitAt 11 = .ok (.ireturn, 1) := by decide +kernel
theorem dX5_numberAt_0 : decode cX5_numberAt 0 = .ok (.bipush 10, 2) := by decide +kernel
theorem dX5_numberAt_2 : decode cX5_numberAt 2 = .ok (.aload_n 0, 1) := by decide +kernel
theorem dX5_numberAt_3 : decode cX5_numberAt 3 = .ok (.iload_n 1, 1) := by decide +kernel
theorem dX5_numberAt_4 : decode cX5_numberAt 4 = .ok (.invokevirtual 321, 3) := by decide +kernel
theorem dX5_numberAt_7 : decode cX5_numberAt 7 = .ok (.imul, 1) := by decide +kernel
theorem dX5_numberAt_8 : decode cX5_numberAt 8 = .ok (.aload_n 0, 1) := by decide +kernel
theorem dX5_numberAt_9 : decode cX5_numberAt 9 = .ok (.iload_n 1, 1) := by decide +kernel
theorem dX5_numberAt_10 : decode cX5_numberAt 10 = .ok (.iconst 1, 1) := by decide +kernel
theorem dX5_numberAt_11 : decode cX5_numberAt 11 = .ok (.iadd, 1) := by decide +kernel
theorem dX5_numberAt_12 : decode cX5_numberAt 12 = .ok (.invokevirtual 321, 3) := by decide +kernel
theorem dX5_numberAt_15 : decode cX5_numberAt 15 = .ok (.iadd, 1) := by decide +kernel
theorem dX5_numberAt_16 : decode cX5_numberAt 16 = .ok (.ireturn, 1) := by decide +kernel
theorem dX5_obeyText_0 : decode cX5_obeyText 0 = .ok (.aload_n 0, 1) := by decide +kernel
theorem dX5_obeyText_1 : decode cX5_obeyText 1 = .ok (.iload_n 1, 1) := by decide +kernel
theorem dX5_obeyText_2 : decode cX5_obeyText 2 = .ok (.iconst 1, 1) := by decide +kernel
theorem dX5_obeyText_3 : decode cX5_obeyText 3 = .ok (.iadd, 1) := by decide +kernel
theorem dX5_obeyText_4 : decode cX5_obeyText 4 = .ok (.invokevirtual 321, 3) := by decide +kernel
theorem dX5_obeyText_7 : decode cX5_obeyText 7 = .ok (.istore_n 2, 1) := by decide +kernel
theorem dX5_obeyText_8 : decode cX5_obeyText 8 = .ok (.iload_n 1, 1) := by decide +kernel
theorem dX5_obeyText_9 : decode cX5_obeyText 9 = .ok (.iconst 2, 1) := by decide +kernel
theorem dX5_obeyText_10 : decode cX5_obeyText 10 = .ok (.iadd, 1) := by decide +kernel
theorem dX5_obeyText_11 : decode cX5_obeyText 11 = .ok (.istore_n 3, 1) := by decide +kernel
theorem dX5_obeyText_12 : decode cX5_obeyText 12 = .ok (.aload_n 0, 1) := by decide +kernel
theorem dX5_obeyText_13 : decode cX5_obeyText 13 = .ok (.getfield 14, 3) := by decide +kernel
theorem dX5_obeyText_16 : decode cX5_obeyText 16 = .ok (.iload_n 1, 1) := by decide +kernel
theorem dX5_obeyText_17 : decode cX5_obeyText 17 = .ok (.invokevirtual 66, 3) := by decide +kernel
theorem dX5_obeyText_20 : decode cX5_obeyText 20 = .ok (.tableswitch 197 98 115 #[88, 197, 173, 197, 185, 151, 197, 197, 197, 197, 197, 197, 197, 197, 123, 197, 135, 100], 88) := by decide +kernel
theorem dX5_obeyText_108 : decode cX5_obeyText 108 = .ok (.aload_n 0, 1) := by decide +kernel
theorem dX5_obeyText_109 : decode cX5_obeyText 109 = .ok (.getfield 21, 3) := by decide +kernel
theorem dX5_obeyText_112 : decode cX5_obeyText 112 = .ok (.iconst 0, 1) := by decide +kernel
theorem dX5_obeyText_113 : decode cX5_obeyText 113 = .ok (.iload_n 2, 1) := by decide +kernel
theorem dX5_obeyText_114 : decode cX5_obeyText 114 = .ok (.iconst 0, 1) := by decide +kernel
theorem dX5_obeyText_115 : decode cX5_obeyText 115 = .ok (.iconst 0, 1) := by decide +kernel
theorem dX5_obeyText_116 : decode cX5_obeyText 116 = .ok (.invokevirtual 224, 3) := by decide +kernel
theorem dX5_obeyText_119 : decode cX5_obeyText 119 = .ok (.ireturn, 1) := by decide +kernel
theorem dX5_obeyText_120 : decode cX5_obeyText 120 = .ok (.aload_n 0, 1) := by decide +kernel
theorem dX5_obeyText_121 : decode cX5_obeyText 121 = .ok (.getfield 21, 3) := by decide +kernel
theorem dX5_obeyText_124 : decode cX5_obeyText 124 = .ok (.bipush 6, 2) := by decide +kernel
theorem dX5_obeyText_126 : decode cX5_obeyText 126 = .ok (.iload_n 2, 1) := by decide +kernel
theorem dX5_obeyText_127 : decode cX5_obeyText 127 = .ok (.aload_n 0, 1) := by decide +kernel
theorem dX5_obeyText_128 : decode cX5_obeyText 128 = .ok (.iload_n 3, 1) := by decide +kernel
theorem dX5_obeyText_129 : decode cX5_obeyText 129 = .ok (.invokevirtual 324, 3) := by decide +kernel
theorem dX5_obeyText_132 : decode cX5_obeyText 132 = .ok (.aload_n 0, 1) := by decide +kernel
theorem dX5_obeyText_133 : decode cX5_obeyText 133 = .ok (.iload_n 3, 1) := by decide +kernel
theorem dX5_obeyText_134 : decode cX5_obeyText 134 = .ok (.iconst 2, 1) := by decide +kernel
theorem dX5_obeyText_135 : decode cX5_obeyText 135 = .ok (.iadd, 1) := by decide +kernel
theorem dX5_obeyText_136 : decode cX5_obeyText 136 = .ok (.invokevirtual 324, 3) := by decide +kernel
theorem dX5_obeyText_139 : decode cX5_obeyText 139 = .ok (.invokevirtual 224, 3) := by decide +kernel
theorem dX5_obeyText_142 : decode cX5_obeyText 142 = .ok (.ireturn, 1) := by decide +kernel
theorem dX5_obeyText_143 : decode cX5_obeyText 143 = .ok (.aload_n 0, 1) := by decide +kernel
theorem dX5_obeyText_144 : decode cX5_obeyText 144 = .ok (.getfield 21, 3) := by decide +kernel
theorem dX5_obeyText_147 : decode cX5_obeyText 147 = .ok (.iconst 3, 1) := by decide +kernel
theorem dX5_obeyText_148 : decode cX5_obeyText 148 = .ok (.iload_n 2, 1) := by decide +kernel
theorem dX5_obeyText_149 : decode cX5_obeyText 149 = .ok (.iconst 0, 1) := by decide +kernel
theorem dX5_obeyText_150 : decode cX5_obeyText 150 = .ok (.iconst 0, 1) := by decide +kernel
theorem dX5_obeyText_151 : decode cX5_obeyText 151 = .ok (.invokevirtual 224, 3) := by decide +kernel
theorem dX5_obeyText_154 : decode cX5_obeyText 154 = .ok (.ireturn, 1) := by decide +kernel
theorem dX5_obeyText_155 : decode cX5_obeyText 155 = .ok (.aload_n 0, 1) := by decide +kernel
theorem dX5_obeyText_156 : decode cX5_obeyText 156 = .ok (.getfield 21, 3) := by decide +kernel
theorem dX5_obeyText_159 : decode cX5_obeyText 159 = .ok (.iconst 4, 1) := by decide +kernel
theorem dX5_obeyText_160 : decode cX5_obeyText 160 = .ok (.iload_n 2, 1) := by decide +kernel
theorem dX5_obeyText_161 : decode cX5_obeyText 161 = .ok (.aload_n 0, 1) := by decide +kernel
theorem dX5_obeyText_162 : decode cX5_obeyText 162 = .ok (.iload_n 3, 1) := by decide +kernel
theorem dX5_obeyText_163 : decode cX5_obeyText 163 = .ok (.invokevirtual 321, 3) := by decide +kernel
theorem dX5_obeyText_166 : decode cX5_obeyText 166 = .ok (.iconst 0, 1) := by decide +kernel
theorem dX5_obeyText_167 : decode cX5_obeyText 167 = .ok (.invokevirtual 224, 3) := by decide +kernel
theorem dX5_obeyText_170 : decode cX5_obeyText 170 = .ok (.ireturn, 1) := by decide +kernel
theorem dX5_obeyText_171 : decode cX5_obeyText 171 = .ok (.aload_n 0, 1) := by decide +kernel
theorem dX5_obeyText_172 : decode cX5_obeyText 172 = .ok (.getfield 21, 3) := by decide +kernel
theorem dX5_obeyText_175 : decode cX5_obeyText 175 = .ok (.iconst 5, 1) := by decide +kernel
theorem dX5_obeyText_176 : decode cX5_obeyText 176 = .ok (.iload_n 2, 1) := by decide +kernel
theorem dX5_obeyText_177 : decode cX5_obeyText 177 = .ok (.aload_n 0, 1) := by decide +kernel
theorem dX5_obeyText_178 : decode cX5_obeyText 178 = .ok (.iload_n 3, 1) := by decide +kernel
theorem dX5_obeyText_179 : decode cX5_obeyText 179 = .ok (.invokevirtual 324, 3) := by decide +kernel
theorem dX5_obeyText_182 : decode cX5_obeyText 182 = .ok (.aload_n 0, 1) := by decide +kernel
theorem dX5_obeyText_183 : decode cX5_obeyText 183 = .ok (.iload_n 3, 1) := by decide +kernel
theorem dX5_obeyText_184 : decode cX5_obeyText 184 = .ok (.iconst 2, 1) := by decide +kernel
theorem dX5_obeyText_185 : decode cX5_obeyText 185 = .ok (.iadd, 1) := by decide +kernel
theorem dX5_obeyText_186 : decode cX5_obeyText 186 = .ok (.invokevirtual 324, 3) := by decide +kernel
theorem dX5_obeyText_189 : decode cX5_obeyText 189 = .ok (.invokevirtual 224, 3) := by decide +kernel
theorem dX5_obeyText_192 : decode cX5_obeyText 192 = .ok (.ireturn, 1) := by decide +kernel
theorem dX5_obeyText_193 : decode cX5_obeyText 193 = .ok (.aload_n 0, 1) := by decide +kernel
theorem dX5_obeyText_194 : decode cX5_obeyText 194 = .ok (.getfield 21, 3) := by decide +kernel
theorem dX5_obeyText_197 : decode cX5_obeyText 197 = .ok (.iconst 1, 1) := by decide +kernel
theorem dX5_obeyText_198 : decode cX5_obeyText 198 = .ok (.iload_n 2, 1) := by decide +kernel
theorem dX5_obeyText_199 : decode cX5_obeyText 199 = .ok (.iconst 0, 1) := by decide +kernel
theorem dX5_obeyText_200 : decode cX5_obeyText 200 = .ok (.iconst 0, 1) := by decide +kernel
theorem dX5_obeyText_201 : decode cX5_obeyText 201 = .ok (.invokevirtual 224, 3) := by decide +kernel
theorem dX5_obeyText_204 : decode cX5_obeyText 204 = .ok (.ireturn, 1) := by decide +kernel
theorem dX5_obeyText_205 : decode cX5_obeyText 205 = .ok (.aload_n 0, 1) := by decide +kernel
theorem dX5_obeyText_206 : decode cX5_obeyText 206 = .ok (.getfield 21, 3) := by decide +kernel
theorem dX5_obeyText_209 : decode cX5_obeyText 209 = .ok (.iconst 2, 1) := by decide +kernel
theorem dX5_obeyText_210 : decode cX5_obeyText 210 = .ok (.iload_n 2, 1) := by decide +kernel
theorem dX5_obeyText_211 : decode cX5_obeyText 211 = .ok (.iconst 0, 1) := by decide +kernel
theorem dX5_obeyText_212 : decode cX5_obeyText 212 = .ok (.iconst 0, 1) := by decide +kernel
theorem dX5_obeyText_213 : decode cX5_obeyText 213 = .ok (.invokevirtual 224, 3) := by decide +kernel
theorem dX5_obeyText_216 : decode cX5_obeyText 216 = .ok (.ireturn, 1) := by decide +kernel
theorem dX5_obeyText_217 : decode cX5_obeyText 217 = .ok (.aload_n 0, 1) := by decide +kernel
theorem dX5_obeyText_218 : decode cX5_obeyText 218 = .ok (.getfield 21, 3) := by decide +kernel
theorem dX5_obeyText_221 : decode cX5_obeyText 221 = .ok (.iload_n 2, 1) := by decide +kernel
theorem dX5_obeyText_222 : decode cX5_obeyText 222 = .ok (.putfield 115, 3) := by decide +kernel
theorem dX5_obeyText_225 : decode cX5_obeyText 225 = .ok (.iconst 1, 1) := by decide +kernel
theorem dX5_obeyText_226 : decode cX5_obeyText 226 = .ok (.ireturn, 1) := by decide +kernel
theorem dX5_dropGroups_0 : decode cX5_dropGroups 0 = .ok (.lload_n 0, 1) := by decide +kernel
theorem dX5_dropGroups_1 : decode cX5_dropGroups 1 = .ok (.lstore_n 3, 1) := by decide +kernel
theorem dX5_dropGroups_2 : decode cX5_dropGroups 2 = .ok (.iconst 0, 1) := by decide +kernel
theorem dX5_dropGroups_3 : decode cX5_dropGroups 3 = .ok (.istore 5, 2) := by decide +kernel
theorem dX5_dropGroups_5 : decode cX5_dropGroups 5 = .ok (.iload 5, 2) := by decide +kernel
theorem dX5_dropGroups_7 : decode cX5_dropGroups 7 = .ok (.iload_n 2, 1) := by decide +kernel
theorem dX5_dropGroups_8 : decode cX5_dropGroups 8 = .ok (.if_icmp .ge 15, 3) := by decide +kernel
theorem dX5_dropGroups_11 : decode cX5_dropGroups 11 = .ok (.lload_n 3, 1) := by decide +kernel
theorem dX5_dropGroups_12 : decode cX5_dropGroups 12 = .ok (.ldc2_w 259, 3) := by decide +kernel
theorem dX5_dropGroups_15 : decode cX5_dropGroups 15 = .ok (.ldiv, 1) := by decide +kernel
theorem dX5_dropGroups_16 : decode cX5_dropGroups 16 = .ok (.lstore_n 3, 1) := by decide +kernel
theorem dX5_dropGroups_17 : decode cX5_dropGroups 17 = .ok (.iinc 5 1, 3) := by decide +kernel
theorem dX5_dropGroups_20 : decode cX5_dropGroups 20 = .ok (.goto (-15), 3) := by decide +kernel
theorem dX5_dropGroups_23 : decode cX5_dropGroups 23 = .ok (.lload_n 3, 1) := by decide +kernel
theorem dX5_dropGroups_24 : decode cX5_dropGroups 24 = .ok (.lreturn, 1) := by decide +kernel
theorem dX5_obeyGroup_0 : decode cX5_obeyGroup 0 = .ok (.iload_n 1, 1) := by decide +kernel
theorem dX5_obeyGroup_1 : decode cX5_obeyGroup 1 = .ok (.sipush 1000, 3) := by decide +kernel
theorem dX5_obeyGroup_4 : decode cX5_obeyGroup 4 = .ok (.idiv, 1) := by decide +kernel
theorem dX5_obeyGroup_5 : decode cX5_obeyGroup 5 = .ok (.bipush 10, 2) := by decide +kernel
theorem dX5_obeyGroup_7 : decode cX5_obeyGroup 7 = .ok (.irem, 1) := by decide +kernel
theorem dX5_obeyGroup_8 : decode cX5_obeyGroup 8 = .ok (.istore_n 2, 1) := by decide +kernel
theorem dX5_obeyGroup_9 : decode cX5_obeyGroup 9 = .ok (.iload_n 1, 1) := by decide +kernel
theorem dX5_obeyGroup_10 : decode cX5_obeyGroup 10 = .ok (.bipush 10, 2) := by decide +kernel
theorem dX5_obeyGroup_12 : decode cX5_obeyGroup 12 = .ok (.idiv, 1) := by decide +kernel
theorem dX5_obeyGroup_13 : decode cX5_obeyGroup 13 = .ok (.bipush 100, 2) := by decide +kernel
theorem dX5_obeyGroup_15 : decode cX5_obeyGroup 15 = .ok (.irem, 1) := by decide +kernel
theorem dX5_obeyGroup_16 : decode cX5_obeyGroup 16 = .ok (.istore_n 3, 1) := by decide +kernel
theorem dX5_obeyGroup_17 : decode cX5_obeyGroup 17 = .ok (.iload_n 1, 1) := by decide +kernel
theorem dX5_obeyGroup_18 : decode cX5_obeyGroup 18 = .ok (.bipush 10, 2) := by decide +kernel
theorem dX5_obeyGroup_20 : decode cX5_obeyGroup 20 = .ok (.irem, 1) := by decide +kernel
theorem dX5_obeyGroup_21 : decode cX5_obeyGroup 21 = .ok (.istore 4, 2) := by decide +kernel
theorem dX5_obeyGroup_23 : decode cX5_obeyGroup 23 = .ok (.iload_n 1, 1) := by decide +kernel
theorem dX5_obeyGroup_24 : decode cX5_obeyGroup 24 = .ok (.sipush 10000, 3) := by decide +kernel
theorem dX5_obeyGroup_27 : decode cX5_obeyGroup 27 = .ok (.idiv, 1) := by decide +kernel
theorem dX5_obeyGroup_28 : decode cX5_obeyGroup 28 = .ok (.tableswitch 152 1 5 #[36, 67, 81, 106, 119], 36) := by decide +kernel
theorem dX5_obeyGroup_64 : decode cX5_obeyGroup 64 = .ok (.iload_n 3, 1) := by decide +kernel
theorem dX5_obeyGroup_65 : decode cX5_obeyGroup 65 = .ok (.ifCond .ne 28, 3) := by decide +kernel
theorem dX5_obeyGroup_68 : decode cX5_obeyGroup 68 = .ok (.iload 4, 2) := by decide +kernel
theorem dX5_obeyGroup_70 : decode cX5_obeyGroup 70 = .ok (.iconst 3, 1) := by decide +kernel
theorem dX5_obeyGroup_71 : decode cX5_obeyGroup 71 = .ok (.if_icmp .gt 22, 3) := by decide +kernel
theorem dX5_obeyGroup_74 : decode cX5_obeyGroup 74 = .ok (.aload_n 0, 1) := by decide +kernel
theorem dX5_obeyGroup_75 : decode cX5_obeyGroup 75 = .ok (.getfield 25, 3) := by decide +kernel
theorem dX5_obeyGroup_78 : decode cX5_obeyGroup 78 = .ok (.iload 4, 2) := by decide +kernel
theorem dX5_obeyGroup_80 : decode cX5_obeyGroup 80 = .ok (.iload_n 2, 1) := by decide +kernel
theorem dX5_obeyGroup_81 : decode cX5_obeyGroup 81 = .ok (.iconst 0, 1) := by decide +kernel
theorem dX5_obeyGroup_82 : decode cX5_obeyGroup 82 = .ok (.iconst 0, 1) := by decide +kernel
theorem dX5_obeyGroup_83 : decode cX5_obeyGroup 83 = .ok (.invokevirtual 224, 3) := by decide +kernel
theorem dX5_obeyGroup_86 : decode cX5_obeyGroup 86 = .ok (.ifCond .eq 7, 3) := by decide +kernel
theorem dX5_obeyGroup_89 : decode cX5_obeyGroup 89 = .ok (.iconst 1, 1) := by decide +kernel
theorem dX5_obeyGroup_90 : decode cX5_obeyGroup 90 = .ok (.goto 4, 3) := by decide +kernel
theorem dX5_obeyGroup_93 : decode cX5_obeyGroup 93 = .ok (.iconst 0, 1) := by decide +kernel
theorem dX5_obeyGroup_94 : decode cX5_obeyGroup 94 = .ok (.ireturn, 1) := by decide +kernel
theorem dX5_obeyGroup_95 : decode cX5_obeyGroup 95 = .ok (.aload_n 0, 1) := by decide +kernel
theorem dX5_obeyGroup_96 : decode cX5_obeyGroup 96 = .ok (.getfield 25, 3) := by decide +kernel
theorem dX5_obeyGroup_99 : decode cX5_obeyGroup 99 = .ok (.bipush 6, 2) := by decide +kernel
theorem dX5_obeyGroup_101 : decode cX5_obeyGroup 101 = .ok (.iload_n 2, 1) := by decide +kernel
theorem dX5_obeyGroup_102 : decode cX5_obeyGroup 102 = .ok (.iload_n 3, 1) := by decide +kernel
theorem dX5_obeyGroup_103 : decode cX5_obeyGroup 103 = .ok (.iload 4, 2) := by decide +kernel
theorem dX5_obeyGroup_105 : decode cX5_obeyGroup 105 = .ok (.invokevirtual 224, 3) := by decide +kernel
theorem dX5_obeyGroup_108 : decode cX5_obeyGroup 108 = .ok (.ireturn, 1) := by decide +kernel
theorem dX5_obeyGroup_109 : decode cX5_obeyGroup 109 = .ok (.iload_n 3, 1) := by decide +kernel
theorem dX5_obeyGroup_110 : decode cX5_obeyGroup 110 = .ok (.ifCond .ne 22, 3) := by decide +kernel
theorem dX5_obeyGroup_113 : decode cX5_obeyGroup 113 = .ok (.aload_n 0, 1) := by decide +kernel
theorem dX5_obeyGroup_114 : decode cX5_obeyGroup 114 = .ok (.getfield 25, 3) := by decide +kernel
theorem dX5_obeyGroup_117 : decode cX5_obeyGroup 117 = .ok (.iconst 4, 1) := by decide +kernel
theorem dX5_obeyGroup_118 : decode cX5_obeyGroup 118 = .ok (.iload_n 2, 1) := by decide +kernel
theorem dX5_obeyGroup_119 : decode cX5_obeyGroup 119 = .ok (.iload 4, 2) := by decide +kernel
theorem dX5_obeyGroup_121 : decode cX5_obeyGroup 121 = .ok (.iconst 0, 1) := by decide +kernel
theorem dX5_obeyGroup_122 : decode cX5_obeyGroup 122 = .ok (.invokevirtual 224, 3) := by decide +kernel
theorem dX5_obeyGroup_125 : decode cX5_obeyGroup 125 = .ok (.ifCond .eq 7, 3) := by decide +kernel
theorem dX5_obeyGroup_128 : decode cX5_obeyGroup 128 = .ok (.iconst 1, 1) := by decide +kernel
theorem dX5_obeyGroup_129 : decode cX5_obeyGroup 129 = .ok (.goto 4, 3) := by decide +kernel
theorem dX5_obeyGroup_132 : decode cX5_obeyGroup 132 = .ok (.iconst 0, 1) := by decide +kernel
theorem dX5_obeyGroup_133 : decode cX5_obeyGroup 133 = .ok (.ireturn, 1) := by decide +kernel
theorem dX5_obeyGroup_134 : decode cX5_obeyGroup 134 = .ok (.aload_n 0, 1) := by decide +kernel
theorem dX5_obeyGroup_135 : decode cX5_obeyGroup 135 = .ok (.getfield 25, 3) := by decide +kernel
theorem dX5_obeyGroup_138 : decode cX5_obeyGroup 138 = .ok (.iconst 5, 1) := by decide +kernel
theorem dX5_obeyGroup_139 : decode cX5_obeyGroup 139 = .ok (.iload_n 2, 1) := by decide +kernel
theorem dX5_obeyGroup_140 : decode cX5_obeyGroup 140 = .ok (.iload_n 3, 1) := by decide +kernel
theorem dX5_obeyGroup_141 : decode cX5_obeyGroup 141 = .ok (.iload 4, 2) := by decide +kernel
theorem dX5_obeyGroup_143 : decode cX5_obeyGroup 143 = .ok (.invokevirtual 224, 3) := by decide +kernel
theorem dX5_obeyGroup_146 : decode cX5_obeyGroup 146 = .ok (.ireturn, 1) := by decide +kernel
theorem dX5_obeyGroup_147 : decode cX5_obeyGroup 147 = .ok (.iload_n 2, 1) := by decide +kernel
theorem dX5_obeyGroup_148 : decode cX5_obeyGroup 148 = .ok (.ifCond .ne 30, 3) := by decide +kernel
theorem dX5_obeyGroup_151 : decode cX5_obeyGroup 151 = .ok (.iload_n 3, 1) := by decide +kernel
theorem dX5_obeyGroup_152 : decode cX5_obeyGroup 152 = .ok (.invokestatic 280, 3) := by decide +kernel
theorem dX5_obeyGroup_155 : decode cX5_obeyGroup 155 = .ok (.ifCond .eq 23, 3) := by decide +kernel
theorem dX5_obeyGroup_158 : decode cX5_obeyGroup 158 = .ok (.aload_n 0, 1) := by decide +kernel
theorem dX5_obeyGroup_159 : decode cX5_obeyGroup 159 = .ok (.getfield 25, 3) := by decide +kernel
theorem dX5_obeyGroup_162 : decode cX5_obeyGroup 162 = .ok (.getfield 129, 3) := by decide +kernel
theorem dX5_obeyGroup_165 : decode cX5_obeyGroup 165 = .ok (.iload_n 3, 1) := by decide +kernel
theorem dX5_obeyGroup_166 : decode cX5_obeyGroup 166 = .ok (.invokevirtual 66, 3) := by decide +kernel
theorem dX5_obeyGroup_169 : decode cX5_obeyGroup 169 = .ok (.iload 4, 2) := by decide +kernel
theorem dX5_obeyGroup_171 : decode cX5_obeyGroup 171 = .ok (.if_icmp .ne 7, 3) := by decide +kernel
theorem dX5_obeyGroup_174 : decode cX5_obeyGroup 174 = .ok (.iconst 1, 1) := by decide +kernel
theorem dX5_obeyGroup_175 : decode cX5_obeyGroup 175 = .ok (.goto 4, 3) := by decide +kernel
theorem dX5_obeyGroup_178 : decode cX5_obeyGroup 178 = .ok (.iconst 0, 1) := by decide +kernel
theorem dX5_obeyGroup_179 : decode cX5_obeyGroup 179 = .ok (.ireturn, 1) := by decide +kernel
theorem dX5_obeyGroup_180 : decode cX5_obeyGroup 180 = .ok (.aload_n 0, 1) := by decide +kernel
theorem dX5_obeyGroup_181 : decode cX5_obeyGroup 181 = .ok (.iload_n 1, 1) := by decide +kernel
theorem dX5_obeyGroup_182 : decode cX5_obeyGroup 182 = .ok (.sipush 10000, 3) := by decide +kernel
theorem dX5_obeyGroup_185 : decode cX5_obeyGroup 185 = .ok (.idiv, 1) := by decide +kernel
theorem dX5_obeyGroup_186 : decode cX5_obeyGroup 186 = .ok (.iload_n 2, 1) := by decide +kernel
theorem dX5_obeyGroup_187 : decode cX5_obeyGroup 187 = .ok (.iload_n 3, 1) := by decide +kernel
theorem dX5_obeyGroup_188 : decode cX5_obeyGroup 188 = .ok (.iload 4, 2) := by decide +kernel
theorem dX5_obeyGroup_190 : decode cX5_obeyGroup 190 = .ok (.invokevirtual 327, 3) := by decide +kernel
theorem dX5_obeyGroup_193 : decode cX5_obeyGroup 193 = .ok (.ireturn, 1) := by decide +kernel
theorem dX5_isTrueOfWorker_0 : decode cX5_isTrueOfWorker 0 = .ok (.aload_n 0, 1) := by decide +kernel
theorem dX5_isTrueOfWorker_1 : decode cX5_isTrueOfWorker 1 = .ok (.getfield 25, 3) := by decide +kernel
theorem dX5_isTrueOfWorker_4 : decode cX5_isTrueOfWorker 4 = .ok (.iload_n 2, 1) := by decide +kernel
theorem dX5_isTrueOfWorker_5 : decode cX5_isTrueOfWorker 5 = .ok (.invokevirtual 232, 3) := by decide +kernel
theorem dX5_isTrueOfWorker_8 : decode cX5_isTrueOfWorker 8 = .ok (.astore 5, 2) := by decide +kernel
theorem dX5_isTrueOfWorker_10 : decode cX5_isTrueOfWorker 10 = .ok (.aload 5, 2) := by decide +kernel
theorem dX5_isTrueOfWorker_12 : decode cX5_isTrueOfWorker 12 = .ok (.ifnonnull 5, 3) := by decide +kernel
theorem dX5_isTrueOfWorker_15 : decode cX5_isTrueOfWorker 15 = .ok (.iconst 0, 1) := by decide +kernel
theorem dX5_isTrueOfWorker_16 : decode cX5_isTrueOfWorker 16 = .ok (.ireturn, 1) := by decide +kernel
theorem dX5_isTrueOfWorker_17 : decode cX5_isTrueOfWorker 17 = .ok (.iload_n 1, 1) := by decide +kernel
theorem dX5_isTrueOfWorker_18 : decode cX5_isTrueOfWorker 18 = .ok (.tableswitch 136 6 9 #[30, 63, 83, 106], 30) := by decide +kernel
theorem dX5_isTrueOfWorker_48 : decode cX5_isTrueOfWorker 48 = .ok (.iload 4, 2) := by decide +kernel
theorem dX5_isTrueOfWorker_50 : decode cX5_isTrueOfWorker 50 = .ok (.ifCond .ne 29, 3) := by decide +kernel
theorem dX5_isTrueOfWorker_53 : decode cX5_isTrueOfWorker 53 = .ok (.iload_n 3, 1) := by decide +kernel
theorem dX5_isTrueOfWorker_54 : decode cX5_isTrueOfWorker 54 = .ok (.invokestatic 280, 3) := by decide +kernel
theorem dX5_isTrueOfWorker_57 : decode cX5_isTrueOfWorker 57 = .ok (.ifCond .eq 22, 3) := by decide +kernel
theorem dX5_isTrueOfWorker_60 : decode cX5_isTrueOfWorker 60 = .ok (.aload_n 0, 1) := by decide +kernel
theorem dX5_isTrueOfWorker_61 : decode cX5_isTrueOfWorker 61 = .ok (.getfield 25, 3) := by decide +kernel
theorem dX5_isTrueOfWorker_64 : decode cX5_isTrueOfWorker 64 = .ok (.getfield 132, 3) := by decide +kernel
theorem dX5_isTrueOfWorker_67 : decode cX5_isTrueOfWorker 67 = .ok (.iload_n 3, 1) := by decide +kernel
theorem dX5_isTrueOfWorker_68 : decode cX5_isTrueOfWorker 68 = .ok (.invokevirtual 66, 3) := by decide +kernel
theorem dX5_isTrueOfWorker_71 : decode cX5_isTrueOfWorker 71 = .ok (.iload_n 2, 1) := by decide +kernel
theorem dX5_isTrueOfWorker_72 : decode cX5_isTrueOfWorker 72 = .ok (.if_icmp .ne 7, 3) := by decide +kernel
theorem dX5_isTrueOfWorker_75 : decode cX5_isTrueOfWorker 75 = .ok (.iconst 1, 1) := by decide +kernel
theorem dX5_isTrueOfWorker_76 : decode cX5_isTrueOfWorker 76 = .ok (.goto 4, 3) := by decide +kernel
theorem dX5_isTrueOfWorker_79 : decode cX5_isTrueOfWorker 79 = .ok (.iconst 0, 1) := by decide +kernel
theorem dX5_isTrueOfWorker_80 : decode cX5_isTrueOfWorker 80 = .ok (.ireturn, 1) := by decide +kernel
theorem dX5_isTrueOfWorker_81 : decode cX5_isTrueOfWorker 81 = .ok (.iload_n 3, 1) := by decide +kernel
theorem dX5_isTrueOfWorker_82 : decode cX5_isTrueOfWorker 82 = .ok (.ifCond .ne 17, 3) := by decide +kernel
theorem dX5_isTrueOfWorker_85 : decode cX5_isTrueOfWorker 85 = .ok (.aload 5, 2) := by decide +kernel
theorem dX5_isTrueOfWorker_87 : decode cX5_isTrueOfWorker 87 = .ok (.getfield 242, 3) := by decide +kernel
theorem dX5_isTrueOfWorker_90 : decode cX5_isTrueOfWorker 90 = .ok (.iload 4, 2) := by decide +kernel
theorem dX5_isTrueOfWorker_92 : decode cX5_isTrueOfWorker 92 = .ok (.if_icmp .ne 7, 3) := by decide +kernel
theorem dX5_isTrueOfWorker_95 : decode cX5_isTrueOfWorker 95 = .ok (.iconst 1, 1) := by decide +kernel
theorem dX5_isTrueOfWorker_96 : decode cX5_isTrueOfWorker 96 = .ok (.goto 4, 3) := by decide +kernel
theorem dX5_isTrueOfWorker_99 : decode cX5_isTrueOfWorker 99 = .ok (.iconst 0, 1) := by decide +kernel
theorem dX5_isTrueOfWorker_100 : decode cX5_isTrueOfWorker 100 = .ok (.ireturn, 1) := by decide +kernel
theorem dX5_isTrueOfWorker_101 : decode cX5_isTrueOfWorker 101 = .ok (.iload_n 3, 1) := by decide +kernel
theorem dX5_isTrueOfWorker_102 : decode cX5_isTrueOfWorker 102 = .ok (.ifCond .ne 20, 3) := by decide +kernel
theorem dX5_isTrueOfWorker_105 : decode cX5_isTrueOfWorker 105 = .ok (.iload 4, 2) := by decide +kernel
theorem dX5_isTrueOfWorker_107 : decode cX5_isTrueOfWorker 107 = .ok (.ifCond .ne 15, 3) := by decide +kernel
theorem dX5_isTrueOfWorker_110 : decode cX5_isTrueOfWorker 110 = .ok (.aload 5, 2) := by decide +kernel
theorem dX5_isTrueOfWorker_112 : decode cX5_isTrueOfWorker 112 = .ok (.invokevirtual 330, 3) := by decide +kernel
theorem dX5_isTrueOfWorker_115 : decode cX5_isTrueOfWorker 115 = .ok (.ifCond .eq 7, 3) := by decide +kernel
theorem dX5_isTrueOfWorker_118 : decode cX5_isTrueOfWorker 118 = .ok (.iconst 1, 1) := by decide +kernel
theorem dX5_isTrueOfWorker_119 : decode cX5_isTrueOfWorker 119 = .ok (.goto 4, 3) := by decide +kernel
theorem dX5_isTrueOfWorker_122 : decode cX5_isTrueOfWorker 122 = .ok (.iconst 0, 1) := by decide +kernel
theorem dX5_isTrueOfWorker_123 : decode cX5_isTrueOfWorker 123 = .ok (.ireturn, 1) := by decide +kernel
theorem dX5_isTrueOfWorker_124 : decode cX5_isTrueOfWorker 124 = .ok (.iload_n 3, 1) := by decide +kernel
theorem dX5_isTrueOfWorker_125 : decode cX5_isTrueOfWorker 125 = .ok (.bipush 10, 2) := by decide +kernel
theorem dX5_isTrueOfWorker_127 : decode cX5_isTrueOfWorker 127 = .ok (.if_icmp .ge 25, 3) := by decide +kernel
theorem dX5_isTrueOfWorker_130 : decode cX5_isTrueOfWorker 130 = .ok (.aload 5, 2) := by decide +kernel
theorem dX5_isTrueOfWorker_132 : decode cX5_isTrueOfWorker 132 = .ok (.getfield 181, 3) := by decide +kernel
theorem dX5_isTrueOfWorker_135 : decode cX5_isTrueOfWorker 135 = .ok (.getfield 50, 3) := by decide +kernel
theorem dX5_isTrueOfWorker_138 : decode cX5_isTrueOfWorker 138 = .ok (.bipush 10, 2) := by decide +kernel
theorem dX5_isTrueOfWorker_140 : decode cX5_isTrueOfWorker 140 = .ok (.iload_n 3, 1) := by decide +kernel
theorem dX5_isTrueOfWorker_141 : decode cX5_isTrueOfWorker 141 = .ok (.imul, 1) := by decide +kernel
theorem dX5_isTrueOfWorker_142 : decode cX5_isTrueOfWorker 142 = .ok (.iload 4, 2) := by decide +kernel
theorem dX5_isTrueOfWorker_144 : decode cX5_isTrueOfWorker 144 = .ok (.iadd, 1) := by decide +kernel
theorem dX5_isTrueOfWorker_145 : decode cX5_isTrueOfWorker 145 = .ok (.if_icmp .gt 7, 3) := by decide +kernel
theorem dX5_isTrueOfWorker_148 : decode cX5_isTrueOfWorker 148 = .ok (.iconst 1, 1) := by decide +kernel
theorem dX5_isTrueOfWorker_149 : decode cX5_isTrueOfWorker 149 = .ok (.goto 4, 3) := by decide +kernel
theorem dX5_isTrueOfWorker_152 : decode cX5_isTrueOfWorker 152 = .ok (.iconst 0, 1) := by decide +kernel
theorem dX5_isTrueOfWorker_153 : decode cX5_isTrueOfWorker 153 = .ok (.ireturn, 1) := by decide +kernel
theorem dX5_isTrueOfWorker_154 : decode cX5_isTrueOfWorker 154 = .ok (.iconst 0, 1) := by decide +kernel
theorem dX5_isTrueOfWorker_155 : decode cX5_isTrueOfWorker 155 = .ok (.ireturn, 1) := by decide +kernel
theorem dX5_simulateStep_0 : decode cX5_simulateStep 0 = .ok (.iload_n 1, 1) := by decide +kernel
theorem dX5_simulateStep_1 : decode cX5_simulateStep 1 = .ok (.bipush 16, 2) := by decide +kernel
theorem dX5_simulateStep_3 : decode cX5_simulateStep 3 = .ok (.idiv, 1) := by decide +kernel
theorem dX5_simulateStep_4 : decode cX5_simulateStep 4 = .ok (.iconst 3, 1) := by decide +kernel
theorem dX5_simulateStep_5 : decode cX5_simulateStep 5 = .ok (.irem, 1) := by decide +kernel
theorem dX5_simulateStep_6 : decode cX5_simulateStep 6 = .ok (.istore_n 2, 1) := by decide +kernel
theorem dX5_simulateStep_7 : decode cX5_simulateStep 7 = .ok (.iload_n 1, 1) := by decide +kernel
theorem dX5_simulateStep_8 : decode cX5_simulateStep 8 = .ok (.bipush 64, 2) := by decide +kernel
theorem dX5_simulateStep_10 : decode cX5_simulateStep 10 = .ok (.idiv, 1) := by decide +kernel
theorem dX5_simulateStep_11 : decode cX5_simulateStep 11 = .ok (.bipush 16, 2) := by decide +kernel
theorem dX5_simulateStep_13 : decode cX5_simulateStep 13 = .ok (.irem, 1) := by decide +kernel
theorem dX5_simulateStep_14 : decode cX5_simulateStep 14 = .ok (.istore_n 3, 1) := by decide +kernel
theorem dX5_simulateStep_15 : decode cX5_simulateStep 15 = .ok (.iload_n 1, 1) := by decide +kernel
theorem dX5_simulateStep_16 : decode cX5_simulateStep 16 = .ok (.bipush 16, 2) := by decide +kernel
theorem dX5_simulateStep_18 : decode cX5_simulateStep 18 = .ok (.irem, 1) := by decide +kernel
theorem dX5_simulateStep_19 : decode cX5_simulateStep 19 = .ok (.tableswitch 157 0 9 #[53, 53, 53, 68, 68, 83, 83, 98, 113, 133], 53) := by decide +kernel
theorem dX5_simulateStep_72 : decode cX5_simulateStep 72 = .ok (.aload_n 0, 1) := by decide +kernel
theorem dX5_simulateStep_73 : decode cX5_simulateStep 73 = .ok (.getfield 25, 3) := by decide +kernel
theorem dX5_simulateStep_76 : decode cX5_simulateStep 76 = .ok (.iconst 0, 1) := by decide +kernel
theorem dX5_simulateStep_77 : decode cX5_simulateStep 77 = .ok (.iload_n 2, 1) := by decide +kernel
theorem dX5_simulateStep_78 : decode cX5_simulateStep 78 = .ok (.iconst 0, 1) := by decide +kernel
theorem dX5_simulateStep_79 : decode cX5_simulateStep 79 = .ok (.iconst 0, 1) := by decide +kernel
theorem dX5_simulateStep_80 : decode cX5_simulateStep 80 = .ok (.invokevirtual 224, 3) := by decide +kernel
theorem dX5_simulateStep_83 : decode cX5_simulateStep 83 = .ok (.pop, 1) := by decide +kernel
theorem dX5_simulateStep_84 : decode cX5_simulateStep 84 = .ok (.goto 112, 3) := by decide +kernel
theorem dX5_simulateStep_87 : decode cX5_simulateStep 87 = .ok (.aload_n 0, 1) := by decide +kernel
theorem dX5_simulateStep_88 : decode cX5_simulateStep 88 = .ok (.getfield 25, 3) := by decide +kernel
theorem dX5_simulateStep_91 : decode cX5_simulateStep 91 = .ok (.iconst 1, 1) := by decide +kernel
theorem dX5_simulateStep_92 : decode cX5_simulateStep 92 = .ok (.iload_n 2, 1) := by decide +kernel
theorem dX5_simulateStep_93 : decode cX5_simulateStep 93 = .ok (.iconst 0, 1) := by decide +kernel
theorem dX5_simulateStep_94 : decode cX5_simulateStep 94 = .ok (.iconst 0, 1) := by decide +kernel
theorem dX5_simulateStep_95 : decode cX5_simulateStep 95 = .ok (.invokevirtual 224, 3) := by decide +kernel
theorem dX5_simulateStep_98 : decode cX5_simulateStep 98 = .ok (.pop, 1) := by decide +kernel
theorem dX5_simulateStep_99 : decode cX5_simulateStep 99 = .ok (.goto 97, 3) := by decide +kernel
theorem dX5_simulateStep_102 : decode cX5_simulateStep 102 = .ok (.aload_n 0, 1) := by decide +kernel
theorem dX5_simulateStep_103 : decode cX5_simulateStep 103 = .ok (.getfield 25, 3) := by decide +kernel
theorem dX5_simulateStep_106 : decode cX5_simulateStep 106 = .ok (.iconst 2, 1) := by decide +kernel
theorem dX5_simulateStep_107 : decode cX5_simulateStep 107 = .ok (.iload_n 2, 1) := by decide +kernel
theorem dX5_simulateStep_108 : decode cX5_simulateStep 108 = .ok (.iconst 0, 1) := by decide +kernel
theorem dX5_simulateStep_109 : decode cX5_simulateStep 109 = .ok (.iconst 0, 1) := by decide +kernel
theorem dX5_simulateStep_110 : decode cX5_simulateStep 110 = .ok (.invokevirtual 224, 3) := by decide +kernel
theorem dX5_simulateStep_113 : decode cX5_simulateStep 113 = .ok (.pop, 1) := by decide +kernel
theorem dX5_simulateStep_114 : decode cX5_simulateStep 114 = .ok (.goto 82, 3) := by decide +kernel
theorem dX5_simulateStep_117 : decode cX5_simulateStep 117 = .ok (.aload_n 0, 1) := by decide +kernel
theorem dX5_simulateStep_118 : decode cX5_simulateStep 118 = .ok (.getfield 25, 3) := by decide +kernel
theorem dX5_simulateStep_121 : decode cX5_simulateStep 121 = .ok (.iconst 3, 1) := by decide +kernel
theorem dX5_simulateStep_122 : decode cX5_simulateStep 122 = .ok (.iload_n 2, 1) := by decide +kernel
theorem dX5_simulateStep_123 : decode cX5_simulateStep 123 = .ok (.iconst 0, 1) := by decide +kernel
theorem dX5_simulateStep_124 : decode cX5_simulateStep 124 = .ok (.iconst 0, 1) := by decide +kernel
theorem dX5_simulateStep_125 : decode cX5_simulateStep 125 = .ok (.invokevirtual 224, 3) := by decide +kernel
theorem dX5_simulateStep_128 : decode cX5_simulateStep 128 = .ok (.pop, 1) := by decide +kernel
theorem dX5_simulateStep_129 : decode cX5_simulateStep 129 = .ok (.goto 67, 3) := by decide +kernel
theorem dX5_simulateStep_132 : decode cX5_simulateStep 132 = .ok (.aload_n 0, 1) := by decide +kernel
theorem dX5_simulateStep_133 : decode cX5_simulateStep 133 = .ok (.getfield 25, 3) := by decide +kernel
theorem dX5_simulateStep_136 : decode cX5_simulateStep 136 = .ok (.iconst 4, 1) := by decide +kernel
theorem dX5_simulateStep_137 : decode cX5_simulateStep 137 = .ok (.iload_n 2, 1) := by decide +kernel
theorem dX5_simulateStep_138 : decode cX5_simulateStep 138 = .ok (.iload_n 1, 1) := by decide +kernel
theorem dX5_simulateStep_139 : decode cX5_simulateStep 139 = .ok (.bipush 64, 2) := by decide +kernel
theorem dX5_simulateStep_141 : decode cX5_simulateStep 141 = .ok (.idiv, 1) := by decide +kernel
theorem dX5_simulateStep_142 : decode cX5_simulateStep 142 = .ok (.iconst 4, 1) := by decide +kernel
theorem dX5_simulateStep_143 : decode cX5_simulateStep 143 = .ok (.irem, 1) := by decide +kernel
theorem dX5_simulateStep_144 : decode cX5_simulateStep 144 = .ok (.iconst 0, 1) := by decide +kernel
theorem dX5_simulateStep_145 : decode cX5_simulateStep 145 = .ok (.invokevirtual 224, 3) := by decide +kernel
theorem dX5_simulateStep_148 : decode cX5_simulateStep 148 = .ok (.pop, 1) := by decide +kernel
theorem dX5_simulateStep_149 : decode cX5_simulateStep 149 = .ok (.goto 47, 3) := by decide +kernel
theorem dX5_simulateStep_152 : decode cX5_simulateStep 152 = .ok (.aload_n 0, 1) := by decide +kernel
theorem dX5_simulateStep_153 : decode cX5_simulateStep 153 = .ok (.getfield 25, 3) := by decide +kernel
theorem dX5_simulateStep_156 : decode cX5_simulateStep 156 = .ok (.iconst 5, 1) := by decide +kernel
theorem dX5_simulateStep_157 : decode cX5_simulateStep 157 = .ok (.iload_n 2, 1) := by decide +kernel
theorem dX5_simulateStep_158 : decode cX5_simulateStep 158 = .ok (.iload_n 3, 1) := by decide +kernel
theorem dX5_simulateStep_159 : decode cX5_simulateStep 159 = .ok (.iconst 1, 1) := by decide +kernel
theorem dX5_simulateStep_160 : decode cX5_simulateStep 160 = .ok (.iload_n 1, 1) := by decide +kernel
theorem dX5_simulateStep_161 : decode cX5_simulateStep 161 = .ok (.sipush 1024, 3) := by decide +kernel
theorem dX5_simulateStep_164 : decode cX5_simulateStep 164 = .ok (.idiv, 1) := by decide +kernel
theorem dX5_simulateStep_165 : decode cX5_simulateStep 165 = .ok (.bipush 99, 2) := by decide +kernel
theorem dX5_simulateStep_167 : decode cX5_simulateStep 167 = .ok (.irem, 1) := by decide +kernel
theorem dX5_simulateStep_168 : decode cX5_simulateStep 168 = .ok (.iadd, 1) := by decide +kernel
theorem dX5_simulateStep_169 : decode cX5_simulateStep 169 = .ok (.invokevirtual 224, 3) := by decide +kernel
theorem dX5_simulateStep_172 : decode cX5_simulateStep 172 = .ok (.pop, 1) := by decide +kernel
theorem dX5_simulateStep_173 : decode cX5_simulateStep 173 = .ok (.goto 23, 3) := by decide +kernel
theorem dX5_simulateStep_176 : decode cX5_simulateStep 176 = .ok (.aload_n 0, 1) := by decide +kernel
theorem dX5_simulateStep_177 : decode cX5_simulateStep 177 = .ok (.getfield 25, 3) := by decide +kernel
theorem dX5_simulateStep_180 : decode cX5_simulateStep 180 = .ok (.bipush 6, 2) := by decide +kernel
theorem dX5_simulateStep_182 : decode cX5_simulateStep 182 = .ok (.iload_n 2, 1) := by decide +kernel
theorem dX5_simulateStep_183 : decode cX5_simulateStep 183 = .ok (.iload_n 3, 1) := by decide +kernel
theorem dX5_simulateStep_184 : decode cX5_simulateStep 184 = .ok (.iload_n 1, 1) := by decide +kernel
theorem dX5_simulateStep_185 : decode cX5_simulateStep 185 = .ok (.sipush 1024, 3) := by decide +kernel
theorem dX5_simulateStep_188 : decode cX5_simulateStep 188 = .ok (.idiv, 1) := by decide +kernel
theorem dX5_simulateStep_189 : decode cX5_simulateStep 189 = .ok (.bipush 100, 2) := by decide +kernel
theorem dX5_simulateStep_191 : decode cX5_simulateStep 191 = .ok (.irem, 1) := by decide +kernel
theorem dX5_simulateStep_192 : decode cX5_simulateStep 192 = .ok (.invokevirtual 224, 3) := by decide +kernel
theorem dX5_simulateStep_195 : decode cX5_simulateStep 195 = .ok (.pop, 1) := by decide +kernel
theorem dX5_simulateStep_196 : decode cX5_simulateStep 196 = .ok (.return_, 1) := by decide +kernel

theorem dX0_init_0 : decode cX0_init 0 = .ok (.aload_n 0, 1) := by decide +kernel
theorem dX0_init_1 : decode cX0_init 1 = .ok (.invokespecial 3, 3) := by decide +kernel
theorem dX0_init_4 : decode cX0_init 4 = .ok (.aload_n 0, 1) := by decide +kernel
theorem dX0_init_5 : decode cX0_init 5 = .ok (.bipush 14, 2) := by decide +kernel
theorem dX0_init_7 : decode cX0_init 7 = .ok (.anewarray 9, 3) := by decide +kernel
theorem dX0_init_10 : decode cX0_init 10 = .ok (.putfield 11, 3) := by decide +kernel
theorem dX0_init_13 : decode cX0_init 13 = .ok (.return_, 1) := by decide +kernel
theorem dX0_remember_0 : decode cX0_remember 0 = .ok (.aload_n 0, 1) := by decide +kernel
theorem dX0_remember_1 : decode cX0_remember 1 = .ok (.getfield 17, 3) := by decide +kernel
theorem dX0_remember_4 : decode cX0_remember 4 = .ok (.ifCond .lt 15, 3) := by decide +kernel
theorem dX0_remember_7 : decode cX0_remember 7 = .ok (.aload_n 0, 1) := by decide +kernel
theorem dX0_remember_8 : decode cX0_remember 8 = .ok (.getfield 17, 3) := by decide +kernel
theorem dX0_remember_11 : decode cX0_remember 11 = .ok (.aload_n 0, 1) := by decide +kernel
theorem dX0_remember_12 : decode cX0_remember 12 = .ok (.getfield 11, 3) := by decide +kernel
theorem dX0_remember_15 : decode cX0_remember 15 = .ok (.arraylength, 1) := by decide +kernel
theorem dX0_remember_16 : decode cX0_remember 16 = .ok (.if_icmp .lt 4, 3) := by decide +kernel
theorem dX0_remember_19 : decode cX0_remember 19 = .ok (.return_, 1) := by decide +kernel
theorem dX0_remember_20 : decode cX0_remember 20 = .ok (.aload_n 0, 1) := by decide +kernel
theorem dX0_remember_21 : decode cX0_remember 21 = .ok (.getfield 11, 3) := by decide +kernel
theorem dX0_remember_24 : decode cX0_remember 24 = .ok (.aload_n 0, 1) := by decide +kernel
theorem dX0_remember_25 : decode cX0_remember 25 = .ok (.getfield 17, 3) := by decide +kernel
theorem dX0_remember_28 : decode cX0_remember 28 = .ok (.aaload, 1) := by decide +kernel
theorem dX0_remember_29 : decode cX0_remember 29 = .ok (.astore_n 2, 1) := by decide +kernel
theorem dX0_remember_30 : decode cX0_remember 30 = .ok (.aload_n 2, 1) := by decide +kernel
theorem dX0_remember_31 : decode cX0_remember 31 = .ok (.ifnonnull 21, 3) := by decide +kernel
theorem dX0_remember_34 : decode cX0_remember 34 = .ok (.new 9, 3) := by decide +kernel
theorem dX0_remember_37 : decode cX0_remember 37 = .ok (.dup, 1) := by decide +kernel
theorem dX0_remember_38 : decode cX0_remember 38 = .ok (.invokespecial 21, 3) := by decide +kernel
theorem dX0_remember_41 : decode cX0_remember 41 = .ok (.astore_n 2, 1) := by decide +kernel
theorem dX0_remember_42 : decode cX0_remember 42 = .ok (.aload_n 0, 1) := by decide +kernel
theorem dX0_remember_43 : decode cX0_remember 43 = .ok (.getfield 11, 3) := by decide +kernel
theorem dX0_remember_46 : decode cX0_remember 46 = .ok (.aload_n 0, 1) := by decide +kernel
theorem dX0_remember_47 : decode cX0_remember 47 = .ok (.getfield 17, 3) := by decide +kernel
theorem dX0_remember_50 : decode cX0_remember 50 = .ok (.aload_n 2, 1) := by decide +kernel
theorem dX0_remember_51 : decode cX0_remember 51 = .ok (.aastore, 1) := by decide +kernel
theorem dX0_remember_52 : decode cX0_remember 52 = .ok (.aload_n 2, 1) := by decide +kernel
theorem dX0_remember_53 : decode cX0_remember 53 = .ok (.aload_n 1, 1) := by decide +kernel
theorem dX0_remember_54 : decode cX0_remember 54 = .ok (.invokevirtual 22, 3) := by decide +kernel
theorem dX0_remember_57 : decode cX0_remember 57 = .ok (.aload_n 0, 1) := by decide +kernel
theorem dX0_remember_58 : decode cX0_remember 58 = .ok (.aload_n 0, 1) := by decide +kernel
theorem dX0_remember_59 : decode cX0_remember 59 = .ok (.getfield 17, 3) := by decide +kernel
theorem dX0_remember_62 : decode cX0_remember 62 = .ok (.iconst 1, 1) := by decide +kernel
theorem dX0_remember_63 : decode cX0_remember 63 = .ok (.iadd, 1) := by decide +kernel
theorem dX0_remember_64 : decode cX0_remember 64 = .ok (.bipush 14, 2) := by decide +kernel
theorem dX0_remember_66 : decode cX0_remember 66 = .ok (.irem, 1) := by decide +kernel
theorem dX0_remember_67 : decode cX0_remember 67 = .ok (.putfield 17, 3) := by decide +kernel
theorem dX0_remember_70 : decode cX0_remember 70 = .ok (.aload_n 0, 1) := by decide +kernel
theorem dX0_remember_71 : decode cX0_remember 71 = .ok (.bipush 14, 2) := by decide +kernel
theorem dX0_remember_73 : decode cX0_remember 73 = .ok (.aload_n 0, 1) := by decide +kernel
theorem dX0_remember_74 : decode cX0_remember 74 = .ok (.getfield 26, 3) := by decide +kernel
theorem dX0_remember_77 : decode cX0_remember 77 = .ok (.iconst 1, 1) := by decide +kernel
theorem dX0_remember_78 : decode cX0_remember 78 = .ok (.iadd, 1) := by decide +kernel
theorem dX0_remember_79 : decode cX0_remember 79 = .ok (.invokestatic 29, 3) := by decide +kernel
theorem dX0_remember_82 : decode cX0_remember 82 = .ok (.putfield 26, 3) := by decide +kernel
theorem dX0_remember_85 : decode cX0_remember 85 = .ok (.return_, 1) := by decide +kernel
theorem dX0_takeBack_0 : decode cX0_takeBack 0 = .ok (.aload_n 0, 1) := by decide +kernel
theorem dX0_takeBack_1 : decode cX0_takeBack 1 = .ok (.getfield 17, 3) := by decide +kernel
theorem dX0_takeBack_4 : decode cX0_takeBack 4 = .ok (.bipush 14, 2) := by decide +kernel
theorem dX0_takeBack_6 : decode cX0_takeBack 6 = .ok (.iadd, 1) := by decide +kernel
theorem dX0_takeBack_7 : decode cX0_takeBack 7 = .ok (.iconst 1, 1) := by decide +kernel
theorem dX0_takeBack_8 : decode cX0_takeBack 8 = .ok (.isub, 1) := by decide +kernel
theorem dX0_takeBack_9 : decode cX0_takeBack 9 = .ok (.bipush 14, 2) := by decide +kernel
theorem dX0_takeBack_11 : decode cX0_takeBack 11 = .ok (.irem, 1) := by decide +kernel
theorem dX0_takeBack_12 : decode cX0_takeBack 12 = .ok (.istore_n 2, 1) := by decide +kernel
theorem dX0_takeBack_13 : decode cX0_takeBack 13 = .ok (.iload_n 2, 1) := by decide +kernel
theorem dX0_takeBack_14 : decode cX0_takeBack 14 = .ok (.ifCond .lt 21, 3) := by decide +kernel
theorem dX0_takeBack_17 : decode cX0_takeBack 17 = .ok (.iload_n 2, 1) := by decide +kernel
theorem dX0_takeBack_18 : decode cX0_takeBack 18 = .ok (.aload_n 0, 1) := by decide +kernel
theorem dX0_takeBack_19 : decode cX0_takeBack 19 = .ok (.getfield 11, 3) := by decide +kernel
theorem dX0_takeBack_22 : decode cX0_takeBack 22 = .ok (.arraylength, 1) := by decide +kernel
theorem dX0_takeBack_23 : decode cX0_takeBack 23 = .ok (.if_icmp .ge 12, 3) := by decide +kernel
theorem dX0_takeBack_26 : decode cX0_takeBack 26 = .ok (.aload_n 0, 1) := by decide +kernel
theorem dX0_takeBack_27 : decode cX0_takeBack 27 = .ok (.getfield 11, 3) := by decide +kernel
theorem dX0_takeBack_30 : decode cX0_takeBack 30 = .ok (.iload_n 2, 1) := by decide +kernel
theorem dX0_takeBack_31 : decode cX0_takeBack 31 = .ok (.aaload, 1) := by decide +kernel
theorem dX0_takeBack_32 : decode cX0_takeBack 32 = .ok (.goto 4, 3) := by decide +kernel
theorem dX0_takeBack_35 : decode cX0_takeBack 35 = .ok (.aconst_null, 1) := by decide +kernel
theorem dX0_takeBack_36 : decode cX0_takeBack 36 = .ok (.astore_n 3, 1) := by decide +kernel
theorem dX0_takeBack_37 : decode cX0_takeBack 37 = .ok (.aload_n 3, 1) := by decide +kernel
theorem dX0_takeBack_38 : decode cX0_takeBack 38 = .ok (.ifnull 10, 3) := by decide +kernel
theorem dX0_takeBack_41 : decode cX0_takeBack 41 = .ok (.aload_n 0, 1) := by decide +kernel
theorem dX0_takeBack_42 : decode cX0_takeBack 42 = .ok (.getfield 26, 3) := by decide +kernel
theorem dX0_takeBack_45 : decode cX0_takeBack 45 = .ok (.ifCond .ne 4, 3) := by decide +kernel
theorem dX0_takeBack_48 : decode cX0_takeBack 48 = .ok (.return_, 1) := by decide +kernel
theorem dX0_takeBack_49 : decode cX0_takeBack 49 = .ok (.aload_n 1, 1) := by decide +kernel
theorem dX0_takeBack_50 : decode cX0_takeBack 50 = .ok (.aload_n 3, 1) := by decide +kernel
theorem dX0_takeBack_51 : decode cX0_takeBack 51 = .ok (.invokevirtual 22, 3) := by decide +kernel
theorem dX0_takeBack_54 : decode cX0_takeBack 54 = .ok (.aload_n 0, 1) := by decide +kernel
theorem dX0_takeBack_55 : decode cX0_takeBack 55 = .ok (.iload_n 2, 1) := by decide +kernel
theorem dX0_takeBack_56 : decode cX0_takeBack 56 = .ok (.putfield 17, 3) := by decide +kernel
theorem dX0_takeBack_59 : decode cX0_takeBack 59 = .ok (.aload_n 0, 1) := by decide +kernel
theorem dX0_takeBack_60 : decode cX0_takeBack 60 = .ok (.dup, 1) := by decide +kernel
theorem dX0_takeBack_61 : decode cX0_takeBack 61 = .ok (.getfield 26, 3) := by decide +kernel
theorem dX0_takeBack_64 : decode cX0_takeBack 64 = .ok (.iconst 1, 1) := by decide +kernel
theorem dX0_takeBack_65 : decode cX0_takeBack 65 = .ok (.isub, 1) := by decide +kernel
theorem dX0_takeBack_66 : decode cX0_takeBack 66 = .ok (.putfield 26, 3) := by decide +kernel
theorem dX0_takeBack_69 : decode cX0_takeBack 69 = .ok (.return_, 1) := by decide +kernel
theorem dX0_forgetAll_0 : decode cX0_forgetAll 0 = .ok (.aload_n 0, 1) := by decide +kernel
theorem dX0_forgetAll_1 : decode cX0_forgetAll 1 = .ok (.iconst 0, 1) := by decide +kernel
theorem dX0_forgetAll_2 : decode cX0_forgetAll 2 = .ok (.putfield 26, 3) := by decide +kernel
theorem dX0_forgetAll_5 : decode cX0_forgetAll 5 = .ok (.return_, 1) := by decide +kernel
theorem dX1_init_0 : decode cX1_init 0 = .ok (.aload_n 0, 1) := by decide +kernel
theorem dX1_init_1 : decode cX1_init 1 = .ok (.invokespecial 1, 3) := by decide +kernel
theorem dX1_init_4 : decode cX1_init 4 = .ok (.aload_n 0, 1) := by decide +kernel
theorem dX1_init_5 : decode cX1_init 5 = .ok (.iconst 1, 1) := by decide +kernel
theorem dX1_init_6 : decode cX1_init 6 = .ok (.iload_n 1, 1) := by decide +kernel
theorem dX1_init_7 : decode cX1_init 7 = .ok (.invokestatic 7, 3) := by decide +kernel
theorem dX1_init_10 : decode cX1_init 10 = .ok (.newarray .int, 2) := by decide +kernel
theorem dX1_init_12 : decode cX1_init 12 = .ok (.putfield 13, 3) := by decide +kernel
theorem dX1_init_15 : decode cX1_init 15 = .ok (.aload_n 0, 1) := by decide +kernel
theorem dX1_init_16 : decode cX1_init 16 = .ok (.iload_n 2, 1) := by decide +kernel
theorem dX1_init_17 : decode cX1_init 17 = .ok (.putfield 19, 3) := by decide +kernel
theorem dX1_init_20 : decode cX1_init 20 = .ok (.return_, 1) := by decide +kernel
theorem dX1_get_0 : decode cX1_get 0 = .ok (.iload_n 1, 1) := by decide +kernel
theorem dX1_get_1 : decode cX1_get 1 = .ok (.ifCond .lt 29, 3) := by decide +kernel
theorem dX1_get_4 : decode cX1_get 4 = .ok (.iload_n 1, 1) := by decide +kernel
theorem dX1_get_5 : decode cX1_get 5 = .ok (.aload_n 0, 1) := by decide +kernel
theorem dX1_get_6 : decode cX1_get 6 = .ok (.getfield 23, 3) := by decide +kernel
theorem dX1_get_9 : decode cX1_get 9 = .ok (.if_icmp .ge 21, 3) := by decide +kernel
theorem dX1_get_12 : decode cX1_get 12 = .ok (.iload_n 1, 1) := by decide +kernel
theorem dX1_get_13 : decode cX1_get 13 = .ok (.aload_n 0, 1) := by decide +kernel
theorem dX1_get_14 : decode cX1_get 14 = .ok (.getfield 13, 3) := by decide +kernel
theorem dX1_get_17 : decode cX1_get 17 = .ok (.arraylength, 1) := by decide +kernel
theorem dX1_get_18 : decode cX1_get 18 = .ok (.if_icmp .ge 12, 3) := by decide +kernel
theorem dX1_get_21 : decode cX1_get 21 = .ok (.aload_n 0, 1) := by decide +kernel
theorem dX1_get_22 : decode cX1_get 22 = .ok (.getfield 13, 3) := by decide +kernel
theorem dX1_get_25 : decode cX1_get 25 = .ok (.iload_n 1, 1) := by decide +kernel
theorem dX1_get_26 : decode cX1_get 26 = .ok (.iaload, 1) := by decide +kernel
theorem dX1_get_27 : decode cX1_get 27 = .ok (.goto 4, 3) := by decide +kernel
theorem dX1_get_30 : decode cX1_get 30 = .ok (.iconst 0, 1) := by decide +kernel
theorem dX1_get_31 : decode cX1_get 31 = .ok (.ireturn, 1) := by decide +kernel
theorem dX1_set_0 : decode cX1_set 0 = .ok (.iload_n 1, 1) := by decide +kernel
theorem dX1_set_1 : decode cX1_set 1 = .ok (.ifCond .lt 27, 3) := by decide +kernel
theorem dX1_set_4 : decode cX1_set 4 = .ok (.iload_n 1, 1) := by decide +kernel
theorem dX1_set_5 : decode cX1_set 5 = .ok (.aload_n 0, 1) := by decide +kernel
theorem dX1_set_6 : decode cX1_set 6 = .ok (.getfield 23, 3) := by decide +kernel
theorem dX1_set_9 : decode cX1_set 9 = .ok (.if_icmp .ge 19, 3) := by decide +kernel
theorem dX1_set_12 : decode cX1_set 12 = .ok (.iload_n 1, 1) := by decide +kernel
theorem dX1_set_13 : decode cX1_set 13 = .ok (.aload_n 0, 1) := by decide +kernel
theorem dX1_set_14 : decode cX1_set 14 = .ok (.getfield 13, 3) := by decide +kernel
theorem dX1_set_17 : decode cX1_set 17 = .ok (.arraylength, 1) := by decide +kernel
theorem dX1_set_18 : decode cX1_set 18 = .ok (.if_icmp .ge 10, 3) := by decide +kernel
theorem dX1_set_21 : decode cX1_set 21 = .ok (.aload_n 0, 1) := by decide +kernel
theorem dX1_set_22 : decode cX1_set 22 = .ok (.getfield 13, 3) := by decide +kernel
theorem dX1_set_25 : decode cX1_set 25 = .ok (.iload_n 1, 1) := by decide +kernel
theorem dX1_set_26 : decode cX1_set 26 = .ok (.iload_n 2, 1) := by decide +kernel
theorem dX1_set_27 : decode cX1_set 27 = .ok (.iastore, 1) := by decide +kernel
theorem dX1_set_28 : decode cX1_set 28 = .ok (.return_, 1) := by decide +kernel
theorem dX1_push_0 : decode cX1_push 0 = .ok (.aload_n 0, 1) := by decide +kernel
theorem dX1_push_1 : decode cX1_push 1 = .ok (.getfield 23, 3) := by decide +kernel
theorem dX1_push_4 : decode cX1_push 4 = .ok (.ifCond .lt 14, 3) := by decide +kernel
theorem dX1_push_7 : decode cX1_push 7 = .ok (.aload_n 0, 1) := by decide +kernel
theorem dX1_push_8 : decode cX1_push 8 = .ok (.getfield 23, 3) := by decide +kernel
theorem dX1_push_11 : decode cX1_push 11 = .ok (.aload_n 0, 1) := by decide +kernel
theorem dX1_push_12 : decode cX1_push 12 = .ok (.getfield 19, 3) := by decide +kernel
theorem dX1_push_15 : decode cX1_push 15 = .ok (.if_icmp .lt 4, 3) := by decide +kernel
theorem dX1_push_18 : decode cX1_push 18 = .ok (.return_, 1) := by decide +kernel
theorem dX1_push_19 : decode cX1_push 19 = .ok (.aload_n 0, 1) := by decide +kernel
theorem dX1_push_20 : decode cX1_push 20 = .ok (.getfield 23, 3) := by decide +kernel
theorem dX1_push_23 : decode cX1_push 23 = .ok (.aload_n 0, 1) := by decide +kernel
theorem dX1_push_24 : decode cX1_push 24 = .ok (.getfield 13, 3) := by decide +kernel
theorem dX1_push_27 : decode cX1_push 27 = .ok (.arraylength, 1) := by decide +kernel
theorem dX1_push_28 : decode cX1_push 28 = .ok (.if_icmp .lt 29, 3) := by decide +kernel
theorem dX1_push_31 : decode cX1_push 31 = .ok (.aload_n 0, 1) := by decide +kernel
theorem dX1_push_32 : decode cX1_push 32 = .ok (.aload_n 0, 1) := by decide +kernel
theorem dX1_push_33 : decode cX1_push 33 = .ok (.getfield 13, 3) := by decide +kernel
theorem dX1_push_36 : decode cX1_push 36 = .ok (.aload_n 0, 1) := by decide +kernel
theorem dX1_push_37 : decode cX1_push 37 = .ok (.getfield 19, 3) := by decide +kernel
theorem dX1_push_40 : decode cX1_push 40 = .ok (.iconst 2, 1) := by decide +kernel
theorem dX1_push_41 : decode cX1_push 41 = .ok (.aload_n 0, 1) := by decide +kernel
theorem dX1_push_42 : decode cX1_push 42 = .ok (.getfield 23, 3) := by decide +kernel
theorem dX1_push_45 : decode cX1_push 45 = .ok (.imul, 1) := by decide +kernel
theorem dX1_push_46 : decode cX1_push 46 = .ok (.iconst 1, 1) := by decide +kernel
theorem dX1_push_47 : decode cX1_push 47 = .ok (.iadd, 1) := by decide +kernel
theorem dX1_push_48 : decode cX1_push 48 = .ok (.invokestatic 26, 3) := by decide +kernel
theorem dX1_push_51 : decode cX1_push 51 = .ok (.invokestatic 29, 3) := by decide +kernel
theorem dX1_push_54 : decode cX1_push 54 = .ok (.putfield 13, 3) := by decide +kernel
theorem dX1_push_57 : decode cX1_push 57 = .ok (.aload_n 0, 1) := by decide +kernel
theorem dX1_push_58 : decode cX1_push 58 = .ok (.getfield 23, 3) := by decide +kernel
theorem dX1_push_61 : decode cX1_push 61 = .ok (.aload_n 0, 1) := by decide +kernel
theorem dX1_push_62 : decode cX1_push 62 = .ok (.getfield 13, 3) := by decide +kernel
theorem dX1_push_65 : decode cX1_push 65 = .ok (.arraylength, 1) := by decide +kernel
theorem dX1_push_66 : decode cX1_push 66 = .ok (.if_icmp .ge 23, 3) := by decide +kernel
theorem dX1_push_69 : decode cX1_push 69 = .ok (.aload_n 0, 1) := by decide +kernel
theorem dX1_push_70 : decode cX1_push 70 = .ok (.getfield 13, 3) := by decide +kernel
theorem dX1_push_73 : decode cX1_push 73 = .ok (.aload_n 0, 1) := by decide +kernel
theorem dX1_push_74 : decode cX1_push 74 = .ok (.getfield 23, 3) := by decide +kernel
theorem dX1_push_77 : decode cX1_push 77 = .ok (.iload_n 1, 1) := by decide +kernel
theorem dX1_push_78 : decode cX1_push 78 = .ok (.iastore, 1) := by decide +kernel
theorem dX1_push_79 : decode cX1_push 79 = .ok (.aload_n 0, 1) := by decide +kernel
theorem dX1_push_80 : decode cX1_push 80 = .ok (.dup, 1) := by decide +kernel
theorem dX1_push_81 : decode cX1_push 81 = .ok (.getfield 23, 3) := by decide +kernel
theorem dX1_push_84 : decode cX1_push 84 = .ok (.iconst 1, 1) := by decide +kernel
theorem dX1_push_85 : decode cX1_push 85 = .ok (.iadd, 1) := by decide +kernel
theorem dX1_push_86 : decode cX1_push 86 = .ok (.putfield 23, 3) := by decide +kernel
theorem dX1_push_89 : decode cX1_push 89 = .ok (.return_, 1) := by decide +kernel
theorem dX1_cutTo_0 : decode cX1_cutTo 0 = .ok (.iload_n 1, 1) := by decide +kernel
theorem dX1_cutTo_1 : decode cX1_cutTo 1 = .ok (.ifCond .lt 16, 3) := by decide +kernel
theorem dX1_cutTo_4 : decode cX1_cutTo 4 = .ok (.iload_n 1, 1) := by decide +kernel
theorem dX1_cutTo_5 : decode cX1_cutTo 5 = .ok (.aload_n 0, 1) := by decide +kernel
theorem dX1_cutTo_6 : decode cX1_cutTo 6 = .ok (.getfield 23, 3) := by decide +kernel
theorem dX1_cutTo_9 : decode cX1_cutTo 9 = .ok (.if_icmp .ge 8, 3) := by decide +kernel
theorem dX1_cutTo_12 : decode cX1_cutTo 12 = .ok (.aload_n 0, 1) := by decide +kernel
theorem dX1_cutTo_13 : decode cX1_cutTo 13 = .ok (.iload_n 1, 1) := by decide +kernel
theorem dX1_cutTo_14 : decode cX1_cutTo 14 = .ok (.putfield 23, 3) := by decide +kernel
theorem dX1_cutTo_17 : decode cX1_cutTo 17 = .ok (.return_, 1) := by decide +kernel
theorem dX1_copyFrom_0 : decode cX1_copyFrom 0 = .ok (.aload_n 1, 1) := by decide +kernel
theorem dX1_copyFrom_1 : decode cX1_copyFrom 1 = .ok (.getfield 23, 3) := by decide +kernel
theorem dX1_copyFrom_4 : decode cX1_copyFrom 4 = .ok (.aload_n 0, 1) := by decide +kernel
theorem dX1_copyFrom_5 : decode cX1_copyFrom 5 = .ok (.getfield 13, 3) := by decide +kernel
theorem dX1_copyFrom_8 : decode cX1_copyFrom 8 = .ok (.arraylength, 1) := by decide +kernel
theorem dX1_copyFrom_9 : decode cX1_copyFrom 9 = .ok (.if_icmp .le 20, 3) := by decide +kernel
theorem dX1_copyFrom_12 : decode cX1_copyFrom 12 = .ok (.aload_n 0, 1) := by decide +kernel
theorem dX1_copyFrom_13 : decode cX1_copyFrom 13 = .ok (.aload_n 1, 1) := by decide +kernel
theorem dX1_copyFrom_14 : decode cX1_copyFrom 14 = .ok (.getfield 13, 3) := by decide +kernel
theorem dX1_copyFrom_17 : decode cX1_copyFrom 17 = .ok (.invokevirtual 35, 3) := by decide +kernel
theorem dX1_copyFrom_20 : decode cX1_copyFrom 20 = .ok (.checkcast 36, 3) := by decide +kernel
theorem dX1_copyFrom_23 : decode cX1_copyFrom 23 = .ok (.putfield 13, 3) := by decide +kernel
theorem dX1_copyFrom_26 : decode cX1_copyFrom 26 = .ok (.goto 39, 3) := by decide +kernel
theorem dX1_copyFrom_29 : decode cX1_copyFrom 29 = .ok (.aload_n 1, 1) := by decide +kernel
theorem dX1_copyFrom_30 : decode cX1_copyFrom 30 = .ok (.getfield 23, 3) := by decide +kernel
theorem dX1_copyFrom_33 : decode cX1_copyFrom 33 = .ok (.ifCond .lt 32, 3) := by decide +kernel
theorem dX1_copyFrom_36 : decode cX1_copyFrom 36 = .ok (.aload_n 1, 1) := by decide +kernel
theorem dX1_copyFrom_37 : decode cX1_copyFrom 37 = .ok (.getfield 23, 3) := by decide +kernel
theorem dX1_copyFrom_40 : decode cX1_copyFrom 40 = .ok (.aload_n 1, 1) := by decide +kernel
theorem dX1_copyFrom_41 : decode cX1_copyFrom 41 = .ok (.getfield 13, 3) := by decide +kernel
theorem dX1_copyFrom_44 : decode cX1_copyFrom 44 = .ok (.arraylength, 1) := by decide +kernel
theorem dX1_copyFrom_45 : decode cX1_copyFrom 45 = .ok (.if_icmp .gt 20, 3) := by decide +kernel
theorem dX1_copyFrom_48 : decode cX1_copyFrom 48 = .ok (.aload_n 1, 1) := by decide +kernel
theorem dX1_copyFrom_49 : decode cX1_copyFrom 49 = .ok (.getfield 13, 3) := by decide +kernel
theorem dX1_copyFrom_52 : decode cX1_copyFrom 52 = .ok (.iconst 0, 1) := by decide +kernel
theorem dX1_copyFrom_53 : decode cX1_copyFrom 53 = .ok (.aload_n 0, 1) := by decide +kernel
theorem dX1_copyFrom_54 : decode cX1_copyFrom 54 = .ok (.getfield 13, 3) := by decide +kernel
theorem dX1_copyFrom_57 : decode cX1_copyFrom 57 = .ok (.iconst 0, 1) := by decide +kernel
theorem dX1_copyFrom_58 : decode cX1_copyFrom 58 = .ok (.aload_n 1, 1) := by decide +kernel
theorem dX1_copyFrom_59 : decode cX1_copyFrom 59 = .ok (.getfield 23, 3) := by decide +kernel
theorem dX1_copyFrom_62 : decode cX1_copyFrom 62 = .ok (.invokestatic 40, 3) := by decide +kernel
theorem dX1_copyFrom_65 : decode cX1_copyFrom 65 = .ok (.aload_n 0, 1) := by decide +kernel
theorem dX1_copyFrom_66 : decode cX1_copyFrom 66 = .ok (.aload_n 1, 1) := by decide +kernel
theorem dX1_copyFrom_67 : decode cX1_copyFrom 67 = .ok (.getfield 23, 3) := by decide +kernel
theorem dX1_copyFrom_70 : decode cX1_copyFrom 70 = .ok (.putfield 23, 3) := by decide +kernel
theorem dX1_copyFrom_73 : decode cX1_copyFrom 73 = .ok (.return_, 1) := by decide +kernel
theorem dX3_init_0 : decode cX3_init 0 = .ok (.aload_n 0, 1) := by decide +kernel
theorem dX3_init_1 : decode cX3_init 1 = .ok (.invokespecial 1, 3) := by decide +kernel
theorem dX3_init_4 : decode cX3_init 4 = .ok (.return_, 1) := by decide +kernel
theorem dX3_copyFrom_0 : decode cX3_copyFrom 0 = .ok (.aload_n 0, 1) := by decide +kernel
theorem dX3_copyFrom_1 : decode cX3_copyFrom 1 = .ok (.aload_n 1, 1) := by decide +kernel
theorem dX3_copyFrom_2 : decode cX3_copyFrom 2 = .ok (.getfield 7, 3) := by decide +kernel
theorem dX3_copyFrom_5 : decode cX3_copyFrom 5 = .ok (.putfield 7, 3) := by decide +kernel
theorem dX3_copyFrom_8 : decode cX3_copyFrom 8 = .ok (.aload_n 0, 1) := by decide +kernel
theorem dX3_copyFrom_9 : decode cX3_copyFrom 9 = .ok (.aload_n 1, 1) := by decide +kernel
theorem dX3_copyFrom_10 : decode cX3_copyFrom 10 = .ok (.getfield 13, 3) := by decide +kernel
theorem dX3_copyFrom_13 : decode cX3_copyFrom 13 = .ok (.putfield 13, 3) := by decide +kernel
theorem dX3_copyFrom_16 : decode cX3_copyFrom 16 = .ok (.aload_n 0, 1) := by decide +kernel
theorem dX3_copyFrom_17 : decode cX3_copyFrom 17 = .ok (.aload_n 1, 1) := by decide +kernel
theorem dX3_copyFrom_18 : decode cX3_copyFrom 18 = .ok (.getfield 16, 3) := by decide +kernel
theorem dX3_copyFrom_21 : decode cX3_copyFrom 21 = .ok (.putfield 16, 3) := by decide +kernel
theorem dX3_copyFrom_24 : decode cX3_copyFrom 24 = .ok (.aload_n 0, 1) := by decide +kernel
theorem dX3_copyFrom_25 : decode cX3_copyFrom 25 = .ok (.aload_n 1, 1) := by decide +kernel
theorem dX3_copyFrom_26 : decode cX3_copyFrom 26 = .ok (.getfield 19, 3) := by decide +kernel
theorem dX3_copyFrom_29 : decode cX3_copyFrom 29 = .ok (.putfield 19, 3) := by decide +kernel
theorem dX3_copyFrom_32 : decode cX3_copyFrom 32 = .ok (.aload_n 0, 1) := by decide +kernel
theorem dX3_copyFrom_33 : decode cX3_copyFrom 33 = .ok (.aload_n 1, 1) := by decide +kernel
theorem dX3_copyFrom_34 : decode cX3_copyFrom 34 = .ok (.getfield 22, 3) := by decide +kernel
theorem dX3_copyFrom_37 : decode cX3_copyFrom 37 = .ok (.putfield 22, 3) := by decide +kernel
theorem dX3_copyFrom_40 : decode cX3_copyFrom 40 = .ok (.return_, 1) := by decide +kernel
theorem dX4_init_0 : decode cX4_init 0 = .ok (.aload_n 0, 1) := by decide +kernel
theorem dX4_init_1 : decode cX4_init 1 = .ok (.invokespecial 3, 3) := by decide +kernel
theorem dX4_init_4 : decode cX4_init 4 = .ok (.aload_n 0, 1) := by decide +kernel
theorem dX4_init_5 : decode cX4_init 5 = .ok (.iconst 5, 1) := by decide +kernel
theorem dX4_init_6 : decode cX4_init 6 = .ok (.anewarray 9, 3) := by decide +kernel
theorem dX4_init_9 : decode cX4_init 9 = .ok (.putfield 11, 3) := by decide +kernel
theorem dX4_init_12 : decode cX4_init 12 = .ok (.aload_n 0, 1) := by decide +kernel
theorem dX4_init_13 : decode cX4_init 13 = .ok (.new 17, 3) := by decide +kernel
theorem dX4_init_16 : decode cX4_init 16 = .ok (.dup, 1) := by decide +kernel
theorem dX4_init_17 : decode cX4_init 17 = .ok (.bipush 40, 2) := by decide +kernel
theorem dX4_init_19 : decode cX4_init 19 = .ok (.sipush 1024, 3) := by decide +kernel
theorem dX4_init_22 : decode cX4_init 22 = .ok (.invokespecial 19, 3) := by decide +kernel
theorem dX4_init_25 : decode cX4_init 25 = .ok (.putfield 22, 3) := by decide +kernel
theorem dX4_init_28 : decode cX4_init 28 = .ok (.aload_n 0, 1) := by decide +kernel
theorem dX4_init_29 : decode cX4_init 29 = .ok (.new 17, 3) := by decide +kernel
theorem dX4_init_32 : decode cX4_init 32 = .ok (.dup, 1) := by decide +kernel
theorem dX4_init_33 : decode cX4_init 33 = .ok (.bipush 12, 2) := by decide +kernel
theorem dX4_init_35 : decode cX4_init 35 = .ok (.sipush 1024, 3) := by decide +kernel
theorem dX4_init_38 : decode cX4_init 38 = .ok (.invokespecial 19, 3) := by decide +kernel
theorem dX4_init_41 : decode cX4_init 41 = .ok (.putfield 26, 3) := by decide +kernel
theorem dX4_init_44 : decode cX4_init 44 = .ok (.aload_n 0, 1) := by decide +kernel
theorem dX4_init_45 : decode cX4_init 45 = .ok (.new 17, 3) := by decide +kernel
theorem dX4_init_48 : decode cX4_init 48 = .ok (.dup, 1) := by decide +kernel
theorem dX4_init_49 : decode cX4_init 49 = .ok (.iconst 4, 1) := by decide +kernel
theorem dX4_init_50 : decode cX4_init 50 = .ok (.bipush 20, 2) := by decide +kernel
theorem dX4_init_52 : decode cX4_init 52 = .ok (.invokespecial 19, 3) := by decide +kernel
theorem dX4_init_55 : decode cX4_init 55 = .ok (.putfield 29, 3) := by decide +kernel
theorem dX4_init_58 : decode cX4_init 58 = .ok (.aload_n 0, 1) := by decide +kernel
theorem dX4_init_59 : decode cX4_init 59 = .ok (.new 17, 3) := by decide +kernel
theorem dX4_init_62 : decode cX4_init 62 = .ok (.dup, 1) := by decide +kernel
theorem dX4_init_63 : decode cX4_init 63 = .ok (.iconst 4, 1) := by decide +kernel
theorem dX4_init_64 : decode cX4_init 64 = .ok (.bipush 20, 2) := by decide +kernel
theorem dX4_init_66 : decode cX4_init 66 = .ok (.invokespecial 19, 3) := by decide +kernel
theorem dX4_init_69 : decode cX4_init 69 = .ok (.putfield 32, 3) := by decide +kernel
theorem dX4_init_72 : decode cX4_init 72 = .ok (.aload_n 0, 1) := by decide +kernel
theorem dX4_init_73 : decode cX4_init 73 = .ok (.iload_n 1, 1) := by decide +kernel
theorem dX4_init_74 : decode cX4_init 74 = .ok (.putfield 35, 3) := by decide +kernel
theorem dX4_init_77 : decode cX4_init 77 = .ok (.iconst 0, 1) := by decide +kernel
theorem dX4_init_78 : decode cX4_init 78 = .ok (.istore_n 2, 1) := by decide +kernel
theorem dX4_init_79 : decode cX4_init 79 = .ok (.iload_n 2, 1) := by decide +kernel
theorem dX4_init_80 : decode cX4_init 80 = .ok (.aload_n 0, 1) := by decide +kernel
theorem dX4_init_81 : decode cX4_init 81 = .ok (.getfield 11, 3) := by decide +kernel
theorem dX4_init_84 : decode cX4_init 84 = .ok (.arraylength, 1) := by decide +kernel
theorem dX4_init_85 : decode cX4_init 85 = .ok (.if_icmp .ge 22, 3) := by decide +kernel
theorem dX4_init_88 : decode cX4_init 88 = .ok (.aload_n 0, 1) := by decide +kernel
theorem dX4_init_89 : decode cX4_init 89 = .ok (.getfield 11, 3) := by decide +kernel
theorem dX4_init_92 : decode cX4_init 92 = .ok (.iload_n 2, 1) := by decide +kernel
theorem dX4_init_93 : decode cX4_init 93 = .ok (.new 9, 3) := by decide +kernel
theorem dX4_init_96 : decode cX4_init 96 = .ok (.dup, 1) := by decide +kernel
theorem dX4_init_97 : decode cX4_init 97 = .ok (.invokespecial 39, 3) := by decide +kernel
theorem dX4_init_100 : decode cX4_init 100 = .ok (.aastore, 1) := by decide +kernel
theorem dX4_init_101 : decode cX4_init 101 = .ok (.iinc 2 1, 3) := by decide +kernel
theorem dX4_init_104 : decode cX4_init 104 = .ok (.goto (-25), 3) := by decide +kernel
theorem dX4_init_107 : decode cX4_init 107 = .ok (.return_, 1) := by decide +kernel
theorem dX4_clear_0 : decode cX4_clear 0 = .ok (.aload_n 0, 1) := by decide +kernel
theorem dX4_clear_1 : decode cX4_clear 1 = .ok (.iconst 0, 1) := by decide +kernel
theorem dX4_clear_2 : decode cX4_clear 2 = .ok (.putfield 40, 3) := by decide +kernel
theorem dX4_clear_5 : decode cX4_clear 5 = .ok (.aload_n 0, 1) := by decide +kernel
theorem dX4_clear_6 : decode cX4_clear 6 = .ok (.getfield 22, 3) := by decide +kernel
theorem dX4_clear_9 : decode cX4_clear 9 = .ok (.iconst 0, 1) := by decide +kernel
theorem dX4_clear_10 : decode cX4_clear 10 = .ok (.invokevirtual 43, 3) := by decide +kernel
theorem dX4_clear_13 : decode cX4_clear 13 = .ok (.aload_n 0, 1) := by decide +kernel
theorem dX4_clear_14 : decode cX4_clear 14 = .ok (.getfield 26, 3) := by decide +kernel
theorem dX4_clear_17 : decode cX4_clear 17 = .ok (.iconst 0, 1) := by decide +kernel
theorem dX4_clear_18 : decode cX4_clear 18 = .ok (.invokevirtual 43, 3) := by decide +kernel
theorem dX4_clear_21 : decode cX4_clear 21 = .ok (.aload_n 0, 1) := by decide +kernel
theorem dX4_clear_22 : decode cX4_clear 22 = .ok (.iconst 0, 1) := by decide +kernel
theorem dX4_clear_23 : decode cX4_clear 23 = .ok (.invokevirtual 47, 3) := by decide +kernel
theorem dX4_clear_26 : decode cX4_clear 26 = .ok (.aload_n 0, 1) := by decide +kernel
theorem dX4_clear_27 : decode cX4_clear 27 = .ok (.iconst 0, 1) := by decide +kernel
theorem dX4_clear_28 : decode cX4_clear 28 = .ok (.putfield 50, 3) := by decide +kernel
theorem dX4_clear_31 : decode cX4_clear 31 = .ok (.aload_n 0, 1) := by decide +kernel
theorem dX4_clear_32 : decode cX4_clear 32 = .ok (.iconst 0, 1) := by decide +kernel
theorem dX4_clear_33 : decode cX4_clear 33 = .ok (.putfield 53, 3) := by decide +kernel
theorem dX4_clear_36 : decode cX4_clear 36 = .ok (.return_, 1) := by decide +kernel
theorem dX4_copyFrom_0 : decode cX4_copyFrom 0 = .ok (.aload_n 0, 1) := by decide +kernel
theorem dX4_copyFrom_1 : decode cX4_copyFrom 1 = .ok (.aload_n 1, 1) := by decide +kernel
theorem dX4_copyFrom_2 : decode cX4_copyFrom 2 = .ok (.getfield 40, 3) := by decide +kernel
theorem dX4_copyFrom_5 : decode cX4_copyFrom 5 = .ok (.putfield 40, 3) := by decide +kernel
theorem dX4_copyFrom_8 : decode cX4_copyFrom 8 = .ok (.aload_n 0, 1) := by decide +kernel
theorem dX4_copyFrom_9 : decode cX4_copyFrom 9 = .ok (.aload_n 1, 1) := by decide +kernel
theorem dX4_copyFrom_10 : decode cX4_copyFrom 10 = .ok (.getfield 50, 3) := by decide +kernel
theorem dX4_copyFrom_13 : decode cX4_copyFrom 13 = .ok (.putfield 50, 3) := by decide +kernel
theorem dX4_copyFrom_16 : decode cX4_copyFrom 16 = .ok (.aload_n 0, 1) := by decide +kernel
theorem dX4_copyFrom_17 : decode cX4_copyFrom 17 = .ok (.aload_n 1, 1) := by decide +kernel
theorem dX4_copyFrom_18 : decode cX4_copyFrom 18 = .ok (.getfield 53, 3) := by decide +kernel
theorem dX4_copyFrom_21 : decode cX4_copyFrom 21 = .ok (.putfield 53, 3) := by decide +kernel
theorem dX4_copyFrom_24 : decode cX4_copyFrom 24 = .ok (.aload_n 0, 1) := by decide +kernel
theorem dX4_copyFrom_25 : decode cX4_copyFrom 25 = .ok (.getfield 22, 3) := by decide +kernel
theorem dX4_copyFrom_28 : decode cX4_copyFrom 28 = .ok (.aload_n 1, 1) := by decide +kernel
theorem dX4_copyFrom_29 : decode cX4_copyFrom 29 = .ok (.getfield 22, 3) := by decide +kernel
theorem dX4_copyFrom_32 : decode cX4_copyFrom 32 = .ok (.invokevirtual 56, 3) := by decide +kernel
theorem dX4_copyFrom_35 : decode cX4_copyFrom 35 = .ok (.aload_n 0, 1) := by decide +kernel
theorem dX4_copyFrom_36 : decode cX4_copyFrom 36 = .ok (.getfield 26, 3) := by decide +kernel
theorem dX4_copyFrom_39 : decode cX4_copyFrom 39 = .ok (.aload_n 1, 1) := by decide +kernel
theorem dX4_copyFrom_40 : decode cX4_copyFrom 40 = .ok (.getfield 26, 3) := by decide +kernel
theorem dX4_copyFrom_43 : decode cX4_copyFrom 43 = .ok (.invokevirtual 56, 3) := by decide +kernel
theorem dX4_copyFrom_46 : decode cX4_copyFrom 46 = .ok (.aload_n 0, 1) := by decide +kernel
theorem dX4_copyFrom_47 : decode cX4_copyFrom 47 = .ok (.getfield 29, 3) := by decide +kernel
theorem dX4_copyFrom_50 : decode cX4_copyFrom 50 = .ok (.aload_n 1, 1) := by decide +kernel
theorem dX4_copyFrom_51 : decode cX4_copyFrom 51 = .ok (.getfield 29, 3) := by decide +kernel
theorem dX4_copyFrom_54 : decode cX4_copyFrom 54 = .ok (.invokevirtual 56, 3) := by decide +kernel
theorem dX4_copyFrom_57 : decode cX4_copyFrom 57 = .ok (.aload_n 0, 1) := by decide +kernel
theorem dX4_copyFrom_58 : decode cX4_copyFrom 58 = .ok (.getfield 32, 3) := by decide +kernel
theorem dX4_copyFrom_61 : decode cX4_copyFrom 61 = .ok (.aload_n 1, 1) := by decide +kernel
theorem dX4_copyFrom_62 : decode cX4_copyFrom 62 = .ok (.getfield 32, 3) := by decide +kernel
theorem dX4_copyFrom_65 : decode cX4_copyFrom 65 = .ok (.invokevirtual 56, 3) := by decide +kernel
theorem dX4_copyFrom_68 : decode cX4_copyFrom 68 = .ok (.iconst 0, 1) := by decide +kernel
theorem dX4_copyFrom_69 : decode cX4_copyFrom 69 = .ok (.istore_n 2, 1) := by decide +kernel
theorem dX4_copyFrom_70 : decode cX4_copyFrom 70 = .ok (.iload_n 2, 1) := by decide +kernel
theorem dX4_copyFrom_71 : decode cX4_copyFrom 71 = .ok (.aload_n 0, 1) := by decide +kernel
theorem dX4_copyFrom_72 : decode cX4_copyFrom 72 = .ok (.getfield 11, 3) := by decide +kernel
theorem dX4_copyFrom_75 : decode cX4_copyFrom 75 = .ok (.arraylength, 1) := by decide +kernel
theorem dX4_copyFrom_76 : decode cX4_copyFrom 76 = .ok (.if_icmp .ge 38, 3) := by decide +kernel
theorem dX4_copyFrom_79 : decode cX4_copyFrom 79 = .ok (.aload_n 1, 1) := by decide +kernel
theorem dX4_copyFrom_80 : decode cX4_copyFrom 80 = .ok (.iload_n 2, 1) := by decide +kernel
theorem dX4_copyFrom_81 : decode cX4_copyFrom 81 = .ok (.invokevirtual 60, 3) := by decide +kernel
theorem dX4_copyFrom_84 : decode cX4_copyFrom 84 = .ok (.astore_n 3, 1) := by decide +kernel
theorem dX4_copyFrom_85 : decode cX4_copyFrom 85 = .ok (.aload_n 0, 1) := by decide +kernel
theorem dX4_copyFrom_86 : decode cX4_copyFrom 86 = .ok (.getfield 11, 3) := by decide +kernel
theorem dX4_copyFrom_89 : decode cX4_copyFrom 89 = .ok (.iload_n 2, 1) := by decide +kernel
theorem dX4_copyFrom_90 : decode cX4_copyFrom 90 = .ok (.aaload, 1) := by decide +kernel
theorem dX4_copyFrom_91 : decode cX4_copyFrom 91 = .ok (.astore 4, 2) := by decide +kernel
theorem dX4_copyFrom_93 : decode cX4_copyFrom 93 = .ok (.aload_n 3, 1) := by decide +kernel
theorem dX4_copyFrom_94 : decode cX4_copyFrom 94 = .ok (.ifnull 14, 3) := by decide +kernel
theorem dX4_copyFrom_97 : decode cX4_copyFrom 97 = .ok (.aload 4, 2) := by decide +kernel
theorem dX4_copyFrom_99 : decode cX4_copyFrom 99 = .ok (.ifnull 9, 3) := by decide +kernel
theorem dX4_copyFrom_102 : decode cX4_copyFrom 102 = .ok (.aload 4, 2) := by decide +kernel
theorem dX4_copyFrom_104 : decode cX4_copyFrom 104 = .ok (.aload_n 3, 1) := by decide +kernel
theorem dX4_copyFrom_105 : decode cX4_copyFrom 105 = .ok (.invokevirtual 64, 3) := by decide +kernel
theorem dX4_copyFrom_108 : decode cX4_copyFrom 108 = .ok (.iinc 2 1, 3) := by decide +kernel
theorem dX4_copyFrom_111 : decode cX4_copyFrom 111 = .ok (.goto (-41), 3) := by decide +kernel
theorem dX4_copyFrom_114 : decode cX4_copyFrom 114 = .ok (.return_, 1) := by decide +kernel
theorem dX4_workAt_0 : decode cX4_workAt 0 = .ok (.iload_n 1, 1) := by decide +kernel
theorem dX4_workAt_1 : decode cX4_workAt 1 = .ok (.ifCond .lt 29, 3) := by decide +kernel
theorem dX4_workAt_4 : decode cX4_workAt 4 = .ok (.iload_n 1, 1) := by decide +kernel
theorem dX4_workAt_5 : decode cX4_workAt 5 = .ok (.aload_n 0, 1) := by decide +kernel
theorem dX4_workAt_6 : decode cX4_workAt 6 = .ok (.getfield 40, 3) := by decide +kernel
theorem dX4_workAt_9 : decode cX4_workAt 9 = .ok (.if_icmp .ge 21, 3) := by decide +kernel
theorem dX4_workAt_12 : decode cX4_workAt 12 = .ok (.iload_n 1, 1) := by decide +kernel
theorem dX4_workAt_13 : decode cX4_workAt 13 = .ok (.aload_n 0, 1) := by decide +kernel
theorem dX4_workAt_14 : decode cX4_workAt 14 = .ok (.getfield 11, 3) := by decide +kernel
theorem dX4_workAt_17 : decode cX4_workAt 17 = .ok (.arraylength, 1) := by decide +kernel
theorem dX4_workAt_18 : decode cX4_workAt 18 = .ok (.if_icmp .ge 12, 3) := by decide +kernel
theorem dX4_workAt_21 : decode cX4_workAt 21 = .ok (.aload_n 0, 1) := by decide +kernel
theorem dX4_workAt_22 : decode cX4_workAt 22 = .ok (.getfield 11, 3) := by decide +kernel
theorem dX4_workAt_25 : decode cX4_workAt 25 = .ok (.iload_n 1, 1) := by decide +kernel
theorem dX4_workAt_26 : decode cX4_workAt 26 = .ok (.aaload, 1) := by decide +kernel
theorem dX4_workAt_27 : decode cX4_workAt 27 = .ok (.goto 4, 3) := by decide +kernel
theorem dX4_workAt_30 : decode cX4_workAt 30 = .ok (.aconst_null, 1) := by decide +kernel
theorem dX4_workAt_31 : decode cX4_workAt 31 = .ok (.areturn, 1) := by decide +kernel
theorem dX4_innermost_0 : decode cX4_innermost 0 = .ok (.aload_n 0, 1) := by decide +kernel
theorem dX4_innermost_1 : decode cX4_innermost 1 = .ok (.getfield 40, 3) := by decide +kernel
theorem dX4_innermost_4 : decode cX4_innermost 4 = .ok (.ifCond .le 29, 3) := by decide +kernel
theorem dX4_innermost_7 : decode cX4_innermost 7 = .ok (.aload_n 0, 1) := by decide +kernel
theorem dX4_innermost_8 : decode cX4_innermost 8 = .ok (.getfield 40, 3) := by decide +kernel
theorem dX4_innermost_11 : decode cX4_innermost 11 = .ok (.aload_n 0, 1) := by decide +kernel
theorem dX4_innermost_12 : decode cX4_innermost 12 = .ok (.getfield 11, 3) := by decide +kernel
theorem dX4_innermost_15 : decode cX4_innermost 15 = .ok (.arraylength, 1) := by decide +kernel
theorem dX4_innermost_16 : decode cX4_innermost 16 = .ok (.if_icmp .gt 17, 3) := by decide +kernel
theorem dX4_innermost_19 : decode cX4_innermost 19 = .ok (.aload_n 0, 1) := by decide +kernel
theorem dX4_innermost_20 : decode cX4_innermost 20 = .ok (.getfield 11, 3) := by decide +kernel
theorem dX4_innermost_23 : decode cX4_innermost 23 = .ok (.aload_n 0, 1) := by decide +kernel
theorem dX4_innermost_24 : decode cX4_innermost 24 = .ok (.getfield 40, 3) := by decide +kernel
theorem dX4_innermost_27 : decode cX4_innermost 27 = .ok (.iconst 1, 1) := by decide +kernel
theorem dX4_innermost_28 : decode cX4_innermost 28 = .ok (.isub, 1) := by decide +kernel
theorem dX4_innermost_29 : decode cX4_innermost 29 = .ok (.aaload, 1) := by decide +kernel
theorem dX4_innermost_30 : decode cX4_innermost 30 = .ok (.goto 4, 3) := by decide +kernel
theorem dX4_innermost_33 : decode cX4_innermost 33 = .ok (.aconst_null, 1) := by decide +kernel
theorem dX4_innermost_34 : decode cX4_innermost 34 = .ok (.areturn, 1) := by decide +kernel
theorem dX4_isSpoiled_0 : decode cX4_isSpoiled 0 = .ok (.aload_n 0, 1) := by decide +kernel
theorem dX4_isSpoiled_1 : decode cX4_isSpoiled 1 = .ok (.invokevirtual 67, 3) := by decide +kernel
theorem dX4_isSpoiled_4 : decode cX4_isSpoiled 4 = .ok (.astore_n 1, 1) := by decide +kernel
theorem dX4_isSpoiled_5 : decode cX4_isSpoiled 5 = .ok (.aload_n 1, 1) := by decide +kernel
theorem dX4_isSpoiled_6 : decode cX4_isSpoiled 6 = .ok (.ifnull 14, 3) := by decide +kernel
theorem dX4_isSpoiled_9 : decode cX4_isSpoiled 9 = .ok (.aload_n 1, 1) := by decide +kernel
theorem dX4_isSpoiled_10 : decode cX4_isSpoiled 10 = .ok (.getfield 71, 3) := by decide +kernel
theorem dX4_isSpoiled_13 : decode cX4_isSpoiled 13 = .ok (.ifCond .eq 7, 3) := by decide +kernel
theorem dX4_isSpoiled_16 : decode cX4_isSpoiled 16 = .ok (.iconst 1, 1) := by decide +kernel
theorem dX4_isSpoiled_17 : decode cX4_isSpoiled 17 = .ok (.goto 4, 3) := by decide +kernel
theorem dX4_isSpoiled_20 : decode cX4_isSpoiled 20 = .ok (.iconst 0, 1) := by decide +kernel
theorem dX4_isSpoiled_21 : decode cX4_isSpoiled 21 = .ok (.ireturn, 1) := by decide +kernel
theorem dX4_isReady_0 : decode cX4_isReady 0 = .ok (.aload_n 0, 1) := by decide +kernel
theorem dX4_isReady_1 : decode cX4_isReady 1 = .ok (.getfield 40, 3) := by decide +kernel
theorem dX4_isReady_4 : decode cX4_isReady 4 = .ok (.ifCond .le 14, 3) := by decide +kernel
theorem dX4_isReady_7 : decode cX4_isReady 7 = .ok (.aload_n 0, 1) := by decide +kernel
theorem dX4_isReady_8 : decode cX4_isReady 8 = .ok (.invokevirtual 75, 3) := by decide +kernel
theorem dX4_isReady_11 : decode cX4_isReady 11 = .ok (.ifCond .ne 7, 3) := by decide +kernel
theorem dX4_isReady_14 : decode cX4_isReady 14 = .ok (.iconst 1, 1) := by decide +kernel
theorem dX4_isReady_15 : decode cX4_isReady 15 = .ok (.goto 4, 3) := by decide +kernel
theorem dX4_isReady_18 : decode cX4_isReady 18 = .ok (.iconst 0, 1) := by decide +kernel
theorem dX4_isReady_19 : decode cX4_isReady 19 = .ok (.ireturn, 1) := by decide +kernel
theorem dX4_countPoints_0 : decode cX4_countPoints 0 = .ok (.aload_n 0, 1) := by decide +kernel
theorem dX4_countPoints_1 : decode cX4_countPoints 1 = .ok (.iload_n 1, 1) := by decide +kernel
theorem dX4_countPoints_2 : decode cX4_countPoints 2 = .ok (.invokevirtual 60, 3) := by decide +kernel
theorem dX4_countPoints_5 : decode cX4_countPoints 5 = .ok (.astore_n 2, 1) := by decide +kernel
theorem dX4_countPoints_6 : decode cX4_countPoints 6 = .ok (.aload_n 0, 1) := by decide +kernel
theorem dX4_countPoints_7 : decode cX4_countPoints 7 = .ok (.iload_n 1, 1) := by decide +kernel
theorem dX4_countPoints_8 : decode cX4_countPoints 8 = .ok (.iconst 1, 1) := by decide +kernel
theorem dX4_countPoints_9 : decode cX4_countPoints 9 = .ok (.iadd, 1) := by decide +kernel
theorem dX4_countPoints_10 : decode cX4_countPoints 10 = .ok (.invokevirtual 60, 3) := by decide +kernel
theorem dX4_countPoints_13 : decode cX4_countPoints 13 = .ok (.astore_n 3, 1) := by decide +kernel
theorem dX4_countPoints_14 : decode cX4_countPoints 14 = .ok (.aload_n 3, 1) := by decide +kernel
theorem dX4_countPoints_15 : decode cX4_countPoints 15 = .ok (.ifnonnull 13, 3) := by decide +kernel
theorem dX4_countPoints_18 : decode cX4_countPoints 18 = .ok (.aload_n 0, 1) := by decide +kernel
theorem dX4_countPoints_19 : decode cX4_countPoints 19 = .ok (.getfield 29, 3) := by decide +kernel
theorem dX4_countPoints_22 : decode cX4_countPoints 22 = .ok (.getfield 79, 3) := by decide +kernel
theorem dX4_countPoints_25 : decode cX4_countPoints 25 = .ok (.goto 7, 3) := by decide +kernel
theorem dX4_countPoints_28 : decode cX4_countPoints 28 = .ok (.aload_n 3, 1) := by decide +kernel
theorem dX4_countPoints_29 : decode cX4_countPoints 29 = .ok (.getfield 82, 3) := by decide +kernel
theorem dX4_countPoints_32 : decode cX4_countPoints 32 = .ok (.istore 4, 2) := by decide +kernel
theorem dX4_countPoints_34 : decode cX4_countPoints 34 = .ok (.aload_n 2, 1) := by decide +kernel
theorem dX4_countPoints_35 : decode cX4_countPoints 35 = .ok (.ifnonnull 7, 3) := by decide +kernel
theorem dX4_countPoints_38 : decode cX4_countPoints 38 = .ok (.iconst 0, 1) := by decide +kernel
theorem dX4_countPoints_39 : decode cX4_countPoints 39 = .ok (.goto 10, 3) := by decide +kernel
theorem dX4_countPoints_42 : decode cX4_countPoints 42 = .ok (.iload 4, 2) := by decide +kernel
theorem dX4_countPoints_44 : decode cX4_countPoints 44 = .ok (.aload_n 2, 1) := by decide +kernel
theorem dX4_countPoints_45 : decode cX4_countPoints 45 = .ok (.getfield 82, 3) := by decide +kernel
theorem dX4_countPoints_48 : decode cX4_countPoints 48 = .ok (.isub, 1) := by decide +kernel
theorem dX4_countPoints_49 : decode cX4_countPoints 49 = .ok (.ireturn, 1) := by decide +kernel
theorem dX4_countRegrets_0 : decode cX4_countRegrets 0 = .ok (.aload_n 0, 1) := by decide +kernel
theorem dX4_countRegrets_1 : decode cX4_countRegrets 1 = .ok (.iload_n 1, 1) := by decide +kernel
theorem dX4_countRegrets_2 : decode cX4_countRegrets 2 = .ok (.invokevirtual 60, 3) := by decide +kernel
theorem dX4_countRegrets_5 : decode cX4_countRegrets 5 = .ok (.astore_n 2, 1) := by decide +kernel
theorem dX4_countRegrets_6 : decode cX4_countRegrets 6 = .ok (.aload_n 0, 1) := by decide +kernel
theorem dX4_countRegrets_7 : decode cX4_countRegrets 7 = .ok (.iload_n 1, 1) := by decide +kernel
theorem dX4_countRegrets_8 : decode cX4_countRegrets 8 = .ok (.iconst 1, 1) := by decide +kernel
theorem dX4_countRegrets_9 : decode cX4_countRegrets 9 = .ok (.iadd, 1) := by decide +kernel
theorem dX4_countRegrets_10 : decode cX4_countRegrets 10 = .ok (.invokevirtual 60, 3) := by decide +kernel
theorem dX4_countRegrets_13 : decode cX4_countRegrets 13 = .ok (.astore_n 3, 1) := by decide +kernel
theorem dX4_countRegrets_14 : decode cX4_countRegrets 14 = .ok (.aload_n 3, 1) := by decide +kernel
theorem dX4_countRegrets_15 : decode cX4_countRegrets 15 = .ok (.ifnonnull 13, 3) := by decide +kernel
theorem dX4_countRegrets_18 : decode cX4_countRegrets 18 = .ok (.aload_n 0, 1) := by decide +kernel
theorem dX4_countRegrets_19 : decode cX4_countRegrets 19 = .ok (.getfield 26, 3) := by decide +kernel
theorem dX4_countRegrets_22 : decode cX4_countRegrets 22 = .ok (.getfield 79, 3) := by decide +kernel
theorem dX4_countRegrets_25 : decode cX4_countRegrets 25 = .ok (.goto 7, 3) := by decide +kernel
theorem dX4_countRegrets_28 : decode cX4_countRegrets 28 = .ok (.aload_n 3, 1) := by decide +kernel
theorem dX4_countRegrets_29 : decode cX4_countRegrets 29 = .ok (.getfield 85, 3) := by decide +kernel
theorem dX4_countRegrets_32 : decode cX4_countRegrets 32 = .ok (.istore 4, 2) := by decide +kernel
theorem dX4_countRegrets_34 : decode cX4_countRegrets 34 = .ok (.aload_n 2, 1) := by decide +kernel
theorem dX4_countRegrets_35 : decode cX4_countRegrets 35 = .ok (.ifnonnull 7, 3) := by decide +kernel
theorem dX4_countRegrets_38 : decode cX4_countRegrets 38 = .ok (.iconst 0, 1) := by decide +kernel
theorem dX4_countRegrets_39 : decode cX4_countRegrets 39 = .ok (.goto 10, 3) := by decide +kernel
theorem dX4_countRegrets_42 : decode cX4_countRegrets 42 = .ok (.iload 4, 2) := by decide +kernel
theorem dX4_countRegrets_44 : decode cX4_countRegrets 44 = .ok (.aload_n 2, 1) := by decide +kernel
theorem dX4_countRegrets_45 : decode cX4_countRegrets 45 = .ok (.getfield 85, 3) := by decide +kernel
theorem dX4_countRegrets_48 : decode cX4_countRegrets 48 = .ok (.isub, 1) := by decide +kernel
theorem dX4_countRegrets_49 : decode cX4_countRegrets 49 = .ok (.ireturn, 1) := by decide +kernel
theorem dX4_hasPoint_0 : decode cX4_hasPoint 0 = .ok (.iload_n 1, 1) := by decide +kernel
theorem dX4_hasPoint_1 : decode cX4_hasPoint 1 = .ok (.ifCond .lt 21, 3) := by decide +kernel
theorem dX4_hasPoint_4 : decode cX4_hasPoint 4 = .ok (.iload_n 1, 1) := by decide +kernel
theorem dX4_hasPoint_5 : decode cX4_hasPoint 5 = .ok (.aload_n 0, 1) := by decide +kernel
theorem dX4_hasPoint_6 : decode cX4_hasPoint 6 = .ok (.aload_n 0, 1) := by decide +kernel
theorem dX4_hasPoint_7 : decode cX4_hasPoint 7 = .ok (.getfield 40, 3) := by decide +kernel
theorem dX4_hasPoint_10 : decode cX4_hasPoint 10 = .ok (.iconst 1, 1) := by decide +kernel
theorem dX4_hasPoint_11 : decode cX4_hasPoint 11 = .ok (.isub, 1) := by decide +kernel
theorem dX4_hasPoint_12 : decode cX4_hasPoint 12 = .ok (.invokevirtual 88, 3) := by decide +kernel
theorem dX4_hasPoint_15 : decode cX4_hasPoint 15 = .ok (.if_icmp .ge 7, 3) := by decide +kernel
theorem dX4_hasPoint_18 : decode cX4_hasPoint 18 = .ok (.iconst 1, 1) := by decide +kernel
theorem dX4_hasPoint_19 : decode cX4_hasPoint 19 = .ok (.goto 4, 3) := by decide +kernel
theorem dX4_hasPoint_22 : decode cX4_hasPoint 22 = .ok (.iconst 0, 1) := by decide +kernel
theorem dX4_hasPoint_23 : decode cX4_hasPoint 23 = .ok (.ireturn, 1) := by decide +kernel
theorem dX4_cutPoints_0 : decode cX4_cutPoints 0 = .ok (.aload_n 0, 1) := by decide +kernel
theorem dX4_cutPoints_1 : decode cX4_cutPoints 1 = .ok (.getfield 29, 3) := by decide +kernel
theorem dX4_cutPoints_4 : decode cX4_cutPoints 4 = .ok (.iload_n 1, 1) := by decide +kernel
theorem dX4_cutPoints_5 : decode cX4_cutPoints 5 = .ok (.invokevirtual 43, 3) := by decide +kernel
theorem dX4_cutPoints_8 : decode cX4_cutPoints 8 = .ok (.aload_n 0, 1) := by decide +kernel
theorem dX4_cutPoints_9 : decode cX4_cutPoints 9 = .ok (.getfield 32, 3) := by decide +kernel
theorem dX4_cutPoints_12 : decode cX4_cutPoints 12 = .ok (.iload_n 1, 1) := by decide +kernel
theorem dX4_cutPoints_13 : decode cX4_cutPoints 13 = .ok (.invokevirtual 43, 3) := by decide +kernel
theorem dX4_cutPoints_16 : decode cX4_cutPoints 16 = .ok (.return_, 1) := by decide +kernel
theorem dX4_startWork_0 : decode cX4_startWork 0 = .ok (.aload_n 0, 1) := by decide +kernel
theorem dX4_startWork_1 : decode cX4_startWork 1 = .ok (.getfield 40, 3) := by decide +kernel
theorem dX4_startWork_4 : decode cX4_startWork 4 = .ok (.ifCond .lt 82, 3) := by decide +kernel
theorem dX4_startWork_7 : decode cX4_startWork 7 = .ok (.aload_n 0, 1) := by decide +kernel
theorem dX4_startWork_8 : decode cX4_startWork 8 = .ok (.getfield 40, 3) := by decide +kernel
theorem dX4_startWork_11 : decode cX4_startWork 11 = .ok (.aload_n 0, 1) := by decide +kernel
theorem dX4_startWork_12 : decode cX4_startWork 12 = .ok (.getfield 11, 3) := by decide +kernel
theorem dX4_startWork_15 : decode cX4_startWork 15 = .ok (.arraylength, 1) := by decide +kernel
theorem dX4_startWork_16 : decode cX4_startWork 16 = .ok (.if_icmp .ge 70, 3) := by decide +kernel
theorem dX4_startWork_19 : decode cX4_startWork 19 = .ok (.aload_n 0, 1) := by decide +kernel
theorem dX4_startWork_20 : decode cX4_startWork 20 = .ok (.getfield 11, 3) := by decide +kernel
theorem dX4_startWork_23 : decode cX4_startWork 23 = .ok (.aload_n 0, 1) := by decide +kernel
theorem dX4_startWork_24 : decode cX4_startWork 24 = .ok (.getfield 40, 3) := by decide +kernel
theorem dX4_startWork_27 : decode cX4_startWork 27 = .ok (.aaload, 1) := by decide +kernel
theorem dX4_startWork_28 : decode cX4_startWork 28 = .ok (.astore_n 1, 1) := by decide +kernel
theorem dX4_startWork_29 : decode cX4_startWork 29 = .ok (.aload_n 1, 1) := by decide +kernel
theorem dX4_startWork_30 : decode cX4_startWork 30 = .ok (.ifnull 56, 3) := by decide +kernel
theorem dX4_startWork_33 : decode cX4_startWork 33 = .ok (.aload_n 1, 1) := by decide +kernel
theorem dX4_startWork_34 : decode cX4_startWork 34 = .ok (.aload_n 0, 1) := by decide +kernel
theorem dX4_startWork_35 : decode cX4_startWork 35 = .ok (.getfield 22, 3) := by decide +kernel
theorem dX4_startWork_38 : decode cX4_startWork 38 = .ok (.getfield 79, 3) := by decide +kernel
theorem dX4_startWork_41 : decode cX4_startWork 41 = .ok (.putfield 92, 3) := by decide +kernel
theorem dX4_startWork_44 : decode cX4_startWork 44 = .ok (.aload_n 1, 1) := by decide +kernel
theorem dX4_startWork_45 : decode cX4_startWork 45 = .ok (.aload_n 0, 1) := by decide +kernel
theorem dX4_startWork_46 : decode cX4_startWork 46 = .ok (.getfield 26, 3) := by decide +kernel
theorem dX4_startWork_49 : decode cX4_startWork 49 = .ok (.getfield 79, 3) := by decide +kernel
theorem dX4_startWork_52 : decode cX4_startWork 52 = .ok (.putfield 85, 3) := by decide +kernel
theorem dX4_startWork_55 : decode cX4_startWork 55 = .ok (.aload_n 1, 1) := by decide +kernel
theorem dX4_startWork_56 : decode cX4_startWork 56 = .ok (.aload_n 0, 1) := by decide +kernel
theorem dX4_startWork_57 : decode cX4_startWork 57 = .ok (.getfield 29, 3) := by decide +kernel
theorem dX4_startWork_60 : decode cX4_startWork 60 = .ok (.getfield 79, 3) := by decide +kernel
theorem dX4_startWork_63 : decode cX4_startWork 63 = .ok (.putfield 82, 3) := by decide +kernel
theorem dX4_startWork_66 : decode cX4_startWork 66 = .ok (.aload_n 1, 1) := by decide +kernel
theorem dX4_startWork_67 : decode cX4_startWork 67 = .ok (.iconst 0, 1) := by decide +kernel
theorem dX4_startWork_68 : decode cX4_startWork 68 = .ok (.putfield 95, 3) := by decide +kernel
theorem dX4_startWork_71 : decode cX4_startWork 71 = .ok (.aload_n 1, 1) := by decide +kernel
theorem dX4_startWork_72 : decode cX4_startWork 72 = .ok (.iconst 0, 1) := by decide +kernel
theorem dX4_startWork_73 : decode cX4_startWork 73 = .ok (.putfield 71, 3) := by decide +kernel
theorem dX4_startWork_76 : decode cX4_startWork 76 = .ok (.aload_n 0, 1) := by decide +kernel
theorem dX4_startWork_77 : decode cX4_startWork 77 = .ok (.dup, 1) := by decide +kernel
theorem dX4_startWork_78 : decode cX4_startWork 78 = .ok (.getfield 40, 3) := by decide +kernel
theorem dX4_startWork_81 : decode cX4_startWork 81 = .ok (.iconst 1, 1) := by decide +kernel
theorem dX4_startWork_82 : decode cX4_startWork 82 = .ok (.iadd, 1) := by decide +kernel
theorem dX4_startWork_83 : decode cX4_startWork 83 = .ok (.putfield 40, 3) := by decide +kernel
theorem dX4_startWork_86 : decode cX4_startWork 86 = .ok (.aload_n 0, 1) := by decide +kernel
theorem dX4_startWork_87 : decode cX4_startWork 87 = .ok (.getfield 40, 3) := by decide +kernel
theorem dX4_startWork_90 : decode cX4_startWork 90 = .ok (.ireturn, 1) := by decide +kernel
theorem dX4_setPoint_0 : decode cX4_setPoint 0 = .ok (.aload_n 0, 1) := by decide +kernel
theorem dX4_setPoint_1 : decode cX4_setPoint 1 = .ok (.getfield 29, 3) := by decide +kernel
theorem dX4_setPoint_4 : decode cX4_setPoint 4 = .ok (.aload_n 0, 1) := by decide +kernel
theorem dX4_setPoint_5 : decode cX4_setPoint 5 = .ok (.getfield 22, 3) := by decide +kernel
theorem dX4_setPoint_8 : decode cX4_setPoint 8 = .ok (.getfield 79, 3) := by decide +kernel
theorem dX4_setPoint_11 : decode cX4_setPoint 11 = .ok (.invokevirtual 98, 3) := by decide +kernel
theorem dX4_setPoint_14 : decode cX4_setPoint 14 = .ok (.aload_n 0, 1) := by decide +kernel
theorem dX4_setPoint_15 : decode cX4_setPoint 15 = .ok (.getfield 32, 3) := by decide +kernel
theorem dX4_setPoint_18 : decode cX4_setPoint 18 = .ok (.aload_n 0, 1) := by decide +kernel
theorem dX4_setPoint_19 : decode cX4_setPoint 19 = .ok (.getfield 26, 3) := by decide +kernel
theorem dX4_setPoint_22 : decode cX4_setPoint 22 = .ok (.getfield 79, 3) := by decide +kernel
theorem dX4_setPoint_25 : decode cX4_setPoint 25 = .ok (.invokevirtual 98, 3) := by decide +kernel
theorem dX4_setPoint_28 : decode cX4_setPoint 28 = .ok (.aload_n 0, 1) := by decide +kernel
theorem dX4_setPoint_29 : decode cX4_setPoint 29 = .ok (.aload_n 0, 1) := by decide +kernel
theorem dX4_setPoint_30 : decode cX4_setPoint 30 = .ok (.getfield 40, 3) := by decide +kernel
theorem dX4_setPoint_33 : decode cX4_setPoint 33 = .ok (.iconst 1, 1) := by decide +kernel
theorem dX4_setPoint_34 : decode cX4_setPoint 34 = .ok (.isub, 1) := by decide +kernel
theorem dX4_setPoint_35 : decode cX4_setPoint 35 = .ok (.invokevirtual 88, 3) := by decide +kernel
theorem dX4_setPoint_38 : decode cX4_setPoint 38 = .ok (.iconst 1, 1) := by decide +kernel
theorem dX4_setPoint_39 : decode cX4_setPoint 39 = .ok (.isub, 1) := by decide +kernel
theorem dX4_setPoint_40 : decode cX4_setPoint 40 = .ok (.ireturn, 1) := by decide +kernel
theorem dX4_leaveWork_0 : decode cX4_leaveWork 0 = .ok (.aload_n 0, 1) := by decide +kernel
theorem dX4_leaveWork_1 : decode cX4_leaveWork 1 = .ok (.invokevirtual 67, 3) := by decide +kernel
theorem dX4_leaveWork_4 : decode cX4_leaveWork 4 = .ok (.astore_n 1, 1) := by decide +kernel
theorem dX4_leaveWork_5 : decode cX4_leaveWork 5 = .ok (.aload_n 1, 1) := by decide +kernel
theorem dX4_leaveWork_6 : decode cX4_leaveWork 6 = .ok (.ifnull 21, 3) := by decide +kernel
theorem dX4_leaveWork_9 : decode cX4_leaveWork 9 = .ok (.aload_n 0, 1) := by decide +kernel
theorem dX4_leaveWork_10 : decode cX4_leaveWork 10 = .ok (.aload_n 1, 1) := by decide +kernel
theorem dX4_leaveWork_11 : decode cX4_leaveWork 11 = .ok (.getfield 82, 3) := by decide +kernel
theorem dX4_leaveWork_14 : decode cX4_leaveWork 14 = .ok (.invokevirtual 47, 3) := by decide +kernel
theorem dX4_leaveWork_17 : decode cX4_leaveWork 17 = .ok (.aload_n 0, 1) := by decide +kernel
theorem dX4_leaveWork_18 : decode cX4_leaveWork 18 = .ok (.dup, 1) := by decide +kernel
theorem dX4_leaveWork_19 : decode cX4_leaveWork 19 = .ok (.getfield 40, 3) := by decide +kernel
theorem dX4_leaveWork_22 : decode cX4_leaveWork 22 = .ok (.iconst 1, 1) := by decide +kernel
theorem dX4_leaveWork_23 : decode cX4_leaveWork 23 = .ok (.isub, 1) := by decide +kernel
theorem dX4_leaveWork_24 : decode cX4_leaveWork 24 = .ok (.putfield 40, 3) := by decide +kernel
theorem dX4_leaveWork_27 : decode cX4_leaveWork 27 = .ok (.return_, 1) := by decide +kernel
theorem dX2_init_0 : decode cX2_init 0 = .ok (.aload_n 0, 1) := by decide +kernel
theorem dX2_init_1 : decode cX2_init 1 = .ok (.invokespecial 3, 3) := by decide +kernel
theorem dX2_init_4 : decode cX2_init 4 = .ok (.aload_n 0, 1) := by decide +kernel
theorem dX2_init_5 : decode cX2_init 5 = .ok (.new 9, 3) := by decide +kernel
theorem dX2_init_8 : decode cX2_init 8 = .ok (.dup, 1) := by decide +kernel
theorem dX2_init_9 : decode cX2_init 9 = .ok (.bipush 16, 2) := by decide +kernel
theorem dX2_init_11 : decode cX2_init 11 = .ok (.bipush 16, 2) := by decide +kernel
theorem dX2_init_13 : decode cX2_init 13 = .ok (.invokespecial 11, 3) := by decide +kernel
theorem dX2_init_16 : decode cX2_init 16 = .ok (.putfield 14, 3) := by decide +kernel
theorem dX2_init_19 : decode cX2_init 19 = .ok (.aload_n 0, 1) := by decide +kernel
theorem dX2_init_20 : decode cX2_init 20 = .ok (.new 9, 3) := by decide +kernel
theorem dX2_init_23 : decode cX2_init 23 = .ok (.dup, 1) := by decide +kernel
theorem dX2_init_24 : decode cX2_init 24 = .ok (.bipush 16, 2) := by decide +kernel
theorem dX2_init_26 : decode cX2_init 26 = .ok (.bipush 16, 2) := by decide +kernel
theorem dX2_init_28 : decode cX2_init 28 = .ok (.invokespecial 11, 3) := by decide +kernel
theorem dX2_init_31 : decode cX2_init 31 = .ok (.putfield 20, 3) := by decide +kernel
theorem dX2_init_34 : decode cX2_init 34 = .ok (.aload_n 0, 1) := by decide +kernel
theorem dX2_init_35 : decode cX2_init 35 = .ok (.iconst 3, 1) := by decide +kernel
theorem dX2_init_36 : decode cX2_init 36 = .ok (.anewarray 23, 3) := by decide +kernel
theorem dX2_init_39 : decode cX2_init 39 = .ok (.putfield 25, 3) := by decide +kernel
theorem dX2_init_42 : decode cX2_init 42 = .ok (.aload_n 0, 1) := by decide +kernel
theorem dX2_init_43 : decode cX2_init 43 = .ok (.iconst 1, 1) := by decide +kernel
theorem dX2_init_44 : decode cX2_init 44 = .ok (.putfield 29, 3) := by decide +kernel
theorem dX2_init_47 : decode cX2_init 47 = .ok (.iconst 0, 1) := by decide +kernel
theorem dX2_init_48 : decode cX2_init 48 = .ok (.istore_n 1, 1) := by decide +kernel
theorem dX2_init_49 : decode cX2_init 49 = .ok (.iload_n 1, 1) := by decide +kernel
theorem dX2_init_50 : decode cX2_init 50 = .ok (.bipush 16, 2) := by decide +kernel
theorem dX2_init_52 : decode cX2_init 52 = .ok (.if_icmp .ge 25, 3) := by decide +kernel
theorem dX2_init_55 : decode cX2_init 55 = .ok (.aload_n 0, 1) := by decide +kernel
theorem dX2_init_56 : decode cX2_init 56 = .ok (.getfield 14, 3) := by decide +kernel
theorem dX2_init_59 : decode cX2_init 59 = .ok (.iconst 0, 1) := by decide +kernel
theorem dX2_init_60 : decode cX2_init 60 = .ok (.invokevirtual 33, 3) := by decide +kernel
theorem dX2_init_63 : decode cX2_init 63 = .ok (.aload_n 0, 1) := by decide +kernel
theorem dX2_init_64 : decode cX2_init 64 = .ok (.getfield 20, 3) := by decide +kernel
theorem dX2_init_67 : decode cX2_init 67 = .ok (.iconst (-1), 1) := by decide +kernel
theorem dX2_init_68 : decode cX2_init 68 = .ok (.invokevirtual 33, 3) := by decide +kernel
theorem dX2_init_71 : decode cX2_init 71 = .ok (.iinc 1 1, 3) := by decide +kernel
theorem dX2_init_74 : decode cX2_init 74 = .ok (.goto (-25), 3) := by decide +kernel
theorem dX2_init_77 : decode cX2_init 77 = .ok (.iconst 0, 1) := by decide +kernel
theorem dX2_init_78 : decode cX2_init 78 = .ok (.istore_n 1, 1) := by decide +kernel
theorem dX2_init_79 : decode cX2_init 79 = .ok (.iload_n 1, 1) := by decide +kernel
theorem dX2_init_80 : decode cX2_init 80 = .ok (.aload_n 0, 1) := by decide +kernel
theorem dX2_init_81 : decode cX2_init 81 = .ok (.getfield 25, 3) := by decide +kernel
theorem dX2_init_84 : decode cX2_init 84 = .ok (.arraylength, 1) := by decide +kernel
theorem dX2_init_85 : decode cX2_init 85 = .ok (.if_icmp .ge 23, 3) := by decide +kernel
theorem dX2_init_88 : decode cX2_init 88 = .ok (.aload_n 0, 1) := by decide +kernel
theorem dX2_init_89 : decode cX2_init 89 = .ok (.getfield 25, 3) := by decide +kernel
theorem dX2_init_92 : decode cX2_init 92 = .ok (.iload_n 1, 1) := by decide +kernel
theorem dX2_init_93 : decode cX2_init 93 = .ok (.new 23, 3) := by decide +kernel
theorem dX2_init_96 : decode cX2_init 96 = .ok (.dup, 1) := by decide +kernel
theorem dX2_init_97 : decode cX2_init 97 = .ok (.iload_n 1, 1) := by decide +kernel
theorem dX2_init_98 : decode cX2_init 98 = .ok (.invokespecial 37, 3) := by decide +kernel
theorem dX2_init_101 : decode cX2_init 101 = .ok (.aastore, 1) := by decide +kernel
theorem dX2_init_102 : decode cX2_init 102 = .ok (.iinc 1 1, 3) := by decide +kernel
theorem dX2_init_105 : decode cX2_init 105 = .ok (.goto (-26), 3) := by decide +kernel
theorem dX2_init_108 : decode cX2_init 108 = .ok (.return_, 1) := by decide +kernel
theorem dX2_clear_0 : decode cX2_clear 0 = .ok (.iconst 0, 1) := by decide +kernel
theorem dX2_clear_1 : decode cX2_clear 1 = .ok (.istore_n 1, 1) := by decide +kernel
theorem dX2_clear_2 : decode cX2_clear 2 = .ok (.iload_n 1, 1) := by decide +kernel
theorem dX2_clear_3 : decode cX2_clear 3 = .ok (.bipush 16, 2) := by decide +kernel
theorem dX2_clear_5 : decode cX2_clear 5 = .ok (.if_icmp .ge 27, 3) := by decide +kernel
theorem dX2_clear_8 : decode cX2_clear 8 = .ok (.aload_n 0, 1) := by decide +kernel
theorem dX2_clear_9 : decode cX2_clear 9 = .ok (.getfield 14, 3) := by decide +kernel
theorem dX2_clear_12 : decode cX2_clear 12 = .ok (.iload_n 1, 1) := by decide +kernel
theorem dX2_clear_13 : decode cX2_clear 13 = .ok (.iconst 0, 1) := by decide +kernel
theorem dX2_clear_14 : decode cX2_clear 14 = .ok (.invokevirtual 39, 3) := by decide +kernel
theorem dX2_clear_17 : decode cX2_clear 17 = .ok (.aload_n 0, 1) := by decide +kernel
theorem dX2_clear_18 : decode cX2_clear 18 = .ok (.getfield 20, 3) := by decide +kernel
theorem dX2_clear_21 : decode cX2_clear 21 = .ok (.iload_n 1, 1) := by decide +kernel
theorem dX2_clear_22 : decode cX2_clear 22 = .ok (.iconst (-1), 1) := by decide +kernel
theorem dX2_clear_23 : decode cX2_clear 23 = .ok (.invokevirtual 39, 3) := by decide +kernel
theorem dX2_clear_26 : decode cX2_clear 26 = .ok (.iinc 1 1, 3) := by decide +kernel
theorem dX2_clear_29 : decode cX2_clear 29 = .ok (.goto (-27), 3) := by decide +kernel
theorem dX2_clear_32 : decode cX2_clear 32 = .ok (.iconst 0, 1) := by decide +kernel
theorem dX2_clear_33 : decode cX2_clear 33 = .ok (.istore_n 1, 1) := by decide +kernel
theorem dX2_clear_34 : decode cX2_clear 34 = .ok (.iload_n 1, 1) := by decide +kernel
theorem dX2_clear_35 : decode cX2_clear 35 = .ok (.iconst 3, 1) := by decide +kernel
theorem dX2_clear_36 : decode cX2_clear 36 = .ok (.if_icmp .ge 23, 3) := by decide +kernel
theorem dX2_clear_39 : decode cX2_clear 39 = .ok (.aload_n 0, 1) := by decide +kernel
theorem dX2_clear_40 : decode cX2_clear 40 = .ok (.iload_n 1, 1) := by decide +kernel
theorem dX2_clear_41 : decode cX2_clear 41 = .ok (.invokevirtual 42, 3) := by decide +kernel
theorem dX2_clear_44 : decode cX2_clear 44 = .ok (.astore_n 2, 1) := by decide +kernel
theorem dX2_clear_45 : decode cX2_clear 45 = .ok (.aload_n 2, 1) := by decide +kernel
theorem dX2_clear_46 : decode cX2_clear 46 = .ok (.ifnull 7, 3) := by decide +kernel
theorem dX2_clear_49 : decode cX2_clear 49 = .ok (.aload_n 2, 1) := by decide +kernel
theorem dX2_clear_50 : decode cX2_clear 50 = .ok (.invokevirtual 46, 3) := by decide +kernel
theorem dX2_clear_53 : decode cX2_clear 53 = .ok (.iinc 1 1, 3) := by decide +kernel
theorem dX2_clear_56 : decode cX2_clear 56 = .ok (.goto (-22), 3) := by decide +kernel
theorem dX2_clear_59 : decode cX2_clear 59 = .ok (.aload_n 0, 1) := by decide +kernel
theorem dX2_clear_60 : decode cX2_clear 60 = .ok (.iconst 1, 1) := by decide +kernel
theorem dX2_clear_61 : decode cX2_clear 61 = .ok (.putfield 29, 3) := by decide +kernel
theorem dX2_clear_64 : decode cX2_clear 64 = .ok (.aload_n 0, 1) := by decide +kernel
theorem dX2_clear_65 : decode cX2_clear 65 = .ok (.iconst 0, 1) := by decide +kernel
theorem dX2_clear_66 : decode cX2_clear 66 = .ok (.putfield 49, 3) := by decide +kernel
theorem dX2_clear_69 : decode cX2_clear 69 = .ok (.aload_n 0, 1) := by decide +kernel
theorem dX2_clear_70 : decode cX2_clear 70 = .ok (.iconst 0, 1) := by decide +kernel
theorem dX2_clear_71 : decode cX2_clear 71 = .ok (.putfield 52, 3) := by decide +kernel
theorem dX2_clear_74 : decode cX2_clear 74 = .ok (.aload_n 0, 1) := by decide +kernel
theorem dX2_clear_75 : decode cX2_clear 75 = .ok (.iconst 0, 1) := by decide +kernel
theorem dX2_clear_76 : decode cX2_clear 76 = .ok (.putfield 55, 3) := by decide +kernel
theorem dX2_clear_79 : decode cX2_clear 79 = .ok (.return_, 1) := by decide +kernel
theorem dX2_copyFrom_0 : decode cX2_copyFrom 0 = .ok (.aload_n 0, 1) := by decide +kernel
theorem dX2_copyFrom_1 : decode cX2_copyFrom 1 = .ok (.getfield 14, 3) := by decide +kernel
theorem dX2_copyFrom_4 : decode cX2_copyFrom 4 = .ok (.aload_n 1, 1) := by decide +kernel
theorem dX2_copyFrom_5 : decode cX2_copyFrom 5 = .ok (.getfield 14, 3) := by decide +kernel
theorem dX2_copyFrom_8 : decode cX2_copyFrom 8 = .ok (.invokevirtual 58, 3) := by decide +kernel
theorem dX2_copyFrom_11 : decode cX2_copyFrom 11 = .ok (.aload_n 0, 1) := by decide +kernel
theorem dX2_copyFrom_12 : decode cX2_copyFrom 12 = .ok (.getfield 20, 3) := by decide +kernel
theorem dX2_copyFrom_15 : decode cX2_copyFrom 15 = .ok (.aload_n 1, 1) := by decide +kernel
theorem dX2_copyFrom_16 : decode cX2_copyFrom 16 = .ok (.getfield 20, 3) := by decide +kernel
theorem dX2_copyFrom_19 : decode cX2_copyFrom 19 = .ok (.invokevirtual 58, 3) := by decide +kernel
theorem dX2_copyFrom_22 : decode cX2_copyFrom 22 = .ok (.iconst 0, 1) := by decide +kernel
theorem dX2_copyFrom_23 : decode cX2_copyFrom 23 = .ok (.istore_n 2, 1) := by decide +kernel
theorem dX2_copyFrom_24 : decode cX2_copyFrom 24 = .ok (.iload_n 2, 1) := by decide +kernel
theorem dX2_copyFrom_25 : decode cX2_copyFrom 25 = .ok (.iconst 3, 1) := by decide +kernel
theorem dX2_copyFrom_26 : decode cX2_copyFrom 26 = .ok (.if_icmp .ge 37, 3) := by decide +kernel
theorem dX2_copyFrom_29 : decode cX2_copyFrom 29 = .ok (.aload_n 0, 1) := by decide +kernel
theorem dX2_copyFrom_30 : decode cX2_copyFrom 30 = .ok (.iload_n 2, 1) := by decide +kernel
theorem dX2_copyFrom_31 : decode cX2_copyFrom 31 = .ok (.invokevirtual 42, 3) := by decide +kernel
theorem dX2_copyFrom_34 : decode cX2_copyFrom 34 = .ok (.astore_n 3, 1) := by decide +kernel
theorem dX2_copyFrom_35 : decode cX2_copyFrom 35 = .ok (.aload_n 1, 1) := by decide +kernel
theorem dX2_copyFrom_36 : decode cX2_copyFrom 36 = .ok (.iload_n 2, 1) := by decide +kernel
theorem dX2_copyFrom_37 : decode cX2_copyFrom 37 = .ok (.invokevirtual 42, 3) := by decide +kernel
theorem dX2_copyFrom_40 : decode cX2_copyFrom 40 = .ok (.astore 4, 2) := by decide +kernel
theorem dX2_copyFrom_42 : decode cX2_copyFrom 42 = .ok (.aload_n 3, 1) := by decide +kernel
theorem dX2_copyFrom_43 : decode cX2_copyFrom 43 = .ok (.ifnull 14, 3) := by decide +kernel
theorem dX2_copyFrom_46 : decode cX2_copyFrom 46 = .ok (.aload 4, 2) := by decide +kernel
theorem dX2_copyFrom_48 : decode cX2_copyFrom 48 = .ok (.ifnull 9, 3) := by decide +kernel
theorem dX2_copyFrom_51 : decode cX2_copyFrom 51 = .ok (.aload_n 3, 1) := by decide +kernel
theorem dX2_copyFrom_52 : decode cX2_copyFrom 52 = .ok (.aload 4, 2) := by decide +kernel
theorem dX2_copyFrom_54 : decode cX2_copyFrom 54 = .ok (.invokevirtual 62, 3) := by decide +kernel
theorem dX2_copyFrom_57 : decode cX2_copyFrom 57 = .ok (.iinc 2 1, 3) := by decide +kernel
theorem dX2_copyFrom_60 : decode cX2_copyFrom 60 = .ok (.goto (-36), 3) := by decide +kernel
theorem dX2_copyFrom_63 : decode cX2_copyFrom 63 = .ok (.aload_n 0, 1) := by decide +kernel
theorem dX2_copyFrom_64 : decode cX2_copyFrom 64 = .ok (.aload_n 1, 1) := by decide +kernel
theorem dX2_copyFrom_65 : decode cX2_copyFrom 65 = .ok (.getfield 29, 3) := by decide +kernel
theorem dX2_copyFrom_68 : decode cX2_copyFrom 68 = .ok (.putfield 29, 3) := by decide +kernel
theorem dX2_copyFrom_71 : decode cX2_copyFrom 71 = .ok (.aload_n 0, 1) := by decide +kernel
theorem dX2_copyFrom_72 : decode cX2_copyFrom 72 = .ok (.aload_n 1, 1) := by decide +kernel
theorem dX2_copyFrom_73 : decode cX2_copyFrom 73 = .ok (.getfield 49, 3) := by decide +kernel
theorem dX2_copyFrom_76 : decode cX2_copyFrom 76 = .ok (.putfield 49, 3) := by decide +kernel
theorem dX2_copyFrom_79 : decode cX2_copyFrom 79 = .ok (.aload_n 0, 1) := by decide +kernel
theorem dX2_copyFrom_80 : decode cX2_copyFrom 80 = .ok (.aload_n 1, 1) := by decide +kernel
theorem dX2_copyFrom_81 : decode cX2_copyFrom 81 = .ok (.getfield 52, 3) := by decide +kernel
theorem dX2_copyFrom_84 : decode cX2_copyFrom 84 = .ok (.putfield 52, 3) := by decide +kernel
theorem dX2_copyFrom_87 : decode cX2_copyFrom 87 = .ok (.aload_n 0, 1) := by decide +kernel
theorem dX2_copyFrom_88 : decode cX2_copyFrom 88 = .ok (.aload_n 1, 1) := by decide +kernel
theorem dX2_copyFrom_89 : decode cX2_copyFrom 89 = .ok (.getfield 55, 3) := by decide +kernel
theorem dX2_copyFrom_92 : decode cX2_copyFrom 92 = .ok (.putfield 55, 3) := by decide +kernel
theorem dX2_copyFrom_95 : decode cX2_copyFrom 95 = .ok (.return_, 1) := by decide +kernel
theorem dX2_workerAt_0 : decode cX2_workerAt 0 = .ok (.iload_n 1, 1) := by decide +kernel
theorem dX2_workerAt_1 : decode cX2_workerAt 1 = .ok (.ifCond .lt 21, 3) := by decide +kernel
theorem dX2_workerAt_4 : decode cX2_workerAt 4 = .ok (.iload_n 1, 1) := by decide +kernel
theorem dX2_workerAt_5 : decode cX2_workerAt 5 = .ok (.aload_n 0, 1) := by decide +kernel
theorem dX2_workerAt_6 : decode cX2_workerAt 6 = .ok (.getfield 25, 3) := by decide +kernel
theorem dX2_workerAt_9 : decode cX2_workerAt 9 = .ok (.arraylength, 1) := by decide +kernel
theorem dX2_workerAt_10 : decode cX2_workerAt 10 = .ok (.if_icmp .ge 12, 3) := by decide +kernel
theorem dX2_workerAt_13 : decode cX2_workerAt 13 = .ok (.aload_n 0, 1) := by decide +kernel
theorem dX2_workerAt_14 : decode cX2_workerAt 14 = .ok (.getfield 25, 3) := by decide +kernel
theorem dX2_workerAt_17 : decode cX2_workerAt 17 = .ok (.iload_n 1, 1) := by decide +kernel
theorem dX2_workerAt_18 : decode cX2_workerAt 18 = .ok (.aaload, 1) := by decide +kernel
theorem dX2_workerAt_19 : decode cX2_workerAt 19 = .ok (.goto 4, 3) := by decide +kernel
theorem dX2_workerAt_22 : decode cX2_workerAt 22 = .ok (.aconst_null, 1) := by decide +kernel
theorem dX2_workerAt_23 : decode cX2_workerAt 23 = .ok (.areturn, 1) := by decide +kernel
theorem dX2_sumOfValues_0 : decode cX2_sumOfValues 0 = .ok (.iconst 0, 1) := by decide +kernel
theorem dX2_sumOfValues_1 : decode cX2_sumOfValues 1 = .ok (.istore_n 1, 1) := by decide +kernel
theorem dX2_sumOfValues_2 : decode cX2_sumOfValues 2 = .ok (.iconst 0, 1) := by decide +kernel
theorem dX2_sumOfValues_3 : decode cX2_sumOfValues 3 = .ok (.istore_n 2, 1) := by decide +kernel
theorem dX2_sumOfValues_4 : decode cX2_sumOfValues 4 = .ok (.iload_n 2, 1) := by decide +kernel
theorem dX2_sumOfValues_5 : decode cX2_sumOfValues 5 = .ok (.bipush 16, 2) := by decide +kernel
theorem dX2_sumOfValues_7 : decode cX2_sumOfValues 7 = .ok (.if_icmp .ge 20, 3) := by decide +kernel
theorem dX2_sumOfValues_10 : decode cX2_sumOfValues 10 = .ok (.iload_n 1, 1) := by decide +kernel
theorem dX2_sumOfValues_11 : decode cX2_sumOfValues 11 = .ok (.aload_n 0, 1) := by decide +kernel
theorem dX2_sumOfValues_12 : decode cX2_sumOfValues 12 = .ok (.getfield 14, 3) := by decide +kernel
theorem dX2_sumOfValues_15 : decode cX2_sumOfValues 15 = .ok (.iload_n 2, 1) := by decide +kernel
theorem dX2_sumOfValues_16 : decode cX2_sumOfValues 16 = .ok (.invokevirtual 65, 3) := by decide +kernel
theorem dX2_sumOfValues_19 : decode cX2_sumOfValues 19 = .ok (.iadd, 1) := by decide +kernel
theorem dX2_sumOfValues_20 : decode cX2_sumOfValues 20 = .ok (.istore_n 1, 1) := by decide +kernel
theorem dX2_sumOfValues_21 : decode cX2_sumOfValues 21 = .ok (.iinc 2 1, 3) := by decide +kernel
theorem dX2_sumOfValues_24 : decode cX2_sumOfValues 24 = .ok (.goto (-20), 3) := by decide +kernel
theorem dX2_sumOfValues_27 : decode cX2_sumOfValues 27 = .ok (.iload_n 1, 1) := by decide +kernel
theorem dX2_sumOfValues_28 : decode cX2_sumOfValues 28 = .ok (.ireturn, 1) := by decide +kernel
theorem dX2_countLockedBy_0 : decode cX2_countLockedBy 0 = .ok (.iconst 0, 1) := by decide +kernel
theorem dX2_countLockedBy_1 : decode cX2_countLockedBy 1 = .ok (.istore_n 2, 1) := by decide +kernel
theorem dX2_countLockedBy_2 : decode cX2_countLockedBy 2 = .ok (.iconst 0, 1) := by decide +kernel
theorem dX2_countLockedBy_3 : decode cX2_countLockedBy 3 = .ok (.istore_n 3, 1) := by decide +kernel
theorem dX2_countLockedBy_4 : decode cX2_countLockedBy 4 = .ok (.iload_n 3, 1) := by decide +kernel
theorem dX2_countLockedBy_5 : decode cX2_countLockedBy 5 = .ok (.bipush 16, 2) := by decide +kernel
theorem dX2_countLockedBy_7 : decode cX2_countLockedBy 7 = .ok (.if_icmp .ge 24, 3) := by decide +kernel
theorem dX2_countLockedBy_10 : decode cX2_countLockedBy 10 = .ok (.aload_n 0, 1) := by decide +kernel
theorem dX2_countLockedBy_11 : decode cX2_countLockedBy 11 = .ok (.getfield 20, 3) := by decide +kernel
theorem dX2_countLockedBy_14 : decode cX2_countLockedBy 14 = .ok (.iload_n 3, 1) := by decide +kernel
theorem dX2_countLockedBy_15 : decode cX2_countLockedBy 15 = .ok (.invokevirtual 65, 3) := by decide +kernel
theorem dX2_countLockedBy_18 : decode cX2_countLockedBy 18 = .ok (.iload_n 1, 1) := by decide +kernel
theorem dX2_countLockedBy_19 : decode cX2_countLockedBy 19 = .ok (.if_icmp .ne 6, 3) := by decide +kernel
theorem dX2_countLockedBy_22 : decode cX2_countLockedBy 22 = .ok (.iinc 2 1, 3) := by decide +kernel
theorem dX2_countLockedBy_25 : decode cX2_countLockedBy 25 = .ok (.iinc 3 1, 3) := by decide +kernel
theorem dX2_countLockedBy_28 : decode cX2_countLockedBy 28 = .ok (.goto (-24), 3) := by decide +kernel
theorem dX2_countLockedBy_31 : decode cX2_countLockedBy 31 = .ok (.iload_n 2, 1) := by decide +kernel
theorem dX2_countLockedBy_32 : decode cX2_countLockedBy 32 = .ok (.ireturn, 1) := by decide +kernel
theorem dX2_numberOfWorker_0 : decode cX2_numberOfWorker 0 = .ok (.iload_n 2, 1) := by decide +kernel
theorem dX2_numberOfWorker_1 : decode cX2_numberOfWorker 1 = .ok (.tableswitch 84 0 5 #[39, 44, 52, 61, 66, 71], 39) := by decide +kernel
theorem dX2_numberOfWorker_40 : decode cX2_numberOfWorker 40 = .ok (.aload_n 1, 1) := by decide +kernel
theorem dX2_numberOfWorker_41 : decode cX2_numberOfWorker 41 = .ok (.getfield 69, 3) := by decide +kernel
theorem dX2_numberOfWorker_44 : decode cX2_numberOfWorker 44 = .ok (.ireturn, 1) := by decide +kernel
theorem dX2_numberOfWorker_45 : decode cX2_numberOfWorker 45 = .ok (.aload_n 1, 1) := by decide +kernel
theorem dX2_numberOfWorker_46 : decode cX2_numberOfWorker 46 = .ok (.getfield 72, 3) := by decide +kernel
theorem dX2_numberOfWorker_49 : decode cX2_numberOfWorker 49 = .ok (.getfield 75, 3) := by decide +kernel
theorem dX2_numberOfWorker_52 : decode cX2_numberOfWorker 52 = .ok (.ireturn, 1) := by decide +kernel
theorem dX2_numberOfWorker_53 : decode cX2_numberOfWorker 53 = .ok (.aload_n 0, 1) := by decide +kernel
theorem dX2_numberOfWorker_54 : decode cX2_numberOfWorker 54 = .ok (.aload_n 1, 1) := by decide +kernel
theorem dX2_numberOfWorker_55 : decode cX2_numberOfWorker 55 = .ok (.getfield 78, 3) := by decide +kernel
theorem dX2_numberOfWorker_58 : decode cX2_numberOfWorker 58 = .ok (.invokevirtual 81, 3) := by decide +kernel
theorem dX2_numberOfWorker_61 : decode cX2_numberOfWorker 61 = .ok (.ireturn, 1) := by decide +kernel
theorem dX2_numberOfWorker_62 : decode cX2_numberOfWorker 62 = .ok (.aload_n 1, 1) := by decide +kernel
theorem dX2_numberOfWorker_63 : decode cX2_numberOfWorker 63 = .ok (.getfield 84, 3) := by decide +kernel
theorem dX2_numberOfWorker_66 : decode cX2_numberOfWorker 66 = .ok (.ireturn, 1) := by decide +kernel
theorem dX2_numberOfWorker_67 : decode cX2_numberOfWorker 67 = .ok (.aload_n 1, 1) := by decide +kernel
theorem dX2_numberOfWorker_68 : decode cX2_numberOfWorker 68 = .ok (.getfield 87, 3) := by decide +kernel
theorem dX2_numberOfWorker_71 : decode cX2_numberOfWorker 71 = .ok (.ireturn, 1) := by decide +kernel
theorem dX2_numberOfWorker_72 : decode cX2_numberOfWorker 72 = .ok (.aload_n 1, 1) := by decide +kernel
theorem dX2_numberOfWorker_73 : decode cX2_numberOfWorker 73 = .ok (.invokevirtual 90, 3) := by decide +kernel
theorem dX2_numberOfWorker_76 : decode cX2_numberOfWorker 76 = .ok (.ifCond .eq 7, 3) := by decide +kernel
theorem dX2_numberOfWorker_79 : decode cX2_numberOfWorker 79 = .ok (.iconst 1, 1) := by decide +kernel
theorem dX2_numberOfWorker_80 : decode cX2_numberOfWorker 80 = .ok (.goto 4, 3) := by decide +kernel
theorem dX2_numberOfWorker_83 : decode cX2_numberOfWorker 83 = .ok (.iconst 0, 1) := by decide +kernel
theorem dX2_numberOfWorker_84 : decode cX2_numberOfWorker 84 = .ok (.ireturn, 1) := by decide +kernel
theorem dX2_numberOfWorker_85 : decode cX2_numberOfWorker 85 = .ok (.iconst (-1), 1) := by decide +kernel
theorem dX2_numberOfWorker_86 : decode cX2_numberOfWorker 86 = .ok (.ireturn, 1) := by decide +kernel
theorem dX2_sumOfWorkers_0 : decode cX2_sumOfWorkers 0 = .ok (.iconst 0, 1) := by decide +kernel
theorem dX2_sumOfWorkers_1 : decode cX2_sumOfWorkers 1 = .ok (.istore_n 2, 1) := by decide +kernel
theorem dX2_sumOfWorkers_2 : decode cX2_sumOfWorkers 2 = .ok (.iconst 0, 1) := by decide +kernel
theorem dX2_sumOfWorkers_3 : decode cX2_sumOfWorkers 3 = .ok (.istore_n 3, 1) := by decide +kernel
theorem dX2_sumOfWorkers_4 : decode cX2_sumOfWorkers 4 = .ok (.iload_n 3, 1) := by decide +kernel
theorem dX2_sumOfWorkers_5 : decode cX2_sumOfWorkers 5 = .ok (.iconst 3, 1) := by decide +kernel
theorem dX2_sumOfWorkers_6 : decode cX2_sumOfWorkers 6 = .ok (.if_icmp .ge 31, 3) := by decide +kernel
theorem dX2_sumOfWorkers_9 : decode cX2_sumOfWorkers 9 = .ok (.aload_n 0, 1) := by decide +kernel
theorem dX2_sumOfWorkers_10 : decode cX2_sumOfWorkers 10 = .ok (.iload_n 3, 1) := by decide +kernel
theorem dX2_sumOfWorkers_11 : decode cX2_sumOfWorkers 11 = .ok (.invokevirtual 42, 3) := by decide +kernel
theorem dX2_sumOfWorkers_14 : decode cX2_sumOfWorkers 14 = .ok (.astore 4, 2) := by decide +kernel
theorem dX2_sumOfWorkers_16 : decode cX2_sumOfWorkers 16 = .ok (.aload 4, 2) := by decide +kernel
theorem dX2_sumOfWorkers_18 : decode cX2_sumOfWorkers 18 = .ok (.ifnull 13, 3) := by decide +kernel
theorem dX2_sumOfWorkers_21 : decode cX2_sumOfWorkers 21 = .ok (.iload_n 2, 1) := by decide +kernel
theorem dX2_sumOfWorkers_22 : decode cX2_sumOfWorkers 22 = .ok (.aload_n 0, 1) := by decide +kernel
theorem dX2_sumOfWorkers_23 : decode cX2_sumOfWorkers 23 = .ok (.aload 4, 2) := by decide +kernel
theorem dX2_sumOfWorkers_25 : decode cX2_sumOfWorkers 25 = .ok (.iload_n 1, 1) := by decide +kernel
theorem dX2_sumOfWorkers_26 : decode cX2_sumOfWorkers 26 = .ok (.invokevirtual 94, 3) := by decide +kernel
theorem dX2_sumOfWorkers_29 : decode cX2_sumOfWorkers 29 = .ok (.iadd, 1) := by decide +kernel
theorem dX2_sumOfWorkers_30 : decode cX2_sumOfWorkers 30 = .ok (.istore_n 2, 1) := by decide +kernel
theorem dX2_sumOfWorkers_31 : decode cX2_sumOfWorkers 31 = .ok (.iinc 3 1, 3) := by decide +kernel
theorem dX2_sumOfWorkers_34 : decode cX2_sumOfWorkers 34 = .ok (.goto (-30), 3) := by decide +kernel
theorem dX2_sumOfWorkers_37 : decode cX2_sumOfWorkers 37 = .ok (.iload_n 2, 1) := by decide +kernel
theorem dX2_sumOfWorkers_38 : decode cX2_sumOfWorkers 38 = .ok (.ireturn, 1) := by decide +kernel
theorem dX2_countDifferent_0 : decode cX2_countDifferent 0 = .ok (.iconst 0, 1) := by decide +kernel
theorem dX2_countDifferent_1 : decode cX2_countDifferent 1 = .ok (.istore_n 2, 1) := by decide +kernel
theorem dX2_countDifferent_2 : decode cX2_countDifferent 2 = .ok (.iconst 0, 1) := by decide +kernel
theorem dX2_countDifferent_3 : decode cX2_countDifferent 3 = .ok (.istore_n 3, 1) := by decide +kernel
theorem dX2_countDifferent_4 : decode cX2_countDifferent 4 = .ok (.iload_n 3, 1) := by decide +kernel
theorem dX2_countDifferent_5 : decode cX2_countDifferent 5 = .ok (.bipush 16, 2) := by decide +kernel
theorem dX2_countDifferent_7 : decode cX2_countDifferent 7 = .ok (.if_icmp .ge 31, 3) := by decide +kernel
theorem dX2_countDifferent_10 : decode cX2_countDifferent 10 = .ok (.aload_n 0, 1) := by decide +kernel
theorem dX2_countDifferent_11 : decode cX2_countDifferent 11 = .ok (.getfield 14, 3) := by decide +kernel
theorem dX2_countDifferent_14 : decode cX2_countDifferent 14 = .ok (.iload_n 3, 1) := by decide +kernel
theorem dX2_countDifferent_15 : decode cX2_countDifferent 15 = .ok (.invokevirtual 65, 3) := by decide +kernel
theorem dX2_countDifferent_18 : decode cX2_countDifferent 18 = .ok (.aload_n 1, 1) := by decide +kernel
theorem dX2_countDifferent_19 : decode cX2_countDifferent 19 = .ok (.getfield 14, 3) := by decide +kernel
theorem dX2_countDifferent_22 : decode cX2_countDifferent 22 = .ok (.iload_n 3, 1) := by decide +kernel
theorem dX2_countDifferent_23 : decode cX2_countDifferent 23 = .ok (.invokevirtual 65, 3) := by decide +kernel
theorem dX2_countDifferent_26 : decode cX2_countDifferent 26 = .ok (.if_icmp .eq 6, 3) := by decide +kernel
theorem dX2_countDifferent_29 : decode cX2_countDifferent 29 = .ok (.iinc 2 1, 3) := by decide +kernel
theorem dX2_countDifferent_32 : decode cX2_countDifferent 32 = .ok (.iinc 3 1, 3) := by decide +kernel
theorem dX2_countDifferent_35 : decode cX2_countDifferent 35 = .ok (.goto (-31), 3) := by decide +kernel
theorem dX2_countDifferent_38 : decode cX2_countDifferent 38 = .ok (.iload_n 2, 1) := by decide +kernel
theorem dX2_countDifferent_39 : decode cX2_countDifferent 39 = .ok (.ireturn, 1) := by decide +kernel
theorem dX2_oldestValue_0 : decode cX2_oldestValue 0 = .ok (.aload_n 0, 1) := by decide +kernel
theorem dX2_oldestValue_1 : decode cX2_oldestValue 1 = .ok (.aload_n 0, 1) := by decide +kernel
theorem dX2_oldestValue_2 : decode cX2_oldestValue 2 = .ok (.getfield 20, 3) := by decide +kernel
theorem dX2_oldestValue_5 : decode cX2_oldestValue 5 = .ok (.iload_n 1, 1) := by decide +kernel
theorem dX2_oldestValue_6 : decode cX2_oldestValue 6 = .ok (.invokevirtual 65, 3) := by decide +kernel
theorem dX2_oldestValue_9 : decode cX2_oldestValue 9 = .ok (.invokevirtual 42, 3) := by decide +kernel
theorem dX2_oldestValue_12 : decode cX2_oldestValue 12 = .ok (.astore_n 2, 1) := by decide +kernel
theorem dX2_oldestValue_13 : decode cX2_oldestValue 13 = .ok (.aload_n 2, 1) := by decide +kernel
theorem dX2_oldestValue_14 : decode cX2_oldestValue 14 = .ok (.ifnonnull 12, 3) := by decide +kernel
theorem dX2_oldestValue_17 : decode cX2_oldestValue 17 = .ok (.aload_n 0, 1) := by decide +kernel
theorem dX2_oldestValue_18 : decode cX2_oldestValue 18 = .ok (.getfield 14, 3) := by decide +kernel
theorem dX2_oldestValue_21 : decode cX2_oldestValue 21 = .ok (.iload_n 1, 1) := by decide +kernel
theorem dX2_oldestValue_22 : decode cX2_oldestValue 22 = .ok (.invokevirtual 65, 3) := by decide +kernel
theorem dX2_oldestValue_25 : decode cX2_oldestValue 25 = .ok (.ireturn, 1) := by decide +kernel
theorem dX2_oldestValue_26 : decode cX2_oldestValue 26 = .ok (.iconst 0, 1) := by decide +kernel
theorem dX2_oldestValue_27 : decode cX2_oldestValue 27 = .ok (.istore_n 3, 1) := by decide +kernel
theorem dX2_oldestValue_28 : decode cX2_oldestValue 28 = .ok (.iload_n 3, 1) := by decide +kernel
theorem dX2_oldestValue_29 : decode cX2_oldestValue 29 = .ok (.aload_n 2, 1) := by decide +kernel
theorem dX2_oldestValue_30 : decode cX2_oldestValue 30 = .ok (.getfield 72, 3) := by decide +kernel
theorem dX2_oldestValue_33 : decode cX2_oldestValue 33 = .ok (.getfield 75, 3) := by decide +kernel
theorem dX2_oldestValue_36 : decode cX2_oldestValue 36 = .ok (.if_icmp .ge 34, 3) := by decide +kernel
theorem dX2_oldestValue_39 : decode cX2_oldestValue 39 = .ok (.aload_n 2, 1) := by decide +kernel
theorem dX2_oldestValue_40 : decode cX2_oldestValue 40 = .ok (.getfield 72, 3) := by decide +kernel
theorem dX2_oldestValue_43 : decode cX2_oldestValue 43 = .ok (.iload_n 3, 1) := by decide +kernel
theorem dX2_oldestValue_44 : decode cX2_oldestValue 44 = .ok (.invokevirtual 65, 3) := by decide +kernel
theorem dX2_oldestValue_47 : decode cX2_oldestValue 47 = .ok (.istore 4, 2) := by decide +kernel
theorem dX2_oldestValue_49 : decode cX2_oldestValue 49 = .ok (.iload 4, 2) := by decide +kernel
theorem dX2_oldestValue_51 : decode cX2_oldestValue 51 = .ok (.bipush 100, 2) := by decide +kernel
theorem dX2_oldestValue_53 : decode cX2_oldestValue 53 = .ok (.idiv, 1) := by decide +kernel
theorem dX2_oldestValue_54 : decode cX2_oldestValue 54 = .ok (.iload_n 1, 1) := by decide +kernel
theorem dX2_oldestValue_55 : decode cX2_oldestValue 55 = .ok (.if_icmp .ne 9, 3) := by decide +kernel
theorem dX2_oldestValue_58 : decode cX2_oldestValue 58 = .ok (.iload 4, 2) := by decide +kernel
theorem dX2_oldestValue_60 : decode cX2_oldestValue 60 = .ok (.bipush 100, 2) := by decide +kernel
theorem dX2_oldestValue_62 : decode cX2_oldestValue 62 = .ok (.irem, 1) := by decide +kernel
theorem dX2_oldestValue_63 : decode cX2_oldestValue 63 = .ok (.ireturn, 1) := by decide +kernel
theorem dX2_oldestValue_64 : decode cX2_oldestValue 64 = .ok (.iinc 3 1, 3) := by decide +kernel
theorem dX2_oldestValue_67 : decode cX2_oldestValue 67 = .ok (.goto (-39), 3) := by decide +kernel
theorem dX2_oldestValue_70 : decode cX2_oldestValue 70 = .ok (.aload_n 0, 1) := by decide +kernel
theorem dX2_oldestValue_71 : decode cX2_oldestValue 71 = .ok (.getfield 14, 3) := by decide +kernel
theorem dX2_oldestValue_74 : decode cX2_oldestValue 74 = .ok (.iload_n 1, 1) := by decide +kernel
theorem dX2_oldestValue_75 : decode cX2_oldestValue 75 = .ok (.invokevirtual 65, 3) := by decide +kernel
theorem dX2_oldestValue_78 : decode cX2_oldestValue 78 = .ok (.ireturn, 1) := by decide +kernel
theorem dX2_obstacle_0 : decode cX2_obstacle 0 = .ok (.aload_n 1, 1) := by decide +kernel
theorem dX2_obstacle_1 : decode cX2_obstacle 1 = .ok (.getfield 69, 3) := by decide +kernel
theorem dX2_obstacle_4 : decode cX2_obstacle 4 = .ok (.ifCond .ne 5, 3) := by decide +kernel
theorem dX2_obstacle_7 : decode cX2_obstacle 7 = .ok (.iconst 1, 1) := by decide +kernel
theorem dX2_obstacle_8 : decode cX2_obstacle 8 = .ok (.ireturn, 1) := by decide +kernel
theorem dX2_obstacle_9 : decode cX2_obstacle 9 = .ok (.aload_n 1, 1) := by decide +kernel
theorem dX2_obstacle_10 : decode cX2_obstacle 10 = .ok (.invokevirtual 90, 3) := by decide +kernel
theorem dX2_obstacle_13 : decode cX2_obstacle 13 = .ok (.ifCond .eq 5, 3) := by decide +kernel
theorem dX2_obstacle_16 : decode cX2_obstacle 16 = .ok (.iconst 2, 1) := by decide +kernel
theorem dX2_obstacle_17 : decode cX2_obstacle 17 = .ok (.ireturn, 1) := by decide +kernel
theorem dX2_obstacle_18 : decode cX2_obstacle 18 = .ok (.aload_n 0, 1) := by decide +kernel
theorem dX2_obstacle_19 : decode cX2_obstacle 19 = .ok (.getfield 20, 3) := by decide +kernel
theorem dX2_obstacle_22 : decode cX2_obstacle 22 = .ok (.iload_n 2, 1) := by decide +kernel
theorem dX2_obstacle_23 : decode cX2_obstacle 23 = .ok (.invokevirtual 65, 3) := by decide +kernel
theorem dX2_obstacle_26 : decode cX2_obstacle 26 = .ok (.istore_n 3, 1) := by decide +kernel
theorem dX2_obstacle_27 : decode cX2_obstacle 27 = .ok (.iload_n 3, 1) := by decide +kernel
theorem dX2_obstacle_28 : decode cX2_obstacle 28 = .ok (.iconst (-1), 1) := by decide +kernel
theorem dX2_obstacle_29 : decode cX2_obstacle 29 = .ok (.if_icmp .eq 13, 3) := by decide +kernel
theorem dX2_obstacle_32 : decode cX2_obstacle 32 = .ok (.iload_n 3, 1) := by decide +kernel
theorem dX2_obstacle_33 : decode cX2_obstacle 33 = .ok (.aload_n 1, 1) := by decide +kernel
theorem dX2_obstacle_34 : decode cX2_obstacle 34 = .ok (.getfield 78, 3) := by decide +kernel
theorem dX2_obstacle_37 : decode cX2_obstacle 37 = .ok (.if_icmp .eq 5, 3) := by decide +kernel
theorem dX2_obstacle_40 : decode cX2_obstacle 40 = .ok (.iconst 3, 1) := by decide +kernel
theorem dX2_obstacle_41 : decode cX2_obstacle 41 = .ok (.ireturn, 1) := by decide +kernel
theorem dX2_obstacle_42 : decode cX2_obstacle 42 = .ok (.aload_n 1, 1) := by decide +kernel
theorem dX2_obstacle_43 : decode cX2_obstacle 43 = .ok (.getfield 72, 3) := by decide +kernel
theorem dX2_obstacle_46 : decode cX2_obstacle 46 = .ok (.getfield 75, 3) := by decide +kernel
theorem dX2_obstacle_49 : decode cX2_obstacle 49 = .ok (.bipush 40, 2) := by decide +kernel
theorem dX2_obstacle_51 : decode cX2_obstacle 51 = .ok (.if_icmp .lt 7, 3) := by decide +kernel
theorem dX2_obstacle_54 : decode cX2_obstacle 54 = .ok (.iconst 4, 1) := by decide +kernel
theorem dX2_obstacle_55 : decode cX2_obstacle 55 = .ok (.goto 4, 3) := by decide +kernel
theorem dX2_obstacle_58 : decode cX2_obstacle 58 = .ok (.iconst 0, 1) := by decide +kernel
theorem dX2_obstacle_59 : decode cX2_obstacle 59 = .ok (.ireturn, 1) := by decide +kernel
theorem dX2_allows_0 : decode cX2_allows 0 = .ok (.iload_n 1, 1) := by decide +kernel
theorem dX2_allows_1 : decode cX2_allows 1 = .ok (.tableswitch 190 0 6 #[43, 64, 69, 82, 109, 130, 160], 43) := by decide +kernel
theorem dX2_allows_44 : decode cX2_allows 44 = .ok (.aload_n 2, 1) := by decide +kernel
theorem dX2_allows_45 : decode cX2_allows 45 = .ok (.getfield 69, 3) := by decide +kernel
theorem dX2_allows_48 : decode cX2_allows 48 = .ok (.iconst 5, 1) := by decide +kernel
theorem dX2_allows_49 : decode cX2_allows 49 = .ok (.if_icmp .ge 14, 3) := by decide +kernel
theorem dX2_allows_52 : decode cX2_allows 52 = .ok (.aload_n 2, 1) := by decide +kernel
theorem dX2_allows_53 : decode cX2_allows 53 = .ok (.invokevirtual 90, 3) := by decide +kernel
theorem dX2_allows_56 : decode cX2_allows 56 = .ok (.ifCond .ne 7, 3) := by decide +kernel
theorem dX2_allows_59 : decode cX2_allows 59 = .ok (.iconst 1, 1) := by decide +kernel
theorem dX2_allows_60 : decode cX2_allows 60 = .ok (.goto 4, 3) := by decide +kernel
theorem dX2_allows_63 : decode cX2_allows 63 = .ok (.iconst 0, 1) := by decide +kernel
theorem dX2_allows_64 : decode cX2_allows 64 = .ok (.ireturn, 1) := by decide +kernel
theorem dX2_allows_65 : decode cX2_allows 65 = .ok (.aload_n 2, 1) := by decide +kernel
theorem dX2_allows_66 : decode cX2_allows 66 = .ok (.invokevirtual 98, 3) := by decide +kernel
theorem dX2_allows_69 : decode cX2_allows 69 = .ok (.ireturn, 1) := by decide +kernel
theorem dX2_allows_70 : decode cX2_allows 70 = .ok (.aload_n 2, 1) := by decide +kernel
theorem dX2_allows_71 : decode cX2_allows 71 = .ok (.getfield 69, 3) := by decide +kernel
theorem dX2_allows_74 : decode cX2_allows 74 = .ok (.ifCond .le 7, 3) := by decide +kernel
theorem dX2_allows_77 : decode cX2_allows 77 = .ok (.iconst 1, 1) := by decide +kernel
theorem dX2_allows_78 : decode cX2_allows 78 = .ok (.goto 4, 3) := by decide +kernel
theorem dX2_allows_81 : decode cX2_allows 81 = .ok (.iconst 0, 1) := by decide +kernel
theorem dX2_allows_82 : decode cX2_allows 82 = .ok (.ireturn, 1) := by decide +kernel
theorem dX2_allows_83 : decode cX2_allows 83 = .ok (.aload_n 2, 1) := by decide +kernel
theorem dX2_allows_84 : decode cX2_allows 84 = .ok (.invokevirtual 98, 3) := by decide +kernel
theorem dX2_allows_87 : decode cX2_allows 87 = .ok (.ifCond .eq 21, 3) := by decide +kernel
theorem dX2_allows_90 : decode cX2_allows 90 = .ok (.aload_n 2, 1) := by decide +kernel
theorem dX2_allows_91 : decode cX2_allows 91 = .ok (.aload_n 2, 1) := by decide +kernel
theorem dX2_allows_92 : decode cX2_allows 92 = .ok (.getfield 69, 3) := by decide +kernel
theorem dX2_allows_95 : decode cX2_allows 95 = .ok (.iconst 1, 1) := by decide +kernel
theorem dX2_allows_96 : decode cX2_allows 96 = .ok (.isub, 1) := by decide +kernel
theorem dX2_allows_97 : decode cX2_allows 97 = .ok (.invokevirtual 101, 3) := by decide +kernel
theorem dX2_allows_100 : decode cX2_allows 100 = .ok (.iconst 4, 1) := by decide +kernel
theorem dX2_allows_101 : decode cX2_allows 101 = .ok (.if_icmp .ge 7, 3) := by decide +kernel
theorem dX2_allows_104 : decode cX2_allows 104 = .ok (.iconst 1, 1) := by decide +kernel
theorem dX2_allows_105 : decode cX2_allows 105 = .ok (.goto 4, 3) := by decide +kernel
theorem dX2_allows_108 : decode cX2_allows 108 = .ok (.iconst 0, 1) := by decide +kernel
theorem dX2_allows_109 : decode cX2_allows 109 = .ok (.ireturn, 1) := by decide +kernel
theorem dX2_allows_110 : decode cX2_allows 110 = .ok (.aload_n 2, 1) := by decide +kernel
theorem dX2_allows_111 : decode cX2_allows 111 = .ok (.invokevirtual 98, 3) := by decide +kernel
theorem dX2_allows_114 : decode cX2_allows 114 = .ok (.ifCond .eq 15, 3) := by decide +kernel
theorem dX2_allows_117 : decode cX2_allows 117 = .ok (.aload_n 2, 1) := by decide +kernel
theorem dX2_allows_118 : decode cX2_allows 118 = .ok (.iload_n 3, 1) := by decide +kernel
theorem dX2_allows_119 : decode cX2_allows 119 = .ok (.invokevirtual 104, 3) := by decide +kernel
theorem dX2_allows_122 : decode cX2_allows 122 = .ok (.ifCond .eq 7, 3) := by decide +kernel
theorem dX2_allows_125 : decode cX2_allows 125 = .ok (.iconst 1, 1) := by decide +kernel
theorem dX2_allows_126 : decode cX2_allows 126 = .ok (.goto 4, 3) := by decide +kernel
theorem dX2_allows_129 : decode cX2_allows 129 = .ok (.iconst 0, 1) := by decide +kernel
theorem dX2_allows_130 : decode cX2_allows 130 = .ok (.ireturn, 1) := by decide +kernel
theorem dX2_allows_131 : decode cX2_allows 131 = .ok (.iload_n 3, 1) := by decide +kernel
theorem dX2_allows_132 : decode cX2_allows 132 = .ok (.invokestatic 108, 3) := by decide +kernel
theorem dX2_allows_135 : decode cX2_allows 135 = .ok (.ifCond .eq 24, 3) := by decide +kernel
theorem dX2_allows_138 : decode cX2_allows 138 = .ok (.iload 4, 2) := by decide +kernel
theorem dX2_allows_140 : decode cX2_allows 140 = .ok (.invokestatic 111, 3) := by decide +kernel
theorem dX2_allows_143 : decode cX2_allows 143 = .ok (.ifCond .eq 16, 3) := by decide +kernel
theorem dX2_allows_146 : decode cX2_allows 146 = .ok (.aload_n 0, 1) := by decide +kernel
theorem dX2_allows_147 : decode cX2_allows 147 = .ok (.aload_n 2, 1) := by decide +kernel
theorem dX2_allows_148 : decode cX2_allows 148 = .ok (.iload_n 3, 1) := by decide +kernel
theorem dX2_allows_149 : decode cX2_allows 149 = .ok (.invokevirtual 114, 3) := by decide +kernel
theorem dX2_allows_152 : decode cX2_allows 152 = .ok (.ifCond .eq 7, 3) := by decide +kernel
theorem dX2_allows_155 : decode cX2_allows 155 = .ok (.iconst 1, 1) := by decide +kernel
theorem dX2_allows_156 : decode cX2_allows 156 = .ok (.goto 4, 3) := by decide +kernel
theorem dX2_allows_159 : decode cX2_allows 159 = .ok (.iconst 0, 1) := by decide +kernel
theorem dX2_allows_160 : decode cX2_allows 160 = .ok (.ireturn, 1) := by decide +kernel
theorem dX2_allows_161 : decode cX2_allows 161 = .ok (.iload_n 3, 1) := by decide +kernel
theorem dX2_allows_162 : decode cX2_allows 162 = .ok (.invokestatic 108, 3) := by decide +kernel
theorem dX2_allows_165 : decode cX2_allows 165 = .ok (.ifCond .eq 24, 3) := by decide +kernel
theorem dX2_allows_168 : decode cX2_allows 168 = .ok (.iload 4, 2) := by decide +kernel
theorem dX2_allows_170 : decode cX2_allows 170 = .ok (.invokestatic 118, 3) := by decide +kernel
theorem dX2_allows_173 : decode cX2_allows 173 = .ok (.ifCond .eq 16, 3) := by decide +kernel
theorem dX2_allows_176 : decode cX2_allows 176 = .ok (.aload_n 0, 1) := by decide +kernel
theorem dX2_allows_177 : decode cX2_allows 177 = .ok (.aload_n 2, 1) := by decide +kernel
theorem dX2_allows_178 : decode cX2_allows 178 = .ok (.iload_n 3, 1) := by decide +kernel
theorem dX2_allows_179 : decode cX2_allows 179 = .ok (.invokevirtual 121, 3) := by decide +kernel
theorem dX2_allows_182 : decode cX2_allows 182 = .ok (.ifCond .ne 7, 3) := by decide +kernel
theorem dX2_allows_185 : decode cX2_allows 185 = .ok (.iconst 1, 1) := by decide +kernel
theorem dX2_allows_186 : decode cX2_allows 186 = .ok (.goto 4, 3) := by decide +kernel
theorem dX2_allows_189 : decode cX2_allows 189 = .ok (.iconst 0, 1) := by decide +kernel
theorem dX2_allows_190 : decode cX2_allows 190 = .ok (.ireturn, 1) := by decide +kernel
theorem dX2_allows_191 : decode cX2_allows 191 = .ok (.iconst 0, 1) := by decide +kernel
theorem dX2_allows_192 : decode cX2_allows 192 = .ok (.ireturn, 1) := by decide +kernel
theorem dX2_canRegret_0 : decode cX2_canRegret 0 = .ok (.aload_n 0, 1) := by decide +kernel
theorem dX2_canRegret_1 : decode cX2_canRegret 1 = .ok (.aload_n 1, 1) := by decide +kernel
theorem dX2_canRegret_2 : decode cX2_canRegret 2 = .ok (.iload_n 2, 1) := by decide +kernel
theorem dX2_canRegret_3 : decode cX2_canRegret 3 = .ok (.invokevirtual 121, 3) := by decide +kernel
theorem dX2_canRegret_6 : decode cX2_canRegret 6 = .ok (.istore_n 3, 1) := by decide +kernel
theorem dX2_canRegret_7 : decode cX2_canRegret 7 = .ok (.iload_n 3, 1) := by decide +kernel
theorem dX2_canRegret_8 : decode cX2_canRegret 8 = .ok (.ifCond .eq 8, 3) := by decide +kernel
theorem dX2_canRegret_11 : decode cX2_canRegret 11 = .ok (.iload_n 3, 1) := by decide +kernel
theorem dX2_canRegret_12 : decode cX2_canRegret 12 = .ok (.iconst 4, 1) := by decide +kernel
theorem dX2_canRegret_13 : decode cX2_canRegret 13 = .ok (.if_icmp .ne 22, 3) := by decide +kernel
theorem dX2_canRegret_16 : decode cX2_canRegret 16 = .ok (.aload_n 1, 1) := by decide +kernel
theorem dX2_canRegret_17 : decode cX2_canRegret 17 = .ok (.aload_n 1, 1) := by decide +kernel
theorem dX2_canRegret_18 : decode cX2_canRegret 18 = .ok (.getfield 69, 3) := by decide +kernel
theorem dX2_canRegret_21 : decode cX2_canRegret 21 = .ok (.iconst 1, 1) := by decide +kernel
theorem dX2_canRegret_22 : decode cX2_canRegret 22 = .ok (.isub, 1) := by decide +kernel
theorem dX2_canRegret_23 : decode cX2_canRegret 23 = .ok (.invokevirtual 124, 3) := by decide +kernel
theorem dX2_canRegret_26 : decode cX2_canRegret 26 = .ok (.bipush 6, 2) := by decide +kernel
theorem dX2_canRegret_28 : decode cX2_canRegret 28 = .ok (.if_icmp .ge 7, 3) := by decide +kernel
theorem dX2_canRegret_31 : decode cX2_canRegret 31 = .ok (.iconst 1, 1) := by decide +kernel
theorem dX2_canRegret_32 : decode cX2_canRegret 32 = .ok (.goto 4, 3) := by decide +kernel
theorem dX2_canRegret_35 : decode cX2_canRegret 35 = .ok (.iconst 0, 1) := by decide +kernel
theorem dX2_canRegret_36 : decode cX2_canRegret 36 = .ok (.ireturn, 1) := by decide +kernel
theorem dX2_perform_0 : decode cX2_perform 0 = .ok (.iload_n 1, 1) := by decide +kernel
theorem dX2_perform_1 : decode cX2_perform 1 = .ok (.tableswitch 90 0 6 #[43, 48, 54, 60, 65, 72, 81], 43) := by decide +kernel
theorem dX2_perform_44 : decode cX2_perform 44 = .ok (.aload_n 2, 1) := by decide +kernel
theorem dX2_perform_45 : decode cX2_perform 45 = .ok (.invokevirtual 127, 3) := by decide +kernel
theorem dX2_perform_48 : decode cX2_perform 48 = .ok (.ireturn, 1) := by decide +kernel
theorem dX2_perform_49 : decode cX2_perform 49 = .ok (.aload_n 0, 1) := by decide +kernel
theorem dX2_perform_50 : decode cX2_perform 50 = .ok (.aload_n 2, 1) := by decide +kernel
theorem dX2_perform_51 : decode cX2_perform 51 = .ok (.invokevirtual 131, 3) := by decide +kernel
theorem dX2_perform_54 : decode cX2_perform 54 = .ok (.ireturn, 1) := by decide +kernel
theorem dX2_perform_55 : decode cX2_perform 55 = .ok (.aload_n 0, 1) := by decide +kernel
theorem dX2_perform_56 : decode cX2_perform 56 = .ok (.aload_n 2, 1) := by decide +kernel
theorem dX2_perform_57 : decode cX2_perform 57 = .ok (.invokevirtual 135, 3) := by decide +kernel
theorem dX2_perform_60 : decode cX2_perform 60 = .ok (.ireturn, 1) := by decide +kernel
theorem dX2_perform_61 : decode cX2_perform 61 = .ok (.aload_n 2, 1) := by decide +kernel
theorem dX2_perform_62 : decode cX2_perform 62 = .ok (.invokevirtual 138, 3) := by decide +kernel
theorem dX2_perform_65 : decode cX2_perform 65 = .ok (.ireturn, 1) := by decide +kernel
theorem dX2_perform_66 : decode cX2_perform 66 = .ok (.aload_n 0, 1) := by decide +kernel
theorem dX2_perform_67 : decode cX2_perform 67 = .ok (.aload_n 2, 1) := by decide +kernel
theorem dX2_perform_68 : decode cX2_perform 68 = .ok (.iload_n 3, 1) := by decide +kernel
theorem dX2_perform_69 : decode cX2_perform 69 = .ok (.invokevirtual 141, 3) := by decide +kernel
theorem dX2_perform_72 : decode cX2_perform 72 = .ok (.ireturn, 1) := by decide +kernel
theorem dX2_perform_73 : decode cX2_perform 73 = .ok (.aload_n 0, 1) := by decide +kernel
theorem dX2_perform_74 : decode cX2_perform 74 = .ok (.aload_n 2, 1) := by decide +kernel
theorem dX2_perform_75 : decode cX2_perform 75 = .ok (.iload_n 3, 1) := by decide +kernel
theorem dX2_perform_76 : decode cX2_perform 76 = .ok (.iload 4, 2) := by decide +kernel
theorem dX2_perform_78 : decode cX2_perform 78 = .ok (.invokevirtual 144, 3) := by decide +kernel
theorem dX2_perform_81 : decode cX2_perform 81 = .ok (.ireturn, 1) := by decide +kernel
theorem dX2_perform_82 : decode cX2_perform 82 = .ok (.aload_n 0, 1) := by decide +kernel
theorem dX2_perform_83 : decode cX2_perform 83 = .ok (.aload_n 2, 1) := by decide +kernel
theorem dX2_perform_84 : decode cX2_perform 84 = .ok (.iload_n 3, 1) := by decide +kernel
theorem dX2_perform_85 : decode cX2_perform 85 = .ok (.iload 4, 2) := by decide +kernel
theorem dX2_perform_87 : decode cX2_perform 87 = .ok (.invokevirtual 148, 3) := by decide +kernel
theorem dX2_perform_90 : decode cX2_perform 90 = .ok (.ireturn, 1) := by decide +kernel
theorem dX2_perform_91 : decode cX2_perform 91 = .ok (.iconst (-1), 1) := by decide +kernel
theorem dX2_perform_92 : decode cX2_perform 92 = .ok (.ireturn, 1) := by decide +kernel
theorem dX2_attempt_0 : decode cX2_attempt 0 = .ok (.aload_n 0, 1) := by decide +kernel
theorem dX2_attempt_1 : decode cX2_attempt 1 = .ok (.iload_n 2, 1) := by decide +kernel
theorem dX2_attempt_2 : decode cX2_attempt 2 = .ok (.invokevirtual 42, 3) := by decide +kernel
theorem dX2_attempt_5 : decode cX2_attempt 5 = .ok (.astore 5, 2) := by decide +kernel
theorem dX2_attempt_7 : decode cX2_attempt 7 = .ok (.aload 5, 2) := by decide +kernel
theorem dX2_attempt_9 : decode cX2_attempt 9 = .ok (.ifnull 16, 3) := by decide +kernel
theorem dX2_attempt_12 : decode cX2_attempt 12 = .ok (.aload_n 0, 1) := by decide +kernel
theorem dX2_attempt_13 : decode cX2_attempt 13 = .ok (.iload_n 1, 1) := by decide +kernel
theorem dX2_attempt_14 : decode cX2_attempt 14 = .ok (.aload 5, 2) := by decide +kernel
theorem dX2_attempt_16 : decode cX2_attempt 16 = .ok (.iload_n 3, 1) := by decide +kernel
theorem dX2_attempt_17 : decode cX2_attempt 17 = .ok (.iload 4, 2) := by decide +kernel
theorem dX2_attempt_19 : decode cX2_attempt 19 = .ok (.invokevirtual 151, 3) := by decide +kernel
theorem dX2_attempt_22 : decode cX2_attempt 22 = .ok (.ifCond .ne 5, 3) := by decide +kernel
theorem dX2_attempt_25 : decode cX2_attempt 25 = .ok (.iconst 0, 1) := by decide +kernel
theorem dX2_attempt_26 : decode cX2_attempt 26 = .ok (.ireturn, 1) := by decide +kernel
theorem dX2_attempt_27 : decode cX2_attempt 27 = .ok (.aload_n 0, 1) := by decide +kernel
theorem dX2_attempt_28 : decode cX2_attempt 28 = .ok (.iload_n 1, 1) := by decide +kernel
theorem dX2_attempt_29 : decode cX2_attempt 29 = .ok (.aload 5, 2) := by decide +kernel
theorem dX2_attempt_31 : decode cX2_attempt 31 = .ok (.iload_n 3, 1) := by decide +kernel
theorem dX2_attempt_32 : decode cX2_attempt 32 = .ok (.iload 4, 2) := by decide +kernel
theorem dX2_attempt_34 : decode cX2_attempt 34 = .ok (.invokevirtual 155, 3) := by decide +kernel
theorem dX2_attempt_37 : decode cX2_attempt 37 = .ok (.pop, 1) := by decide +kernel
theorem dX2_attempt_38 : decode cX2_attempt 38 = .ok (.iconst 1, 1) := by decide +kernel
theorem dX2_attempt_39 : decode cX2_attempt 39 = .ok (.ireturn, 1) := by decide +kernel
theorem dX2_setValue_0 : decode cX2_setValue 0 = .ok (.aload_n 0, 1) := by decide +kernel
theorem dX2_setValue_1 : decode cX2_setValue 1 = .ok (.getfield 14, 3) := by decide +kernel
theorem dX2_setValue_4 : decode cX2_setValue 4 = .ok (.iload_n 2, 1) := by decide +kernel
theorem dX2_setValue_5 : decode cX2_setValue 5 = .ok (.invokevirtual 65, 3) := by decide +kernel
theorem dX2_setValue_8 : decode cX2_setValue 8 = .ok (.istore 4, 2) := by decide +kernel
theorem dX2_setValue_10 : decode cX2_setValue 10 = .ok (.aload_n 0, 1) := by decide +kernel
theorem dX2_setValue_11 : decode cX2_setValue 11 = .ok (.getfield 20, 3) := by decide +kernel
theorem dX2_setValue_14 : decode cX2_setValue 14 = .ok (.iload_n 2, 1) := by decide +kernel
theorem dX2_setValue_15 : decode cX2_setValue 15 = .ok (.aload_n 1, 1) := by decide +kernel
theorem dX2_setValue_16 : decode cX2_setValue 16 = .ok (.getfield 78, 3) := by decide +kernel
theorem dX2_setValue_19 : decode cX2_setValue 19 = .ok (.invokevirtual 39, 3) := by decide +kernel
theorem dX2_setValue_22 : decode cX2_setValue 22 = .ok (.aload_n 1, 1) := by decide +kernel
theorem dX2_setValue_23 : decode cX2_setValue 23 = .ok (.getfield 72, 3) := by decide +kernel
theorem dX2_setValue_26 : decode cX2_setValue 26 = .ok (.bipush 100, 2) := by decide +kernel
theorem dX2_setValue_28 : decode cX2_setValue 28 = .ok (.iload_n 2, 1) := by decide +kernel
theorem dX2_setValue_29 : decode cX2_setValue 29 = .ok (.imul, 1) := by decide +kernel
theorem dX2_setValue_30 : decode cX2_setValue 30 = .ok (.iload 4, 2) := by decide +kernel
theorem dX2_setValue_32 : decode cX2_setValue 32 = .ok (.iadd, 1) := by decide +kernel
theorem dX2_setValue_33 : decode cX2_setValue 33 = .ok (.invokevirtual 33, 3) := by decide +kernel
theorem dX2_setValue_36 : decode cX2_setValue 36 = .ok (.aload_n 0, 1) := by decide +kernel
theorem dX2_setValue_37 : decode cX2_setValue 37 = .ok (.getfield 14, 3) := by decide +kernel
theorem dX2_setValue_40 : decode cX2_setValue 40 = .ok (.iload_n 2, 1) := by decide +kernel
theorem dX2_setValue_41 : decode cX2_setValue 41 = .ok (.iload_n 3, 1) := by decide +kernel
theorem dX2_setValue_42 : decode cX2_setValue 42 = .ok (.invokevirtual 39, 3) := by decide +kernel
theorem dX2_setValue_45 : decode cX2_setValue 45 = .ok (.aload_n 0, 1) := by decide +kernel
theorem dX2_setValue_46 : decode cX2_setValue 46 = .ok (.dup, 1) := by decide +kernel
theorem dX2_setValue_47 : decode cX2_setValue 47 = .ok (.getfield 52, 3) := by decide +kernel
theorem dX2_setValue_50 : decode cX2_setValue 50 = .ok (.iconst 1, 1) := by decide +kernel
theorem dX2_setValue_51 : decode cX2_setValue 51 = .ok (.iadd, 1) := by decide +kernel
theorem dX2_setValue_52 : decode cX2_setValue 52 = .ok (.putfield 52, 3) := by decide +kernel
theorem dX2_setValue_55 : decode cX2_setValue 55 = .ok (.iload 4, 2) := by decide +kernel
theorem dX2_setValue_57 : decode cX2_setValue 57 = .ok (.ireturn, 1) := by decide +kernel
theorem dX2_takeRegret_0 : decode cX2_takeRegret 0 = .ok (.aload_n 0, 1) := by decide +kernel
theorem dX2_takeRegret_1 : decode cX2_takeRegret 1 = .ok (.getfield 20, 3) := by decide +kernel
theorem dX2_takeRegret_4 : decode cX2_takeRegret 4 = .ok (.iload_n 2, 1) := by decide +kernel
theorem dX2_takeRegret_5 : decode cX2_takeRegret 5 = .ok (.aload_n 1, 1) := by decide +kernel
theorem dX2_takeRegret_6 : decode cX2_takeRegret 6 = .ok (.getfield 78, 3) := by decide +kernel
theorem dX2_takeRegret_9 : decode cX2_takeRegret 9 = .ok (.invokevirtual 39, 3) := by decide +kernel
theorem dX2_takeRegret_12 : decode cX2_takeRegret 12 = .ok (.aload_n 1, 1) := by decide +kernel
theorem dX2_takeRegret_13 : decode cX2_takeRegret 13 = .ok (.getfield 159, 3) := by decide +kernel
theorem dX2_takeRegret_16 : decode cX2_takeRegret 16 = .ok (.bipush 100, 2) := by decide +kernel
theorem dX2_takeRegret_18 : decode cX2_takeRegret 18 = .ok (.iload_n 2, 1) := by decide +kernel
theorem dX2_takeRegret_19 : decode cX2_takeRegret 19 = .ok (.imul, 1) := by decide +kernel
theorem dX2_takeRegret_20 : decode cX2_takeRegret 20 = .ok (.iload_n 3, 1) := by decide +kernel
theorem dX2_takeRegret_21 : decode cX2_takeRegret 21 = .ok (.iadd, 1) := by decide +kernel
theorem dX2_takeRegret_22 : decode cX2_takeRegret 22 = .ok (.invokevirtual 33, 3) := by decide +kernel
theorem dX2_takeRegret_25 : decode cX2_takeRegret 25 = .ok (.aload_n 1, 1) := by decide +kernel
theorem dX2_takeRegret_26 : decode cX2_takeRegret 26 = .ok (.aload_n 1, 1) := by decide +kernel
theorem dX2_takeRegret_27 : decode cX2_takeRegret 27 = .ok (.getfield 69, 3) := by decide +kernel
theorem dX2_takeRegret_30 : decode cX2_takeRegret 30 = .ok (.iconst 1, 1) := by decide +kernel
theorem dX2_takeRegret_31 : decode cX2_takeRegret 31 = .ok (.isub, 1) := by decide +kernel
theorem dX2_takeRegret_32 : decode cX2_takeRegret 32 = .ok (.invokevirtual 124, 3) := by decide +kernel
theorem dX2_takeRegret_35 : decode cX2_takeRegret 35 = .ok (.ireturn, 1) := by decide +kernel
theorem dX2_goBack_0 : decode cX2_goBack 0 = .ok (.aload_n 1, 1) := by decide +kernel
theorem dX2_goBack_1 : decode cX2_goBack 1 = .ok (.invokevirtual 162, 3) := by decide +kernel
theorem dX2_goBack_4 : decode cX2_goBack 4 = .ok (.astore_n 3, 1) := by decide +kernel
theorem dX2_goBack_5 : decode cX2_goBack 5 = .ok (.aload_n 3, 1) := by decide +kernel
theorem dX2_goBack_6 : decode cX2_goBack 6 = .ok (.ifnull 11, 3) := by decide +kernel
theorem dX2_goBack_9 : decode cX2_goBack 9 = .ok (.aload_n 1, 1) := by decide +kernel
theorem dX2_goBack_10 : decode cX2_goBack 10 = .ok (.iload_n 2, 1) := by decide +kernel
theorem dX2_goBack_11 : decode cX2_goBack 11 = .ok (.invokevirtual 104, 3) := by decide +kernel
theorem dX2_goBack_14 : decode cX2_goBack 14 = .ok (.ifCond .ne 5, 3) := by decide +kernel
theorem dX2_goBack_17 : decode cX2_goBack 17 = .ok (.iconst 0, 1) := by decide +kernel
theorem dX2_goBack_18 : decode cX2_goBack 18 = .ok (.ireturn, 1) := by decide +kernel
theorem dX2_goBack_19 : decode cX2_goBack 19 = .ok (.aload_n 3, 1) := by decide +kernel
theorem dX2_goBack_20 : decode cX2_goBack 20 = .ok (.getfield 166, 3) := by decide +kernel
theorem dX2_goBack_23 : decode cX2_goBack 23 = .ok (.iload_n 2, 1) := by decide +kernel
theorem dX2_goBack_24 : decode cX2_goBack 24 = .ok (.iadd, 1) := by decide +kernel
theorem dX2_goBack_25 : decode cX2_goBack 25 = .ok (.istore 4, 2) := by decide +kernel
theorem dX2_goBack_27 : decode cX2_goBack 27 = .ok (.aload_n 1, 1) := by decide +kernel
theorem dX2_goBack_28 : decode cX2_goBack 28 = .ok (.getfield 72, 3) := by decide +kernel
theorem dX2_goBack_31 : decode cX2_goBack 31 = .ok (.getfield 75, 3) := by decide +kernel
theorem dX2_goBack_34 : decode cX2_goBack 34 = .ok (.istore 5, 2) := by decide +kernel
theorem dX2_goBack_36 : decode cX2_goBack 36 = .ok (.aload_n 0, 1) := by decide +kernel
theorem dX2_goBack_37 : decode cX2_goBack 37 = .ok (.aload_n 1, 1) := by decide +kernel
theorem dX2_goBack_38 : decode cX2_goBack 38 = .ok (.aload_n 1, 1) := by decide +kernel
theorem dX2_goBack_39 : decode cX2_goBack 39 = .ok (.getfield 171, 3) := by decide +kernel
theorem dX2_goBack_42 : decode cX2_goBack 42 = .ok (.iload 4, 2) := by decide +kernel
theorem dX2_goBack_44 : decode cX2_goBack 44 = .ok (.invokevirtual 65, 3) := by decide +kernel
theorem dX2_goBack_47 : decode cX2_goBack 47 = .ok (.invokevirtual 174, 3) := by decide +kernel
theorem dX2_goBack_50 : decode cX2_goBack 50 = .ok (.aload_n 1, 1) := by decide +kernel
theorem dX2_goBack_51 : decode cX2_goBack 51 = .ok (.getfield 159, 3) := by decide +kernel
theorem dX2_goBack_54 : decode cX2_goBack 54 = .ok (.aload_n 1, 1) := by decide +kernel
theorem dX2_goBack_55 : decode cX2_goBack 55 = .ok (.getfield 178, 3) := by decide +kernel
theorem dX2_goBack_58 : decode cX2_goBack 58 = .ok (.iload 4, 2) := by decide +kernel
theorem dX2_goBack_60 : decode cX2_goBack 60 = .ok (.invokevirtual 65, 3) := by decide +kernel
theorem dX2_goBack_63 : decode cX2_goBack 63 = .ok (.invokevirtual 181, 3) := by decide +kernel
theorem dX2_goBack_66 : decode cX2_goBack 66 = .ok (.aload_n 1, 1) := by decide +kernel
theorem dX2_goBack_67 : decode cX2_goBack 67 = .ok (.iload 4, 2) := by decide +kernel
theorem dX2_goBack_69 : decode cX2_goBack 69 = .ok (.iconst 1, 1) := by decide +kernel
theorem dX2_goBack_70 : decode cX2_goBack 70 = .ok (.iadd, 1) := by decide +kernel
theorem dX2_goBack_71 : decode cX2_goBack 71 = .ok (.invokevirtual 184, 3) := by decide +kernel
theorem dX2_goBack_74 : decode cX2_goBack 74 = .ok (.iload 5, 2) := by decide +kernel
theorem dX2_goBack_76 : decode cX2_goBack 76 = .ok (.aload_n 1, 1) := by decide +kernel
theorem dX2_goBack_77 : decode cX2_goBack 77 = .ok (.getfield 72, 3) := by decide +kernel
theorem dX2_goBack_80 : decode cX2_goBack 80 = .ok (.getfield 75, 3) := by decide +kernel
theorem dX2_goBack_83 : decode cX2_goBack 83 = .ok (.isub, 1) := by decide +kernel
theorem dX2_goBack_84 : decode cX2_goBack 84 = .ok (.ireturn, 1) := by decide +kernel
theorem dX2_rollBack_0 : decode cX2_rollBack 0 = .ok (.aload_n 1, 1) := by decide +kernel
theorem dX2_rollBack_1 : decode cX2_rollBack 1 = .ok (.getfield 72, 3) := by decide +kernel
theorem dX2_rollBack_4 : decode cX2_rollBack 4 = .ok (.getfield 75, 3) := by decide +kernel
theorem dX2_rollBack_7 : decode cX2_rollBack 7 = .ok (.iconst 1, 1) := by decide +kernel
theorem dX2_rollBack_8 : decode cX2_rollBack 8 = .ok (.isub, 1) := by decide +kernel
theorem dX2_rollBack_9 : decode cX2_rollBack 9 = .ok (.istore_n 3, 1) := by decide +kernel
theorem dX2_rollBack_10 : decode cX2_rollBack 10 = .ok (.iload_n 3, 1) := by decide +kernel
theorem dX2_rollBack_11 : decode cX2_rollBack 11 = .ok (.iload_n 2, 1) := by decide +kernel
theorem dX2_rollBack_12 : decode cX2_rollBack 12 = .ok (.if_icmp .lt 36, 3) := by decide +kernel
theorem dX2_rollBack_15 : decode cX2_rollBack 15 = .ok (.aload_n 1, 1) := by decide +kernel
theorem dX2_rollBack_16 : decode cX2_rollBack 16 = .ok (.getfield 72, 3) := by decide +kernel
theorem dX2_rollBack_19 : decode cX2_rollBack 19 = .ok (.iload_n 3, 1) := by decide +kernel
theorem dX2_rollBack_20 : decode cX2_rollBack 20 = .ok (.invokevirtual 65, 3) := by decide +kernel
theorem dX2_rollBack_23 : decode cX2_rollBack 23 = .ok (.istore 4, 2) := by decide +kernel
theorem dX2_rollBack_25 : decode cX2_rollBack 25 = .ok (.aload_n 0, 1) := by decide +kernel
theorem dX2_rollBack_26 : decode cX2_rollBack 26 = .ok (.getfield 14, 3) := by decide +kernel
theorem dX2_rollBack_29 : decode cX2_rollBack 29 = .ok (.iload 4, 2) := by decide +kernel
theorem dX2_rollBack_31 : decode cX2_rollBack 31 = .ok (.bipush 100, 2) := by decide +kernel
theorem dX2_rollBack_33 : decode cX2_rollBack 33 = .ok (.idiv, 1) := by decide +kernel
theorem dX2_rollBack_34 : decode cX2_rollBack 34 = .ok (.iload 4, 2) := by decide +kernel
theorem dX2_rollBack_36 : decode cX2_rollBack 36 = .ok (.bipush 100, 2) := by decide +kernel
theorem dX2_rollBack_38 : decode cX2_rollBack 38 = .ok (.irem, 1) := by decide +kernel
theorem dX2_rollBack_39 : decode cX2_rollBack 39 = .ok (.invokevirtual 39, 3) := by decide +kernel
theorem dX2_rollBack_42 : decode cX2_rollBack 42 = .ok (.iinc 3 (-1), 3) := by decide +kernel
theorem dX2_rollBack_45 : decode cX2_rollBack 45 = .ok (.goto (-35), 3) := by decide +kernel
theorem dX2_rollBack_48 : decode cX2_rollBack 48 = .ok (.aload_n 1, 1) := by decide +kernel
theorem dX2_rollBack_49 : decode cX2_rollBack 49 = .ok (.getfield 72, 3) := by decide +kernel
theorem dX2_rollBack_52 : decode cX2_rollBack 52 = .ok (.iload_n 2, 1) := by decide +kernel
theorem dX2_rollBack_53 : decode cX2_rollBack 53 = .ok (.invokevirtual 181, 3) := by decide +kernel
theorem dX2_rollBack_56 : decode cX2_rollBack 56 = .ok (.return_, 1) := by decide +kernel
theorem dX2_endWell_0 : decode cX2_endWell 0 = .ok (.aload_n 1, 1) := by decide +kernel
theorem dX2_endWell_1 : decode cX2_endWell 1 = .ok (.invokevirtual 187, 3) := by decide +kernel
theorem dX2_endWell_4 : decode cX2_endWell 4 = .ok (.aload_n 1, 1) := by decide +kernel
theorem dX2_endWell_5 : decode cX2_endWell 5 = .ok (.getfield 69, 3) := by decide +kernel
theorem dX2_endWell_8 : decode cX2_endWell 8 = .ok (.ifCond .ne 18, 3) := by decide +kernel
theorem dX2_endWell_11 : decode cX2_endWell 11 = .ok (.aload_n 0, 1) := by decide +kernel
theorem dX2_endWell_12 : decode cX2_endWell 12 = .ok (.aload_n 1, 1) := by decide +kernel
theorem dX2_endWell_13 : decode cX2_endWell 13 = .ok (.invokevirtual 190, 3) := by decide +kernel
theorem dX2_endWell_16 : decode cX2_endWell 16 = .ok (.aload_n 1, 1) := by decide +kernel
theorem dX2_endWell_17 : decode cX2_endWell 17 = .ok (.dup, 1) := by decide +kernel
theorem dX2_endWell_18 : decode cX2_endWell 18 = .ok (.getfield 84, 3) := by decide +kernel
theorem dX2_endWell_21 : decode cX2_endWell 21 = .ok (.iconst 1, 1) := by decide +kernel
theorem dX2_endWell_22 : decode cX2_endWell 22 = .ok (.iadd, 1) := by decide +kernel
theorem dX2_endWell_23 : decode cX2_endWell 23 = .ok (.putfield 84, 3) := by decide +kernel
theorem dX2_endWell_26 : decode cX2_endWell 26 = .ok (.aload_n 1, 1) := by decide +kernel
theorem dX2_endWell_27 : decode cX2_endWell 27 = .ok (.getfield 69, 3) := by decide +kernel
theorem dX2_endWell_30 : decode cX2_endWell 30 = .ok (.ireturn, 1) := by decide +kernel
theorem dX2_endBadly_0 : decode cX2_endBadly 0 = .ok (.aload_n 1, 1) := by decide +kernel
theorem dX2_endBadly_1 : decode cX2_endBadly 1 = .ok (.invokevirtual 162, 3) := by decide +kernel
theorem dX2_endBadly_4 : decode cX2_endBadly 4 = .ok (.astore_n 2, 1) := by decide +kernel
theorem dX2_endBadly_5 : decode cX2_endBadly 5 = .ok (.aload_n 2, 1) := by decide +kernel
theorem dX2_endBadly_6 : decode cX2_endBadly 6 = .ok (.ifnonnull 5, 3) := by decide +kernel
theorem dX2_endBadly_9 : decode cX2_endBadly 9 = .ok (.iconst (-1), 1) := by decide +kernel
theorem dX2_endBadly_10 : decode cX2_endBadly 10 = .ok (.ireturn, 1) := by decide +kernel
theorem dX2_endBadly_11 : decode cX2_endBadly 11 = .ok (.aload_n 0, 1) := by decide +kernel
theorem dX2_endBadly_12 : decode cX2_endBadly 12 = .ok (.aload_n 1, 1) := by decide +kernel
theorem dX2_endBadly_13 : decode cX2_endBadly 13 = .ok (.aload_n 2, 1) := by decide +kernel
theorem dX2_endBadly_14 : decode cX2_endBadly 14 = .ok (.getfield 193, 3) := by decide +kernel
theorem dX2_endBadly_17 : decode cX2_endBadly 17 = .ok (.invokevirtual 174, 3) := by decide +kernel
theorem dX2_endBadly_20 : decode cX2_endBadly 20 = .ok (.aload_n 0, 1) := by decide +kernel
theorem dX2_endBadly_21 : decode cX2_endBadly 21 = .ok (.aload_n 1, 1) := by decide +kernel
theorem dX2_endBadly_22 : decode cX2_endBadly 22 = .ok (.aload_n 2, 1) := by decide +kernel
theorem dX2_endBadly_23 : decode cX2_endBadly 23 = .ok (.getfield 196, 3) := by decide +kernel
theorem dX2_endBadly_26 : decode cX2_endBadly 26 = .ok (.invokevirtual 199, 3) := by decide +kernel
theorem dX2_endBadly_29 : decode cX2_endBadly 29 = .ok (.aload_n 1, 1) := by decide +kernel
theorem dX2_endBadly_30 : decode cX2_endBadly 30 = .ok (.invokevirtual 187, 3) := by decide +kernel
theorem dX2_endBadly_33 : decode cX2_endBadly 33 = .ok (.aload_n 1, 1) := by decide +kernel
theorem dX2_endBadly_34 : decode cX2_endBadly 34 = .ok (.invokevirtual 162, 3) := by decide +kernel
theorem dX2_endBadly_37 : decode cX2_endBadly 37 = .ok (.astore_n 3, 1) := by decide +kernel
theorem dX2_endBadly_38 : decode cX2_endBadly 38 = .ok (.aload_n 3, 1) := by decide +kernel
theorem dX2_endBadly_39 : decode cX2_endBadly 39 = .ok (.ifnonnull 20, 3) := by decide +kernel
theorem dX2_endBadly_42 : decode cX2_endBadly 42 = .ok (.aload_n 0, 1) := by decide +kernel
theorem dX2_endBadly_43 : decode cX2_endBadly 43 = .ok (.aload_n 1, 1) := by decide +kernel
theorem dX2_endBadly_44 : decode cX2_endBadly 44 = .ok (.invokevirtual 190, 3) := by decide +kernel
theorem dX2_endBadly_47 : decode cX2_endBadly 47 = .ok (.aload_n 1, 1) := by decide +kernel
theorem dX2_endBadly_48 : decode cX2_endBadly 48 = .ok (.dup, 1) := by decide +kernel
theorem dX2_endBadly_49 : decode cX2_endBadly 49 = .ok (.getfield 87, 3) := by decide +kernel
theorem dX2_endBadly_52 : decode cX2_endBadly 52 = .ok (.iconst 1, 1) := by decide +kernel
theorem dX2_endBadly_53 : decode cX2_endBadly 53 = .ok (.iadd, 1) := by decide +kernel
theorem dX2_endBadly_54 : decode cX2_endBadly 54 = .ok (.putfield 87, 3) := by decide +kernel
theorem dX2_endBadly_57 : decode cX2_endBadly 57 = .ok (.iconst 0, 1) := by decide +kernel
theorem dX2_endBadly_58 : decode cX2_endBadly 58 = .ok (.ireturn, 1) := by decide +kernel
theorem dX2_endBadly_59 : decode cX2_endBadly 59 = .ok (.aload_n 0, 1) := by decide +kernel
theorem dX2_endBadly_60 : decode cX2_endBadly 60 = .ok (.aload_n 3, 1) := by decide +kernel
theorem dX2_endBadly_61 : decode cX2_endBadly 61 = .ok (.invokevirtual 202, 3) := by decide +kernel
theorem dX2_endBadly_64 : decode cX2_endBadly 64 = .ok (.ireturn, 1) := by decide +kernel
theorem dX2_doRegrets_0 : decode cX2_doRegrets 0 = .ok (.aload_n 1, 1) := by decide +kernel
theorem dX2_doRegrets_1 : decode cX2_doRegrets 1 = .ok (.getfield 159, 3) := by decide +kernel
theorem dX2_doRegrets_4 : decode cX2_doRegrets 4 = .ok (.getfield 75, 3) := by decide +kernel
theorem dX2_doRegrets_7 : decode cX2_doRegrets 7 = .ok (.iconst 1, 1) := by decide +kernel
theorem dX2_doRegrets_8 : decode cX2_doRegrets 8 = .ok (.isub, 1) := by decide +kernel
theorem dX2_doRegrets_9 : decode cX2_doRegrets 9 = .ok (.istore_n 3, 1) := by decide +kernel
theorem dX2_doRegrets_10 : decode cX2_doRegrets 10 = .ok (.iload_n 3, 1) := by decide +kernel
theorem dX2_doRegrets_11 : decode cX2_doRegrets 11 = .ok (.iload_n 2, 1) := by decide +kernel
theorem dX2_doRegrets_12 : decode cX2_doRegrets 12 = .ok (.if_icmp .lt 90, 3) := by decide +kernel
theorem dX2_doRegrets_15 : decode cX2_doRegrets 15 = .ok (.aload_n 1, 1) := by decide +kernel
theorem dX2_doRegrets_16 : decode cX2_doRegrets 16 = .ok (.getfield 159, 3) := by decide +kernel
theorem dX2_doRegrets_19 : decode cX2_doRegrets 19 = .ok (.iload_n 3, 1) := by decide +kernel
theorem dX2_doRegrets_20 : decode cX2_doRegrets 20 = .ok (.invokevirtual 65, 3) := by decide +kernel
theorem dX2_doRegrets_23 : decode cX2_doRegrets 23 = .ok (.istore 4, 2) := by decide +kernel
theorem dX2_doRegrets_25 : decode cX2_doRegrets 25 = .ok (.iload 4, 2) := by decide +kernel
theorem dX2_doRegrets_27 : decode cX2_doRegrets 27 = .ok (.bipush 100, 2) := by decide +kernel
theorem dX2_doRegrets_29 : decode cX2_doRegrets 29 = .ok (.idiv, 1) := by decide +kernel
theorem dX2_doRegrets_30 : decode cX2_doRegrets 30 = .ok (.istore 5, 2) := by decide +kernel
theorem dX2_doRegrets_32 : decode cX2_doRegrets 32 = .ok (.aload_n 0, 1) := by decide +kernel
theorem dX2_doRegrets_33 : decode cX2_doRegrets 33 = .ok (.getfield 14, 3) := by decide +kernel
theorem dX2_doRegrets_36 : decode cX2_doRegrets 36 = .ok (.iload 5, 2) := by decide +kernel
theorem dX2_doRegrets_38 : decode cX2_doRegrets 38 = .ok (.invokevirtual 65, 3) := by decide +kernel
theorem dX2_doRegrets_41 : decode cX2_doRegrets 41 = .ok (.istore 6, 2) := by decide +kernel
theorem dX2_doRegrets_43 : decode cX2_doRegrets 43 = .ok (.aload_n 1, 1) := by decide +kernel
theorem dX2_doRegrets_44 : decode cX2_doRegrets 44 = .ok (.getfield 69, 3) := by decide +kernel
theorem dX2_doRegrets_47 : decode cX2_doRegrets 47 = .ok (.iconst 1, 1) := by decide +kernel
theorem dX2_doRegrets_48 : decode cX2_doRegrets 48 = .ok (.if_icmp .le 18, 3) := by decide +kernel
theorem dX2_doRegrets_51 : decode cX2_doRegrets 51 = .ok (.aload_n 1, 1) := by decide +kernel
theorem dX2_doRegrets_52 : decode cX2_doRegrets 52 = .ok (.getfield 72, 3) := by decide +kernel
theorem dX2_doRegrets_55 : decode cX2_doRegrets 55 = .ok (.bipush 100, 2) := by decide +kernel
theorem dX2_doRegrets_57 : decode cX2_doRegrets 57 = .ok (.iload 5, 2) := by decide +kernel
theorem dX2_doRegrets_59 : decode cX2_doRegrets 59 = .ok (.imul, 1) := by decide +kernel
theorem dX2_doRegrets_60 : decode cX2_doRegrets 60 = .ok (.iload 6, 2) := by decide +kernel
theorem dX2_doRegrets_62 : decode cX2_doRegrets 62 = .ok (.iadd, 1) := by decide +kernel
theorem dX2_doRegrets_63 : decode cX2_doRegrets 63 = .ok (.invokevirtual 33, 3) := by decide +kernel
theorem dX2_doRegrets_66 : decode cX2_doRegrets 66 = .ok (.aload_n 0, 1) := by decide +kernel
theorem dX2_doRegrets_67 : decode cX2_doRegrets 67 = .ok (.getfield 14, 3) := by decide +kernel
theorem dX2_doRegrets_70 : decode cX2_doRegrets 70 = .ok (.iload 5, 2) := by decide +kernel
theorem dX2_doRegrets_72 : decode cX2_doRegrets 72 = .ok (.iload 6, 2) := by decide +kernel
theorem dX2_doRegrets_74 : decode cX2_doRegrets 74 = .ok (.iload 4, 2) := by decide +kernel
theorem dX2_doRegrets_76 : decode cX2_doRegrets 76 = .ok (.bipush 100, 2) := by decide +kernel
theorem dX2_doRegrets_78 : decode cX2_doRegrets 78 = .ok (.irem, 1) := by decide +kernel
theorem dX2_doRegrets_79 : decode cX2_doRegrets 79 = .ok (.iadd, 1) := by decide +kernel
theorem dX2_doRegrets_80 : decode cX2_doRegrets 80 = .ok (.bipush 100, 2) := by decide +kernel
theorem dX2_doRegrets_82 : decode cX2_doRegrets 82 = .ok (.irem, 1) := by decide +kernel
theorem dX2_doRegrets_83 : decode cX2_doRegrets 83 = .ok (.invokevirtual 39, 3) := by decide +kernel
theorem dX2_doRegrets_86 : decode cX2_doRegrets 86 = .ok (.aload_n 0, 1) := by decide +kernel
theorem dX2_doRegrets_87 : decode cX2_doRegrets 87 = .ok (.dup, 1) := by decide +kernel
theorem dX2_doRegrets_88 : decode cX2_doRegrets 88 = .ok (.getfield 55, 3) := by decide +kernel
theorem dX2_doRegrets_91 : decode cX2_doRegrets 91 = .ok (.iconst 1, 1) := by decide +kernel
theorem dX2_doRegrets_92 : decode cX2_doRegrets 92 = .ok (.iadd, 1) := by decide +kernel
theorem dX2_doRegrets_93 : decode cX2_doRegrets 93 = .ok (.putfield 55, 3) := by decide +kernel
theorem dX2_doRegrets_96 : decode cX2_doRegrets 96 = .ok (.iinc 3 (-1), 3) := by decide +kernel
theorem dX2_doRegrets_99 : decode cX2_doRegrets 99 = .ok (.goto (-89), 3) := by decide +kernel
theorem dX2_doRegrets_102 : decode cX2_doRegrets 102 = .ok (.aload_n 1, 1) := by decide +kernel
theorem dX2_doRegrets_103 : decode cX2_doRegrets 103 = .ok (.getfield 159, 3) := by decide +kernel
theorem dX2_doRegrets_106 : decode cX2_doRegrets 106 = .ok (.iload_n 2, 1) := by decide +kernel
theorem dX2_doRegrets_107 : decode cX2_doRegrets 107 = .ok (.invokevirtual 181, 3) := by decide +kernel
theorem dX2_doRegrets_110 : decode cX2_doRegrets 110 = .ok (.return_, 1) := by decide +kernel
theorem dX2_forgiveOrSpoil_0 : decode cX2_forgiveOrSpoil 0 = .ok (.aload_n 1, 1) := by decide +kernel
theorem dX2_forgiveOrSpoil_1 : decode cX2_forgiveOrSpoil 1 = .ok (.getfield 206, 3) := by decide +kernel
theorem dX2_forgiveOrSpoil_4 : decode cX2_forgiveOrSpoil 4 = .ok (.aload_n 0, 1) := by decide +kernel
theorem dX2_forgiveOrSpoil_5 : decode cX2_forgiveOrSpoil 5 = .ok (.getfield 29, 3) := by decide +kernel
theorem dX2_forgiveOrSpoil_8 : decode cX2_forgiveOrSpoil 8 = .ok (.if_icmp .ge 25, 3) := by decide +kernel
theorem dX2_forgiveOrSpoil_11 : decode cX2_forgiveOrSpoil 11 = .ok (.aload_n 1, 1) := by decide +kernel
theorem dX2_forgiveOrSpoil_12 : decode cX2_forgiveOrSpoil 12 = .ok (.dup, 1) := by decide +kernel
theorem dX2_forgiveOrSpoil_13 : decode cX2_forgiveOrSpoil 13 = .ok (.getfield 206, 3) := by decide +kernel
theorem dX2_forgiveOrSpoil_16 : decode cX2_forgiveOrSpoil 16 = .ok (.iconst 1, 1) := by decide +kernel
theorem dX2_forgiveOrSpoil_17 : decode cX2_forgiveOrSpoil 17 = .ok (.iadd, 1) := by decide +kernel
theorem dX2_forgiveOrSpoil_18 : decode cX2_forgiveOrSpoil 18 = .ok (.putfield 206, 3) := by decide +kernel
theorem dX2_forgiveOrSpoil_21 : decode cX2_forgiveOrSpoil 21 = .ok (.aload_n 0, 1) := by decide +kernel
theorem dX2_forgiveOrSpoil_22 : decode cX2_forgiveOrSpoil 22 = .ok (.dup, 1) := by decide +kernel
theorem dX2_forgiveOrSpoil_23 : decode cX2_forgiveOrSpoil 23 = .ok (.getfield 49, 3) := by decide +kernel
theorem dX2_forgiveOrSpoil_26 : decode cX2_forgiveOrSpoil 26 = .ok (.iconst 1, 1) := by decide +kernel
theorem dX2_forgiveOrSpoil_27 : decode cX2_forgiveOrSpoil 27 = .ok (.iadd, 1) := by decide +kernel
theorem dX2_forgiveOrSpoil_28 : decode cX2_forgiveOrSpoil 28 = .ok (.putfield 49, 3) := by decide +kernel
theorem dX2_forgiveOrSpoil_31 : decode cX2_forgiveOrSpoil 31 = .ok (.iconst 1, 1) := by decide +kernel
theorem dX2_forgiveOrSpoil_32 : decode cX2_forgiveOrSpoil 32 = .ok (.ireturn, 1) := by decide +kernel
theorem dX2_forgiveOrSpoil_33 : decode cX2_forgiveOrSpoil 33 = .ok (.aload_n 1, 1) := by decide +kernel
theorem dX2_forgiveOrSpoil_34 : decode cX2_forgiveOrSpoil 34 = .ok (.iconst 1, 1) := by decide +kernel
theorem dX2_forgiveOrSpoil_35 : decode cX2_forgiveOrSpoil 35 = .ok (.putfield 207, 3) := by decide +kernel
theorem dX2_forgiveOrSpoil_38 : decode cX2_forgiveOrSpoil 38 = .ok (.iconst 2, 1) := by decide +kernel
theorem dX2_forgiveOrSpoil_39 : decode cX2_forgiveOrSpoil 39 = .ok (.ireturn, 1) := by decide +kernel
theorem dX2_endAll_0 : decode cX2_endAll 0 = .ok (.aload_n 1, 1) := by decide +kernel
theorem dX2_endAll_1 : decode cX2_endAll 1 = .ok (.getfield 72, 3) := by decide +kernel
theorem dX2_endAll_4 : decode cX2_endAll 4 = .ok (.iconst 0, 1) := by decide +kernel
theorem dX2_endAll_5 : decode cX2_endAll 5 = .ok (.invokevirtual 181, 3) := by decide +kernel
theorem dX2_endAll_8 : decode cX2_endAll 8 = .ok (.aload_n 1, 1) := by decide +kernel
theorem dX2_endAll_9 : decode cX2_endAll 9 = .ok (.getfield 159, 3) := by decide +kernel
theorem dX2_endAll_12 : decode cX2_endAll 12 = .ok (.iconst 0, 1) := by decide +kernel
theorem dX2_endAll_13 : decode cX2_endAll 13 = .ok (.invokevirtual 181, 3) := by decide +kernel
theorem dX2_endAll_16 : decode cX2_endAll 16 = .ok (.iconst 0, 1) := by decide +kernel
theorem dX2_endAll_17 : decode cX2_endAll 17 = .ok (.istore_n 2, 1) := by decide +kernel
theorem dX2_endAll_18 : decode cX2_endAll 18 = .ok (.iload_n 2, 1) := by decide +kernel
theorem dX2_endAll_19 : decode cX2_endAll 19 = .ok (.bipush 16, 2) := by decide +kernel
theorem dX2_endAll_21 : decode cX2_endAll 21 = .ok (.if_icmp .ge 33, 3) := by decide +kernel
theorem dX2_endAll_24 : decode cX2_endAll 24 = .ok (.aload_n 0, 1) := by decide +kernel
theorem dX2_endAll_25 : decode cX2_endAll 25 = .ok (.getfield 20, 3) := by decide +kernel
theorem dX2_endAll_28 : decode cX2_endAll 28 = .ok (.iload_n 2, 1) := by decide +kernel
theorem dX2_endAll_29 : decode cX2_endAll 29 = .ok (.invokevirtual 65, 3) := by decide +kernel
theorem dX2_endAll_32 : decode cX2_endAll 32 = .ok (.aload_n 1, 1) := by decide +kernel
theorem dX2_endAll_33 : decode cX2_endAll 33 = .ok (.getfield 78, 3) := by decide +kernel
theorem dX2_endAll_36 : decode cX2_endAll 36 = .ok (.if_icmp .ne 12, 3) := by decide +kernel
theorem dX2_endAll_39 : decode cX2_endAll 39 = .ok (.aload_n 0, 1) := by decide +kernel
theorem dX2_endAll_40 : decode cX2_endAll 40 = .ok (.getfield 20, 3) := by decide +kernel
theorem dX2_endAll_43 : decode cX2_endAll 43 = .ok (.iload_n 2, 1) := by decide +kernel
theorem dX2_endAll_44 : decode cX2_endAll 44 = .ok (.iconst (-1), 1) := by decide +kernel
theorem dX2_endAll_45 : decode cX2_endAll 45 = .ok (.invokevirtual 39, 3) := by decide +kernel
theorem dX2_endAll_48 : decode cX2_endAll 48 = .ok (.iinc 2 1, 3) := by decide +kernel
theorem dX2_endAll_51 : decode cX2_endAll 51 = .ok (.goto (-33), 3) := by decide +kernel
theorem dX2_endAll_54 : decode cX2_endAll 54 = .ok (.return_, 1) := by decide +kernel
